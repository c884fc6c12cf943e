theorem dg_ts (A : Nat → Nat) (i : Nat) : ∀ m n, n ≤ m → dg_t A i n ≤ dg_t A i m ∧ dg_t A i m ≤ dg_t A i n + (m - n) := by
  intro m
  induction m with
  | zero =>
    intro n h
    have : n = 0 := by omega
    subst this
    exact ⟨Nat.le_refl _, by omega⟩
  | succ m ih =>
    intro n h
    have e : dg_t A i (m + 1) = dg_t A i m + (if dg_sn A (A i) (m + 1) i = true then 0 else 1) := rfl
    have e2 : (if dg_sn A (A i) (m + 1) i = true then 0 else 1) ≤ 1 := by
      by_cases c : dg_sn A (A i) (m + 1) i = true
      · rw [if_pos c]; omega
      · rw [if_neg c]; omega
    by_cases hn : n = m + 1
    · subst hn
      exact ⟨Nat.le_refl _, by omega⟩
    · obtain ⟨a, b⟩ := ih n (by omega)
      constructor <;> omega
def dg_J (f : Nat → Nat → Int32) (A : Nat → Nat) (i n c : Nat) (F : Nat → Nat → Int32) : Prop := (∀ j, j < c → ∃ u, u ≤ 9999 ∧ F 155 j = nI u) ∧ (∀ v, v ≤ 9999 → ((∃ j, j < c ∧ F 155 j = nI v) ↔ dg_H A i n v)) ∧ ∀ a, a ≠ 155 → F a = f a
theorem dg_Hs {A : Nat → Nat} {i n v : Nat} (h : n + 1 ≤ dg_l (A i)) : dg_H A i n v ↔ (dg_H A i (n + 1) v ∨ v = dg_b (A i) (n + 1)) := by
  constructor
  · rintro (h1 | ⟨m, m1, m2, m3⟩)
    · exact Or.inl (Or.inl h1)
    · by_cases he : m = n + 1
      · subst he
        exact Or.inr m3
      · exact Or.inl (Or.inr ⟨m, by omega, m2, m3⟩)
  · rintro ((h1 | ⟨m, m1, m2, m3⟩) | h1)
    · exact Or.inl h1
    · exact Or.inr ⟨m, by omega, m2, m3⟩
    · exact Or.inr ⟨n + 1, by omega, h, h1⟩
theorem dg_Hi {A : Nat → Nat} {i v : Nat} : dg_H A i 0 v ↔ dg_H A (i + 1) (dg_l (A (i + 1))) v := by
  constructor
  · rintro (⟨k, m, k1, k2⟩ | ⟨m, m1, m2, m3⟩)
    · exact Or.inl ⟨k, m, by omega, k2⟩
    · exact Or.inl ⟨i, m, by omega, by omega, m2, m3⟩
  · rintro (⟨k, m, k1, k2, k3⟩ | ⟨m, m1, m2, m3⟩)
    · by_cases he : k = i
      · subst he
        exact Or.inr ⟨m, by omega, k3⟩
      · exact Or.inl ⟨k, m, by omega, k2, k3⟩
    · omega
theorem dg_one {f F : Nat → Nat → Int32} {A : Nat → Nat} {i : Nat} (hi : i < 8) (hA : ∀ j, j ≤ i → 1 ≤ A j ∧ A j ≤ 9999) (J : dg_J f A i (dg_l (A i)) (dg_c A i) F) : ∃ F', am_loop (fun (s3 : Int32 × Int32 × Int32 × (Nat → Nat → Int32)) => ((
        if s3.2.2.1 < 4 then (
          if 0 < s3.2.1 then (
            ((if s3.1 < (nI 32) then (
                (xm_isHead s3.2.1 s3.1 s3.2.2.2).bind fun p4 =>
                if p4 = true then (
                  some (s3.1, s3.2.2.2))
                else (
                  if am_in s3.1 32 = true then (
                  am_let (am_up s3.2.2.2 155 s3.1.toNatClampNeg s3.2.1 : Nat → Nat → Int32) fun f5 =>
                  am_let (s3.1 + 1 : Int32) fun t6 =>
                  some (t6, f5)) else none))
              else (
                some (s3.1, s3.2.2.2))) : Option (Int32 × (Nat → Nat → Int32))).bind fun t7 =>
            am_let ((s3.2.1 / 10) : Int32) fun t8 =>
            am_let (s3.2.2.1 + 1 : Int32) fun t9 =>
            some (.inl (t7.1, t8, t9, t7.2)))
          else (
            some (.inr (s3.1, s3.2.2.2))))
        else (
          some (.inr (s3.1, s3.2.2.2)))) : Option ((Int32 × Int32 × Int32 × (Nat → Nat → Int32)) ⊕ (Int32 × (Nat → Nat → Int32))))) am_F (nI (dg_c A i), nI (A i), 0, F) = some (nI (dg_c A (i + 1)), F') ∧ dg_J f A (i + 1) (dg_l (A (i + 1))) (dg_c A (i + 1)) F' := by
  have hl := dg_lr (A i)
  obtain ⟨x1, x2⟩ := hA i (Nat.le_refl _)
  have hc := dg_cle A i
  obtain ⟨e, r1, F', rfl, r2⟩ := pu_one (f := fun (s3 : Int32 × Int32 × Int32 × (Nat → Nat → Int32)) => ((
        if s3.2.2.1 < 4 then (
          if 0 < s3.2.1 then (
            ((if s3.1 < (nI 32) then (
                (xm_isHead s3.2.1 s3.1 s3.2.2.2).bind fun p4 =>
                if p4 = true then (
                  some (s3.1, s3.2.2.2))
                else (
                  if am_in s3.1 32 = true then (
                  am_let (am_up s3.2.2.2 155 s3.1.toNatClampNeg s3.2.1 : Nat → Nat → Int32) fun f5 =>
                  am_let (s3.1 + 1 : Int32) fun t6 =>
                  some (t6, f5)) else none))
              else (
                some (s3.1, s3.2.2.2))) : Option (Int32 × (Nat → Nat → Int32))).bind fun t7 =>
            am_let ((s3.2.1 / 10) : Int32) fun t8 =>
            am_let (s3.2.2.1 + 1 : Int32) fun t9 =>
            some (.inl (t7.1, t8, t9, t7.2)))
          else (
            some (.inr (s3.1, s3.2.2.2))))
        else (
          some (.inr (s3.1, s3.2.2.2)))) : Option ((Int32 × Int32 × Int32 × (Nat → Nat → Int32)) ⊕ (Int32 × (Nat → Nat → Int32))))) (fun t s => ∃ F, s = (nI (dg_c A i + (dg_t A i (dg_l (A i)) - dg_t A i (dg_l (A i) - t))), nI (dg_d t (A i)), nI t, F) ∧ dg_J f A i (dg_l (A i) - t) (dg_c A i + (dg_t A i (dg_l (A i)) - dg_t A i (dg_l (A i) - t))) F)
    (fun e => ∃ F', e = (nI (dg_c A (i + 1)), F') ∧ dg_J f A (i + 1) (dg_l (A (i + 1))) (dg_c A (i + 1)) F') (dg_l (A i)) (s := (nI (dg_c A i), nI (A i), 0, F)) ⟨F, by rw [Nat.sub_zero, Nat.sub_self]; rfl, by rw [Nat.sub_zero, Nat.sub_self]; exact J⟩ (by
    rintro t s ht ⟨F, rfl, J1, J2, J3⟩
    obtain ⟨n, hn⟩ : ∃ n, dg_l (A i) - t = n + 1 := ⟨dg_l (A i) - t - 1, by omega⟩
    have hn2 : dg_l (A i) - (t + 1) = n := by omega
    obtain ⟨d1, d2, d3⟩ := dg_dl x1 x2 t ht
    have hb : dg_d t (A i) = dg_b (A i) (n + 1) := by
      unfold dg_b
      rw [show dg_l (A i) - (n + 1) = t by omega]
    obtain ⟨t1, t2⟩ := dg_ts A i (dg_l (A i)) (n + 1) (by omega)
    have et : dg_t A i (n + 1) = dg_t A i n + (if dg_sn A (A i) (n + 1) i = true then 0 else 1) := rfl
    rw [hn] at J1 J2 ⊢
    rw [hn2]
    generalize hK : dg_t A i (dg_l (A i)) = K at *
    obtain ⟨b, b1, b2⟩ := dg_ih (F := F) (c := dg_c A i + (K - dg_t A i (n + 1))) (v := dg_d t (A i)) (by omega) J1 d3
    have b3 : b = true ↔ dg_sn A (A i) (n + 1) i = true := by
      rw [b2, J2 _ d3, hb]
      exact dg_Hn hA (by omega) (by omega)
    have d10 : nI (dg_d t (A i)) / 10 = nI (dg_d (t + 1) (A i)) := pk_div (d := 10) (by omega) (by omega) (by omega)
    have c32 : am_in (nI (dg_c A i + (K - dg_t A i (n + 1)))) 32 = true := pu_in (by omega) (by omega)
    left
    dsimp only
    simp only [show nI t < (4 : Int32) from nI_lt (b := 4) (by omega) (by omega), show (0 : Int32) < nI (dg_d t (A i)) from nI_lt (a := 0) (by omega) (by omega), show nI (dg_c A i + (K - dg_t A i (n + 1))) < nI 32 from nI_lt (by omega) (by omega), if_true, b1, pu_bs, c32, nI_clamp (show dg_c A i + (K - dg_t A i (n + 1)) < 2 ^ 31 by omega), pu_letE, nI_1, d10]
    cases b with
    | true =>
      have hs := b3.mp rfl
      rw [hs, if_pos rfl] at et
      simp only [if_true, pu_bs]
      refine ⟨_, rfl, F, by rw [show K - dg_t A i n = K - dg_t A i (n + 1) by omega], ?_, ?_, J3⟩
      · rw [show K - dg_t A i n = K - dg_t A i (n + 1) by omega]
        exact J1
      · intro v hv
        rw [show K - dg_t A i n = K - dg_t A i (n + 1) by omega, J2 v hv, dg_Hs (n := n) (by omega)]
        constructor
        · exact Or.inl
        · rintro (q | q)
          · exact q
          · rw [q]
            exact (dg_Hn hA (by omega) (by omega)).mpr hs
    | false =>
      have hs : ¬ dg_sn A (A i) (n + 1) i = true := fun z => by
        have := b3.mpr z
        cases this
      rw [if_neg hs] at et
      simp only [Bool.false_eq_true, if_false, pu_bs]
      have ec : dg_c A i + (K - dg_t A i n) = dg_c A i + (K - dg_t A i (n + 1)) + 1 := by omega
      refine ⟨_, rfl, _, by rw [ec], fun j hj => ?_, fun v hv => ?_, fun a ha => by rw [pu_up_ne _ _ ha]; exact J3 a ha⟩
      · rw [pu_up_row]
        by_cases he : j = dg_c A i + (K - dg_t A i (n + 1))
        · rw [he, pu_upd_eq]
          exact ⟨_, d3, rfl⟩
        · rw [pu_upd_ne _ _ he]
          exact J1 j (by omega)
      · rw [dg_Hs (by omega), ← J2 v hv, ec, ← hb]
        constructor
        · rintro ⟨j, j1, j2⟩
          rw [pu_up_row] at j2
          by_cases he : j = dg_c A i + (K - dg_t A i (n + 1))
          · rw [he, pu_upd_eq] at j2
            exact Or.inr (pu_nIinj (by omega) (by omega) j2).symm
          · rw [pu_upd_ne _ _ he] at j2
            exact Or.inl ⟨j, by omega, j2⟩
        · rintro (⟨j, j1, j2⟩ | q)
          · refine ⟨j, by omega, ?_⟩
            rw [pu_up_row, pu_upd_ne _ _ (by omega)]
            exact j2
          · refine ⟨dg_c A i + (K - dg_t A i (n + 1)), by omega, ?_⟩
            rw [pu_up_row, pu_upd_eq, q]) (by
    rintro s ⟨F, rfl, J⟩
    rw [Nat.sub_self] at J ⊢
    have ec : dg_c A i + (dg_t A i (dg_l (A i)) - dg_t A i 0) = dg_c A (i + 1) := rfl
    rw [ec] at J ⊢
    have h0 : ¬ 0 < nI (dg_d (dg_l (A i)) (A i)) := by
      rw [dg_d0 x1 x2]
      decide
    refine ⟨_, ?_, F, rfl, J.1, fun v hv => (J.2.1 v hv).trans dg_Hi, J.2.2⟩
    dsimp only
    rw [if_neg h0]
    by_cases c : nI (dg_l (A i)) < 4
    · rw [if_pos c]
    · rw [if_neg c]) (by omega)
  exact ⟨F', r1, r2⟩
theorem dg_x1 {f : Nat → Nat → Int32} {A : Nat → Nat} {z : Nat} (hz : z ≤ 8) (e1 : f 48 0 = nI z) (hA : ∀ i, i < z → 1 ≤ A i ∧ A i ≤ 9999 ∧ f 49 i = nI (A i)) : ∃ F, xm_beginnings_48 f = some (nI (dg_c A z), F) ∧ ∀ a, a ≠ 155 → F a = f a := by
  unfold xm_beginnings_48
  obtain ⟨e, r1, F, rfl, r2⟩ := pu_one (f := fun (s1 : Int32 × Int32 × (Nat → Nat → Int32)) => ((
    if s1.2.1 < s1.2.2 48 0 then (
      if am_in s1.2.1 8 = true then (
      am_let (s1.2.2 49 s1.2.1.toNatClampNeg : Int32) fun t2 =>
      (am_loop (fun (s3 : Int32 × Int32 × Int32 × (Nat → Nat → Int32)) => ((
        if s3.2.2.1 < 4 then (
          if 0 < s3.2.1 then (
            ((if s3.1 < (nI 32) then (
                (xm_isHead s3.2.1 s3.1 s3.2.2.2).bind fun p4 =>
                if p4 = true then (
                  some (s3.1, s3.2.2.2))
                else (
                  if am_in s3.1 32 = true then (
                  am_let (am_up s3.2.2.2 155 s3.1.toNatClampNeg s3.2.1 : Nat → Nat → Int32) fun f5 =>
                  am_let (s3.1 + 1 : Int32) fun t6 =>
                  some (t6, f5)) else none))
              else (
                some (s3.1, s3.2.2.2))) : Option (Int32 × (Nat → Nat → Int32))).bind fun t7 =>
            am_let ((s3.2.1 / 10) : Int32) fun t8 =>
            am_let (s3.2.2.1 + 1 : Int32) fun t9 =>
            some (.inl (t7.1, t8, t9, t7.2)))
          else (
            some (.inr (s3.1, s3.2.2.2))))
        else (
          some (.inr (s3.1, s3.2.2.2)))) : Option ((Int32 × Int32 × Int32 × (Nat → Nat → Int32)) ⊕ (Int32 × (Nat → Nat → Int32))))) am_F (s1.1, t2, 0, s1.2.2)).bind fun e10 =>
      am_let (s1.2.1 + 1 : Int32) fun t11 =>
      some (.inl (e10.1, t11, e10.2))) else none)
    else (
      some (.inr (s1.1, s1.2.2)))) : Option ((Int32 × Int32 × (Nat → Nat → Int32)) ⊕ (Int32 × (Nat → Nat → Int32))))) (fun i s => ∃ F, s = (nI (dg_c A i), nI i, F) ∧ dg_J f A i (dg_l (A i)) (dg_c A i) F) (fun e => ∃ F, e = (nI (dg_c A z), F) ∧ ∀ a, a ≠ 155 → F a = f a) z (s := (0, 0, f)) ⟨f, rfl, fun j hj => absurd hj (Nat.not_lt_zero _), fun v hv => ⟨fun ⟨j, j1, j2⟩ => absurd j1 (Nat.not_lt_zero _), fun q => by
      rcases q with ⟨k, m, k1, k2⟩ | ⟨m, m1, m2, m3⟩ <;> omega⟩, fun _ _ => rfl⟩ (by
    rintro i s hi ⟨F, rfl, J⟩
    obtain ⟨F', y1, y2⟩ := dg_one (by omega) (fun j hj => ⟨(hA j (by omega)).1, (hA j (by omega)).2.1⟩) J
    have c8 : am_in (nI i) 8 = true := pu_in (by omega) (by omega)
    left
    dsimp only
    simp only [pu_letE] at y1
    simp only [J.2.2 48 (by decide), J.2.2 49 (by decide), e1, show nI i < nI z from nI_lt hi (by omega), c8, if_true, nI_clamp (show i < 2 ^ 31 by omega), (hA i hi).2.2, pu_letE, y1, pu_bs, nI_1]
    exact ⟨_, rfl, F', rfl, y2⟩) (by
    rintro s ⟨F, rfl, J⟩
    dsimp only
    simp only [J.2.2 48 (by decide), e1, show ¬ nI z < nI z from nI_nlt (Nat.le_refl _) (by omega), if_false]
    exact ⟨_, rfl, F, rfl, J.2.2⟩) (by omega)
  exact ⟨F, r1, r2⟩
theorem sm_dogs (x1 : Int32) (f g : Nat → Nat → Int32) (h : rl_Rel f g) : ∃ (v : Int32) (f1 : Nat → Nat → Int32), x_dogs x1 f = some (v, f1) ∧ m_dogs x1 g = some v ∧ rl_Rel f1 g := by
  obtain ⟨z, hz, e2, hr⟩ := h.1.2.2.2.2.2.1.2.2.2.2.2.2.2.1
  have e1 : f 48 0 = nI z := by rw [rl_f_r8n h]; exact e2
  have hx : ∀ i, i < z → 1 ≤ (fun i => (g 217 (507 + i)).toNatClampNeg) i ∧ (fun i => (g 217 (507 + i)).toNatClampNeg) i ≤ 9999 ∧ f 49 i = nI ((fun i => (g 217 (507 + i)).toNatClampNeg) i) ∧ g 217 (507 + i) = nI ((fun i => (g 217 (507 + i)).toNatClampNeg) i) := fun i hi => by
    obtain ⟨a, a0, a1, a2⟩ := hr i hi
    dsimp only
    rw [rl_f_r8a h (by omega), a2, nI_clamp (by omega)]
    exact ⟨a0, a1, rfl, rfl⟩
  generalize (fun i => (g 217 (507 + i)).toNatClampNeg) = A at hx
  unfold x_dogs m_dogs
  rw [pu_isIn]
  by_cases h0 : x1 = 0
  · subst h0
    obtain ⟨e, p1, p2⟩ := dg_x0 hz e1 (fun i hi => ⟨(hx i hi).1, (hx i hi).2.1, (hx i hi).2.2.1⟩)
    simp only [if_true, p1, pu_bs, show x_within 0 0 1 = true by decide, show ¬ (0 : Int32) = 1 by decide, if_false]
    refine ⟨e, f, rfl, ?_, h⟩
    have ap := fun m (hm : m < 2 ^ 31) => dg_ap hz e2 (fun i hi => ⟨(hx i hi).2.1, (hx i hi).2.2.2⟩) hm
    have M := pu_one (f := fun (s7 : Int32) => ((
          if s7 < 6 then (
            (m_areApartBy s7 g).bind fun p8 =>
            if p8 = true then (
              some (.inr s7))
            else (
              am_let (s7 + 1 : Int32) fun t9 =>
              some (.inl t9)))
          else (
            some (.inr (-1)))) : Option ((Int32) ⊕ (Int32)))) (fun k s => s = nI (k + 1) ∧ ∀ m, 1 ≤ m → m < k + 1 → ¬ ∀ i' k, dg_T z 0 i' k → ¬ dg_f (A i') m = dg_f (A k) m)
      (fun v => (∃ m, 1 ≤ m ∧ m ≤ 5 ∧ v = nI m ∧ (∀ i' k, dg_T z 0 i' k → ¬ dg_f (A i') m = dg_f (A k) m) ∧ ∀ m', 1 ≤ m' → m' < m → ¬ ∀ i' k, dg_T z 0 i' k → ¬ dg_f (A i') m' = dg_f (A k) m') ∨ (v = -1 ∧ ∀ m, 1 ≤ m → m < 6 → ¬ ∀ i' k, dg_T z 0 i' k → ¬ dg_f (A i') m = dg_f (A k) m)) 5 (s := 1) ⟨rfl, fun m h1 h2 => by omega⟩ (by
      rintro k s hk ⟨rfl, K⟩
      obtain ⟨b, b1, b2⟩ := ap (k + 1) (by omega)
      rw [if_pos (show nI (k + 1) < (6 : Int32) from nI_lt (b := 6) (by omega) (by omega)), b1, pu_bs]
      cases b with
      | true =>
        rw [if_pos rfl]
        exact Or.inr ⟨_, rfl, Or.inl ⟨k + 1, by omega, by omega, rfl, b2.mp rfl, K⟩⟩
      | false =>
        rw [if_neg (by decide), pu_letE, nI_1]
        refine Or.inl ⟨_, rfl, rfl, fun m h1 h2 => ?_⟩
        by_cases he : m = k + 1
        · rw [he]
          intro q
          have := b2.mpr q
          cases this
        · exact K m h1 (by omega)) (by
      rintro s ⟨rfl, K⟩
      rw [if_neg (show ¬ nI (5 + 1) < (6 : Int32) by decide)]
      exact ⟨_, rfl, Or.inr ⟨rfl, K⟩⟩) (by omega)
    obtain ⟨v, q1, q2⟩ := M
    rw [e2]
    by_cases hz2 : z < 2
    · rw [if_pos (show nI z < (2 : Int32) from nI_lt (b := 2) hz2 (by omega))]
      rcases p2 with ⟨-, i', k, t, -⟩ | ⟨M, rfl, I⟩
      · have := t.1
        have := t.2
        omega
      · have hM : M = 0 := by
          apply Classical.byContradiction
          intro hM
          obtain ⟨i', k, t⟩ := I.2.2.2.2.1 (by omega)
          have := t.1
          have := t.2
          omega
        rw [hM]
        rfl
    · rw [if_neg (show ¬ nI z < (2 : Int32) from nI_nlt (b := 2) (by omega) (by omega)), q1]
      congr 1
      rcases p2 with ⟨rfl, i', k, t, te⟩ | ⟨M, rfl, I⟩
      · rcases q2 with ⟨m, m1, m2, -, m4, -⟩ | ⟨rfl, -⟩
        · exact absurd (by rw [te]) (m4 i' k t)
        · rfl
      · have hM1 : 1 ≤ M := I.2.2.2.2.2 1 0 ⟨by omega, Or.inl (by omega)⟩
        have hM5 := I.2.2.2.1
        have hap := fun m (h1 : 1 ≤ m) (h2 : M ≤ m) => I.2.1 m h1 h2
        rcases q2 with ⟨m, m1, m2, rfl, m4, m5⟩ | ⟨-, m5⟩
        · have : m = M := by
            rcases Nat.lt_trichotomy m M with q | q | q
            · obtain ⟨i', k, t1, t2⟩ := I.2.2.1 m m1 q
              exact absurd t2 (m4 i' k t1)
            · exact q
            · exact absurd (hap M hM1 (Nat.le_refl _)) (m5 M hM1 q)
          rw [this]
        · exact absurd (hap M hM1 (Nat.le_refl _)) (m5 M hM1 (by omega))
  · by_cases h1 : x1 = 1
    · subst h1
      obtain ⟨F, p1, p2⟩ := dg_x1 hz e1 (fun i hi => ⟨(hx i hi).1, (hx i hi).2.1, (hx i hi).2.2.1⟩)
      simp only [show ¬ (1 : Int32) = 0 by decide, if_false, if_true, p1, pu_bs, show x_within 1 0 1 = true by decide]
      refine ⟨_, F, rfl, ?_, h.congr ⟨fun a h1 h2 => p2 a (by omega), fun a h1 => p2 a (by omega), by rw [p2 0 (by omega)], by rw [p2 0 (by omega)], by rw [p2 123 (by omega)], p2 124 (by omega), by rw [p2 128 (by omega)], by rw [p2 128 (by omega)], by rw [p2 143 (by omega)], by rw [p2 143 (by omega)], p2 150 (by omega), p2 153 (by omega), by rw [p2 144 (by omega)]⟩ rl_sm.rf⟩
      refine pu_for (fun i => (nI (dg_c A i), nI i)) z rfl (fun i hi => ?_) ?_
      · dsimp only
        rw [e2, if_pos (nI_lt hi (by omega)), dg_new hz hi (fun i hi => ⟨(hx i hi).1, (hx i hi).2.1, (hx i hi).2.2.2⟩), pu_bs, pu_letE, pu_letE, nI_add, nI_1]
        rfl
      · dsimp only
        rw [e2, if_neg (nI_nlt (Nat.le_refl _) (by omega))]
    · have e' : x_within x1 0 1 = false := by
        rcases pu_within_cases x1 (lo := 0) (hi := 1) 0 1 with ⟨e, k, k1, k2, rfl⟩ | e
        · have : k = 0 ∨ k = 1 := by omega
          rcases this with rfl | rfl
          · exact absurd rfl h0
          · exact absurd rfl h1
        · exact e
      simp only [h0, h1, e', Bool.false_eq_true, if_false]
      exact ⟨-1, f, rfl, rfl, h⟩
