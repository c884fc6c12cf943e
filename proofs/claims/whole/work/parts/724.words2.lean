theorem wo_xl (f : Nat → Nat → Int32) {S : Nat} (hS : S < 65536) (h8 : wo_k S 16 ≤ 8) : ∃ F, xm_listCandidates (nI S) f = some (nI (wo_k S 16), F) ∧ (∀ j, j < wo_k S 16 → F 145 j = nI (wo_c S 16 j)) ∧ ∀ a, a ≠ 145 → F a = f a := by
  unfold xm_listCandidates
  obtain ⟨e, r1, F, rfl, r2, r3⟩ := pu_one (f := fun (s1 : Int32 × Int32 × (Nat → Nat → Int32)) => ((
    if s1.2.1 < 16 then (
      if s1.1 < (nI 8) then (
        ((if ((nI S >>> (s1.2.1 &&& 31)) &&& 1) = 1 then (
            if am_in s1.1 8 = true then (
            am_let (am_up s1.2.2 145 s1.1.toNatClampNeg s1.2.1 : Nat → Nat → Int32) fun f2 =>
            am_let (s1.1 + 1 : Int32) fun t3 =>
            some (t3, f2)) else none)
          else (
            some (s1.1, s1.2.2))) : Option (Int32 × (Nat → Nat → Int32))).bind fun t4 =>
        am_let (s1.2.1 + 1 : Int32) fun t5 =>
        some (.inl (t4.1, t5, t4.2)))
      else (
        some (.inr (s1.1, s1.2.2))))
    else (
      some (.inr (s1.1, s1.2.2)))) : Option ((Int32 × Int32 × (Nat → Nat → Int32)) ⊕ (Int32 × (Nat → Nat → Int32))))) (fun t s => ∃ F, s = (nI (wo_k S t), nI t, F) ∧ (∀ j, j < wo_k S t → F 145 j = nI (wo_c S t j)) ∧ ∀ a, a ≠ 145 → F a = f a)
    (fun e => ∃ F, e = (nI (wo_k S 16), F) ∧ (∀ j, j < wo_k S 16 → F 145 j = nI (wo_c S 16 j)) ∧ ∀ a, a ≠ 145 → F a = f a) 16 (s := (0, 0, f)) ⟨f, rfl, fun j hj => absurd hj (Nat.not_lt_zero _), fun _ _ => rfl⟩ (by
    rintro t s ht ⟨F, rfl, K, fr⟩
    have hm := wo_km S t 16 (by omega)
    have e2 : wo_k S (t + 1) = wo_k S t + (if S.testBit t = true then 1 else 0) := rfl
    have ec : ∀ j, wo_c S (t + 1) j = if S.testBit t = true ∧ j = wo_k S t then t else wo_c S t j := fun j => rfl
    dsimp only
    simp only [show nI t < (16 : Int32) from nI_lt (b := 16) ht (by omega), if_true, rk_bit (show S < 2 ^ 31 by omega) ht, nI_1]
    by_cases hc : wo_k S t < 8
    · left
      have c8 : am_in (nI (wo_k S t)) 8 = true := pu_in (by omega) (by omega)
      simp only [show nI (wo_k S t) < nI 8 from nI_lt hc (by omega), if_true]
      by_cases hb : S.testBit t = true
      · rw [if_pos hb] at e2
        simp only [hb, if_true, c8, pu_letE, nI_clamp (show wo_k S t < 2 ^ 31 by omega), pu_bs, nI_1]
        refine ⟨_, rfl, _, by rw [e2], fun j hj => ?_, fun a ha => by rw [pu_up_ne _ _ ha]; exact fr a ha⟩
        rw [pu_up_row, ec]
        by_cases he : j = wo_k S t
        · rw [if_pos ⟨hb, he⟩, he, pu_upd_eq]
        · rw [if_neg (fun z => he z.2), pu_upd_ne _ _ he]
          exact K j (by omega)
      · rw [if_neg hb] at e2
        simp only [hb, if_false, show ¬ (0 : Int32) = 1 by decide, pu_bs, pu_letE, Bool.false_eq_true]
        refine ⟨_, rfl, F, by rw [e2]; rfl, fun j hj => ?_, fr⟩
        rw [ec, if_neg (fun z => hb z.1)]
        exact K j (by omega)
    · right
      have h16 : wo_k S t = wo_k S 16 := by omega
      simp only [show ¬ nI (wo_k S t) < nI 8 from nI_nlt (by omega) (by omega), if_false]
      refine ⟨_, rfl, F, by rw [h16], fun j hj => ?_, fr⟩
      rw [← wo_kz 16 t (by omega) h16]
      exact K j (by omega)) (by
    rintro s ⟨F, rfl, K, fr⟩
    dsimp only
    rw [if_neg (show ¬ nI 16 < (16 : Int32) by decide)]
    exact ⟨_, rfl, F, rfl, K, fr⟩) (by omega)
  exact ⟨F, r1, r2, r3⟩
theorem wo_ml (f : Nat → Nat → Int32) {S : Nat} (hS : S < 65536) (h8 : wo_k S 16 ≤ 8) : ∃ F, am_loop (fun (s4 : Int32 × Int32 × (Nat → Nat → Int32)) => ((
          if s4.2.1 < 16 then (
            ((if ((nI S >>> (s4.2.1 &&& 31)) &&& 1) = 0 then (
                some (s4.1, s4.2.2))
              else (
                if am_in s4.1 8 = true then (
                am_let (am_up s4.2.2 227 s4.1.toNatClampNeg s4.2.1 : Nat → Nat → Int32) fun f5 =>
                am_let (s4.1 + 1 : Int32) fun t6 =>
                some (t6, f5)) else none)) : Option (Int32 × (Nat → Nat → Int32))).bind fun t7 =>
            am_let (s4.2.1 + 1 : Int32) fun t8 =>
            some (.inl (t7.1, t8, t7.2)))
          else (
            some (.inr (s4.1, s4.2.2)))) : Option ((Int32 × Int32 × (Nat → Nat → Int32)) ⊕ (Int32 × (Nat → Nat → Int32))))) am_F (0, 0, f) = some (nI (wo_k S 16), F) ∧ (∀ j, j < wo_k S 16 → F 227 j = nI (wo_c S 16 j)) ∧ ∀ a, a ≠ 227 → F a = f a := by
  obtain ⟨e, r1, F, rfl, r2, r3⟩ := pu_one (f := fun (s4 : Int32 × Int32 × (Nat → Nat → Int32)) => ((
          if s4.2.1 < 16 then (
            ((if ((nI S >>> (s4.2.1 &&& 31)) &&& 1) = 0 then (
                some (s4.1, s4.2.2))
              else (
                if am_in s4.1 8 = true then (
                am_let (am_up s4.2.2 227 s4.1.toNatClampNeg s4.2.1 : Nat → Nat → Int32) fun f5 =>
                am_let (s4.1 + 1 : Int32) fun t6 =>
                some (t6, f5)) else none)) : Option (Int32 × (Nat → Nat → Int32))).bind fun t7 =>
            am_let (s4.2.1 + 1 : Int32) fun t8 =>
            some (.inl (t7.1, t8, t7.2)))
          else (
            some (.inr (s4.1, s4.2.2)))) : Option ((Int32 × Int32 × (Nat → Nat → Int32)) ⊕ (Int32 × (Nat → Nat → Int32))))) (fun t s => ∃ F, s = (nI (wo_k S t), nI t, F) ∧ (∀ j, j < wo_k S t → F 227 j = nI (wo_c S t j)) ∧ ∀ a, a ≠ 227 → F a = f a)
    (fun e => ∃ F, e = (nI (wo_k S 16), F) ∧ (∀ j, j < wo_k S 16 → F 227 j = nI (wo_c S 16 j)) ∧ ∀ a, a ≠ 227 → F a = f a) 16 (s := (0, 0, f)) ⟨f, rfl, fun j hj => absurd hj (Nat.not_lt_zero _), fun _ _ => rfl⟩ (by
    rintro t s ht ⟨F, rfl, K, fr⟩
    have hm := wo_km S (t + 1) 16 (by omega)
    have e2 : wo_k S (t + 1) = wo_k S t + (if S.testBit t = true then 1 else 0) := rfl
    have ec : ∀ j, wo_c S (t + 1) j = if S.testBit t = true ∧ j = wo_k S t then t else wo_c S t j := fun j => rfl
    left
    dsimp only
    simp only [show nI t < (16 : Int32) from nI_lt (b := 16) ht (by omega), if_true, rk_bit (show S < 2 ^ 31 by omega) ht, nI_1]
    by_cases hb : S.testBit t = true
    · rw [if_pos hb] at e2
      have c8 : am_in (nI (wo_k S t)) 8 = true := pu_in (by omega) (by omega)
      simp only [hb, if_true, show ¬ (1 : Int32) = 0 by decide, if_false, c8, pu_letE, nI_clamp (show wo_k S t < 2 ^ 31 by omega), pu_bs, nI_1]
      refine ⟨_, rfl, _, by rw [e2], fun j hj => ?_, fun a ha => by rw [pu_up_ne _ _ ha]; exact fr a ha⟩
      rw [pu_up_row, ec]
      by_cases he : j = wo_k S t
      · rw [if_pos ⟨hb, he⟩, he, pu_upd_eq]
      · rw [if_neg (fun z => he z.2), pu_upd_ne _ _ he]
        exact K j (by omega)
    · rw [if_neg hb] at e2
      simp only [hb, if_true, if_false, pu_bs, pu_letE, Bool.false_eq_true]
      refine ⟨_, rfl, F, by rw [e2]; rfl, fun j hj => ?_, fr⟩
      rw [ec, if_neg (fun z => hb z.1)]
      exact K j (by omega)) (by
    rintro s ⟨F, rfl, K, fr⟩
    dsimp only
    rw [if_neg (show ¬ nI 16 < (16 : Int32) by decide)]
    exact ⟨_, rfl, F, rfl, K, fr⟩) (by omega)
  exact ⟨F, r1, r2, r3⟩
/-- of those ahead of k: which would show nearness n -/
def wo_P (N : Nat → Nat) (n : Nat) : Nat → Nat
  | 0 => 0
  | i + 1 => wo_P N n i ||| (if N i = n then 2 ^ i else 0)
theorem wo_Pl (N : Nat → Nat) (n : Nat) : ∀ k, wo_P N n k < 2 ^ k := by
  intro k
  induction k with
  | zero => show 0 < 1; omega
  | succ k ih =>
    refine Nat.or_lt_two_pow (Nat.lt_of_lt_of_le ih (Nat.pow_le_pow_right (by decide) (by omega))) ?_
    by_cases c : N k = n
    · rw [if_pos c, Nat.pow_succ]
      have := su_one (R := 2) (by omega) k
      omega
    · rw [if_neg c]
      exact su_one (R := 2) (by omega) (k + 1)
theorem wo_Pt (N : Nat → Nat) (n i : Nat) : ∀ k, (wo_P N n k).testBit i = (decide (i < k) && decide (N i = n)) := by
  intro k
  induction k with
  | zero => simp [wo_P]
  | succ k ih =>
    show (wo_P N n k ||| (if N k = n then 2 ^ k else 0)).testBit i = _
    rw [Nat.testBit_or, ih]
    by_cases hi : i = k
    · subst hi
      by_cases c : N i = n
      · rw [if_pos c, Nat.testBit_two_pow_self, decide_eq_true c]
        simp
      · rw [if_neg c, Nat.zero_testBit, decide_eq_false c]
        simp
    · have e0 : (if N k = n then 2 ^ k else 0).testBit i = false := by
        by_cases c : N k = n
        · rw [if_pos c, Nat.testBit_two_pow_of_ne (by omega)]
        · rw [if_neg c, Nat.zero_testBit]
      rw [e0, Bool.or_false]
      by_cases h1 : i < k
      · rw [decide_eq_true h1, decide_eq_true (show i < k + 1 by omega)]
      · rw [decide_eq_false h1, decide_eq_false (show ¬ i < k + 1 by omega)]
