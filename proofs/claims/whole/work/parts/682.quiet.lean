/-! QUIET -/
def qt_s (q : Nat → Nat) : Nat → Nat
  | 0 => 0
  | j + 1 => (qt_s q j + q j) % 1000000007
theorem qt_lt (q : Nat → Nat) : ∀ j, qt_s q j < 1000000007 := by
  intro j
  cases j with
  | zero => show 0 < 1000000007; omega
  | succ j => exact Nat.mod_lt _ (by decide)
theorem qt_1 : ∀ k, k < 6 → 1 ≤ k → qt_s (fun j => if j = 0 then 1 else 0) k = 1 := by decide
def qt_sh (u : Nat → Int32) (k m : Nat) : Nat → Int32 := fun j => if m < j ∧ j < k then u (j - 1) else u j
theorem qt_sh_st (u : Nat → Int32) {k m : Nat} (h1 : 1 ≤ m) (h2 : m < k) : upd (qt_sh u k m) m (u (m - 1)) = qt_sh u k (m - 1) := by
  funext j
  unfold upd qt_sh
  by_cases h : j = m
  · subst h
    rw [if_pos rfl, if_pos (by omega)]
  · rw [if_neg h]
    by_cases c : m < j ∧ j < k
    · rw [if_pos c, if_pos (by omega)]
    · rw [if_neg c, if_neg (by omega)]
theorem qt_sh_0 (u : Nat → Int32) (k : Nat) : qt_sh u k (k - 1) = u := by
  funext j
  unfold qt_sh
  rw [if_neg (by omega)]
theorem qt_tt (v : Int32) : v.toInt64.toInt32 = v := by simp
theorem qt_shx (F : Nat → Nat → Int32) {k : Nat} (h1 : 1 ≤ k) (h2 : k ≤ 5) : am_loop (fun (s9 : Int32 × (Nat → Nat → Int32)) => ((
        if 0 < s9.1 then (
          if am_in (s9.1 - 1) 6 = true then (
          if am_in s9.1 6 = true ∧ ((s9.2 154 (s9.1 - 1).toNatClampNeg).toInt64).toInt32.toInt64 = ((s9.2 154 (s9.1 - 1).toNatClampNeg).toInt64) then (
          am_let (am_up s9.2 154 s9.1.toNatClampNeg (((s9.2 154 (s9.1 - 1).toNatClampNeg).toInt64).toInt32) : Nat → Nat → Int32) fun f10 =>
          am_let (s9.1 + (-1) : Int32) fun t11 =>
          some (.inl (t11, f10))) else none) else none)
        else (
          some (.inr s9.2))) : Option ((Int32 × (Nat → Nat → Int32)) ⊕ ((Nat → Nat → Int32))))) am_F (nI (k - 1), F) = some (am_row F 154 (qt_sh (F 154) k 0)) := by
  refine pu_for (fun i => (nI (k - 1 - i), am_row F 154 (qt_sh (F 154) k (k - 1 - i)))) (k - 1) ?_ (fun i hi => ?_) ?_
  · show _ = (nI (k - 1 - 0), am_row F 154 (qt_sh (F 154) k (k - 1 - 0)))
    rw [Nat.sub_zero, qt_sh_0, row_self]
  · obtain ⟨m, hm⟩ : ∃ m, k - 1 - i = m + 1 := ⟨k - 1 - i - 1, by omega⟩
    have hm2 : k - 1 - (i + 1) = m := by omega
    have h0 : (0 : Int32) < nI (m + 1) := nI_lt (a := 0) (by omega) (by omega)
    have c1 : am_in (nI m) 6 = true := pu_in (by omega) (by omega)
    have c2 : am_in (nI (m + 1)) 6 = true := pu_in (by omega) (by omega)
    have e1 : qt_sh (F 154) k (m + 1) m = F 154 m := by
      unfold qt_sh
      rw [if_neg (by omega)]
    have e2 := qt_sh_st (F 154) (k := k) (m := m + 1) (by omega) (by omega)
    rw [Nat.add_sub_cancel] at e2
    dsimp only
    rw [hm, hm2]
    simp only [h0, nI_pred, pk_m1, c1, c2, if_true, pu_letE, nI_clamp (show m < 2 ^ 31 by omega), nI_clamp (show m + 1 < 2 ^ 31 by omega), qt_tt, and_self, row_row, row_up, e1, e2]
  · dsimp only
    rw [Nat.sub_self, if_neg (by decide)]
theorem qt_shm (F : Nat → Nat → Int32) {k : Nat} (h1 : 1 ≤ k) (h2 : k ≤ 5) : am_loop (fun (s14 : Int32 × (Nat → Nat → Int32)) => ((
            if 0 < s14.1 then (
              if am_in (s14.1 - 1) 5 = true then (
              if am_in s14.1 5 = true then (
              am_let (am_up s14.2 235 s14.1.toNatClampNeg (s14.2 235 (s14.1 - 1).toNatClampNeg) : Nat → Nat → Int32) fun f15 =>
              am_let (s14.1 + (-1) : Int32) fun t16 =>
              some (.inl (t16, f15))) else none) else none)
            else (
              some (.inr s14.2))) : Option ((Int32 × (Nat → Nat → Int32)) ⊕ ((Nat → Nat → Int32))))) am_F (nI (k - 1), F) = some (am_row F 235 (qt_sh (F 235) k 0)) := by
  refine pu_for (fun i => (nI (k - 1 - i), am_row F 235 (qt_sh (F 235) k (k - 1 - i)))) (k - 1) ?_ (fun i hi => ?_) ?_
  · show _ = (nI (k - 1 - 0), am_row F 235 (qt_sh (F 235) k (k - 1 - 0)))
    rw [Nat.sub_zero, qt_sh_0, row_self]
  · obtain ⟨m, hm⟩ : ∃ m, k - 1 - i = m + 1 := ⟨k - 1 - i - 1, by omega⟩
    have hm2 : k - 1 - (i + 1) = m := by omega
    have h0 : (0 : Int32) < nI (m + 1) := nI_lt (a := 0) (by omega) (by omega)
    have c1 : am_in (nI m) 5 = true := pu_in (by omega) (by omega)
    have c2 : am_in (nI (m + 1)) 5 = true := pu_in (by omega) (by omega)
    have e1 : qt_sh (F 235) k (m + 1) m = F 235 m := by
      unfold qt_sh
      rw [if_neg (by omega)]
    have e2 := qt_sh_st (F 235) (k := k) (m := m + 1) (by omega) (by omega)
    rw [Nat.add_sub_cancel] at e2
    dsimp only
    rw [hm, hm2]
    simp only [h0, nI_pred, pk_m1, c1, c2, if_true, pu_letE, nI_clamp (show m < 2 ^ 31 by omega), nI_clamp (show m + 1 < 2 ^ 31 by omega), row_row, row_up, e1, e2]
  · dsimp only
    rw [Nat.sub_self, if_neg (by decide)]
theorem qt_sx {F : Nat → Nat → Int32} {k : Nat} {q : Nat → Nat} (h2 : k ≤ 5) (hq : ∀ j, j < k → q j < 1000000007 ∧ F 154 j = nI (q j)) : am_loop (fun (s15 : Int64 × Int32) => ((
        if s15.2 < nI k then (
          if am_in s15.2 6 = true then (
          am_let (((s15.1 + ((F 154 s15.2.toNatClampNeg).toInt64)) - (s15.1 + ((F 154 s15.2.toNatClampNeg).toInt64)) / ((1000000007 : Int32).toInt64) * ((1000000007 : Int32).toInt64)) : Int64) fun t16 =>
          am_let (s15.2 + 1 : Int32) fun t17 =>
          some (.inl (t16, t17))) else none)
        else (
          some (.inr s15.1))) : Option ((Int64 × Int32) ⊕ (Int64)))) am_F ((0 : Int32).toInt64, 0) = some (lN (qt_s q k)) := by
  refine pu_for (fun j => (lN (qt_s q j), nI j)) k (by rfl) (fun j hj => ?_) ?_
  · have h1 : nI j < nI k := nI_lt hj (by omega)
    have c1 : am_in (nI j) 6 = true := pu_in (by omega) (by omega)
    obtain ⟨a1, a2⟩ := hq j hj
    have a3 := qt_lt q j
    have eP : (1000000007 : Int32).toInt64 = lN 1000000007 := nI_l (n := 1000000007) (by omega)
    dsimp only
    simp only [h1, c1, if_true, pu_letE, nI_clamp (show j < 2 ^ 31 by omega), a2, nI_l (show q j < 2 ^ 31 by omega), eP, lN_add, pk_lRem (show qt_s q j + q j < 2 ^ 63 by omega) (show 0 < 1000000007 by omega) (show 1000000007 < 2 ^ 63 by omega), nI_1]
    rfl
  · have hll : ¬ nI k < nI k := nI_nlt (Nat.le_refl _) (by omega)
    dsimp only
    simp only [hll, if_false]
theorem qt_sm {E : Type} {F : Nat → Nat → Int32} {k : Nat} {q : Nat → Nat} (c : Int32 → E) (h2 : k ≤ 5) (hq : ∀ j, j < k → q j < 1000000007 ∧ F 235 j = nI (q j)) : am_loop (fun (s9 : Int32 × Int32) => ((
            if s9.2 < nI k then (
              if am_in s9.2 5 = true then (
              am_let (((s9.1 + (F 235 s9.2.toNatClampNeg)) - (s9.1 + (F 235 s9.2.toNatClampNeg)) / 1000000007 * 1000000007) : Int32) fun t10 =>
              am_let (s9.2 + 1 : Int32) fun t11 =>
              some (.inl (t10, t11))) else none)
            else (
              some (.inr (c s9.1)))) : Option ((Int32 × Int32) ⊕ (E)))) am_F (0, 0) = some (c (nI (qt_s q k))) := by
  refine pu_for (fun j => (nI (qt_s q j), nI j)) k (by rfl) (fun j hj => ?_) ?_
  · have h1 : nI j < nI k := nI_lt hj (by omega)
    have c1 : am_in (nI j) 5 = true := pu_in (by omega) (by omega)
    obtain ⟨a1, a2⟩ := hq j hj
    have a3 := qt_lt q j
    have eP : (1000000007 : Int32) = nI 1000000007 := rfl
    dsimp only
    simp only [h1, c1, if_true, pu_letE, nI_clamp (show j < 2 ^ 31 by omega), a2, eP, nI_add, pk_rem (show qt_s q j + q j < 2 ^ 31 by omega) (show 0 < 1000000007 by omega) (show 1000000007 < 2 ^ 31 by omega), nI_1]
    rfl
  · have hll : ¬ nI k < nI k := nI_nlt (Nat.le_refl _) (by omega)
    dsimp only
    simp only [hll, if_false]
theorem qt_end {f g F G : Nat → Nat → Int32} (h : rl_Rel f g) (hF : ∀ a, a ≠ 154 → F a = f a) (hG : ∀ a, a ≠ 235 → G a = g a) : rl_Rel F G := by
  have g216 := hG 216 (by decide)
  refine h.congr ⟨fun a h1 h2 => hF a (by omega), fun a h1 => hF a (by omega), by rw [hF 0 (by omega)], by rw [hF 0 (by omega)], by rw [hF 123 (by omega)], hF 124 (by omega), by rw [hF 128 (by omega)], by rw [hF 128 (by omega)], by rw [hF 143 (by omega)], by rw [hF 143 (by omega)], hF 150 (by omega), hF 153 (by omega), by rw [hF 144 (by omega)]⟩
    ⟨hG 217 (by decide), hG 218 (by decide), hG 219 (by decide), hG 224 (by decide), by rw [g216], by rw [g216], by rw [g216], by rw [g216], by rw [g216]⟩
theorem qt_x0 (f : Nat → Nat → Int32) {k : Nat} (h1 : 1 ≤ k) (h2 : k ≤ 5) : ∃ F, am_loop (fun (s2 : Int32 × (Nat → Nat → Int32)) => ((
    if s2.1 < nI k then (
      if am_in s2.1 6 = true ∧ ((0 : Int32).toInt64).toInt32.toInt64 = ((0 : Int32).toInt64) then (
      am_let (am_up s2.2 154 s2.1.toNatClampNeg (((0 : Int32).toInt64).toInt32) : Nat → Nat → Int32) fun f3 =>
      am_let (s2.1 + 1 : Int32) fun t4 =>
      some (.inl (t4, f3))) else none)
    else (
      some (.inr s2.2))) : Option ((Int32 × (Nat → Nat → Int32)) ⊕ ((Nat → Nat → Int32))))) am_F (1, am_up f 154 0 1) = some F ∧ (∀ j, j < k → F 154 j = nI (if j = 0 then 1 else 0)) ∧ ∀ a, a ≠ 154 → F a = f a := by
  refine pu_one (fun i s => ∃ F, s = (nI (i + 1), F) ∧ (∀ j, j < i + 1 → F 154 j = nI (if j = 0 then 1 else 0)) ∧ ∀ a, a ≠ 154 → F a = f a) _ (k - 1) ⟨_, rfl, fun j hj => ?_, fun a ha => pu_up_ne _ _ ha⟩ ?_ ?_
  · have : j = 0 := by omega
    subst this
    rw [pu_up_row, pu_upd_eq]
    rfl
  · rintro i s hi ⟨F, rfl, hF, hF2⟩
    have h1 : nI (i + 1) < nI k := nI_lt (by omega) (by omega)
    have c1 : am_in (nI (i + 1)) 6 = true := pu_in (by omega) (by omega)
    left
    dsimp only
    simp only [h1, c1, if_true, pu_letE, nI_clamp (show i + 1 < 2 ^ 31 by omega), qt_tt, and_self, nI_1]
    refine ⟨_, rfl, _, rfl, fun j hj => ?_, fun a ha => ?_⟩
    · rw [pu_up_row]
      by_cases hji : j = i + 1
      · subst hji
        rw [pu_upd_eq, if_neg (by omega)]
        rfl
      · rw [pu_upd_ne _ _ hji]
        exact hF j (by omega)
    · rw [pu_up_ne _ _ ha]
      exact hF2 a ha
  · rintro s ⟨F, rfl, hF, hF2⟩
    have hk : k - 1 + 1 = k := by omega
    rw [hk] at hF ⊢
    have hll : ¬ nI k < nI k := nI_nlt (Nat.le_refl _) (by omega)
    dsimp only
    simp only [hll, if_false]
    exact ⟨_, rfl, hF, hF2⟩
theorem qt_m0 (g : Nat → Nat → Int32) : ∃ G, am_loop (fun (s3 : Int32 × (Nat → Nat → Int32)) => ((
        if s3.1 < 5 then (
          am_let ((if s3.1 = 0 then (
              true)
            else (
              false)) : Bool) fun t4 =>
          if am_in s3.1 5 = true then (
          am_let (am_up s3.2 235 s3.1.toNatClampNeg (am_b t4) : Nat → Nat → Int32) fun f5 =>
          am_let (s3.1 + 1 : Int32) fun t6 =>
          some (.inl (t6, f5))) else none)
        else (
          some (.inr s3.2))) : Option ((Int32 × (Nat → Nat → Int32)) ⊕ ((Nat → Nat → Int32))))) am_F (0, g) = some G ∧ (∀ j, j < 5 → G 235 j = nI (if j = 0 then 1 else 0)) ∧ ∀ a, a ≠ 235 → G a = g a := by
  refine pu_one (fun i s => ∃ F, s = (nI i, F) ∧ (∀ j, j < i → F 235 j = nI (if j = 0 then 1 else 0)) ∧ ∀ a, a ≠ 235 → F a = g a) _ 5 ⟨_, rfl, fun j hj => absurd hj (Nat.not_lt_zero _), fun a ha => rfl⟩ ?_ ?_
  · rintro i s hi ⟨F, rfl, hF, hF2⟩
    have h1 : nI i < (5 : Int32) := nI_lt (b := 5) hi (by omega)
    have c1 : am_in (nI i) 5 = true := pu_in (by omega) (by omega)
    left
    dsimp only
    simp only [h1, c1, if_true, pu_letE, nI_clamp (show i < 2 ^ 31 by omega), nI_1]
    refine ⟨_, rfl, _, rfl, fun j hj => ?_, fun a ha => ?_⟩
    · rw [pu_up_row]
      by_cases hji : j = i
      · subst hji
        rw [pu_upd_eq]
        by_cases h0 : j = 0
        · subst h0
          rfl
        · rw [if_neg h0, if_neg (nI_ne0 (by omega) (by omega))]
          rfl
      · rw [pu_upd_ne _ _ hji]
        exact hF j (by omega)
    · rw [pu_up_ne _ _ ha]
      exact hF2 a ha
  · rintro s ⟨F, rfl, hF, hF2⟩
    dsimp only
    rw [if_neg (by decide)]
    exact ⟨_, rfl, hF, hF2⟩
theorem sm_quiet (x1 x2 : Int32) (f g : Nat → Nat → Int32) (h : rl_Rel f g) : ∃ (v : Int32) (f1 g1 : Nat → Nat → Int32), x_quiet x1 x2 f = some (v, f1) ∧ m_quiet x1 x2 g = some (v, g1) ∧ rl_Rel f1 g1 := by
  unfold x_quiet m_quiet
  rw [pu_isIn, pu_isIn]
  rcases pu_within_cases x1 (lo := 0) (hi := 60) 0 60 with ⟨e, n, n1, n2, rfl⟩ | e
  rotate_left
  · simp only [e, Bool.false_eq_true, if_false]
    exact ⟨-1, f, g, rfl, rfl, h⟩
  rcases pu_within_cases x2 (lo := 1) (hi := 5) 1 5 with ⟨e', k, k1, k2, rfl⟩ | e'
  rotate_left
  · simp only [e, e', Bool.false_eq_true, if_false, if_true]
    exact ⟨-1, f, g, rfl, rfl, h⟩
  simp only [e, e', if_true]
  unfold xm_quietWays
  obtain ⟨F0, a1, a2, a3⟩ := qt_x0 f k1 k2
  obtain ⟨G0, b1, b2, b3⟩ := qt_m0 g
  have c0 : am_in 0 6 = true := by decide
  have km : nI k - 1 = nI (k - 1) := by
    have := nI_pred (k - 1)
    rw [show k - 1 + 1 = k by omega] at this
    exact this
  simp only [c0, qt_tt, and_true, true_and, if_true, pu_letE]
  simp only [c0, qt_tt, and_true, true_and, if_true, pu_letE] at a1
  simp only [c0, qt_tt, and_true, true_and, if_true, pu_letE] at b1
  rw [a1, b1, pu_bs, pu_bs]
  have K := pu_two (f := fun (s7 : Int64 × Int32 × (Nat → Nat → Int32)) => ((
    if s7.2.1 < nI n then (
      (am_loop (fun (s9 : Int32 × (Nat → Nat → Int32)) => ((
        if 0 < s9.1 then (
          if am_in (s9.1 - 1) 6 = true then (
          if am_in s9.1 6 = true ∧ ((s9.2 154 (s9.1 - 1).toNatClampNeg).toInt64).toInt32.toInt64 = ((s9.2 154 (s9.1 - 1).toNatClampNeg).toInt64) then (
          am_let (am_up s9.2 154 s9.1.toNatClampNeg (((s9.2 154 (s9.1 - 1).toNatClampNeg).toInt64).toInt32) : Nat → Nat → Int32) fun f10 =>
          am_let (s9.1 + (-1) : Int32) fun t11 =>
          some (.inl (t11, f10))) else none) else none)
        else (
          some (.inr s9.2))) : Option ((Int32 × (Nat → Nat → Int32)) ⊕ ((Nat → Nat → Int32))))) am_F (nI k - 1, s7.2.2)).bind fun e12 =>
      if am_in 0 6 = true ∧ s7.1.toInt32.toInt64 = s7.1 then (
      (am_loop (fun (s15 : Int64 × Int32) => ((
        if s15.2 < nI k then (
          if am_in s15.2 6 = true then (
          am_let (((s15.1 + (((am_up e12 154 0 (s7.1.toInt32)) 154 s15.2.toNatClampNeg).toInt64)) - (s15.1 + (((am_up e12 154 0 (s7.1.toInt32)) 154 s15.2.toNatClampNeg).toInt64)) / ((1000000007 : Int32).toInt64) * ((1000000007 : Int32).toInt64)) : Int64) fun t16 =>
          am_let (s15.2 + 1 : Int32) fun t17 =>
          some (.inl (t16, t17))) else none)
        else (
          some (.inr s15.1))) : Option ((Int64 × Int32) ⊕ (Int64)))) am_F ((0 : Int32).toInt64, 0)).bind fun e18 =>
      some (.inl (e18, s7.2.1 + 1, (am_up e12 154 0 (s7.1.toInt32))))) else none)
    else (
      some (.inr ((s7.1.toInt32), s7.2.2)))) : Option ((Int64 × Int32 × (Nat → Nat → Int32)) ⊕ (Int32 × (Nat → Nat → Int32)))))
    (g := fun (s8 : Int32 × (Nat → Nat → Int32)) => ((
        if s8.1 < nI n then (
          (am_loop (fun (s9 : Int32 × Int32) => ((
            if s9.2 < nI k then (
              if am_in s9.2 5 = true then (
              am_let (((s9.1 + (s8.2 235 s9.2.toNatClampNeg)) - (s9.1 + (s8.2 235 s9.2.toNatClampNeg)) / 1000000007 * 1000000007) : Int32) fun t10 =>
              am_let (s9.2 + 1 : Int32) fun t11 =>
              some (.inl (t10, t11))) else none)
            else (
              some (.inr s9.1))) : Option ((Int32 × Int32) ⊕ (Int32)))) am_F (0, 0)).bind fun e12 =>
          (am_loop (fun (s14 : Int32 × (Nat → Nat → Int32)) => ((
            if 0 < s14.1 then (
              if am_in (s14.1 - 1) 5 = true then (
              if am_in s14.1 5 = true then (
              am_let (am_up s14.2 235 s14.1.toNatClampNeg (s14.2 235 (s14.1 - 1).toNatClampNeg) : Nat → Nat → Int32) fun f15 =>
              am_let (s14.1 + (-1) : Int32) fun t16 =>
              some (.inl (t16, f15))) else none) else none)
            else (
              some (.inr s14.2))) : Option ((Int32 × (Nat → Nat → Int32)) ⊕ ((Nat → Nat → Int32))))) am_F (nI k - 1, s8.2)).bind fun e17 =>
          some (.inl (s8.1 + 1, am_up e17 235 0 e12)))
        else (
          some (.inr s8.2))) : Option ((Int32 × (Nat → Nat → Int32)) ⊕ ((Nat → Nat → Int32))))) (s := ((1 : Int32).toInt64, 0, F0)) (t := (0, G0))
    (fun i s t => ∃ q F G, s = (lN (qt_s q k), nI i, F) ∧ t = (nI i, G) ∧ (∀ j, j < k → q j < 1000000007 ∧ F 154 j = nI (q j)) ∧ (∀ j, j < k → q j < 1000000007 ∧ G 235 j = nI (q j)) ∧ (∀ a, a ≠ 154 → F a = f a) ∧ (∀ a, a ≠ 235 → G a = g a))
    (fun e e' => ∃ q F, e = (nI (qt_s q k), F) ∧ (∀ j, j < k → q j < 1000000007 ∧ e' 235 j = nI (q j)) ∧ (∀ a, a ≠ 154 → F a = f a) ∧ (∀ a, a ≠ 235 → e' a = g a)) n
    ⟨fun j => if j = 0 then 1 else 0, F0, G0, by rw [qt_1 k (by omega) k1]; rfl, rfl, fun j hj => ⟨by dsimp only; by_cases h0 : j = 0; (· rw [if_pos h0]; decide); (· rw [if_neg h0]; decide), a2 j hj⟩, fun j hj => ⟨by dsimp only; by_cases h0 : j = 0; (· rw [if_pos h0]; decide); (· rw [if_neg h0]; decide), b2 j (by omega)⟩, a3, b3⟩ (by
    rintro i s t hi ⟨q, F, G, rfl, rfl, hF, hG, fF, fG⟩
    refine Or.inl ?_
    have h1 : nI i < nI n := nI_lt hi (by omega)
    have hA := qt_lt q k
    have q' : ∀ (u : Nat → Int32), (∀ j, j < k → u j = nI (q j)) → ∀ j, j < k → (fun j => if j = 0 then qt_s q k else q (j - 1)) j < 1000000007 ∧ upd (qt_sh u k 0) 0 (nI (qt_s q k)) j = nI ((fun j => if j = 0 then qt_s q k else q (j - 1)) j) := by
      intro u hu j hj
      dsimp only
      by_cases h0 : j = 0
      · subst h0
        rw [if_pos rfl, pu_upd_eq]
        exact ⟨hA, rfl⟩
      · rw [if_neg h0, pu_upd_ne _ _ h0]
        refine ⟨(hF (j - 1) (by omega)).1, ?_⟩
        unfold qt_sh
        rw [if_pos (by omega)]
        exact hu (j - 1) (by omega)
    have X1 := qt_shx F k1 k2
    have M1 := qt_shm G k1 k2
    have M2 := qt_sm (E := Int32) (F := G) (q := q) (fun x => x) k2 hG
    have qx := q' (F 154) (fun j hj => (hF j hj).2)
    have qm := q' (G 235) (fun j hj => (hG j hj).2)
    have X2 := qt_sx (F := am_up (am_row F 154 (qt_sh (F 154) k 0)) 154 0 (nI (qt_s q k))) (q := fun j => if j = 0 then qt_s q k else q (j - 1)) k2 (fun j hj => by
      rw [row_up, row_row]
      exact qx j hj)
    dsimp only
    simp only [h1, if_true, km, X1, M1, M2, pu_bs, lN_i, nI_l (show qt_s q k < 2 ^ 31 by omega), c0, and_self, X2, nI_1]
    refine ⟨_, _, rfl, rfl, _, _, _, rfl, rfl, fun j hj => ?_, fun j hj => ?_, fun a ha => ?_, fun a ha => ?_⟩
    · rw [row_up, row_row]
      exact qx j hj
    · rw [row_up, row_row]
      exact qm j hj
    · rw [pu_up_ne _ _ ha, row_ne _ _ ha]
      exact fF a ha
    · rw [pu_up_ne _ _ ha, row_ne _ _ ha]
      exact fG a ha) (by
    rintro s t ⟨q, F, G, rfl, rfl, hF, hG, fF, fG⟩
    have hll : ¬ nI n < nI n := nI_nlt (Nat.le_refl _) (by omega)
    dsimp only
    simp only [hll, if_false, lN_i]
    exact ⟨_, _, rfl, rfl, q, F, rfl, hG, fF, fG⟩) (by omega)
  obtain ⟨e1, e2, r1, r2, q, F, rfl, hG, fF, fG⟩ := K
  simp only [c0, qt_tt, and_true, true_and, if_true, pu_letE] at r1
  simp only [c0, qt_tt, and_true, true_and, if_true, pu_letE] at r2
  have M3 := qt_sm (E := Int32 × (Nat → Nat → Int32)) (F := e2) (q := q) (fun x => (x, e2)) k2 hG
  simp only [pu_letE] at M3
  rw [r1, r2, pu_bs, pu_bs, M3]
  exact ⟨_, _, _, rfl, rfl, qt_end h fF fG⟩
