/-! LAW: it is put into the world -/
theorem tx_takeL (F : (Nat → Nat → Int32)) : (∀ a, (a < 14 ∨ 19 < a) → xl_takeFrom_14_129 F a = F a) ∧ xl_takeFrom_14_129 F 14 0 = F 129 0 ∧ xl_takeFrom_14_129 F 14 1 = F 129 1 ∧ (∀ j, j < 400 → xl_takeFrom_14_129 F 15 j = F 130 j) ∧ (∀ j, j < 16 → xl_takeFrom_14_129 F 16 j = F 131 j) ∧ (∀ j, j < 16 → xl_takeFrom_14_129 F 17 j = F 132 j) ∧ (∀ j, j < 16 → xl_takeFrom_14_129 F 18 j = F 133 j) ∧ ∀ j, j < 16 → xl_takeFrom_14_129 F 19 j = F 134 j := by
  unfold xl_takeFrom_14_129
  simp only [pu_letE]
  refine ⟨fun a ha => ?_, ?_, ?_, fun j hj => ?_, fun j hj => ?_, fun j hj => ?_, fun j hj => ?_, fun j hj => ?_⟩
  · rw [pu_cp_ne _ (by omega), pu_cp_ne _ (by omega), pu_cp_ne _ (by omega), pu_cp_ne _ (by omega), pu_cp_ne _ (by omega), pu_up_ne _ _ (by omega), pu_up_ne _ _ (by omega)]
  · rw [pu_cp_ne _ (by omega), pu_cp_ne _ (by omega), pu_cp_ne _ (by omega), pu_cp_ne _ (by omega), pu_cp_ne _ (by omega), pu_up_row, pu_upd_ne _ _ (by omega), pu_up_row, pu_upd_eq]
  · rw [pu_cp_ne _ (by omega), pu_cp_ne _ (by omega), pu_cp_ne _ (by omega), pu_cp_ne _ (by omega), pu_cp_ne _ (by omega), pu_up_row, pu_upd_eq, pu_up_ne _ _ (by omega)]
  · rw [pu_cp_ne _ (by omega), pu_cp_ne _ (by omega), pu_cp_ne _ (by omega), pu_cp_ne _ (by omega), pu_cp_row, pu_cpy_in hj, pu_up_ne _ _ (by omega), pu_up_ne _ _ (by omega)]
  · rw [pu_cp_ne _ (by omega), pu_cp_ne _ (by omega), pu_cp_ne _ (by omega), pu_cp_row, pu_cpy_in hj, pu_cp_ne _ (by omega), pu_up_ne _ _ (by omega), pu_up_ne _ _ (by omega)]
  · rw [pu_cp_ne _ (by omega), pu_cp_ne _ (by omega), pu_cp_row, pu_cpy_in hj, pu_cp_ne _ (by omega), pu_cp_ne _ (by omega), pu_up_ne _ _ (by omega), pu_up_ne _ _ (by omega)]
  · rw [pu_cp_ne _ (by omega), pu_cp_row, pu_cpy_in hj, pu_cp_ne _ (by omega), pu_cp_ne _ (by omega), pu_cp_ne _ (by omega), pu_up_ne _ _ (by omega), pu_up_ne _ _ (by omega)]
  · rw [pu_cp_row, pu_cpy_in hj, pu_cp_ne _ (by omega), pu_cp_ne _ (by omega), pu_cp_ne _ (by omega), pu_cp_ne _ (by omega), pu_up_ne _ _ (by omega), pu_up_ne _ _ (by omega)]
theorem tx_putL {G : (Nat → Nat → Int32)} {l q : Nat} (hl : l ≤ 16) (hq : q ≤ 400) (h13 : G 216 13 = nI l) (h14 : G 216 14 = nI q) : ∃ G', m_putsLaw G = some (nI l, G') ∧ (∀ a, a ≠ 217 → G' a = G a) ∧ (∀ i, i < 1124 → i ≠ 71 → G' 217 i = G 217 i) ∧ G' 217 71 = nI l ∧ (∀ j, j < l → G' 217 (1124 + j) = G 221 (4 * j) ∧ G' 217 (1140 + j) = G 221 (4 * j + 1) ∧ G' 217 (1156 + j) = G 221 (4 * j + 2) ∧ G' 217 (1172 + j) = G 221 (4 * j + 3)) ∧ ∀ j, j < 2 * q → G' 217 (1188 + j) = G 222 j := by
  have step1 : ∃ X', am_loop (fun (s2 : Int32 × (Nat → Nat → Int32)) => ((
    if s2.1 < s2.2 216 13 then (
      if am_in (4 * s2.1) 64 = true then (
      if am_in (1124 + s2.1) 2008 = true then (
      am_let (am_up s2.2 217 (1124 + s2.1).toNatClampNeg (s2.2 221 (4 * s2.1).toNatClampNeg) : Nat → Nat → Int32) fun f3 =>
      if am_in ((4 * s2.1) + 1) 64 = true then (
      if am_in (1140 + s2.1) 2008 = true then (
      am_let (am_up f3 217 (1140 + s2.1).toNatClampNeg (f3 221 ((4 * s2.1) + 1).toNatClampNeg) : Nat → Nat → Int32) fun f4 =>
      if am_in ((4 * s2.1) + 2) 64 = true then (
      if am_in (1156 + s2.1) 2008 = true then (
      am_let (am_up f4 217 (1156 + s2.1).toNatClampNeg (f4 221 ((4 * s2.1) + 2).toNatClampNeg) : Nat → Nat → Int32) fun f5 =>
      if am_in ((4 * s2.1) + 3) 64 = true then (
      if am_in (1172 + s2.1) 2008 = true then (
      am_let (am_up f5 217 (1172 + s2.1).toNatClampNeg (f5 221 ((4 * s2.1) + 3).toNatClampNeg) : Nat → Nat → Int32) fun f6 =>
      am_let (s2.1 + 1 : Int32) fun t7 =>
      some (.inl (t7, f6))) else none) else none) else none) else none) else none) else none) else none) else none)
    else (
      some (.inr s2.2))) : Option ((Int32 × (Nat → Nat → Int32)) ⊕ ((Nat → Nat → Int32))))) am_F (0, am_up G 217 71 (nI l)) = some X' ∧ (∀ a, a ≠ 217 → X' a = G a) ∧ (∀ i, i < 1124 → i ≠ 71 → X' 217 i = G 217 i) ∧ X' 217 71 = nI l ∧ ∀ j, j < l → X' 217 (1124 + j) = G 221 (4 * j) ∧ X' 217 (1140 + j) = G 221 (4 * j + 1) ∧ X' 217 (1156 + j) = G 221 (4 * j + 2) ∧ X' 217 (1172 + j) = G 221 (4 * j + 3) := by
    refine pu_one (fun j s => ∃ K, s = (nI j, K) ∧ (∀ a, a ≠ 217 → K a = G a) ∧ (∀ i, i < 1124 → i ≠ 71 → K 217 i = G 217 i) ∧ K 217 71 = nI l ∧ ∀ x, x < j → K 217 (1124 + x) = G 221 (4 * x) ∧ K 217 (1140 + x) = G 221 (4 * x + 1) ∧ K 217 (1156 + x) = G 221 (4 * x + 2) ∧ K 217 (1172 + x) = G 221 (4 * x + 3)) _ l ⟨_, rfl, fun a ha => pu_up_ne _ _ ha, fun i _ h2 => by rw [pu_up_row, pu_upd_ne _ _ h2], by rw [pu_up_row, pu_upd_eq], fun x hx => absurd hx (Nat.not_lt_zero _)⟩ ?_ ?_
    · rintro j s hj ⟨K, rfl, K1, K2, K3, K4⟩
      left
      have e13 : K 216 13 = nI l := by rw [K1 216 (by omega)]; exact h13
      have m0 : (4 : Int32) * nI j = nI (4 * j) := by rw [show (4 : Int32) = nI 4 from rfl, pk_mul]
      have m1 : nI (4 * j) + 1 = nI (4 * j + 1) := nI_1 _
      have m2 : nI (4 * j) + 2 = nI (4 * j + 2) := nI_add _ 2
      have m3 : nI (4 * j) + 3 = nI (4 * j + 3) := nI_add _ 3
      have p0 : (1124 : Int32) + nI j = nI (1124 + j) := nI_add 1124 j
      have p1 : (1140 : Int32) + nI j = nI (1140 + j) := nI_add 1140 j
      have p2 : (1156 : Int32) + nI j = nI (1156 + j) := nI_add 1156 j
      have p3 : (1172 : Int32) + nI j = nI (1172 + j) := nI_add 1172 j
      have a0 : am_in (nI (4 * j)) 64 = true := pu_in (by omega) (by omega)
      have a1 : am_in (nI (4 * j + 1)) 64 = true := pu_in (by omega) (by omega)
      have a2 : am_in (nI (4 * j + 2)) 64 = true := pu_in (by omega) (by omega)
      have a3 : am_in (nI (4 * j + 3)) 64 = true := pu_in (by omega) (by omega)
      have b0 : am_in (nI (1124 + j)) 2008 = true := pu_in (by omega) (by omega)
      have b1 : am_in (nI (1140 + j)) 2008 = true := pu_in (by omega) (by omega)
      have b2 : am_in (nI (1156 + j)) 2008 = true := pu_in (by omega) (by omega)
      have b3 : am_in (nI (1172 + j)) 2008 = true := pu_in (by omega) (by omega)
      have lt : nI j < nI l := nI_lt hj (by omega)
      simp only [e13, lt, m0, m1, m2, m3, p0, p1, p2, p3, a0, a1, a2, a3, b0, b1, b2, b3, if_true, pu_letE, nI_clamp (show 4 * j < 2 ^ 31 by omega), nI_clamp (show 4 * j + 1 < 2 ^ 31 by omega), nI_clamp (show 4 * j + 2 < 2 ^ 31 by omega), nI_clamp (show 4 * j + 3 < 2 ^ 31 by omega), nI_clamp (show 1124 + j < 2 ^ 31 by omega), nI_clamp (show 1140 + j < 2 ^ 31 by omega), nI_clamp (show 1156 + j < 2 ^ 31 by omega), nI_clamp (show 1172 + j < 2 ^ 31 by omega), pu_up_ne _ _ (show (221 : Nat) ≠ 217 by omega), K1 221 (show (221 : Nat) ≠ 217 by omega), nI_1]
      refine ⟨_, rfl, _, rfl, fun a ha => ?_, fun i h1 h2 => ?_, ?_, fun x hx => ?_⟩
      · rw [pu_up_ne _ _ ha, pu_up_ne _ _ ha, pu_up_ne _ _ ha, pu_up_ne _ _ ha]; exact K1 a ha
      · rw [pu_up_row, pu_upd_ne _ _ (by omega), pu_up_row, pu_upd_ne _ _ (by omega), pu_up_row, pu_upd_ne _ _ (by omega), pu_up_row, pu_upd_ne _ _ (by omega)]; exact K2 i h1 h2
      · rw [pu_up_row, pu_upd_ne _ _ (by omega), pu_up_row, pu_upd_ne _ _ (by omega), pu_up_row, pu_upd_ne _ _ (by omega), pu_up_row, pu_upd_ne _ _ (by omega)]; exact K3
      · rw [pu_up_row, pu_up_row, pu_up_row, pu_up_row]
        by_cases d : x = j
        · rw [d, pu_upd_ne _ _ (by omega), pu_upd_ne _ _ (by omega), pu_upd_ne _ _ (by omega), pu_upd_eq, pu_upd_ne _ _ (by omega), pu_upd_ne _ _ (by omega), pu_upd_eq, pu_upd_ne _ _ (by omega), pu_upd_eq, pu_upd_eq]
          exact ⟨rfl, rfl, rfl, rfl⟩
        · have o : ∀ y, y = 1124 + x ∨ y = 1140 + x ∨ y = 1156 + x ∨ y = 1172 + x → upd (upd (upd (upd (K 217) (1124 + j) (G 221 (4 * j))) (1140 + j) (G 221 (4 * j + 1))) (1156 + j) (G 221 (4 * j + 2))) (1172 + j) (G 221 (4 * j + 3)) y = K 217 y := by
            intro y hy
            rw [pu_upd_ne _ _ (by omega), pu_upd_ne _ _ (by omega), pu_upd_ne _ _ (by omega), pu_upd_ne _ _ (by omega)]
          rw [o _ (by omega), o _ (by omega), o _ (by omega), o _ (by omega)]
          exact K4 x (by omega)
    · rintro s ⟨K, rfl, K1, K2, K3, K4⟩
      have e13 : K 216 13 = nI l := by rw [K1 216 (by omega)]; exact h13
      have lt : ¬ nI l < nI l := nI_nlt (Nat.le_refl _) (by omega)
      simp only [e13, if_neg lt]
      exact ⟨_, rfl, K1, K2, K3, K4⟩
  obtain ⟨H1, r1, A1, A2, A3, A4⟩ := step1
  have e13 : ∀ K : (Nat → Nat → Int32), (∀ a, a ≠ 217 → K a = G a) → K 216 13 = nI l := fun K hK => by rw [hK 216 (by omega)]; exact h13
  have e14 : ∀ K : (Nat → Nat → Int32), (∀ a, a ≠ 217 → K a = G a) → (2 : Int32) * K 216 14 = nI (2 * q) := fun K hK => by rw [hK 216 (by omega), h14, show (2 : Int32) = nI 2 from rfl, pk_mul]
  unfold m_putsLaw
  rw [pu_letE, h13, r1, pu_bs]
  obtain ⟨v, r2, H2, rfl, B⟩ := pu_one (f := (fun (s9 : Int32 × (Nat → Nat → Int32)) => ((
    if s9.1 < (2 * (s9.2 216 14)) then (
      if am_in s9.1 820 = true then (
      if am_in (1188 + s9.1) 2008 = true then (
      am_let (am_up s9.2 217 (1188 + s9.1).toNatClampNeg (s9.2 222 s9.1.toNatClampNeg) : Nat → Nat → Int32) fun f10 =>
      am_let (s9.1 + 1 : Int32) fun t11 =>
      some (.inl (t11, f10))) else none) else none)
    else (
      some (.inr (s9.2 216 13, s9.2)))) : Option ((Int32 × (Nat → Nat → Int32)) ⊕ (Int32 × (Nat → Nat → Int32)))))) (fun j s => ∃ K, s = (nI j, K) ∧ (∀ a, a ≠ 217 → K a = G a) ∧ (∀ i, i < 1188 → K 217 i = H1 217 i) ∧ ∀ x, x < j → K 217 (1188 + x) = G 222 x)
    (fun v => ∃ K, v = (nI l, K) ∧ (∀ a, a ≠ 217 → K a = G a) ∧ (∀ i, i < 1188 → K 217 i = H1 217 i) ∧ ∀ x, x < 2 * q → K 217 (1188 + x) = G 222 x) (2 * q) (s := (0, H1)) ⟨_, rfl, A1, fun _ _ => rfl, fun x hx => absurd hx (Nat.not_lt_zero _)⟩ (by
    rintro j s hj ⟨K, rfl, K1, K2, K3⟩
    left
    have p0 : (1188 : Int32) + nI j = nI (1188 + j) := nI_add 1188 j
    have a0 : am_in (nI j) 820 = true := pu_in (by omega) (by omega)
    have b0 : am_in (nI (1188 + j)) 2008 = true := pu_in (by omega) (by omega)
    have lt : nI j < nI (2 * q) := nI_lt hj (by omega)
    simp only [e14 K K1, lt, p0, a0, b0, if_true, pu_letE, nI_clamp (show j < 2 ^ 31 by omega), nI_clamp (show 1188 + j < 2 ^ 31 by omega), K1 222 (show (222 : Nat) ≠ 217 by omega), nI_1]
    refine ⟨_, rfl, _, rfl, fun a ha => ?_, fun i h1 => ?_, fun x hx => ?_⟩
    · rw [pu_up_ne _ _ ha]; exact K1 a ha
    · rw [pu_up_row, pu_upd_ne _ _ (by omega)]; exact K2 i h1
    · rw [pu_up_row]
      by_cases d : x = j
      · rw [d, pu_upd_eq]
      · rw [pu_upd_ne _ _ (by omega)]; exact K3 x (by omega)) (by
    rintro s ⟨K, rfl, K1, K2, K3⟩
    have lt : ¬ nI (2 * q) < nI (2 * q) := nI_nlt (Nat.le_refl _) (by omega)
    simp only [e14 K K1, if_neg lt, e13 K K1]
    exact ⟨_, rfl, _, rfl, K1, K2, K3⟩) (by omega)
  obtain ⟨B1, B2, B3⟩ := B
  refine ⟨H2, r2, B1, fun i h1 h2 => (B2 i (by omega)).trans (A2 i h1 h2), (B2 71 (by omega)).trans A3, fun j hj => ?_, B3⟩
  rw [B2 _ (by omega), B2 _ (by omega), B2 _ (by omega), B2 _ (by omega)]
  exact A4 j hj
