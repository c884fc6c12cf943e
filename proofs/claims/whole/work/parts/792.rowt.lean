/-! THE OTHER TEXTS, as a whole -/
theorem tx_rowsT {f g : (Nat → Nat → Int32)} (h : rl_Rel f g) {k : Nat} (hk : 1 ≤ k ∧ k < 4) {Inv : Nat → Nat → Nat → (Nat → Nat → Int32) → (Nat → Nat → Int32) → Prop} (HL : ∀ n b N ng nw, tx_RL n b k N ng nw (Inv ng nw)) (HS : ∀ ng nw l F G F' G', Inv ng nw l F G → (∀ a, 131 ≤ a → a ≤ 142 → F' a = F a) → G' 223 = G 223 → Inv ng nw l F' G')
    (H0 : ∀ ng nw F G, (∀ j, j < 256 → F 141 j = 0) → (∀ j, j < 12 → F 142 j = 0) → (∀ j, j < 256 → G 223 j = 0) → Inv ng nw 0 F G) :
    (∃ F' G', xs_readText_2 (nI k) f = some (-1, F') ∧ m_text (nI k) g = some (-1, am_up (am_up (am_up G' 216 16 0) 216 23 (am_up G' 216 16 0 216 21)) 216 25 (am_up (am_up G' 216 16 0) 216 23 (am_up G' 216 16 0 216 21) 216 22)) ∧ tx_vf f g F' G' ∧ tx_Z F' G') ∨
    ∃ F' G' l ng nw, xs_readText_2 (nI k) f = some (nI l, am_up (am_up (am_up F' 129 0 (nI l)) 135 0 (nI l)) 140 0 (nI l)) ∧ m_text (nI k) g = (m_putsText (nI k) (am_up G' 216 16 0)).bind (fun p12 => some (p12.1, p12.2)) ∧ tx_vf f g F' G' ∧ tx_ok F' ∧ l ≤ 16 ∧ G' 216 15 = nI l ∧ Inv ng nw l F' G' ∧ G' 216 23 = 0 ∧ G' 216 25 = -1 ∧ ng ≤ 6 ∧ nw ≤ 12 ∧ g 217 69 = nI ng ∧ g 217 70 = nI nw := by
  obtain ⟨F0, G0, n, b, N, ng, nw, p1, p2, hT, q129, hE, q141, q142, hV, z1, z2⟩ := tx_pre h (k := k) (by omega)
  have hN : N ≤ 400 := by
    have := hT.1.2.2.1.2.1
    have := hT.1.1.1
    omega
  have hF : am_F = 1000000 := rfl
  have h12 : G0 216 12 = nI k := hT.1.2.2.2.2.2.2.2.1
  obtain ⟨G1, c1, c2, c3⟩ := tx_cl3 (am_up G0 216 15 0)
  have eR : m_readsRows G0 = (am_loop (tx_gR (nI (kw_c k 0))) am_F (true, G1)).bind tx_gE := by
    unfold m_readsRows
    rw [pu_letE, c1, pu_bs]
    have e12 : G1 216 12 = nI k := by rw [c2 216 (by omega), pu_up_row, pu_upd_ne _ _ (by omega)]; exact h12
    have e6 : (if G1 216 12 = 1 then (7 : Int32) else if G1 216 12 = 2 then 15 else 17) = nI (kw_c k 0) := by
      simp only [e12]
      rcases (show k = 1 ∨ k = 2 ∨ k = 3 by omega) with rfl | rfl | rfl <;> rfl
    rw [e6, pu_letE]
    rfl
  have hk0 : ¬ nI k = 0 := nI_ne (b := 0) (by omega) (by omega)
  rw [p1, p2, if_neg hk0, eR]
  have eG : ∀ a, a ≠ 216 → a ≠ 223 → G1 a = G0 a := fun a h1 h2 => by rw [c2 a h2, pu_up_ne _ _ h1]
  have eG6 : G1 216 = upd (G0 216) 15 0 := by rw [c2 216 (by omega), pu_up_row]
  have hT1 : tx_T n b k N 0 F0 G1 := by
    refine ⟨hT.1.gx ⟨eG 224 (by omega) (by omega), ?_, ?_, ?_, ?_, ?_, ?_⟩, hT.2⟩ <;> rw [eG6, pu_upd_ne _ _ (by omega)]
  have hV1 : tx_vf f g F0 G1 := ⟨hV.1, fun a a1 a2 a3 a4 => (eG a a1 a4).trans (hV.2.1 a a1 a2 a3 a4), fun j hj => by rw [eG6, pu_upd_ne _ _ (by omega)]; exact hV.2.2 j hj⟩
  have hE1 : tx_en ng nw F0 G1 := by
    unfold tx_en
    rw [eG 217 (by omega) (by omega)]
    exact hE
  have g15 : G1 216 15 = nI 0 := by rw [eG6, pu_upd_eq]; rfl
  have z0 : nI 0 = (0 : Int32) := rfl
  have y69 : g 217 69 = nI ng := by rw [← hV.2.1 217 (by omega) (by omega) (by omega) (by omega)]; exact hE.2.2.2.2.1
  have y70 : g 217 70 = nI nw := by rw [← hV.2.1 217 (by omega) (by omega) (by omega) (by omega)]; exact hE.2.2.2.2.2
  rcases tx_rowsL hk.1 (HL n b N ng nw) (HS ng nw) N 0 0 am_F am_F F0 G1 (by omega) (by omega) (by omega) hT1 (by omega) g15 hE1 (H0 ng nw F0 G1 q141 q142 c3) with ⟨F', G', r1, r2, r3, r4⟩ | ⟨F', G', l, r1, r2, r3, r4, r5, r6, r7⟩
  · left
    rw [z0] at r1
    rw [r1, r2, pu_bs, pu_bs]
    exact ⟨F', G', rfl, rfl, hV1.tr r3, r4⟩
  · right
    rw [z0] at r1
    rw [r1, r2, pu_bs, pu_bs]
    refine ⟨F', G', l, ng, nw, rfl, rfl, hV1.tr r3, r4, r5, r6, r7, ?_, ?_, hE.1, hE.2.1, y69, y70⟩
    · rw [r3.2.2.2 23 (by omega), eG6, pu_upd_ne _ _ (by omega)]; exact z1
    · rw [r3.2.2.2 25 (by omega), eG6, pu_upd_ne _ _ (by omega)]; exact z2
theorem tx_putR {G : (Nat → Nat → Int32)} {p q c l : Nat} (hp : p < 2008) (hq : q + c ≤ 2008) (hc : c ≤ 264) (hpq : p < q) (h15 : G 216 15 = nI l) : ∃ G', m_puts (nI p) (nI q) (nI c) G = some (nI l, G') ∧ (∀ a, a ≠ 217 → G' a = G a) ∧ (∀ i, i ≠ p → (i < q ∨ q + c ≤ i) → G' 217 i = G 217 i) ∧ G' 217 p = nI l ∧ ∀ j, j < c → G' 217 (q + j) = G 223 j := by
  unfold m_puts
  rw [if_pos (pu_in hp (by omega)), pu_letE, nI_clamp (by omega), h15]
  obtain ⟨v, r, K, rfl, B⟩ := pu_one (f := (fun (s2 : Int32 × (Nat → Nat → Int32)) => ((
    if s2.1 < nI c then (
      if am_in s2.1 264 = true then (
      if am_in (nI q + s2.1) 2008 = true then (
      am_let (am_up s2.2 217 (nI q + s2.1).toNatClampNeg (s2.2 223 s2.1.toNatClampNeg) : Nat → Nat → Int32) fun f3 =>
      am_let (s2.1 + 1 : Int32) fun t4 =>
      some (.inl (t4, f3))) else none) else none)
    else (
      some (.inr (s2.2 216 15, s2.2)))) : Option ((Int32 × (Nat → Nat → Int32)) ⊕ (Int32 × (Nat → Nat → Int32)))))) (fun j s => ∃ K, s = (nI j, K) ∧ (∀ a, a ≠ 217 → K a = G a) ∧ (∀ i, i ≠ p → (i < q ∨ q + c ≤ i) → K 217 i = G 217 i) ∧ K 217 p = nI l ∧ ∀ x, x < j → K 217 (q + x) = G 223 x)
    (fun v => ∃ K, v = (nI l, K) ∧ (∀ a, a ≠ 217 → K a = G a) ∧ (∀ i, i ≠ p → (i < q ∨ q + c ≤ i) → K 217 i = G 217 i) ∧ K 217 p = nI l ∧ ∀ x, x < c → K 217 (q + x) = G 223 x) c (s := (0, am_up G 217 p (nI l))) ⟨_, rfl, fun a ha => pu_up_ne _ _ ha, fun i h1 h2 => by rw [pu_up_row, pu_upd_ne _ _ h1], by rw [pu_up_row, pu_upd_eq], fun x hx => absurd hx (Nat.not_lt_zero _)⟩ (by
    rintro j s hj ⟨K, rfl, K1, K2, K3, K4⟩
    left
    have p0 : nI q + nI j = nI (q + j) := nI_add q j
    have a0 : am_in (nI j) 264 = true := pu_in (by omega) (by omega)
    have b0 : am_in (nI (q + j)) 2008 = true := pu_in (by omega) (by omega)
    have lt : nI j < nI c := nI_lt hj (by omega)
    simp only [lt, p0, a0, b0, if_true, pu_letE, nI_clamp (show j < 2 ^ 31 by omega), nI_clamp (show q + j < 2 ^ 31 by omega), K1 223 (show (223 : Nat) ≠ 217 by omega), nI_1]
    refine ⟨_, rfl, _, rfl, fun a ha => ?_, fun i h1 h2 => ?_, ?_, fun x hx => ?_⟩
    · rw [pu_up_ne _ _ ha]; exact K1 a ha
    · rw [pu_up_row, pu_upd_ne _ _ (by omega)]; exact K2 i h1 h2
    · rw [pu_up_row, pu_upd_ne _ _ (by omega)]; exact K3
    · rw [pu_up_row]
      by_cases d : x = j
      · rw [d, pu_upd_eq]
      · rw [pu_upd_ne _ _ (by omega)]; exact K4 x (by omega)) (by
    rintro s ⟨K, rfl, K1, K2, K3, K4⟩
    have lt : ¬ nI c < nI c := nI_nlt (Nat.le_refl _) (by omega)
    have e15 : K 216 15 = nI l := by rw [K1 216 (by omega)]; exact h15
    simp only [if_neg lt, e15]
    exact ⟨_, rfl, _, rfl, K1, K2, K3, K4⟩) (by omega)
  exact ⟨K, r, B⟩
theorem tx_q1 : ∀ q ∈ rl_W, q = (20, 0, 72, 1, 1) ∨ (q.1 < 20 ∨ 24 < q.1) ∧ (q.2.2.1 + q.2.2.2.2 * (q.2.2.2.1 - 1) < 72 ∨ 72 < q.2.2.1 ∧ (q.2.2.1 + q.2.2.2.2 * (q.2.2.2.1 - 1) < 343 ∨ 407 ≤ q.2.2.1)) := by decide +kernel
theorem tx_q2 : ∀ q ∈ rl_W, q = (25, 0, 73, 1, 1) ∨ q = (26, 0, 87, 256, 1) ∨ (q.1 < 25 ∨ 26 < q.1) ∧ (q.2.2.1 + q.2.2.2.2 * (q.2.2.2.1 - 1) < 73 ∨ 73 < q.2.2.1 ∧ (q.2.2.1 + q.2.2.2.2 * (q.2.2.2.1 - 1) < 87 ∨ 343 ≤ q.2.2.1)) := by decide +kernel
theorem tx_q3 : ∀ q ∈ rl_W, q = (2, 5, 74, 1, 1) ∨ q = (9, 0, 75, 12, 1) ∨ (q.1 < 9 ∨ 9 < q.1) ∧ (q.1 < 2 ∨ 2 < q.1 ∨ q.2.1 + q.2.2.2.1 ≤ 5) ∧ (q.2.2.1 + q.2.2.2.2 * (q.2.2.2.1 - 1) < 74 ∨ 87 ≤ q.2.2.1) := by decide +kernel
/-- the cells of the relation, all the others as they were -/
theorem tx_cells {f F : (Nat → Nat → Int32)} {w w' : Nat → Int32} (h : rl_T rl_W 0 f w) (hq : ∀ q ∈ rl_W, (∀ t, t < q.2.2.2.1 → F q.1 (q.2.1 + t) = w' (rl_ix q t)) ∨ ((∀ t, t < q.2.2.2.1 → F q.1 (q.2.1 + t) = f q.1 (q.2.1 + t)) ∧ ∀ i, q.2.2.1 ≤ i → i ≤ q.2.2.1 + q.2.2.2.2 * (q.2.2.2.1 - 1) → w' i = w i)) : rl_T rl_W 0 F w' := by
  intro q hm t ht
  rcases hq q hm with e | ⟨e1, e2⟩
  · exact e t ht
  · have i1 := wg_ix ht
    show F q.1 (q.2.1 + t) = _
    rw [e1 t ht, e2 _ i1.1 i1.2]
    exact h q hm t ht
