/-! WALK, NEAR, KEEPS: put into the world -/
theorem tx_takeW (F : (Nat → Nat → Int32)) : (∀ a, (a < 20 ∨ 24 < a) → xw_takeFrom_20_135 F a = F a) ∧ xw_takeFrom_20_135 F 20 0 = F 135 0 ∧ ∀ j, j < 16 → xw_takeFrom_20_135 F 21 j = F 136 j ∧ xw_takeFrom_20_135 F 22 j = F 137 j ∧ xw_takeFrom_20_135 F 23 j = F 138 j ∧ xw_takeFrom_20_135 F 24 j = F 139 j := by
  unfold xw_takeFrom_20_135
  simp only [pu_letE]
  refine ⟨fun a ha => ?_, ?_, fun j hj => ⟨?_, ?_, ?_, ?_⟩⟩
  · rw [pu_cp_ne _ (by omega), pu_cp_ne _ (by omega), pu_cp_ne _ (by omega), pu_cp_ne _ (by omega), pu_up_ne _ _ (by omega)]
  · rw [pu_cp_ne _ (by omega), pu_cp_ne _ (by omega), pu_cp_ne _ (by omega), pu_cp_ne _ (by omega), pu_up_row, pu_upd_eq]
  · rw [pu_cp_ne _ (by omega), pu_cp_ne _ (by omega), pu_cp_ne _ (by omega), pu_cp_row, pu_cpy_in hj, pu_up_ne _ _ (by omega)]
  · rw [pu_cp_ne _ (by omega), pu_cp_ne _ (by omega), pu_cp_row, pu_cpy_in hj, pu_cp_ne _ (by omega), pu_up_ne _ _ (by omega)]
  · rw [pu_cp_ne _ (by omega), pu_cp_row, pu_cpy_in hj, pu_cp_ne _ (by omega), pu_cp_ne _ (by omega), pu_up_ne _ _ (by omega)]
  · rw [pu_cp_row, pu_cpy_in hj, pu_cp_ne _ (by omega), pu_cp_ne _ (by omega), pu_cp_ne _ (by omega), pu_up_ne _ _ (by omega)]
theorem tx_takeN (F : (Nat → Nat → Int32)) : (∀ a, (a < 25 ∨ 26 < a) → xn_takeFrom_25_140 F a = F a) ∧ xn_takeFrom_25_140 F 25 0 = F 140 0 ∧ ∀ j, j < 256 → xn_takeFrom_25_140 F 26 j = F 141 j := by
  unfold xn_takeFrom_25_140
  simp only [pu_letE]
  refine ⟨fun a ha => ?_, ?_, fun j hj => ?_⟩
  · rw [pu_cp_ne _ (by omega), pu_up_ne _ _ (by omega)]
  · rw [pu_cp_ne _ (by omega), pu_up_row, pu_upd_eq]
  · rw [pu_cp_row, pu_cpy_in hj, pu_up_ne _ _ (by omega)]
/-- the class's world, from what was read -/
theorem tx_text1 {f g : (Nat → Nat → Int32)} (h : rl_Rel f g) : ∃ v F G, x_text 1 f = some (v, F) ∧ m_text 1 g = some (v, G) ∧ rl_Rel F G := by
  have i1 : (1 : Int32) = nI 1 := rfl
  have ex : x_text 1 f = (xs_readText_2 (nI 1) f).bind fun p1 => if p1.1 = (-1) then some ((-1), am_up p1.2 123 0 0) else some (p1.1, am_up (xw_takeFrom_20_135 (am_up p1.2 123 0 0)) 0 4 0) := by
    unfold x_text x_forgetPasts
    simp only [pu_letE]
    rfl
  rw [ex, show m_text 1 g = m_text (nI 1) g from rfl]
  rcases tx_rowsT h (k := 1) (by omega) (Inv := fun ng nw l F G => ∀ j, j < l → tx_wl ng nw F G j) (fun n b N ng nw => tx_RL1) (fun ng nw l F G F' G' H e1 e2 j hj => (H j hj).to (fun a h1 h2 => by rw [e1 a (by omega) (by omega)]) (fun t ht => by rw [e2])) (fun ng nw F G _ _ _ j hj => absurd hj (Nat.not_lt_zero _)) with ⟨F', G', r1, r2, r3, r4⟩ | ⟨F', G', l, ng, nw, r1, r2, r3, r4, r5, r6, r7, r8, r9, r10, r11, r12, r13⟩
  · rw [r1, r2, pu_bs]
    exact ⟨-1, am_up F' 123 0 0, _, rfl, rfl, tx_fail h r3 r4⟩
  · rw [r1, r2, pu_bs]
    dsimp only
    rw [if_neg (pu_neg1 (by omega))]
    obtain ⟨c0, c1, c2⟩ := tx_takeW (am_up (am_up (am_up (am_up F' 129 0 (nI l)) 135 0 (nI l)) 140 0 (nI l)) 123 0 0)
    have m4 : (4 : Int32) * nI l = nI (4 * l) := by rw [show (4 : Int32) = nI 4 from rfl, pk_mul]
    obtain ⟨G5, m1, m2, m3, m5, m6⟩ := tx_putR (G := am_up (am_up G' 216 16 0) 216 4 0) (p := 72) (q := 343) (c := 4 * l) (l := l) (by omega) (by omega) (by omega) (by omega) (by rw [pu_up_row, pu_upd_ne _ _ (by omega), pu_up_row, pu_upd_ne _ _ (by omega)]; exact r6)
    have em : m_putsText (nI 1) (am_up G' 216 16 0) = some (nI l, G5) := by
      unfold m_putsText m_forgets
      rw [if_neg (show ¬ nI 1 = (0 : Int32) by decide), if_neg (show ¬ nI 1 = (2 : Int32) by decide), pu_letE, pu_letE, if_pos (show nI 1 = (1 : Int32) from rfl)]
      have e15 : am_up (am_up G' 216 16 0) 216 4 0 216 15 = nI l := by rw [pu_up_row, pu_upd_ne _ _ (by omega), pu_up_row, pu_upd_ne _ _ (by omega)]; exact r6
      rw [e15, m4, show (72 : Int32) = nI 72 from rfl, show (343 : Int32) = nI 343 from rfl, m1]
      rfl
    rw [em]
    refine ⟨nI l, _, G5, rfl, rfl, ?_⟩
    have k1 : ∀ a, (a < 20 ∨ 24 < a) → a ≠ 0 → a ≠ 123 → a ≠ 129 → a ≠ 135 → a ≠ 140 → am_up (xw_takeFrom_20_135 (am_up (am_up (am_up (am_up F' 129 0 (nI l)) 135 0 (nI l)) 140 0 (nI l)) 123 0 0)) 0 4 0 a = F' a := by
      intro a h1 h0 h2 h3 h4 h5
      rw [pu_up_ne _ _ h0, c0 a h1, pu_up_ne _ _ h2, pu_up_ne _ _ h5, pu_up_ne _ _ h4, pu_up_ne _ _ h3]
    have k2 : ∀ a, (a < 20 ∨ 24 < a) → a ≠ 0 → (a < 123 ∨ a = 124 ∨ 142 < a) → am_up (xw_takeFrom_20_135 (am_up (am_up (am_up (am_up F' 129 0 (nI l)) 135 0 (nI l)) 140 0 (nI l)) 123 0 0)) 0 4 0 a = f a := by
      intro a h1 h0 h2
      rw [k1 a h1 h0 (by omega) (by omega) (by omega) (by omega)]
      exact r3.1 a h2
    have k0 : ∀ j, j ≠ 4 → am_up (xw_takeFrom_20_135 (am_up (am_up (am_up (am_up F' 129 0 (nI l)) 135 0 (nI l)) 140 0 (nI l)) 123 0 0)) 0 4 0 0 j = f 0 j := by
      intro j hj
      rw [pu_up_row, pu_upd_ne _ _ hj, c0 0 (by omega), pu_up_ne _ _ (by omega), pu_up_ne _ _ (by omega), pu_up_ne _ _ (by omega), pu_up_ne _ _ (by omega), r3.1 0 (by omega)]
    have k04 : am_up (xw_takeFrom_20_135 (am_up (am_up (am_up (am_up F' 129 0 (nI l)) 135 0 (nI l)) 140 0 (nI l)) 123 0 0)) 0 4 0 0 4 = 0 := by rw [pu_up_row, pu_upd_eq]
    have k123 : am_up (xw_takeFrom_20_135 (am_up (am_up (am_up (am_up F' 129 0 (nI l)) 135 0 (nI l)) 140 0 (nI l)) 123 0 0)) 0 4 0 123 0 = 0 := by rw [pu_up_ne _ _ (by omega), c0 123 (by omega), pu_up_row, pu_upd_eq]
    have k20 : am_up (xw_takeFrom_20_135 (am_up (am_up (am_up (am_up F' 129 0 (nI l)) 135 0 (nI l)) 140 0 (nI l)) 123 0 0)) 0 4 0 20 0 = nI l := by
      rw [pu_up_ne _ _ (by omega), c1, pu_up_ne _ _ (by omega), pu_up_ne _ _ (by omega), pu_up_row, pu_upd_eq]
    have kL : ∀ j, j < 16 → am_up (xw_takeFrom_20_135 (am_up (am_up (am_up (am_up F' 129 0 (nI l)) 135 0 (nI l)) 140 0 (nI l)) 123 0 0)) 0 4 0 21 j = F' 136 j ∧ am_up (xw_takeFrom_20_135 (am_up (am_up (am_up (am_up F' 129 0 (nI l)) 135 0 (nI l)) 140 0 (nI l)) 123 0 0)) 0 4 0 22 j = F' 137 j ∧ am_up (xw_takeFrom_20_135 (am_up (am_up (am_up (am_up F' 129 0 (nI l)) 135 0 (nI l)) 140 0 (nI l)) 123 0 0)) 0 4 0 23 j = F' 138 j ∧ am_up (xw_takeFrom_20_135 (am_up (am_up (am_up (am_up F' 129 0 (nI l)) 135 0 (nI l)) 140 0 (nI l)) 123 0 0)) 0 4 0 24 j = F' 139 j := by
      intro j hj
      obtain ⟨x1, x2, x3, x4⟩ := c2 j hj
      have y : ∀ a, 136 ≤ a → a ≤ 139 → am_up (am_up (am_up (am_up F' 129 0 (nI l)) 135 0 (nI l)) 140 0 (nI l)) 123 0 0 a = F' a := by
        intro a a1 a2
        rw [pu_up_ne _ _ (by omega), pu_up_ne _ _ (by omega), pu_up_ne _ _ (by omega), pu_up_ne _ _ (by omega)]
      rw [y 136 (by omega) (by omega)] at x1
      rw [y 137 (by omega) (by omega)] at x2
      rw [y 138 (by omega) (by omega)] at x3
      rw [y 139 (by omega) (by omega)] at x4
      rw [pu_up_ne _ _ (show (21 : Nat) ≠ 0 by omega), pu_up_ne _ _ (show (22 : Nat) ≠ 0 by omega), pu_up_ne _ _ (show (23 : Nat) ≠ 0 by omega), pu_up_ne _ _ (show (24 : Nat) ≠ 0 by omega)]
      exact ⟨x1, x2, x3, x4⟩
    generalize am_up (xw_takeFrom_20_135 (am_up (am_up (am_up (am_up F' 129 0 (nI l)) 135 0 (nI l)) 140 0 (nI l)) 123 0 0)) 0 4 0 = F5 at k1 k2 k0 k04 k123 k20 kL ⊢
    clear c0 c1 c2 ex
    have g217 : ∀ i, i ≠ 72 → (i < 343 ∨ 407 ≤ i) → G5 217 i = g 217 i := fun i h1 h2 => by rw [m3 i h1 (by omega), pu_up_ne _ _ (by omega), pu_up_ne _ _ (by omega)]; rw [r3.2.1 217 (by omega) (by omega) (by omega) (by omega)]
    have gO : ∀ a, a ≠ 216 → a ≠ 217 → a ≠ 221 → a ≠ 222 → a ≠ 223 → G5 a = g a := fun a h1 h2 h3 h4 h5 => by rw [m2 a h2, pu_up_ne _ _ h1, pu_up_ne _ _ h1]; exact r3.2.1 a h1 h3 h4 h5
    have g216 : ∀ j, j ≠ 16 → j ≠ 4 → G5 216 j = G' 216 j := fun j hj h4 => by rw [m2 216 (by omega), pu_up_row, pu_upd_ne _ _ h4, pu_up_row, pu_upd_ne _ _ hj]
    have hW := h.1
    refine tx_rel h (fun a a1 a2 => k2 a (by omega) (by omega) (by omega)) (fun a a1 => k2 a (by omega) (by omega) (by omega)) (k0 2 (by omega)) k123 (gO 218 (by omega) (by omega) (by omega) (by omega) (by omega)) ((g216 5 (by omega) (by omega)).trans (r3.2.2 5 (by omega))) (by rw [m2 216 (by omega), pu_up_row, pu_upd_ne _ _ (by omega), pu_up_row, pu_upd_eq]) ?_ ?_ ?_ ?_
    · rw [k1 128 (by omega) (by omega) (by omega) (by omega) (by omega) (by omega), g216 23 (by omega) (by omega), r8]; exact r4.1
    · rw [k1 128 (by omega) (by omega) (by omega) (by omega) (by omega) (by omega), g216 25 (by omega) (by omega), r9]; exact r4.2
    · refine ⟨tx_cells hW.1 (fun q hq => ?_), wg_C hW.2.1 (fun i hi => g217 i (by omega) (by omega)), wg_K hW.2.2.1 (fun i h1 h2 h3 => g217 i (by omega) (by omega)), wg_N hW.2.2.2.1 (fun i h1 h2 => g217 i (by omega) (by omega)), ?_, wg_T hW.2.2.2.2.2.1 (fun i h1 h2 => g217 i (by omega) (by omega)), wg_Y hW.2.2.2.2.2.2 (fun i hi => g217 i (by omega) (by omega)) (fun a h1 h2 => k2 a (by omega) (by omega) (by omega))⟩
      · have hlo := rl_lo q hq
        rcases tx_q1 q hq with rfl | ⟨d1, d2⟩
        · left
          intro t ht
          have ht : t < 1 := ht
          have t0 : t = 0 := by omega
          subst t0
          show F5 20 0 = G5 217 72
          rw [k20, m5]
        · right
          exact ⟨fun t _ => by rw [k2 q.1 d1 (by omega) (by omega)], fun i i1 i2 => g217 i (by omega) (by omega)⟩
      · refine ⟨l, r5, m5, fun i hi => ?_⟩
        obtain ⟨a, gl, d, x1, x2, x3, x4, x5, x6, x7, x8, x9, x10, x11, x12⟩ := r7 i hi
        obtain ⟨y1, y2, y3, y4⟩ := kL i (by omega)
        have z : ∀ t, t < 4 → G5 217 (343 + (4 * i + t)) = G' 223 (4 * i + t) := by
          intro t ht
          rw [m6 (4 * i + t) (by omega), pu_up_ne _ _ (by omega), pu_up_ne _ _ (by omega)]
        refine ⟨a, gl, d, y1.trans x1, (z 0 (by omega)).trans x2, x3, y2.trans x4, ?_, ⟨ng, by rw [g217 69 (by omega) (by omega)]; exact r12, r10, x6⟩, y3.trans x7, ?_, x9, x10, fun e => ?_, fun e => ?_⟩
        · rw [show 344 + 4 * i = 343 + (4 * i + 1) by omega, z 1 (by omega)]; exact x5
        · rw [show 345 + 4 * i = 343 + (4 * i + 2) by omega, z 2 (by omega)]; exact x8
        · obtain ⟨v, v1, v2, v3⟩ := x11 e
          exact ⟨v, v1, y4.trans v2, by rw [show 346 + 4 * i = 343 + (4 * i + 3) by omega, z 3 (by omega)]; exact v3⟩
        · obtain ⟨v, v1, v2, v3⟩ := x12 e
          exact ⟨v, y4.trans v2, by rw [show 346 + 4 * i = 343 + (4 * i + 3) by omega, z 3 (by omega)]; exact v3, nw, by rw [g217 70 (by omega) (by omega)]; exact r13, r11, v1⟩
    · exact h.2.2.1.none (k2 109 (by omega) (by omega) (by omega)) k04 (by rw [m2 216 (by omega), pu_up_row, pu_upd_eq])
theorem tx_text2 {f g : (Nat → Nat → Int32)} (h : rl_Rel f g) : ∃ v F G, x_text 2 f = some (v, F) ∧ m_text 2 g = some (v, G) ∧ rl_Rel F G := by
  have i1 : (2 : Int32) = nI 2 := rfl
  have ex : x_text 2 f = (xs_readText_2 2 f).bind fun p1 => if p1.1 = (-1) then some ((-1), am_up p1.2 123 0 0) else some (p1.1, xn_takeFrom_25_140 (am_up p1.2 123 0 0)) := by
    unfold x_text x_forgetPasts
    simp only [pu_letE]
    rfl
  rw [ex, i1]
  rcases tx_rowsT h (k := 2) (by omega) (Inv := fun ng nw l F G => tx_ne F G) (fun n b N ng nw => tx_RL2) (fun ng nw l F G F' G' H e1 e2 => by
    unfold tx_ne
    rw [e1 141 (by omega) (by omega), e2]
    exact H) (fun ng nw F G e1 e2 e3 => ⟨fun j hj => ⟨0, by omega, e1 j hj, e3 j hj⟩, fun x y hx hy => by rw [e3 _ (by omega), e3 _ (by omega)]⟩) with ⟨F', G', r1, r2, r3, r4⟩ | ⟨F', G', l, ng, nw, r1, r2, r3, r4, r5, r6, r7, r8, r9, r10, r11, r12, r13⟩
  · rw [r1, r2, pu_bs]
    exact ⟨-1, am_up F' 123 0 0, _, rfl, rfl, tx_fail h r3 r4⟩
  · rw [r1, r2, pu_bs]
    dsimp only
    rw [if_neg (pu_neg1 (by omega))]
    obtain ⟨c0, c1, c2⟩ := tx_takeN (am_up (am_up (am_up (am_up F' 129 0 (nI l)) 135 0 (nI l)) 140 0 (nI l)) 123 0 0)
    obtain ⟨G5, m1, m2, m3, m5, m6⟩ := tx_putR (G := am_up G' 216 16 0) (p := 73) (q := 87) (c := 256) (l := l) (by omega) (by omega) (by omega) (by omega) (by rw [pu_up_row, pu_upd_ne _ _ (by omega)]; exact r6)
    have em : m_putsText (nI 2) (am_up G' 216 16 0) = some (nI l, G5) := by
      unfold m_putsText
      rw [if_neg (show ¬ nI 2 = (0 : Int32) by decide), if_pos (show nI 2 = (2 : Int32) from rfl), show (73 : Int32) = nI 73 from rfl, show (87 : Int32) = nI 87 from rfl, show (256 : Int32) = nI 256 from rfl, m1]
      rfl
    rw [em]
    refine ⟨nI l, _, G5, rfl, rfl, ?_⟩
    have k1 : ∀ a, (a < 25 ∨ 26 < a) → a ≠ 123 → a ≠ 129 → a ≠ 135 → a ≠ 140 → xn_takeFrom_25_140 (am_up (am_up (am_up (am_up F' 129 0 (nI l)) 135 0 (nI l)) 140 0 (nI l)) 123 0 0) a = F' a := by
      intro a h1 h2 h3 h4 h5
      rw [c0 a h1, pu_up_ne _ _ h2, pu_up_ne _ _ h5, pu_up_ne _ _ h4, pu_up_ne _ _ h3]
    have k2 : ∀ a, (a < 25 ∨ 26 < a) → (a < 123 ∨ a = 124 ∨ 142 < a) → xn_takeFrom_25_140 (am_up (am_up (am_up (am_up F' 129 0 (nI l)) 135 0 (nI l)) 140 0 (nI l)) 123 0 0) a = f a := by
      intro a h1 h2
      rw [k1 a h1 (by omega) (by omega) (by omega) (by omega)]
      exact r3.1 a h2
    have k123 : xn_takeFrom_25_140 (am_up (am_up (am_up (am_up F' 129 0 (nI l)) 135 0 (nI l)) 140 0 (nI l)) 123 0 0) 123 0 = 0 := by rw [c0 123 (by omega), pu_up_row, pu_upd_eq]
    have k20 : xn_takeFrom_25_140 (am_up (am_up (am_up (am_up F' 129 0 (nI l)) 135 0 (nI l)) 140 0 (nI l)) 123 0 0) 25 0 = nI l := by
      rw [c1, pu_up_ne _ _ (by omega), pu_up_row, pu_upd_eq]
    have kL : ∀ j, j < 256 → xn_takeFrom_25_140 (am_up (am_up (am_up (am_up F' 129 0 (nI l)) 135 0 (nI l)) 140 0 (nI l)) 123 0 0) 26 j = F' 141 j := by
      intro j hj
      rw [c2 j hj, pu_up_ne _ _ (by omega), pu_up_ne _ _ (by omega), pu_up_ne _ _ (by omega), pu_up_ne _ _ (by omega)]
    generalize xn_takeFrom_25_140 (am_up (am_up (am_up (am_up F' 129 0 (nI l)) 135 0 (nI l)) 140 0 (nI l)) 123 0 0) = F5 at k1 k2 k123 k20 kL ⊢
    clear c0 c1 c2 ex
    have g217 : ∀ i, i ≠ 73 → (i < 87 ∨ 343 ≤ i) → G5 217 i = g 217 i := fun i h1 h2 => by rw [m3 i h1 (by omega), pu_up_ne _ _ (by omega)]; rw [r3.2.1 217 (by omega) (by omega) (by omega) (by omega)]
    have gO : ∀ a, a ≠ 216 → a ≠ 217 → a ≠ 221 → a ≠ 222 → a ≠ 223 → G5 a = g a := fun a h1 h2 h3 h4 h5 => by rw [m2 a h2, pu_up_ne _ _ h1]; exact r3.2.1 a h1 h3 h4 h5
    have g216 : ∀ j, j ≠ 16 → G5 216 j = G' 216 j := fun j hj => by rw [m2 216 (by omega), pu_up_row, pu_upd_ne _ _ hj]
    have hG : ∀ j, j < 256 → G5 217 (87 + j) = G' 223 j := fun j hj => by rw [m6 j hj, pu_up_ne _ _ (by omega)]
    have hW := h.1
    refine tx_rel h (fun a a1 a2 => k2 a (by omega) (by omega)) (fun a a1 => k2 a (by omega) (by omega)) (by rw [k2 0 (by omega) (by omega)]) k123 (gO 218 (by omega) (by omega) (by omega) (by omega) (by omega)) ((g216 5 (by omega)).trans (r3.2.2 5 (by omega))) (by rw [m2 216 (by omega), pu_up_row, pu_upd_eq]) ?_ ?_ ?_ ?_
    · rw [k1 128 (by omega) (by omega) (by omega) (by omega) (by omega), g216 23 (by omega), r8]; exact r4.1
    · rw [k1 128 (by omega) (by omega) (by omega) (by omega) (by omega), g216 25 (by omega), r9]; exact r4.2
    · refine ⟨tx_cells hW.1 (fun q hq => ?_), wg_C hW.2.1 (fun i hi => g217 i (by omega) (by omega)), wg_K hW.2.2.1 (fun i h1 h2 h3 => g217 i (by omega) (by omega)), ⟨fun j hj => ?_, fun a b ha hb => ?_⟩, wg_W hW.2.2.2.2.1 (fun i h1 h2 h3 => g217 i (by omega) (by omega)) (fun a h1 h2 => k2 a (by omega) (by omega)), wg_T hW.2.2.2.2.2.1 (fun i h1 h2 => g217 i (by omega) (by omega)), wg_Y hW.2.2.2.2.2.2 (fun i hi => g217 i (by omega) (by omega)) (fun a h1 h2 => k2 a (by omega) (by omega))⟩
      · have hlo := rl_lo q hq
        rcases tx_q2 q hq with rfl | rfl | ⟨d1, d2⟩
        · left
          intro t ht
          have ht : t < 1 := ht
          have t0 : t = 0 := by omega
          subst t0
          show F5 25 0 = G5 217 73
          rw [k20, m5]
        · left
          intro t ht
          have ht : t < 256 := ht
          show F5 26 (0 + t) = G5 217 (87 + 1 * t)
          rw [Nat.zero_add, Nat.one_mul, kL t ht, hG t ht]
          obtain ⟨z, _, z1, z2⟩ := r7.1 t ht
          rw [z1, z2]
        · right
          exact ⟨fun t _ => by rw [k2 q.1 (by omega) (by omega)], fun i i1 i2 => g217 i (by omega) (by omega)⟩
      · obtain ⟨z, z0, z1, z2⟩ := r7.1 j hj
        exact ⟨z, z0, (hG j hj).trans z2⟩
      · rw [hG _ (by omega), hG _ (by omega)]
        exact r7.2 a b ha hb
    · exact tx_Ps h.2.2.1 (k2 109 (by omega) (by omega)) (by rw [k2 0 (by omega) (by omega)]) ((g216 4 (by omega)).trans (r3.2.2 4 (by omega))) (fun a ha => k2 a (by omega) (by omega)) (gO 219 (by omega) (by omega) (by omega) (by omega) (by omega)) (fun i h1 h2 h3 => g217 i (by omega) (by omega))
theorem tx_text3 {f g : (Nat → Nat → Int32)} (h : rl_Rel f g) : ∃ v F G, x_text 3 f = some (v, F) ∧ m_text 3 g = some (v, G) ∧ rl_Rel F G := by
  have i1 : (3 : Int32) = nI 3 := rfl
  have ex : x_text 3 f = (xs_readText_2 3 f).bind fun p1 => if p1.1 = (-1) then some ((-1), am_up p1.2 123 0 0) else some (p1.1, am_up (am_up (am_cp (am_up p1.2 123 0 0) 142 0 9 0 12) 2 5 p1.1) 0 4 0) := by
    unfold x_text x_forgetPasts
    simp only [pu_letE]
    rfl
  rw [ex, i1]
  rcases tx_rowsT h (k := 3) (by omega) (Inv := fun ng nw l F G => tx_ke nw F G) (fun n b N ng nw => tx_RL3) (fun ng nw l F G F' G' H e1 e2 => by
    unfold tx_ke
    rw [e1 142 (by omega) (by omega), e2]
    exact H) (fun ng nw F G e1 e2 e3 j hj => ⟨0, by omega, e2 j hj, e3 j (by omega), fun _ => rfl⟩) with ⟨F', G', r1, r2, r3, r4⟩ | ⟨F', G', l, ng, nw, r1, r2, r3, r4, r5, r6, r7, r8, r9, r10, r11, r12, r13⟩
  · rw [r1, r2, pu_bs]
    exact ⟨-1, am_up F' 123 0 0, _, rfl, rfl, tx_fail h r3 r4⟩
  · rw [r1, r2, pu_bs]
    dsimp only
    rw [if_neg (pu_neg1 (by omega))]
    obtain ⟨G5, m1, m2, m3, m5, m6⟩ := tx_putR (G := am_up (am_up G' 216 16 0) 216 4 0) (p := 74) (q := 75) (c := 12) (l := l) (by omega) (by omega) (by omega) (by omega) (by rw [pu_up_row, pu_upd_ne _ _ (by omega), pu_up_row, pu_upd_ne _ _ (by omega)]; exact r6)
    have em : m_putsText (nI 3) (am_up G' 216 16 0) = some (nI l, G5) := by
      unfold m_putsText m_forgets
      rw [if_neg (show ¬ nI 3 = (0 : Int32) by decide), if_neg (show ¬ nI 3 = (2 : Int32) by decide), pu_letE, pu_letE, if_neg (show ¬ nI 3 = (1 : Int32) by decide), show (74 : Int32) = nI 74 from rfl, show (75 : Int32) = nI 75 from rfl, show (12 : Int32) = nI 12 from rfl, m1]
      rfl
    rw [em]
    refine ⟨nI l, _, G5, rfl, rfl, ?_⟩
    have k1 : ∀ a, a ≠ 0 → a ≠ 2 → a ≠ 9 → a ≠ 123 → a ≠ 129 → a ≠ 135 → a ≠ 140 → am_up (am_up (am_cp (am_up (am_up (am_up (am_up F' 129 0 (nI l)) 135 0 (nI l)) 140 0 (nI l)) 123 0 0) 142 0 9 0 12) 2 5 (nI l)) 0 4 0 a = F' a := by
      intro a h0 h6 h9 h2 h3 h4 h5
      rw [pu_up_ne _ _ h0, pu_up_ne _ _ h6, pu_cp_ne _ h9, pu_up_ne _ _ h2, pu_up_ne _ _ h5, pu_up_ne _ _ h4, pu_up_ne _ _ h3]
    have k2 : ∀ a, a ≠ 0 → a ≠ 2 → a ≠ 9 → (a < 123 ∨ a = 124 ∨ 142 < a) → am_up (am_up (am_cp (am_up (am_up (am_up (am_up F' 129 0 (nI l)) 135 0 (nI l)) 140 0 (nI l)) 123 0 0) 142 0 9 0 12) 2 5 (nI l)) 0 4 0 a = f a := by
      intro a h0 h6 h9 h2
      rw [k1 a h0 h6 h9 (by omega) (by omega) (by omega) (by omega)]
      exact r3.1 a h2
    have k0 : ∀ j, j ≠ 4 → am_up (am_up (am_cp (am_up (am_up (am_up (am_up F' 129 0 (nI l)) 135 0 (nI l)) 140 0 (nI l)) 123 0 0) 142 0 9 0 12) 2 5 (nI l)) 0 4 0 0 j = f 0 j := by
      intro j hj
      rw [pu_up_row, pu_upd_ne _ _ hj, pu_up_ne _ _ (by omega), pu_cp_ne _ (by omega), pu_up_ne _ _ (by omega), pu_up_ne _ _ (by omega), pu_up_ne _ _ (by omega), pu_up_ne _ _ (by omega), r3.1 0 (by omega)]
    have k04 : am_up (am_up (am_cp (am_up (am_up (am_up (am_up F' 129 0 (nI l)) 135 0 (nI l)) 140 0 (nI l)) 123 0 0) 142 0 9 0 12) 2 5 (nI l)) 0 4 0 0 4 = 0 := by rw [pu_up_row, pu_upd_eq]
    have k123 : am_up (am_up (am_cp (am_up (am_up (am_up (am_up F' 129 0 (nI l)) 135 0 (nI l)) 140 0 (nI l)) 123 0 0) 142 0 9 0 12) 2 5 (nI l)) 0 4 0 123 0 = 0 := by rw [pu_up_ne _ _ (by omega), pu_up_ne _ _ (by omega), pu_cp_ne _ (by omega), pu_up_row, pu_upd_eq]
    have k25 : am_up (am_up (am_cp (am_up (am_up (am_up (am_up F' 129 0 (nI l)) 135 0 (nI l)) 140 0 (nI l)) 123 0 0) 142 0 9 0 12) 2 5 (nI l)) 0 4 0 2 5 = nI l := by rw [pu_up_ne _ _ (by omega), pu_up_row, pu_upd_eq]
    have k2j : ∀ j, j ≠ 5 → am_up (am_up (am_cp (am_up (am_up (am_up (am_up F' 129 0 (nI l)) 135 0 (nI l)) 140 0 (nI l)) 123 0 0) 142 0 9 0 12) 2 5 (nI l)) 0 4 0 2 j = f 2 j := by
      intro j hj
      rw [pu_up_ne _ _ (by omega), pu_up_row, pu_upd_ne _ _ hj, pu_cp_ne _ (by omega), pu_up_ne _ _ (by omega), pu_up_ne _ _ (by omega), pu_up_ne _ _ (by omega), pu_up_ne _ _ (by omega), r3.1 2 (by omega)]
    have k9 : ∀ j, j < 12 → am_up (am_up (am_cp (am_up (am_up (am_up (am_up F' 129 0 (nI l)) 135 0 (nI l)) 140 0 (nI l)) 123 0 0) 142 0 9 0 12) 2 5 (nI l)) 0 4 0 9 j = F' 142 j := by
      intro j hj
      rw [pu_up_ne _ _ (by omega), pu_up_ne _ _ (by omega), pu_cp_row, pu_cpy_in hj, pu_up_ne _ _ (by omega), pu_up_ne _ _ (by omega), pu_up_ne _ _ (by omega), pu_up_ne _ _ (by omega)]
    generalize am_up (am_up (am_cp (am_up (am_up (am_up (am_up F' 129 0 (nI l)) 135 0 (nI l)) 140 0 (nI l)) 123 0 0) 142 0 9 0 12) 2 5 (nI l)) 0 4 0 = F5 at k1 k2 k0 k04 k123 k25 k2j k9 ⊢
    clear ex
    have g217 : ∀ i, (i < 74 ∨ 87 ≤ i) → G5 217 i = g 217 i := fun i h1 => by rw [m3 i (by omega) (by omega), pu_up_ne _ _ (by omega), pu_up_ne _ _ (by omega)]; rw [r3.2.1 217 (by omega) (by omega) (by omega) (by omega)]
    have gO : ∀ a, a ≠ 216 → a ≠ 217 → a ≠ 221 → a ≠ 222 → a ≠ 223 → G5 a = g a := fun a h1 h2 h3 h4 h5 => by rw [m2 a h2, pu_up_ne _ _ h1, pu_up_ne _ _ h1]; exact r3.2.1 a h1 h3 h4 h5
    have g216 : ∀ j, j ≠ 16 → j ≠ 4 → G5 216 j = G' 216 j := fun j hj h4 => by rw [m2 216 (by omega), pu_up_row, pu_upd_ne _ _ h4, pu_up_row, pu_upd_ne _ _ hj]
    have hG : ∀ j, j < 12 → G5 217 (75 + j) = G' 223 j := fun j hj => by rw [m6 j hj, pu_up_ne _ _ (by omega), pu_up_ne _ _ (by omega)]
    have hW := h.1
    refine tx_rel h (fun a a1 a2 => k2 a (by omega) (by omega) (by omega) (by omega)) (fun a a1 => k2 a (by omega) (by omega) (by omega) (by omega)) (k0 2 (by omega)) k123 (gO 218 (by omega) (by omega) (by omega) (by omega) (by omega)) ((g216 5 (by omega) (by omega)).trans (r3.2.2 5 (by omega))) (by rw [m2 216 (by omega), pu_up_row, pu_upd_ne _ _ (by omega), pu_up_row, pu_upd_eq]) ?_ ?_ ?_ ?_
    · rw [k1 128 (by omega) (by omega) (by omega) (by omega) (by omega) (by omega) (by omega), g216 23 (by omega) (by omega), r8]; exact r4.1
    · rw [k1 128 (by omega) (by omega) (by omega) (by omega) (by omega) (by omega) (by omega), g216 25 (by omega) (by omega), r9]; exact r4.2
    · refine ⟨tx_cells hW.1 (fun q hq => ?_), wg_C hW.2.1 (fun i hi => g217 i (by omega)), fun i hi => ?_, wg_N hW.2.2.2.1 (fun i h1 h2 => g217 i (by omega)), wg_W hW.2.2.2.2.1 (fun i h1 h2 h3 => g217 i (by omega)) (fun a h1 h2 => k2 a (by omega) (by omega) (by omega) (by omega)), wg_T hW.2.2.2.2.2.1 (fun i h1 h2 => g217 i (by omega)), wg_Y hW.2.2.2.2.2.2 (fun i hi => g217 i (by omega)) (fun a h1 h2 => k2 a (by omega) (by omega) (by omega) (by omega))⟩
      · have hlo := rl_lo q hq
        rcases tx_q3 q hq with rfl | rfl | ⟨d1, d2, d3⟩
        · left
          intro t ht
          have ht : t < 1 := ht
          have t0 : t = 0 := by omega
          subst t0
          show F5 2 5 = G5 217 74
          rw [k25, m5]
        · left
          intro t ht
          have ht : t < 12 := ht
          show F5 9 (0 + t) = G5 217 (75 + 1 * t)
          rw [Nat.zero_add, Nat.one_mul, k9 t ht, hG t ht]
          obtain ⟨z, _, z1, z2, _⟩ := r7 t ht
          rw [z1, z2]
        · right
          refine ⟨fun t ht => ?_, fun i i1 i2 => g217 i (by omega)⟩
          by_cases d : q.1 = 2
          · rw [d, k2j _ (by omega)]
          · rw [k2 q.1 (by omega) d (by omega) (by omega)]
      · obtain ⟨z, z0, z1, z2, z3⟩ := r7 i hi
        refine ⟨z, z0, (hG i hi).trans z2, fun m e1 e2 e3 => z3 ?_⟩
        rw [g217 70 (by omega), r13] at e1
        have := pu_nIinj (by omega) (by omega) e1
        omega
    · exact h.2.2.1.none (k2 109 (by omega) (by omega) (by omega) (by omega)) k04 (by rw [m2 216 (by omega), pu_up_row, pu_upd_eq])
theorem sm_text (x1 : Int32) (f g : (Nat → Nat → Int32)) (h : rl_Rel f g) : ∃ (v : Int32) (f1 : (Nat → Nat → Int32)) (g1 : (Nat → Nat → Int32)), x_text x1 f = some (v, f1) ∧ m_text x1 g = some (v, g1) ∧ rl_Rel f1 g1 := by
  by_cases c0 : x1 = 0
  · rw [c0]; exact tx_text0 h
  by_cases c1 : x1 = 1
  · rw [c1]; exact tx_text1 h
  by_cases c2 : x1 = 2
  · rw [c2]; exact tx_text2 h
  by_cases c3 : x1 = 3
  · rw [c3]; exact tx_text3 h
  have hn : m_isIn x1 0 3 = false := by
    rw [pu_isIn]
    rcases pu_within_cases x1 (lo := 0) (hi := 3) 0 3 with ⟨ca, a, a1, a2, e⟩ | ca
    · exfalso
      rcases (show a = 0 ∨ a = 1 ∨ a = 2 ∨ a = 3 by omega) with rfl | rfl | rfl | rfl
      · exact c0 e
      · exact c1 e
      · exact c2 e
      · exact c3 e
    · exact ca
  have hx : xs_readText_2 x1 f = some (-1, am_up (am_up f 128 4 0) 128 5 (-1)) := by
    unfold xs_readText_2
    rw [pu_letE, pu_letE]
    by_cases d : x1 < 0
    · rw [if_pos d]
    · rw [if_neg d]
      by_cases d2 : (3 : Int32) < x1
      · rw [if_pos d2]
      · exfalso
        unfold m_isIn at hn
        rw [if_neg d, if_neg d2] at hn
        cases hn
  have hm : m_text x1 g = some (-1, am_up (am_up (am_up g 216 23 0) 216 25 (-1)) 216 16 0) := by
    unfold m_text
    simp only [pu_letE]
    rw [hn, if_neg Bool.false_ne_true]
  refine ⟨-1, am_up (am_up (am_up f 128 4 0) 128 5 (-1)) 123 0 0, _, ?_, hm, ?_⟩
  · unfold x_text
    rw [hx, pu_bs, pu_letE]
    rfl
  · have e217 : am_up (am_up (am_up g 216 23 0) 216 25 (-1)) 216 16 0 217 = g 217 := by rw [pu_up_ne _ _ (by omega), pu_up_ne _ _ (by omega), pu_up_ne _ _ (by omega)]
    have eG : ∀ a, a ≠ 216 → am_up (am_up (am_up g 216 23 0) 216 25 (-1)) 216 16 0 a = g a := fun a ha => by rw [pu_up_ne _ _ ha, pu_up_ne _ _ ha, pu_up_ne _ _ ha]
    have eF : ∀ a, a ≠ 123 → a ≠ 128 → am_up (am_up (am_up f 128 4 0) 128 5 (-1)) 123 0 0 a = f a := fun a h1 h2 => by rw [pu_up_ne _ _ h1, pu_up_ne _ _ h2, pu_up_ne _ _ h2]
    have e6 : ∀ j, j ≠ 23 → j ≠ 25 → j ≠ 16 → am_up (am_up (am_up g 216 23 0) 216 25 (-1)) 216 16 0 216 j = g 216 j := fun j h1 h2 h3 => by rw [pu_up_row, pu_upd_ne _ _ h3, pu_up_row, pu_upd_ne _ _ h2, pu_up_row, pu_upd_ne _ _ h1]
    refine tx_rel h (fun a a1 a2 => eF a (by omega) (by omega)) (fun a a1 => eF a (by omega) (by omega)) (by rw [eF 0 (by omega) (by omega)]) (by rw [pu_up_row, pu_upd_eq]) (eG 218 (by omega)) (e6 5 (by omega) (by omega) (by omega)) (by rw [pu_up_row, pu_upd_eq]) ?_ ?_ ?_ ?_
    · rw [pu_up_ne _ _ (by omega), pu_up_row, pu_upd_ne _ _ (by omega), pu_up_row, pu_upd_eq, pu_up_row, pu_upd_ne _ _ (by omega), pu_up_row, pu_upd_ne _ _ (by omega), pu_up_row, pu_upd_eq]
    · rw [pu_up_ne _ _ (by omega), pu_up_row, pu_upd_eq, pu_up_row, pu_upd_ne _ _ (by omega), pu_up_row, pu_upd_eq]
    · rw [e217]
      exact h.1.congr fun a a1 a2 => eF (a + 0) (by omega) (by omega)
    · exact h.2.2.1.same (eF 109 (by omega) (by omega)) (by rw [eF 0 (by omega) (by omega)]) (e6 4 (by omega) (by omega) (by omega)) (fun a ha => eF a (by omega) (by omega)) (eG 219 (by omega)) (fun i _ _ => by rw [e217])
