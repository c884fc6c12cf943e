/-! LAW, as a whole -/
theorem tx_sub {α : Type} {A B C : List α} {t : Nat} {x : α} (h : B[t]? = some x) : (A ++ B ++ C)[A.length + t]? = some x := by
  have ht : t < B.length := (List.getElem?_eq_some_iff.mp h).1
  rw [List.append_assoc, List.getElem?_append_right (by omega), show A.length + t - A.length = t by omega, List.getElem?_append_left ht]
  exact h
theorem tx_lnY {W : List lw_S} {F' G' F5 : (Nat → Nat → Int32)} {w : Nat → Int32} {i : Nat} (h : tx_ln W F' G' i) (hu : (lw_es W).length ≤ 400) (eX : ∀ t x, (lw_es W)[t]? = some x → F5 15 t = nI x) (eM : ∀ t s, W[t]? = some s → w (1188 + 2 * t) = nI s.1 ∧ ((s.1 = 0 ∨ s.1 = 26) → w (1189 + 2 * t) = nI s.2))
    (r : F5 16 i = F' 131 i ∧ F5 17 i = F' 132 i ∧ F5 18 i = F' 133 i ∧ F5 19 i = F' 134 i) (m : w (1124 + i) = G' 221 (4 * i) ∧ w (1140 + i) = G' 221 (4 * i + 1) ∧ w (1156 + i) = G' 221 (4 * i + 2) ∧ w (1172 + i) = G' 221 (4 * i + 3)) : lw_Ln F5 0 w (lw_es W).length i := by
  obtain ⟨k, P0, P, Q, R, e0, a1, a2, a3, a4, a5, b1, b2, b3, b4, c1, c2⟩ := h
  obtain ⟨r1, r2, r3, r4⟩ := r
  obtain ⟨m1, m2, m3, m4⟩ := m
  have eL : lw_es W = lw_es P0 ++ lw_es P ++ lw_es Q ++ lw_es R := by rw [e0, lw_esa, lw_esa, lw_esa]
  have hl := lw_len W
  have n1 : (lw_es W).length = (lw_es P0).length + (lw_es P).length + (lw_es Q).length + (lw_es R).length := by rw [eL, List.length_append, List.length_append, List.length_append]
  have n2 : W.length = P0.length + P.length + Q.length + R.length := by rw [e0, List.length_append, List.length_append, List.length_append]
  refine ⟨k, (lw_es P0).length, P0.length, P, Q, a1, r1.trans a2, m4.trans b4, r2.trans a3, ?_, ?_, by omega, m1.trans b1, ?_, ?_, by omega, fun t x hx => ?_, fun t x hx => ?_, fun t s hs => ?_, fun t s hs => ?_, c1, c2⟩
  · show F5 18 i = _
    rw [r3, a4, lw_esa, List.length_append]
  · show F5 19 i = _
    rw [r4, a5, lw_esa, lw_esa, List.length_append, List.length_append]
  · rw [m2, b2, List.length_append]
  · rw [m3, b3, List.length_append, List.length_append]
  · refine eX _ _ ?_
    rw [eL, List.append_assoc (lw_es P0 ++ lw_es P)]
    exact tx_sub hx
  · refine eX _ _ ?_
    rw [eL, ← List.length_append]
    exact tx_sub (A := lw_es P0 ++ lw_es P) hx
  · refine eM _ _ ?_
    rw [e0, List.append_assoc (P0 ++ P)]
    exact tx_sub hs
  · refine eM _ _ ?_
    rw [e0, ← List.length_append]
    exact tx_sub (A := P0 ++ P) hs
theorem tx_iC : ∀ q ∈ rl_C, q.2.2.2.2 = 1 ∧ q.2.2.1 + q.2.2.2.1 ≤ 87 ∧ (q.2.2.1 + q.2.2.2.1 ≤ 71 ∨ 74 ≤ q.2.2.1) := by decide +kernel
theorem tx_Ps {f f' g g' : (Nat → Nat → Int32)} (h : rl_Ps f g) (h1 : f' 109 = f 109) (h2 : f' 0 4 = f 0 4) (h3 : g' 216 4 = g 216 4) (h4 : ∀ a, 156 ≤ a → f' a = f a) (h5 : g' 219 = g 219) (h6 : ∀ i, 69 ≤ i → i < 87 → (i < 71 ∨ 74 ≤ i) → g' 217 i = g 217 i) : rl_Ps f' g' := by
  obtain ⟨k, n, c1, c2, c3, c4, c5, c6⟩ := h
  refine ⟨k, n, c1, c2, by rw [h1]; exact c3, by rw [h2]; exact c4, by rw [h3]; exact c5, fun p hp => ?_⟩
  obtain ⟨d1, d2⟩ := c6 p hp
  have e : ∀ i, i < 87 → (i < 71 ∨ 74 ≤ i) → rl_pw g' p i = rl_pw g p i := by
    intro i hi hi2
    unfold rl_pw
    rw [h5]
    by_cases hl : i < 69
    · rw [if_pos hl, if_pos hl]
    · rw [if_neg hl, if_neg hl, h6 i (by omega) hi hi2]
  refine ⟨d1.congr (fun q hq t ht => ?_) (fun q hq t ht => ?_), wg_C d2 (fun i hi => e i (by omega) (by omega))⟩
  · have := (rl_pl_ge p k).1
    have := (rl_loC q hq).1
    rw [h4 _ (by omega)]
  · obtain ⟨y1, y2, y3⟩ := tx_iC q hq
    have : rl_ix q t = q.2.2.1 + t := by
      unfold rl_ix
      rw [y1, Nat.one_mul]
    rw [this]
    exact e _ (by omega) (by omega)
theorem tx_text0 {f g : (Nat → Nat → Int32)} (h : rl_Rel f g) : ∃ v F G, x_text 0 f = some (v, F) ∧ m_text 0 g = some (v, G) ∧ rl_Rel F G := by
  have z0 : nI 0 = (0 : Int32) := rfl
  obtain ⟨F0, G0, n, b, N, ng, nw, p1, p2, hT, q129, hE, _, _, hV, z1, z2⟩ := tx_pre h (k := 0) (by omega)
  have hN : N ≤ 400 := by
    have := hT.1.2.2.1.2.1
    have := hT.1.1.1
    omega
  have hF : am_F = 1000000 := rfl
  rw [z0] at p1 p2
  rw [p2, if_pos rfl]
  have eL : m_readsLaw G0 = am_loop tx_gL am_F (true, am_up (am_up G0 216 13 0) 216 14 0) := by
    unfold m_readsLaw
    rw [pu_letE, pu_letE]
    rfl
  have ex : x_text 0 f = ((am_loop (tx_tL 0) am_F (0, F0)).bind tx_tE).bind fun p1 => if p1.1 = (-1) then some ((-1), am_up p1.2 123 0 0) else some (p1.1, xl_takeFrom_14_129 (am_up p1.2 123 0 0)) := by
    rw [← p1]
    unfold x_text
    simp only [pu_letE]
    rfl
  rw [ex, eL]
  have hS : tx_S n b 0 N 0 0 [] F0 (am_up (am_up G0 216 13 0) 216 14 0) := by
    refine ⟨(hT.1.gx (tx_gm.up (by omega) _)).gx (tx_gm.up (by omega) _), ⟨q129, (fun t x hx => by cases hx), by rw [pu_up_row, pu_upd_eq]; rfl, (fun t s hs => by cases hs)⟩, Nat.le_refl _, hT.2⟩
  have hV1 : tx_vf f g F0 (am_up (am_up G0 216 13 0) 216 14 0) := (hV.tr (tx_W.g13 (Or.inl rfl) _)).tr (tx_W.g13 (Or.inr (Or.inl rfl)) _)
  have g23 : am_up (am_up G0 216 13 0) 216 14 0 216 23 = 0 := by rw [pu_up_row, pu_upd_ne _ _ (by omega), pu_up_row, pu_upd_ne _ _ (by omega)]; exact z1
  have g25 : am_up (am_up G0 216 13 0) 216 14 0 216 25 = -1 := by rw [pu_up_row, pu_upd_ne _ _ (by omega), pu_up_row, pu_upd_ne _ _ (by omega)]; exact z2
  have g13 : am_up (am_up G0 216 13 0) 216 14 0 216 13 = nI 0 := by rw [pu_up_row, pu_upd_ne _ _ (by omega), pu_up_row, pu_upd_eq]; rfl
  generalize am_up (am_up G0 216 13 0) 216 14 0 = G1 at hS hV1 g23 g25 g13 ⊢
  rcases tx_lawL N 0 0 am_F am_F [] F0 G1 (by omega) (by omega) (by omega) hS (by omega) g13 (fun j hj => absurd hj (Nat.not_lt_zero _)) with ⟨F', G', r1, r2, r3, r4⟩ | ⟨F', G', l, i', W, r1, r2, r3, r4, r5, r6, r7⟩
  · rw [z0] at r1
    rw [r1, r2, pu_bs, pu_bs]
    exact ⟨-1, am_up F' 123 0 0, _, rfl, rfl, tx_fail h (hV1.tr r3) r4⟩
  · rw [z0] at r1
    rw [r1, r2, pu_bs, pu_bs]
    have hV' := hV1.tr r3
    have hl := r4.lt
    have hu : (lw_es W).length ≤ 400 := by
      have := r4.2.2.1
      omega
    have hw := lw_len W
    obtain ⟨e1, e2, e3, e4⟩ := r4.2.1
    -- the class
    have exc : ((tx_tE (.inr (nI l, F'))).bind fun p1 => if p1.1 = (-1) then some ((-1), am_up p1.2 123 0 0) else some (p1.1, xl_takeFrom_14_129 (am_up p1.2 123 0 0))) = some (nI l, xl_takeFrom_14_129 (am_up (am_up (am_up (am_up F' 129 0 (nI l)) 135 0 (nI l)) 140 0 (nI l)) 123 0 0)) := by
      show (if nI l = (-1) then some ((-1 : Int32), am_up (am_up (am_up (am_up F' 129 0 (nI l)) 135 0 (nI l)) 140 0 (nI l)) 123 0 0) else some (nI l, xl_takeFrom_14_129 (am_up (am_up (am_up (am_up F' 129 0 (nI l)) 135 0 (nI l)) 140 0 (nI l)) 123 0 0))) = _
      rw [if_neg (pu_neg1 (by omega))]
    rw [exc]
    obtain ⟨c0, c1, c2, c3, c4, c5, c6, c7⟩ := tx_takeL (am_up (am_up (am_up (am_up F' 129 0 (nI l)) 135 0 (nI l)) 140 0 (nI l)) 123 0 0)
    -- the model
    obtain ⟨G5, m1, m2, m3, m4, m5, m6⟩ := tx_putL (G := am_up G' 216 16 0) (l := l) (q := W.length) r5 (by omega) (by rw [pu_up_row, pu_upd_ne _ _ (by omega)]; exact r6) (by rw [pu_up_row, pu_upd_ne _ _ (by omega)]; exact e3)
    have em : tx_mEn 0 (true, G') = some (nI l, G5) := by
      unfold tx_mEn
      rw [if_pos rfl]
      dsimp only
      unfold m_putsText
      rw [if_pos rfl, m1]
      rfl
    rw [em]
    refine ⟨nI l, _, G5, rfl, rfl, ?_⟩
    have k1 : ∀ a, (a < 14 ∨ 19 < a) → a ≠ 123 → a ≠ 129 → a ≠ 135 → a ≠ 140 → xl_takeFrom_14_129 (am_up (am_up (am_up (am_up F' 129 0 (nI l)) 135 0 (nI l)) 140 0 (nI l)) 123 0 0) a = F' a := by
      intro a h1 h2 h3 h4 h5
      rw [c0 a h1, pu_up_ne _ _ h2, pu_up_ne _ _ h5, pu_up_ne _ _ h4, pu_up_ne _ _ h3]
    have k2 : ∀ a, (a < 14 ∨ 19 < a) → (a < 123 ∨ a = 124 ∨ 142 < a) → xl_takeFrom_14_129 (am_up (am_up (am_up (am_up F' 129 0 (nI l)) 135 0 (nI l)) 140 0 (nI l)) 123 0 0) a = f a := by
      intro a h1 h2
      rw [k1 a h1 (by omega) (by omega) (by omega) (by omega)]
      exact hV'.1 a h2
    have k3 : ∀ a, 130 ≤ a → a ≤ 134 → am_up (am_up (am_up (am_up F' 129 0 (nI l)) 135 0 (nI l)) 140 0 (nI l)) 123 0 0 a = F' a := by
      intro a h1 h2
      rw [pu_up_ne _ _ (by omega), pu_up_ne _ _ (by omega), pu_up_ne _ _ (by omega), pu_up_ne _ _ (by omega)]
    rw [k3 130 (by omega) (by omega)] at c3
    rw [k3 131 (by omega) (by omega)] at c4
    rw [k3 132 (by omega) (by omega)] at c5
    rw [k3 133 (by omega) (by omega)] at c6
    rw [k3 134 (by omega) (by omega)] at c7
    rw [pu_up_ne _ _ (by omega), pu_up_ne _ _ (by omega), pu_up_ne _ _ (by omega), pu_up_row, pu_upd_eq] at c1
    rw [pu_up_ne _ _ (by omega), pu_up_ne _ _ (by omega), pu_up_ne _ _ (by omega), pu_up_row, pu_upd_ne _ _ (by omega), e1] at c2
    have k123 : xl_takeFrom_14_129 (am_up (am_up (am_up (am_up F' 129 0 (nI l)) 135 0 (nI l)) 140 0 (nI l)) 123 0 0) 123 0 = 0 := by rw [c0 123 (by omega), pu_up_row, pu_upd_eq]
    have k128 : xl_takeFrom_14_129 (am_up (am_up (am_up (am_up F' 129 0 (nI l)) 135 0 (nI l)) 140 0 (nI l)) 123 0 0) 128 = F' 128 := k1 128 (by omega) (by omega) (by omega) (by omega) (by omega)
    generalize xl_takeFrom_14_129 (am_up (am_up (am_up (am_up F' 129 0 (nI l)) 135 0 (nI l)) 140 0 (nI l)) 123 0 0) = F5 at *
    have g217 : ∀ i, i < 1124 → i ≠ 71 → G5 217 i = g 217 i := fun i h1 h2 => by rw [m3 i h1 h2, pu_up_ne _ _ (by omega)]; rw [hV'.2.1 217 (by omega) (by omega) (by omega) (by omega)]
    have gO : ∀ a, a ≠ 216 → a ≠ 217 → a ≠ 221 → a ≠ 222 → a ≠ 223 → G5 a = g a := fun a h1 h2 h3 h4 h5 => by rw [m2 a h2, pu_up_ne _ _ h1]; exact hV'.2.1 a h1 h3 h4 h5
    have g216 : ∀ j, j ≠ 16 → G5 216 j = G' 216 j := fun j hj => by rw [m2 216 (by omega), pu_up_row, pu_upd_ne _ _ hj]
    have hW := h.1
    refine tx_rel h (fun a a1 a2 => k2 a (by omega) (by omega)) (fun a a1 => k2 a (by omega) (by omega)) (by rw [k2 0 (by omega) (by omega)]) k123 (gO 218 (by omega) (by omega) (by omega) (by omega) (by omega)) ((g216 5 (by omega)).trans (hV'.2.2 5 (by omega))) (by rw [m2 216 (by omega), pu_up_row, pu_upd_eq]) ?_ ?_ ?_ ?_
    · rw [k128, g216 23 (by omega), r3.2.2.2 23 (by omega), g23]; exact r4.2.2.2.1
    · rw [k128, g216 25 (by omega), r3.2.2.2 25 (by omega), g25]; exact r4.2.2.2.2
    · refine ⟨(rl_s_ll hW.1 (nI l)).congr (fun q hq t ht => ?_) (fun q hq t ht => ?_), wg_C hW.2.1 (fun i hi => g217 i (by omega) (by omega)), wg_K hW.2.2.1 (fun i h1 h2 h3 => g217 i (by omega) (by omega)), wg_N hW.2.2.2.1 (fun i h1 h2 => g217 i (by omega) (by omega)), wg_W hW.2.2.2.2.1 (fun i h1 h2 h3 => g217 i (by omega) (by omega)) (fun a a1 a2 => k2 a (by omega) (by omega)), wg_T hW.2.2.2.2.2.1 (fun i h1 h2 => g217 i (by omega) (by omega)), ?_⟩
      · have hlo := rl_lo q hq
        rcases wg_q1 q hq with d | d | d | d
        · rw [pu_up_ne _ _ (show q.1 + 0 ≠ 14 + 0 by omega), k2 (q.1 + 0) (by omega) (by omega)]
        · have e := (wg_q2 q hq).resolve_left (fun z => z d)
          subst e
          have ht : t < 1 := ht
          have t0 : t = 0 := by omega
          subst t0
          show F5 14 0 = am_up f 14 0 (nI l) 14 0
          rw [c1, pu_up_row, pu_upd_eq]
        · rw [pu_up_ne _ _ (show q.1 + 0 ≠ 14 + 0 by omega), k2 (q.1 + 0) (by omega) (by omega)]
        · rw [pu_up_ne _ _ (show q.1 + 0 ≠ 14 + 0 by omega), k2 (q.1 + 0) (by omega) (by omega)]
      · have i1 := wg_ix ht
        have i2 := wg_q4 q hq
        by_cases d : rl_ix q t = 71
        · rw [d, m4, pu_upd_eq]
        · rw [pu_upd_ne _ _ d]
          exact g217 _ (by omega) d
      · refine ⟨l, (lw_es W).length, r5, hu, m4, c2, fun i hi => ?_⟩
        obtain ⟨x1, x2, x3, x4⟩ := m5 i hi
        rw [pu_up_ne _ _ (by omega)] at x1 x2 x3 x4
        refine tx_lnY (r7 i hi) hu (fun t x hx => ?_) (fun t s hs => ?_) ⟨c4 i (by omega), c5 i (by omega), c6 i (by omega), c7 i (by omega)⟩ ⟨x1, x2, x3, x4⟩
        · have ht := (List.getElem?_eq_some_iff.mp hx).1
          rw [c3 t (by omega)]
          exact e2 t x hx
        · have ht := (List.getElem?_eq_some_iff.mp hs).1
          have y1 := m6 (2 * t) (by omega)
          have y2 := m6 (2 * t + 1) (by omega)
          rw [pu_up_ne _ _ (by omega)] at y1 y2
          rw [y1, show 1189 + 2 * t = 1188 + (2 * t + 1) by omega, y2]
          exact e4 t s hs
    · exact tx_Ps h.2.2.1 (k2 109 (by omega) (by omega)) (by rw [k2 0 (by omega) (by omega)]) ((g216 4 (by omega)).trans (hV'.2.2 4 (by omega))) (fun a ha => k2 a (by omega) (by omega)) (gO 219 (by omega) (by omega) (by omega) (by omega) (by omega)) (fun i h1 h2 h3 => g217 i (by omega) (by omega))
