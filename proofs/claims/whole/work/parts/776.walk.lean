/-! WALK: a line -/
theorem md_told (p w lo hi : Int32) (G : (Nat → Nat → Int32)) : m_told p w lo hi G = (m_need w G).bind fun p1 => if p1.1 = true then m_number p lo hi p1.2 else some (false, p1.2) := by
  unfold m_told
  cases m_need w G with
  | none => rfl
  | some p1 =>
    rw [pu_bs, pu_bs]
    by_cases c : p1.1 = true
    · rw [if_pos c, if_pos c]
      cases m_number p lo hi p1.2 with
      | none => rfl
      | some p2 =>
        obtain ⟨x, y⟩ := p2
        cases x <;> rfl
    · rw [if_neg c, if_neg c]
def tx_wl (ng nw : Nat) (F G : (Nat → Nat → Int32)) (l : Nat) : Prop := ∃ a g d : Nat, F 136 l = nI a ∧ G 223 (4 * l) = nI a ∧ a ≤ 999 ∧ F 137 l = nI g ∧ G 223 (4 * l + 1) = nI g ∧ g < ng ∧ F 138 l = nI d ∧ G 223 (4 * l + 2) = nI (d + 7) ∧ 2 ≤ d ∧ d ≤ 7 ∧
  (d = 2 → ∃ v, v < 16 ∧ F 139 l = nI v ∧ G 223 (4 * l + 3) = nI v) ∧ (d = 6 → ∃ v, v < nw ∧ F 139 l = nI v ∧ G 223 (4 * l + 3) = nI v)
theorem tx_wl.to {ng nw : Nat} {F G F' G' : (Nat → Nat → Int32)} {l : Nat} (h : tx_wl ng nw F G l) (h1 : ∀ a, 136 ≤ a → a ≤ 139 → F' a l = F a l) (h2 : ∀ t, t < 4 → G' 223 (4 * l + t) = G 223 (4 * l + t)) : tx_wl ng nw F' G' l := by
  unfold tx_wl
  rw [h1 136 (by omega) (by omega), h1 137 (by omega) (by omega), h1 138 (by omega) (by omega), h1 139 (by omega) (by omega), show G' 223 (4 * l) = G 223 (4 * l) from h2 0 (by omega), h2 1 (by omega), h2 2 (by omega), h2 3 (by omega)]
  exact h
theorem tx_in {v m : Nat} (hv : v < 2 ^ 31) (hm : m < 2 ^ 31) (h : m_isIn (nI v) 0 (nI m - 1) = true) : v < m := by
  rw [pu_isIn] at h
  rcases pu_rng (nI v) hm with ⟨i, h1, h2, _⟩ | ⟨_, h2⟩
  · have := pu_nIinj hv (by omega) h2
    omega
  · rw [h2] at h
    cases h
theorem tx_inL {v a b : Nat} (hv : v < 2 ^ 31) (ha : a < 2 ^ 31) (hb : b < 2 ^ 31) (h : m_isIn (nI v) (nI a) (nI b) = true) : a ≤ v ∧ v ≤ b := by
  rw [pu_isIn] at h
  obtain ⟨n, h1, h2, h3⟩ := pu_within hb h ha
  have := pu_nIinj hv (by omega) h3
  omega
section
variable {n : Nat} {b : Nat → Nat} {N i : Nat} {F G G1 : (Nat → Nat → Int32)}
theorem tx_walk (h : tx_T n b 1 N i F G1) (hN : m_need 7 G = some (true, G1)) {l ng nw : Nat} (hl : l < 16) (h15 : G 216 15 = nI l) (hg : ng ≤ 6) (hw : nw ≤ 12) (f8 : F 128 8 = nI ng) (f9 : F 128 9 = nI nw) (g69 : G1 217 69 = nI ng) (g70 : G1 217 70 = nI nw) :
    ∃ ok F' G', xs_readWalkLine (nI l) F = some (ok, F') ∧ m_aWalk G = some (ok, G') ∧ tx_W F G1 F' G' ∧ G' 216 15 = G1 216 15 ∧ ((ok = false ∧ tx_Z F' G') ∨ (ok = true ∧ ∃ i', i ≤ i' ∧ tx_T n b 1 N i' F' G' ∧ tx_wl ng nw F' G' l ∧ (∀ j, j ≠ l → ∀ a, 136 ≤ a → a ≤ 139 → F' a j = F a j) ∧ ∀ j, j < 4 * l → G' 223 j = G1 223 j)) := by
  have c16 : am_in (nI l) 16 = true := pu_in hl (by omega)
  have t16 : (nI l).toNatClampNeg = l := nI_clamp (by omega)
  have m4 : (4 : Int32) * nI l = nI (4 * l) := by rw [show (4 : Int32) = nI 4 from rfl, pk_mul]
  have m41 : nI (4 * l) + 1 = nI (4 * l + 1) := nI_1 _
  have m42 : nI (4 * l) + 2 = nI (4 * l + 2) := nI_add _ 2
  have m43 : nI (4 * l) + 3 = nI (4 * l + 3) := nI_add _ 3
  have a2 : am_in (nI (4 * l + 2)) 264 = true := pu_in (by omega) (by omega)
  have k2 : (nI (4 * l + 2)).toNatClampNeg = 4 * l + 2 := nI_clamp (by omega)
  unfold xs_readWalkLine m_aWalk
  simp only [pu_letE, md_told, hN, pu_bs, if_true, h15, m4, m41, m42, m43]
  obtain ⟨ok, F1, G2, r1, r2, r3, r4⟩ := h.numb (p := 4 * l) (by omega) 0 999
  rw [r1, r2, pu_bs, pu_bs]
  rcases r4 with ⟨rfl, rz⟩ | ⟨rfl, a, ra1, _, _, ra2, rT, r7, rG⟩
  · exact ⟨false, F1, G2, rfl, rfl, r3.W, r3.2.2.2 15 (by omega), Or.inl ⟨rfl, rz⟩⟩
  have ra := tx_inL (a := 0) (b := 999) (by omega) (by omega) (by omega) ra2
  rw [if_pos rfl, if_pos rfl]
  simp only [c16, t16, if_true]
  rw [r7]
  have T2 := rT.fu (a := 136) (j := l) (by omega) (nI a)
  have W2 : tx_W F G1 (am_up F1 136 l (nI a)) G2 := r3.W.tr (tx_W.fu (by omega) _)
  obtain ⟨ok, F3, G3, s1, s2, s3, s4⟩ := T2.word (x := 1) (show 1 < 8 by omega)
  rw [show (1 : Int32) = nI 1 from rfl, s1, show (8 : Int32) = nI (kw_c 1 1) from rfl, s2, pu_bs, pu_bs]
  rcases s4 with ⟨rfl, sz⟩ | ⟨rfl, sT, s128, sG⟩
  · exact ⟨false, F3, G3, rfl, rfl, W2.tr s3.W, (s3.2.2.2 15 (by omega)).trans (r3.2.2.2 15 (by omega)), Or.inl ⟨rfl, sz⟩⟩
  rw [if_pos rfl, if_pos rfl]
  dsimp only
  have f38 : F3 128 8 = nI ng := by rw [s3.2.1.1, pu_up_ne _ _ (by omega), r3.2.1.1]; exact f8
  have f39 : F3 128 9 = nI nw := by rw [s3.2.1.2, pu_up_ne _ _ (by omega), r3.2.1.2]; exact f9
  have g2r : G2 217 = G1 217 := r3.2.2.1 217 (by omega) (by omega)
  have g3r : G3 217 = G1 217 := (s3.2.2.1 217 (by omega) (by omega)).trans g2r
  rw [f38, g2r, g69]
  obtain ⟨ok, F4, G4, u1, u2, u3, u4⟩ := sT.numb (p := 4 * l + 1) (by omega) 0 (nI ng - 1)
  rw [show nI 1 = (1 : Int32) from rfl, u1, u2, pu_bs, pu_bs]
  have q15 : G4 216 15 = G1 216 15 := (u3.2.2.2 15 (by omega)).trans ((s3.2.2.2 15 (by omega)).trans (r3.2.2.2 15 (by omega)))
  rcases u4 with ⟨rfl, uz⟩ | ⟨rfl, g, ug1, _, _, ug2, uT, u7, uG⟩
  · exact ⟨false, F4, G4, rfl, rfl, (W2.tr s3.W).tr u3.W, q15, Or.inl ⟨rfl, uz⟩⟩
  have hgn := tx_in (by omega) (by omega) ug2
  rw [if_pos rfl, if_pos rfl]
  simp only [u7]
  have T5 := uT.fu (a := 137) (j := l) (by omega) (nI g)
  have W5 : tx_W F G1 (am_up F4 137 l (nI g)) G4 := ((W2.tr s3.W).tr u3.W).tr (tx_W.fu (by omega) _)
  have f59 : am_up F4 137 l (nI g) 128 9 = nI nw := by rw [pu_up_ne _ _ (by omega), u3.2.1.2]; exact f39
  have g4r : G4 217 = G1 217 := (u3.2.2.1 217 (by omega) (by omega)).trans g3r
  have hF5 : ∀ a', 136 ≤ a' → a' ≤ 139 → am_up F4 137 l (nI g) a' = if a' = 136 then upd (F 136) l (nI a) else if a' = 137 then upd (F 137) l (nI g) else F a' := by
    intro a' h1 h2
    have e4 : ∀ c, 136 ≤ c → F4 c = am_up F1 136 l (nI a) c := fun c hc => (u3.1 c (by omega) (by omega)).trans (s3.1 c (by omega) (by omega))
    have e1 : ∀ c, 136 ≤ c → F1 c = F c := fun c hc => r3.1 c (by omega) (by omega)
    by_cases d1 : a' = 136
    · rw [if_pos d1, d1, pu_up_ne _ _ (by omega), e4 136 (by omega), pu_up_row, e1 136 (by omega)]
    · rw [if_neg d1]
      by_cases d2 : a' = 137
      · rw [if_pos d2, d2, pu_up_row, e4 137 (by omega), pu_up_ne _ _ (by omega), e1 137 (by omega)]
      · rw [if_neg d2, pu_up_ne _ _ d2, e4 a' h1, pu_up_ne _ _ d1, e1 a' h1]
  have hG4 : G4 223 = upd (upd (G1 223) (4 * l) (nI a)) (4 * l + 1) (nI g) := by rw [uG, sG, rG]
  rcases T5.1.wrd with ⟨hi, w1, x, w2, w3, w4, w5, w6⟩ | ⟨w1, y, w2, w3, w4⟩
  · have hx : x < 8 := w2
    have e7 : kw_c 1 x = 7 + x := rfl
    rw [if_pos w1]
    simp only [w3, w4, e7]
    by_cases c2 : x < 2
    · have f2 : ¬ m_isIn (nI (7 + x)) 9 14 = true := fun z => by
        have := tx_inL (a := 9) (b := 14) (by omega) (by omega) (by omega) z
        omega
      obtain ⟨F', G', b1, b2, b3, b4⟩ := T5.bad 1
      rw [if_pos (show nI x < (2 : Int32) from nI_lt (b := 2) c2 (by omega)), b1, if_neg f2, b2]
      exact ⟨false, F', G', rfl, rfl, W5.tr b3.W, (b3.2.2.2 15 (by omega)).trans q15, Or.inl ⟨rfl, b4⟩⟩
    · have f2 : m_isIn (nI (7 + x)) 9 14 = true := by
        rw [pu_isIn]
        exact pu_within_t (n := 7 + x) (a := 9) (b := 14) (by omega) (by omega) (by omega)
      rw [if_neg (show ¬ nI x < (2 : Int32) from nI_nlt (b := 2) (by omega) (by omega)), if_neg (show ¬ (7 : Int32) < nI x from nI_nlt (a := 7) (by omega) (by omega)), if_pos f2, if_pos a2, k2]
      obtain ⟨F6, G6, v1, v2, v3, v4, v5, v6⟩ := (T5.gu (j := 4 * l + 2) (nI (7 + x))).adv hi
      rw [v1, v2, pu_bs, pu_bs]
      have T7 := ((v3.fu (a := 138) (j := l) (by omega) (nI x)).f7 (-1))
      have W7 : tx_W F G1 (am_up (am_up F6 138 l (nI x)) 128 7 (-1)) G6 := (((W5.tr (tx_Q.gu _).W).tr v4.W).tr (tx_W.fu (by omega) _)).tr (tx_Q.f7 _).W
      have f79 : am_up (am_up F6 138 l (nI x)) 128 7 (-1) 128 9 = nI nw := by rw [pu_up_row, pu_upd_ne _ _ (by omega), pu_up_ne _ _ (by omega), v4.2.1.2]; exact f59
      have g67 : G6 217 = G1 217 := by rw [v4.2.2.1 217 (by omega) (by omega), pu_up_ne _ _ (by omega)]; exact g4r
      have g615 : G6 216 15 = G1 216 15 := by rw [v4.2.2.2 15 (by omega), pu_up_ne _ _ (by omega)]; exact q15
      have hF7 : ∀ a', 136 ≤ a' → a' ≤ 139 → am_up (am_up F6 138 l (nI x)) 128 7 (-1) a' = if a' = 138 then upd (F 138) l (nI x) else (am_up F4 137 l (nI g)) a' := by
        intro a' h1 h2
        rw [pu_up_ne _ _ (by omega)]
        by_cases d1 : a' = 138
        · rw [if_pos d1, d1, pu_up_row, v4.1 138 (by omega) (by omega), hF5 138 (by omega) (by omega), if_neg (by omega), if_neg (by omega)]
        · rw [if_neg d1, pu_up_ne _ _ d1, v4.1 a' (by omega) (by omega)]
      have e7m : am_up (am_up F6 138 l (nI x)) 128 7 (-1) 128 7 = -1 := by rw [pu_up_row, pu_upd_eq]
      have hG6 : G6 223 = upd (upd (upd (G1 223) (4 * l) (nI a)) (4 * l + 1) (nI g)) (4 * l + 2) (nI (7 + x)) := by rw [v6, pu_up_row, hG4]
      rw [g67, g70]
      -- what stands at the end
      have fin : ∀ (i' : Nat) (F8 G8 : (Nat → Nat → Int32)) (z : Int32), i ≤ i' → tx_T n b 1 N i' F8 G8 → tx_W (am_up (am_up F6 138 l (nI x)) 128 7 (-1)) G6 F8 G8 → G8 216 15 = G6 216 15 → (∀ a', 136 ≤ a' → a' ≤ 139 → F8 a' = (am_up (am_up F6 138 l (nI x)) 128 7 (-1)) a') → (∀ j, j < 4 * l + 3 → G8 223 j = G6 223 j) → (x = 2 → ∃ v, v < 16 ∧ z = nI v ∧ G8 223 (4 * l + 3) = nI v) → (x = 6 → ∃ v, v < nw ∧ z = nI v ∧ G8 223 (4 * l + 3) = nI v) →
          ∃ ok F' G', some (true, am_up F8 139 l z) = some (ok, F') ∧ some (true, G8) = some (ok, G') ∧ tx_W F G1 F' G' ∧ G' 216 15 = G1 216 15 ∧ ((ok = false ∧ tx_Z F' G') ∨ (ok = true ∧ ∃ i', i ≤ i' ∧ tx_T n b 1 N i' F' G' ∧ tx_wl ng nw F' G' l ∧ (∀ j, j ≠ l → ∀ a, 136 ≤ a → a ≤ 139 → F' a j = F a j) ∧ ∀ j, j < 4 * l → G' 223 j = G1 223 j)) := by
        intro i' F8 G8 z hi' hT hW h15' hF hG hx2 hx6
        refine ⟨true, _, G8, rfl, rfl, (W7.tr hW).tr (tx_W.fu (by omega) _), h15'.trans g615, Or.inr ⟨rfl, i', hi', hT.fu (by omega) z, ⟨a, g, x, ?_, ?_, ra.2, ?_, ?_, hgn, ?_, ?_, by omega, by omega, fun hx => ?_, fun hx => ?_⟩, fun j hj a' h1 h2 => ?_, fun j hj => ?_⟩⟩
        · rw [pu_up_ne _ _ (by omega), hF 136 (by omega) (by omega), hF7 136 (by omega) (by omega), if_neg (by omega), hF5 136 (by omega) (by omega), if_pos rfl, pu_upd_eq]
        · rw [hG _ (by omega), hG6, pu_upd_ne _ _ (by omega), pu_upd_ne _ _ (by omega), pu_upd_eq]
        · rw [pu_up_ne _ _ (by omega), hF 137 (by omega) (by omega), hF7 137 (by omega) (by omega), if_neg (by omega), hF5 137 (by omega) (by omega), if_neg (by omega), if_pos rfl, pu_upd_eq]
        · rw [hG _ (by omega), hG6, pu_upd_ne _ _ (by omega), pu_upd_eq]
        · rw [pu_up_ne _ _ (by omega), hF 138 (by omega) (by omega), hF7 138 (by omega) (by omega), if_pos rfl, pu_upd_eq]
        · rw [hG _ (by omega), hG6, pu_upd_eq, Nat.add_comm]
        · obtain ⟨v, y1, y2, y3⟩ := hx2 hx
          exact ⟨v, y1, by rw [pu_up_row, pu_upd_eq]; exact y2, y3⟩
        · obtain ⟨v, y1, y2, y3⟩ := hx6 hx
          exact ⟨v, y1, by rw [pu_up_row, pu_upd_eq]; exact y2, y3⟩
        · have e8 : am_up F8 139 l z a' j = F8 a' j := by
            by_cases d : a' = 139
            · rw [d, pu_up_row, pu_upd_ne _ _ hj]
            · rw [pu_up_ne _ _ d]
          rw [e8, hF a' h1 h2, hF7 a' h1 h2]
          by_cases d1 : a' = 138
          · rw [if_pos d1, pu_upd_ne _ _ hj, d1]
          · rw [if_neg d1, hF5 a' h1 h2]
            by_cases d2 : a' = 136
            · rw [if_pos d2, pu_upd_ne _ _ hj, d2]
            · rw [if_neg d2]
              by_cases d3 : a' = 137
              · rw [if_pos d3, pu_upd_ne _ _ hj, d3]
              · rw [if_neg d3]
        · rw [hG _ (by omega), hG6, pu_upd_ne _ _ (by omega), pu_upd_ne _ _ (by omega), pu_upd_ne _ _ (by omega)]
      by_cases x2 : x = 2
      · rw [if_pos (show nI x = (2 : Int32) by rw [x2]; rfl), if_pos (show nI (7 + x) = (9 : Int32) by rw [x2]; rfl)]
        obtain ⟨ok, F8, G8, y1, y2, y3, y4⟩ := T7.numb (p := 4 * l + 3) (by omega) 0 15
        rw [y1, y2, pu_bs, pu_bs]
        rcases y4 with ⟨rfl, yz⟩ | ⟨rfl, v, yv, _, _, yv2, yT, y7, yG⟩
        · exact ⟨false, F8, G8, rfl, rfl, W7.tr y3.W, (y3.2.2.2 15 (by omega)).trans g615, Or.inl ⟨rfl, yz⟩⟩
        · have hv := tx_inL (a := 0) (b := 15) (by omega) (by omega) (by omega) yv2
          rw [if_pos rfl, if_neg (show ¬ nI x = (6 : Int32) by rw [x2]; decide)]
          dsimp only
          rw [y7]
          exact fin _ F8 G8 (nI v) (by omega) yT y3.W (y3.2.2.2 15 (by omega)) (fun a' h1 h2 => y3.1 a' (by omega) (by omega)) (fun j hj => by rw [yG, pu_upd_ne _ _ (by omega)]) (fun _ => ⟨v, by omega, rfl, by rw [yG, pu_upd_eq]⟩) (fun z => by omega)
      · rw [if_neg (show ¬ nI x = (2 : Int32) from nI_ne (b := 2) x2), if_neg (show ¬ nI (7 + x) = (9 : Int32) from nI_ne (b := 9) (by omega))]
        by_cases x6 : x = 6
        · rw [if_pos (show nI x = (6 : Int32) by rw [x6]; rfl), if_pos (show nI (7 + x) = (13 : Int32) by rw [x6]; rfl), f79]
          obtain ⟨ok, F8, G8, y1, y2, y3, y4⟩ := T7.numb (p := 4 * l + 3) (by omega) 0 (nI nw - 1)
          rw [y1, y2, pu_bs, pu_bs]
          rcases y4 with ⟨rfl, yz⟩ | ⟨rfl, v, yv, _, _, yv2, yT, y7, yG⟩
          · exact ⟨false, F8, G8, rfl, rfl, W7.tr y3.W, (y3.2.2.2 15 (by omega)).trans g615, Or.inl ⟨rfl, yz⟩⟩
          · have hv := tx_in (by omega) (by omega) yv2
            rw [if_pos rfl, if_pos rfl]
            dsimp only
            rw [y7]
            exact fin _ F8 G8 (nI v) (by omega) yT y3.W (y3.2.2.2 15 (by omega)) (fun a' h1 h2 => y3.1 a' (by omega) (by omega)) (fun j hj => by rw [yG, pu_upd_ne _ _ (by omega)]) (fun z => by omega) (fun _ => ⟨v, hv, rfl, by rw [yG, pu_upd_eq]⟩)
        · rw [if_neg (show ¬ nI x = (6 : Int32) from nI_ne (b := 6) x6), if_neg (show ¬ nI (7 + x) = (13 : Int32) from nI_ne (b := 13) (by omega))]
          exact fin _ (am_up (am_up F6 138 l (nI x)) 128 7 (-1)) G6 ((am_up (am_up F6 138 l (nI x)) 128 7 (-1)) 128 7) (by omega) T7 tx_W.rf rfl (fun _ _ _ => rfl) (fun _ _ => rfl) (fun z => by omega) (fun z => by omega)
  · have f2 : ¬ m_isIn (nI y) 9 14 = true := fun z => by
      have := tx_inL (a := 9) (b := 14) (by omega) (by omega) (by omega) z
      omega
    obtain ⟨F', G', b1, b2, b3, b4⟩ := T5.bad 1
    rw [if_neg w1]
    simp only [w4]
    rw [b1, if_neg f2, b2]
    exact ⟨false, F', G', rfl, rfl, W5.tr b3.W, (b3.2.2.2 15 (by omega)).trans q15, Or.inl ⟨rfl, b4⟩⟩
end
