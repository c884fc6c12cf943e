theorem up_self (f : Nat → Nat → Int32) (a j : Nat) : am_up f a j (f a j) = f := by
  unfold am_up
  rw [pu_upd_self, row_self]
theorem off_2 {c : Nat → Nat} {T : Nat} {f g : Nat → Nat → Int32} (h : tk_R 0 true c T f g) (hT : T < 1000000) (hc : ∀ k, c k ≤ 1) {n m i p : Nat} (en : g 217 69 = nI n) (hn : n ≤ 6) (em : g 217 70 = nI m) (hm : m ≤ 12) (hi : i < n) (hp : p < m) (hu : g 217 (15 + i) = nI p) : ∃ f' g', xb_goOffTop_2 (nI i) true f = some f' ∧ m_notes 4 (nI i) (nI p) (am_up (am_up (am_up (am_up g 217 (9 + i) 420) 217 (27 + i) (g 217 (27 + i) + 1)) 217 (57 + p) (g 217 (57 + p) + 1)) 217 (15 + i) (-1)) = some g' ∧ tk_R 0 true (fun j => if j = i then c j + 1 else c j) T f' g' ∧ tk_F 0 true f f' g g' := by
  have ho : 0 = 0 ∨ 0 = 108 := by decide
  have R1 := tk_cell ho h (a := 4) (j := i) (i := 9 + i) (v := 420) (by decide) (by decide) (by omega) (rl_s_re h.1 (by omega) _) (iv_c_re h.2.2.1 (by omega) _)
  have en1 : am_up g 217 (9 + i) 420 217 69 = nI n := by rw [pu_up_row, pu_upd_ne _ _ (by omega)]; exact en
  have w7 : am_up g 217 (9 + i) 420 217 (27 + i) = g 217 (27 + i) := by rw [pu_up_row, pu_upd_ne _ _ (by omega)]
  have C2 := iv_c_of R1.1.2.2.1 en1 hn hi
  rw [w7] at C2
  have R2 := tk_cell ho R1.1 (a := 7) (j := i) (i := 27 + i) (v := g 217 (27 + i) + 1) (by decide) (by decide) (by omega) (rl_s_of R1.1.1 (by omega) _) C2 (fun k hk e => by
    obtain ⟨n', m', t', b', x1, x2, x3, x4, x5, x6, x7, x8, x9, x10, x11, x12, x13⟩ := id h.2.2.1
    obtain ⟨z, z1, z2, -⟩ := x12 i (by omega)
    have := hc i
    rw [w7, z1, nI_1, nI_toInt (by omega), nI_toInt (by omega)]
    omega)
  have em2 : am_up (am_up g 217 (9 + i) 420) 217 (27 + i) (g 217 (27 + i) + 1) 217 70 = nI m := by rw [pu_up_row, pu_upd_ne _ _ (by omega), pu_up_row, pu_upd_ne _ _ (by omega)]; exact em
  have R3 := tk_cell ho R2.1 (a := 11) (j := p) (i := 57 + p) (v := g 217 (57 + p) + 1) (by decide) (by decide) (by omega) (rl_s_gi R2.1.1 (by omega) _) (iv_c_gi R2.1.2.2.1 em2 hm hp _)
  have R4 := tk_cell ho R3.1 (a := 5) (j := i) (i := 15 + i) (v := -1) (by decide) (by decide) (by omega) (rl_s_un R3.1.1 (by omega) _) (iv_c_un R3.1.2.2.1 (by omega) (Or.inl rfl))
  obtain ⟨f5, n1, n2, n3, n4, -⟩ := nt_2 R4.1 4 (nI i) (nI p)
  have n1' : xb_note_2 4 (nI i) (nI p) true (am_up (am_up (am_up (am_up f 4 i 420) 7 i (g 217 (27 + i) + 1)) 11 p (g 217 (57 + p) + 1)) 5 i (-1)) = some f5 := n1
  refine ⟨f5, _, ?_, n2, n3, (((R1.2.trans R2.2).trans R3.2).trans R4.2).trans n4⟩
  unfold xb_goOffTop_2
  have c6 : am_in (nI i) 6 = true := pu_in (by omega) (by omega)
  have c12 : am_in (nI p) 12 = true := pu_in (by omega) (by omega)
  have eu : f 5 i = nI p := (rl_g_un (o := 0) h.1 (by omega)).trans hu
  have ev7 : f 7 i = g 217 (27 + i) := rl_g_of (o := 0) h.1 (by omega)
  have ev11 : f 11 p = g 217 (57 + p) := rl_g_gi (o := 0) h.1 (by omega)
  have e3 : f 2 1 = nI m := (rl_g_wn (o := 0) h.1).trans em
  have hw : xc_hasWitness_2 (nI p) (am_up (am_up f 4 i 420) 7 i (g 217 (27 + i) + 1)) = true := by
    unfold xc_hasWitness_2
    rw [pu_up_ne _ _ (by decide), pu_up_ne _ _ (by decide), e3, if_neg (nI_pos (by omega)), if_pos (nI_lt hp (by omega))]
  simp only [c6, c12, if_true, pu_letE, nI_clamp (show i < 2 ^ 31 by omega), nI_clamp (show p < 2 ^ 31 by omega), eu, pu_up_ne f (a := 4) (b := 7) _ (by decide), ev7, hw, pu_up_ne _ (a := 7) (b := 11) _ (by decide), pu_up_ne f (a := 4) (b := 11) _ (by decide), ev11, n1', pu_bs]
theorem warm_2 {c : Nat → Nat} {T : Nat} {f f4 g5 : Nat → Nat → Int32} {v : Int32} (hx : xb_told 0 f = some (v, f4)) (h : tk_R 0 true c T f4 g5) {n i a : Nat} (en : g5 217 69 = nI n) (hn : n ≤ 6) (hi : i < n) (h7 : f4 121 7 = nI a) (ha : a ≤ 10) : ∃ f' G' g', xb_warm_2 (nI i) true f = some f' ∧ (if 0 < v then (m_notes 2 (nI i) v (am_up g5 217 (9 + i) (g5 217 (9 + i) + v))).bind (fun p12 => some p12) else some (am_up g5 217 (9 + i) (g5 217 (9 + i) + v))) = some G' ∧ (∀ j, (15 ≤ j ∧ j < 21) ∨ (75 ≤ j ∧ j < 343) → G' 217 j = g5 217 j) ∧
    (if 0 < nI a then some (am_up G' 217 (3 + i) (m_lesser 99 (G' 217 (3 + i) + 1))) else some G') = some g' ∧ g' 217 (15 + i) = g5 217 (15 + i) ∧ tk_R 0 true c T f' g' ∧ tk_F 0 true f4 f' g5 g' := by
  have ho : 0 = 0 ∨ 0 = 108 := by decide
  have R1 := tk_cell ho h (a := 4) (j := i) (i := 9 + i) (v := g5 217 (9 + i) + v) (by decide) (by decide) (by omega) (rl_s_re h.1 (by omega) _) (iv_c_re h.2.2.1 (by omega) _)
  have R1a : tk_R 0 true c T (am_up f4 4 i (g5 217 (9 + i) + v)) (am_up g5 217 (9 + i) (g5 217 (9 + i) + v)) := R1.1
  have R1b : tk_F 0 true f4 (am_up f4 4 i (g5 217 (9 + i) + v)) g5 (am_up g5 217 (9 + i) (g5 217 (9 + i) + v)) := R1.2
  have c6 : am_in (nI i) 6 = true := pu_in (by omega) (by omega)
  have er : f4 4 i = g5 217 (9 + i) := rl_g_re (o := 0) h.1 (by omega)
  have q7 : am_up f4 4 i (g5 217 (9 + i) + v) 121 7 = nI a := by rw [pu_up_ne _ _ (by decide)]; exact h7
  have gm : ∀ j, (15 ≤ j ∧ j < 21) ∨ (75 ≤ j ∧ j < 343) → am_up g5 217 (9 + i) (g5 217 (9 + i) + v) 217 j = g5 217 j := fun j hj => by rw [pu_up_row, pu_upd_ne _ _ (by omega)]
  obtain ⟨n', m', t', b', x1, x2, x3, x4, x5, x6, x7, x8, x9, -⟩ := id R1a.2.2.1
  obtain ⟨l, hl, el⟩ := x9 i (by omega)
  have el' : am_up f4 4 i (g5 217 (9 + i) + v) 3 i = nI l := (rl_g_le (o := 0) R1a.1 (by omega)).trans el
  generalize hF1 : am_up f4 4 i (g5 217 (9 + i) + v) = F1 at *
  generalize hG1 : am_up g5 217 (9 + i) (g5 217 (9 + i) + v) = G1 at *
  -- learnt
  have L : ∃ F2 G2, (if 0 < F1 121 7 then (if am_in (nI i) 6 = true then (if F1 3 (nI i).toNatClampNeg < 99 then (if am_in (nI i) 6 = true then (if am_in (nI i) 6 = true then (am_let (am_up F1 3 (nI i).toNatClampNeg ((F1 3 (nI i).toNatClampNeg) + 1) : Nat → Nat → Int32) fun f3 => some f3) else none) else none) else some F1) else none) else some F1) = some F2 ∧ (if 0 < nI a then am_up G1 217 (3 + i) (m_lesser 99 (G1 217 (3 + i) + 1)) else G1) = G2 ∧ tk_R 0 true c T F2 G2 ∧ tk_F 0 true F1 F2 G1 G2 := by
    rw [q7]
    by_cases h0 : (0 : Int32) < nI a
    · simp only [h0, if_true, c6, nI_clamp (show i < 2 ^ 31 by omega), el', el, pu_letE, nI_1]
      by_cases h9 : l < 99
      · have e1 : nI l < 99 := nI_lt (b := 99) h9 (by omega)
        have e2 : m_lesser 99 (nI (l + 1)) = nI (l + 1) := by
          unfold m_lesser
          by_cases h8 : l + 1 = 99
          · rw [h8]
            decide
          · rw [if_neg (show ¬ (99 : Int32) < nI (l + 1) from nI_nlt (a := 99) (by omega) (by omega))]
        simp only [e1, if_true, e2]
        have R2 := tk_cell ho R1a (a := 3) (j := i) (i := 3 + i) (v := nI (l + 1)) (by decide) (by decide) (by omega) (rl_s_le R1a.1 (by omega) _) (iv_c_le R1a.2.2.1 (by omega) (by omega))
        exact ⟨_, _, rfl, rfl, R2.1, R2.2⟩
      · have e0 : l = 99 := by omega
        subst e0
        have e2 : m_lesser 99 (nI (99 + 1)) = nI 99 := by decide
        simp only [show ¬ (nI 99 < (99 : Int32)) by decide, if_false, e2]
        refine ⟨F1, G1, rfl, ?_, R1a, tk_F.rf⟩
        rw [← el, up_self]
    · simp only [h0, if_false]
      exact ⟨F1, G1, rfl, rfl, R1a, tk_F.rf⟩
  obtain ⟨F2, G2, l1, l2, l3, l4⟩ := L
  have l1' := l1
  rw [q7] at l1'
  unfold xb_warm_2
  rw [hx, pu_bs]
  simp only [c6, if_true, nI_clamp (show i < 2 ^ 31 by omega), er, hF1, pu_letE] at l1' ⊢
  have hcl : ∀ (o1 o2 : Option (Nat → Nat → Int32)), o1 = o2 → o2 = some F2 → o1 = some F2 := fun _ _ a b => a.trans b
  by_cases hv : 0 < v
  · obtain ⟨F3, n1, n2, n3, n4, -⟩ := nt_2 l3 2 (nI i) v
    obtain ⟨-, -, m2, -⟩ := nt_2 R1a 2 (nI i) v
    refine ⟨F3, nt_g true 2 (nI i) v G1, nt_g true 2 (nI i) v G2, ?_, ?_, ?_, ?_, ?_, n3, (R1b.trans l4).trans n4⟩
    · simp only [q7, l1', pu_bs, hv, if_true, n1]
    · simp only [hv, if_true, m2, pu_bs]
    · intro j hj
      rw [nt_lo _ _ _ _ _ (by omega) (by omega)]
      exact gm j hj
    · rw [nt_lo _ _ _ _ _ (by omega) (by omega), ← l2]
      by_cases h0 : (0 : Int32) < nI a
      · simp only [h0, if_true]
        rw [nt_up (by omega) (by omega) (by omega)]
      · simp only [h0, if_false]
    · rw [nt_lo _ _ _ _ _ (by omega) (by omega), ← l2]
      by_cases h0 : (0 : Int32) < nI a
      · simp only [h0, if_true]
        rw [pu_up_row, pu_upd_ne _ _ (by omega)]
        exact gm _ (by omega)
      · simp only [h0, if_false]
        exact gm _ (by omega)
  · refine ⟨F2, G1, G2, ?_, ?_, gm, ?_, ?_, l3, R1b.trans l4⟩
    · simp only [q7, l1', pu_bs, hv, if_false]
    · simp only [hv, if_false]
    · rw [← l2]
      by_cases h0 : (0 : Int32) < nI a
      · simp only [h0, if_true]
      · simp only [h0, if_false]
    · rw [← l2]
      by_cases h0 : (0 : Int32) < nI a
      · simp only [h0, if_true]
        rw [pu_up_row, pu_upd_ne _ _ (by omega)]
        exact gm _ (by omega)
      · simp only [h0, if_false]
        exact gm _ (by omega)
theorem off_110 {c : Nat → Nat} {T : Nat} {f g : Nat → Nat → Int32} (h : tk_R 108 false c T f g) (hT : T < 1000000) (hc : ∀ k, c k ≤ 1) {n m i p : Nat} (en : g 217 69 = nI n) (hn : n ≤ 6) (em : g 217 70 = nI m) (hm : m ≤ 12) (hi : i < n) (hp : p < m) (hu : g 217 (15 + i) = nI p) : ∃ f' g', xb_goOffTop_110 (nI i) false f = some f' ∧ m_notes 4 (nI i) (nI p) (am_up (am_up (am_up (am_up g 217 (9 + i) 420) 217 (27 + i) (g 217 (27 + i) + 1)) 217 (57 + p) (g 217 (57 + p) + 1)) 217 (15 + i) (-1)) = some g' ∧ tk_R 108 false (fun j => if j = i then c j + 1 else c j) T f' g' ∧ tk_F 108 false f f' g g' := by
  have ho : 108 = 0 ∨ 108 = 108 := by decide
  have R1 := tk_cell ho h (a := 4) (j := i) (i := 9 + i) (v := 420) (by decide) (by decide) (by omega) (rl_s_re h.1 (by omega) _) (iv_c_re h.2.2.1 (by omega) _)
  have en1 : am_up g 217 (9 + i) 420 217 69 = nI n := by rw [pu_up_row, pu_upd_ne _ _ (by omega)]; exact en
  have w7 : am_up g 217 (9 + i) 420 217 (27 + i) = g 217 (27 + i) := by rw [pu_up_row, pu_upd_ne _ _ (by omega)]
  have C2 := iv_c_of R1.1.2.2.1 en1 hn hi
  rw [w7] at C2
  have R2 := tk_cell ho R1.1 (a := 7) (j := i) (i := 27 + i) (v := g 217 (27 + i) + 1) (by decide) (by decide) (by omega) (rl_s_of R1.1.1 (by omega) _) C2 (fun k hk e => by
    obtain ⟨n', m', t', b', x1, x2, x3, x4, x5, x6, x7, x8, x9, x10, x11, x12, x13⟩ := id h.2.2.1
    obtain ⟨z, z1, z2, -⟩ := x12 i (by omega)
    have := hc i
    rw [w7, z1, nI_1, nI_toInt (by omega), nI_toInt (by omega)]
    omega)
  have em2 : am_up (am_up g 217 (9 + i) 420) 217 (27 + i) (g 217 (27 + i) + 1) 217 70 = nI m := by rw [pu_up_row, pu_upd_ne _ _ (by omega), pu_up_row, pu_upd_ne _ _ (by omega)]; exact em
  have R3 := tk_cell ho R2.1 (a := 11) (j := p) (i := 57 + p) (v := g 217 (57 + p) + 1) (by decide) (by decide) (by omega) (rl_s_gi R2.1.1 (by omega) _) (iv_c_gi R2.1.2.2.1 em2 hm hp _)
  have R4 := tk_cell ho R3.1 (a := 5) (j := i) (i := 15 + i) (v := -1) (by decide) (by decide) (by omega) (rl_s_un R3.1.1 (by omega) _) (iv_c_un R3.1.2.2.1 (by omega) (Or.inl rfl))
  obtain ⟨f5, n1, n2, n3, n4, -⟩ := nt_110 R4.1 4 (nI i) (nI p)
  have n1' : xb_note_110 4 (nI i) (nI p) false (am_up (am_up (am_up (am_up f 112 i 420) 115 i (g 217 (27 + i) + 1)) 119 p (g 217 (57 + p) + 1)) 113 i (-1)) = some f5 := n1
  refine ⟨f5, _, ?_, n2, n3, (((R1.2.trans R2.2).trans R3.2).trans R4.2).trans n4⟩
  unfold xb_goOffTop_110
  have c6 : am_in (nI i) 6 = true := pu_in (by omega) (by omega)
  have c12 : am_in (nI p) 12 = true := pu_in (by omega) (by omega)
  have eu : f 113 i = nI p := (rl_g_un (o := 108) h.1 (by omega)).trans hu
  have ev7 : f 115 i = g 217 (27 + i) := rl_g_of (o := 108) h.1 (by omega)
  have ev11 : f 119 p = g 217 (57 + p) := rl_g_gi (o := 108) h.1 (by omega)
  have e3 : f 110 1 = nI m := (rl_g_wn (o := 108) h.1).trans em
  have hw : xc_hasWitness_110 (nI p) (am_up (am_up f 112 i 420) 115 i (g 217 (27 + i) + 1)) = true := by
    unfold xc_hasWitness_110
    rw [pu_up_ne _ _ (by decide), pu_up_ne _ _ (by decide), e3, if_neg (nI_pos (by omega)), if_pos (nI_lt hp (by omega))]
  simp only [c6, c12, if_true, pu_letE, nI_clamp (show i < 2 ^ 31 by omega), nI_clamp (show p < 2 ^ 31 by omega), eu, pu_up_ne f (a := 112) (b := 115) _ (by decide), ev7, hw, pu_up_ne _ (a := 115) (b := 119) _ (by decide), pu_up_ne f (a := 112) (b := 119) _ (by decide), ev11, n1', pu_bs]
theorem warm_110 {c : Nat → Nat} {T : Nat} {f f4 g5 : Nat → Nat → Int32} {v : Int32} (hx : xb_told 0 f = some (v, f4)) (h : tk_R 108 false c T f4 g5) {n i a : Nat} (en : g5 217 69 = nI n) (hn : n ≤ 6) (hi : i < n) (h7 : f4 121 7 = nI a) (ha : a ≤ 10) : ∃ f' G' g', xb_warm_110 (nI i) false f = some f' ∧ (if 0 < v then (m_notes 2 (nI i) v (am_up g5 217 (9 + i) (g5 217 (9 + i) + v))).bind (fun p12 => some p12) else some (am_up g5 217 (9 + i) (g5 217 (9 + i) + v))) = some G' ∧ (∀ j, (15 ≤ j ∧ j < 21) ∨ (75 ≤ j ∧ j < 343) → G' 217 j = g5 217 j) ∧
    (if 0 < nI a then some (am_up G' 217 (3 + i) (m_lesser 99 (G' 217 (3 + i) + 1))) else some G') = some g' ∧ g' 217 (15 + i) = g5 217 (15 + i) ∧ tk_R 108 false c T f' g' ∧ tk_F 108 false f4 f' g5 g' := by
  have ho : 108 = 0 ∨ 108 = 108 := by decide
  have R1 := tk_cell ho h (a := 4) (j := i) (i := 9 + i) (v := g5 217 (9 + i) + v) (by decide) (by decide) (by omega) (rl_s_re h.1 (by omega) _) (iv_c_re h.2.2.1 (by omega) _)
  have R1a : tk_R 108 false c T (am_up f4 112 i (g5 217 (9 + i) + v)) (am_up g5 217 (9 + i) (g5 217 (9 + i) + v)) := R1.1
  have R1b : tk_F 108 false f4 (am_up f4 112 i (g5 217 (9 + i) + v)) g5 (am_up g5 217 (9 + i) (g5 217 (9 + i) + v)) := R1.2
  have c6 : am_in (nI i) 6 = true := pu_in (by omega) (by omega)
  have er : f4 112 i = g5 217 (9 + i) := rl_g_re (o := 108) h.1 (by omega)
  have q7 : am_up f4 112 i (g5 217 (9 + i) + v) 121 7 = nI a := by rw [pu_up_ne _ _ (by decide)]; exact h7
  have gm : ∀ j, (15 ≤ j ∧ j < 21) ∨ (75 ≤ j ∧ j < 343) → am_up g5 217 (9 + i) (g5 217 (9 + i) + v) 217 j = g5 217 j := fun j hj => by rw [pu_up_row, pu_upd_ne _ _ (by omega)]
  obtain ⟨n', m', t', b', x1, x2, x3, x4, x5, x6, x7, x8, x9, -⟩ := id R1a.2.2.1
  obtain ⟨l, hl, el⟩ := x9 i (by omega)
  have el' : am_up f4 112 i (g5 217 (9 + i) + v) 111 i = nI l := (rl_g_le (o := 108) R1a.1 (by omega)).trans el
  generalize hF1 : am_up f4 112 i (g5 217 (9 + i) + v) = F1 at *
  generalize hG1 : am_up g5 217 (9 + i) (g5 217 (9 + i) + v) = G1 at *
  -- learnt
  have L : ∃ F2 G2, (if 0 < F1 121 7 then (if am_in (nI i) 6 = true then (if F1 111 (nI i).toNatClampNeg < 99 then (if am_in (nI i) 6 = true then (if am_in (nI i) 6 = true then (am_let (am_up F1 111 (nI i).toNatClampNeg ((F1 111 (nI i).toNatClampNeg) + 1) : Nat → Nat → Int32) fun f3 => some f3) else none) else none) else some F1) else none) else some F1) = some F2 ∧ (if 0 < nI a then am_up G1 217 (3 + i) (m_lesser 99 (G1 217 (3 + i) + 1)) else G1) = G2 ∧ tk_R 108 false c T F2 G2 ∧ tk_F 108 false F1 F2 G1 G2 := by
    rw [q7]
    by_cases h0 : (0 : Int32) < nI a
    · simp only [h0, if_true, c6, nI_clamp (show i < 2 ^ 31 by omega), el', el, pu_letE, nI_1]
      by_cases h9 : l < 99
      · have e1 : nI l < 99 := nI_lt (b := 99) h9 (by omega)
        have e2 : m_lesser 99 (nI (l + 1)) = nI (l + 1) := by
          unfold m_lesser
          by_cases h8 : l + 1 = 99
          · rw [h8]
            decide
          · rw [if_neg (show ¬ (99 : Int32) < nI (l + 1) from nI_nlt (a := 99) (by omega) (by omega))]
        simp only [e1, if_true, e2]
        have R2 := tk_cell ho R1a (a := 3) (j := i) (i := 3 + i) (v := nI (l + 1)) (by decide) (by decide) (by omega) (rl_s_le R1a.1 (by omega) _) (iv_c_le R1a.2.2.1 (by omega) (by omega))
        exact ⟨_, _, rfl, rfl, R2.1, R2.2⟩
      · have e0 : l = 99 := by omega
        subst e0
        have e2 : m_lesser 99 (nI (99 + 1)) = nI 99 := by decide
        simp only [show ¬ (nI 99 < (99 : Int32)) by decide, if_false, e2]
        refine ⟨F1, G1, rfl, ?_, R1a, tk_F.rf⟩
        rw [← el, up_self]
    · simp only [h0, if_false]
      exact ⟨F1, G1, rfl, rfl, R1a, tk_F.rf⟩
  obtain ⟨F2, G2, l1, l2, l3, l4⟩ := L
  have l1' := l1
  rw [q7] at l1'
  unfold xb_warm_110
  rw [hx, pu_bs]
  simp only [c6, if_true, nI_clamp (show i < 2 ^ 31 by omega), er, hF1, pu_letE] at l1' ⊢
  have hcl : ∀ (o1 o2 : Option (Nat → Nat → Int32)), o1 = o2 → o2 = some F2 → o1 = some F2 := fun _ _ a b => a.trans b
  by_cases hv : 0 < v
  · obtain ⟨F3, n1, n2, n3, n4, -⟩ := nt_110 l3 2 (nI i) v
    obtain ⟨-, -, m2, -⟩ := nt_110 R1a 2 (nI i) v
    refine ⟨F3, nt_g false 2 (nI i) v G1, nt_g false 2 (nI i) v G2, ?_, ?_, ?_, ?_, ?_, n3, (R1b.trans l4).trans n4⟩
    · simp only [q7, l1', pu_bs, hv, if_true, n1]
    · simp only [hv, if_true, m2, pu_bs]
    · intro j hj
      rw [nt_lo _ _ _ _ _ (by omega) (by omega)]
      exact gm j hj
    · rw [nt_lo _ _ _ _ _ (by omega) (by omega), ← l2]
      by_cases h0 : (0 : Int32) < nI a
      · simp only [h0, if_true]
        rw [nt_up (by omega) (by omega) (by omega)]
      · simp only [h0, if_false]
    · rw [nt_lo _ _ _ _ _ (by omega) (by omega), ← l2]
      by_cases h0 : (0 : Int32) < nI a
      · simp only [h0, if_true]
        rw [pu_up_row, pu_upd_ne _ _ (by omega)]
        exact gm _ (by omega)
      · simp only [h0, if_false]
        exact gm _ (by omega)
  · refine ⟨F2, G1, G2, ?_, ?_, gm, ?_, ?_, l3, R1b.trans l4⟩
    · simp only [q7, l1', pu_bs, hv, if_false]
    · simp only [hv, if_false]
    · rw [← l2]
      by_cases h0 : (0 : Int32) < nI a
      · simp only [h0, if_true]
      · simp only [h0, if_false]
    · rw [← l2]
      by_cases h0 : (0 : Int32) < nI a
      · simp only [h0, if_true]
        rw [pu_up_row, pu_upd_ne _ _ (by omega)]
        exact gm _ (by omega)
      · simp only [h0, if_false]
        exact gm _ (by omega)
