theorem walk_2 {c : Nat → Nat} {T : Nat} {f g : Nat → Nat → Int32} (h : tk_R 0 true c T f g) : ∃ f' g', am_loop (fun (s1 : Int32 × (Nat → Nat → Int32)) => ((
    if s1.1 < s1.2 20 0 then (
      if am_in s1.1 16 = true then (
      ((if s1.2 21 s1.1.toNatClampNeg = s1.2 2 2 then (
          if am_in s1.1 16 = true then (
          if (xc_hasGlass_2 (s1.2 22 s1.1.toNatClampNeg) s1.2) = true then (
            (xb_walkLine_2 s1.1 true s1.2).bind fun p3 =>
            some p3)
          else (
            some s1.2)) else none)
        else (
          some s1.2)) : Option ((Nat → Nat → Int32))).bind fun t4 =>
      am_let (s1.1 + 1 : Int32) fun t5 =>
      some (.inl (t5, t4))) else none)
    else (
      some (.inr s1.2))) : Option ((Int32 × (Nat → Nat → Int32)) ⊕ ((Nat → Nat → Int32))))) am_F (0, f) = some f' ∧ m_walks g = some g' ∧ tk_R 0 true c T f' g' ∧ tk_F 0 true f f' g g' := by
  have ho : 0 = 0 ∨ 0 = 108 := by decide
  obtain ⟨l, hl, el, -⟩ := id h.2.2.2.2.2.1
  unfold m_walks
  refine pu_two (fun j s t => ∃ fj gj, s = (nI j, fj) ∧ t = (nI j, gj) ∧ tk_R 0 true c T fj gj ∧ tk_F 0 true f fj g gj) (fun e e' => tk_R 0 true c T e e' ∧ tk_F 0 true f e g e') l ⟨f, g, rfl, rfl, h, tk_F.rf⟩ ?_ ?_
  · rintro j s t hj ⟨fj, gj, rfl, rfl, R, F⟩
    refine Or.inl ?_
    have e72 : gj 217 72 = nI l := by rw [F.2.2.1 72 (by decide) (Or.inl (by omega))]; exact el
    obtain ⟨l', hl', el', hL⟩ := id R.2.2.2.2.2.1
    have ell : l' = l := pu_nIinj (by omega) (by omega) (el'.symm.trans e72)
    subst ell
    have e20 : fj 20 0 = nI l' := (rl_gX R.2.1).2.trans e72
    obtain ⟨a, q, d, y1, y2, y3, y4, y5, ⟨n, yn, yn6, ygl⟩, y6, y7, y8, y9, y10, y11⟩ := hL j hj
    obtain ⟨n', m, t', b', x1, x2, x3, x4, -⟩ := id R.2.2.1
    have enn : n = n' := pu_nIinj (by omega) (by omega) (yn.symm.trans x1)
    subst enn
    have z1 : fj 21 j = nI a := y1
    have z4 : fj 22 j = nI q := y4
    have z6 : fj 23 j = nI d := y6
    have hjl : nI j < nI l' := nI_lt hj (by omega)
    have c16 : am_in (nI j) 16 = true := pu_in (by omega) (by omega)
    have c6 : am_in (nI q) 6 = true := pu_in (by omega) (by omega)
    have a343 : (343 : Int32) + 4 * nI j = nI (343 + 4 * j) := by rw [show (4 : Int32) = nI 4 from rfl, pk_mul, show (343 : Int32) = nI 343 from rfl, nI_add]
    have a344 : nI (343 + 4 * j) + 1 = nI (344 + 4 * j) := by rw [nI_1]; congr 1; omega
    have a345 : nI (343 + 4 * j) + 2 = nI (345 + 4 * j) := by rw [show (2 : Int32) = nI 2 from rfl, nI_add]; congr 1; omega
    have a346 : nI (343 + 4 * j) + 3 = nI (346 + 4 * j) := by rw [show (3 : Int32) = nI 3 from rfl, nI_add]; congr 1; omega
    have d343 : am_in (nI (343 + 4 * j)) 2008 = true := pu_in (by omega) (by omega)
    have d344 : am_in (nI (344 + 4 * j)) 2008 = true := pu_in (by omega) (by omega)
    have d345 : am_in (nI (345 + 4 * j)) 2008 = true := pu_in (by omega) (by omega)
    have d346 : am_in (nI (346 + 4 * j)) 2008 = true := pu_in (by omega) (by omega)
    have eti : fj 2 2 = gj 217 0 := rl_g_ti (o := 0) R.1
    have a21 : (21 : Int32) + nI q = nI (21 + q) := nI_add 21 q
    have a9 : (9 : Int32) + nI q = nI (9 + q) := nI_add 9 q
    have a3 : (3 : Int32) + nI q = nI (3 + q) := nI_add 3 q
    have d21 : am_in (nI (21 + q)) 2008 = true := pu_in (by omega) (by omega)
    have d9 : am_in (nI (9 + q)) 2008 = true := pu_in (by omega) (by omega)
    have d3 : am_in (nI (3 + q)) 2008 = true := pu_in (by omega) (by omega)
    have hg : xc_hasGlass_2 (nI q) fj = true := by
      unfold xc_hasGlass_2
      rw [show fj 2 0 = nI n from (rl_g_gn (o := 0) R.1).trans x1, if_neg (nI_pos (by omega)), if_pos (nI_lt ygl (by omega))]
    dsimp only
    simp only [e20, e72, hjl, c16, if_true, nI_clamp (show j < 2 ^ 31 by omega), z1, z4, hg, eti, a343, a344, a345, a346, d343, d344, d345, d346, nI_clamp (show 343 + 4 * j < 2 ^ 31 by omega), nI_clamp (show 344 + 4 * j < 2 ^ 31 by omega), nI_clamp (show 345 + 4 * j < 2 ^ 31 by omega), nI_clamp (show 346 + 4 * j < 2 ^ 31 by omega), y2, y5, y7, pu_letE, nI_1]
    by_cases ht : nI a = gj 217 0
    · simp only [ht, if_true]
      unfold xb_walkLine_2
      simp only [c16, c6, if_true, nI_clamp (show j < 2 ^ 31 by omega), nI_clamp (show q < 2 ^ 31 by omega), z4, z6, pu_letE, a21, a9, a3, d21, d9, d3, nI_clamp (show 21 + q < 2 ^ 31 by omega), nI_clamp (show 9 + q < 2 ^ 31 by omega), nI_clamp (show 3 + q < 2 ^ 31 by omega)]
      have hd : d = 2 ∨ d = 3 ∨ d = 4 ∨ d = 5 ∨ d = 6 ∨ d = 7 := by omega
      rcases hd with rfl | rfl | rfl | rfl | rfl | rfl
      · obtain ⟨v, hv, v1, v2⟩ := y10 rfl
        have v1' : fj 24 j = nI v := v1
        have R2 := tk_cell ho R (a := 6) (j := q) (i := 21 + q) (v := nI v) (by decide) (by decide) (by omega) (rl_s_sa R.1 (by omega) _) (iv_c_sa R.2.2.1 (by omega) (Or.inr ⟨v, hv, rfl⟩))
        simp only [show nI 2 = (2 : Int32) from rfl, show nI (2 + 7) = (9 : Int32) from rfl, if_true, v1', v2, pu_bs]
        exact ⟨_, _, rfl, rfl, _, _, rfl, rfl, R2.1, F.trans R2.2⟩
      · have R2 := tk_cell ho R (a := 6) (j := q) (i := 21 + q) (v := -1) (by decide) (by decide) (by omega) (rl_s_sa R.1 (by omega) _) (iv_c_sa R.2.2.1 (by omega) (Or.inl rfl))
        simp only [show ¬ (nI 3 = (2 : Int32)) by decide, show nI 3 = (3 : Int32) from rfl, show ¬ ((3 : Int32) = 2) by decide, show nI (3 + 7) = (10 : Int32) from rfl, show ¬ ((10 : Int32) = 9) by decide, if_true, if_false, pu_bs]
        exact ⟨_, _, rfl, rfl, _, _, rfl, rfl, R2.1, F.trans R2.2⟩
      · have R2 := tk_cell ho R (a := 4) (j := q) (i := 9 + q) (v := 300) (by decide) (by decide) (by omega) (rl_s_re R.1 (by omega) _) (iv_c_re R.2.2.1 (by omega) _)
        simp only [show nI 4 = (4 : Int32) from rfl, show ¬ ((4 : Int32) = 2) by decide, show ¬ ((4 : Int32) = 3) by decide, show nI (4 + 7) = (11 : Int32) from rfl, show ¬ ((11 : Int32) = 9) by decide, show ¬ ((11 : Int32) = 10) by decide, if_true, if_false, pu_bs]
        exact ⟨_, _, rfl, rfl, _, _, rfl, rfl, R2.1, F.trans R2.2⟩
      · have R2 := tk_cell ho R (a := 3) (j := q) (i := 3 + q) (v := 0) (by decide) (by decide) (by omega) (rl_s_le R.1 (by omega) _) (iv_c_le (z := 0) R.2.2.1 (by omega) (by omega))
        simp only [show nI 5 = (5 : Int32) from rfl, show ¬ ((5 : Int32) = 2) by decide, show ¬ ((5 : Int32) = 3) by decide, show ¬ ((5 : Int32) = 4) by decide, show nI (5 + 7) = (12 : Int32) from rfl, show ¬ ((12 : Int32) = 9) by decide, show ¬ ((12 : Int32) = 10) by decide, show ¬ ((12 : Int32) = 11) by decide, if_true, if_false, pu_bs]
        exact ⟨_, _, rfl, rfl, _, _, rfl, rfl, R2.1, F.trans R2.2⟩
      · obtain ⟨v, v1, v2, m', em', em12, hv⟩ := y11 rfl
        have v1' : fj 24 j = nI v := v1
        have emm : m' = m := pu_nIinj (by omega) (by omega) (em'.symm.trans x3)
        subst emm
        obtain ⟨f', g', p1, p2, p3, p4⟩ := put_2 R x1 x2 x3 x4 ygl hv
        simp only [show nI 6 = (6 : Int32) from rfl, show ¬ ((6 : Int32) = 2) by decide, show ¬ ((6 : Int32) = 3) by decide, show ¬ ((6 : Int32) = 4) by decide, show ¬ ((6 : Int32) = 5) by decide, show nI (6 + 7) = (13 : Int32) from rfl, show ¬ ((13 : Int32) = 9) by decide, show ¬ ((13 : Int32) = 10) by decide, show ¬ ((13 : Int32) = 11) by decide, show ¬ ((13 : Int32) = 12) by decide, if_true, if_false, pu_bs, v1', v2, p1, p2]
        exact ⟨_, _, rfl, rfl, _, _, rfl, rfl, p3, F.trans p4⟩
      · obtain ⟨f', g', p1, p2, p3, p4⟩ := out_2 R x1 x2 ygl
        simp only [show nI 7 = (7 : Int32) from rfl, show ¬ ((7 : Int32) = 2) by decide, show ¬ ((7 : Int32) = 3) by decide, show ¬ ((7 : Int32) = 4) by decide, show ¬ ((7 : Int32) = 5) by decide, show ¬ ((7 : Int32) = 6) by decide, show nI (7 + 7) = (14 : Int32) from rfl, show ¬ ((14 : Int32) = 9) by decide, show ¬ ((14 : Int32) = 10) by decide, show ¬ ((14 : Int32) = 11) by decide, show ¬ ((14 : Int32) = 12) by decide, show ¬ ((14 : Int32) = 13) by decide, if_true, if_false, pu_bs, p1, p2]
        exact ⟨_, _, rfl, rfl, _, _, rfl, rfl, p3, F.trans p4⟩
    · simp only [ht, if_false, pu_bs]
      exact ⟨_, _, rfl, rfl, fj, gj, rfl, rfl, R, F⟩
  · rintro s t ⟨fj, gj, rfl, rfl, R, F⟩
    have e72 : gj 217 72 = nI l := by rw [F.2.2.1 72 (by decide) (Or.inl (by omega))]; exact el
    have e20 : fj 20 0 = nI l := (rl_gX R.2.1).2.trans e72
    dsimp only
    have hll : ¬ nI l < nI l := nI_nlt (Nat.le_refl _) (by omega)
    simp only [e20, e72, hll, if_false]
    exact ⟨_, _, rfl, rfl, R, F⟩
theorem walk_110 {c : Nat → Nat} {T : Nat} {f g : Nat → Nat → Int32} (h : tk_R 108 false c T f g) : ∃ f' g', am_loop (fun (s1 : Int32 × (Nat → Nat → Int32)) => ((
    if s1.1 < s1.2 20 0 then (
      if am_in s1.1 16 = true then (
      ((if s1.2 21 s1.1.toNatClampNeg = s1.2 110 2 then (
          if am_in s1.1 16 = true then (
          if (xc_hasGlass_110 (s1.2 22 s1.1.toNatClampNeg) s1.2) = true then (
            (xb_walkLine_110 s1.1 false s1.2).bind fun p3 =>
            some p3)
          else (
            some s1.2)) else none)
        else (
          some s1.2)) : Option ((Nat → Nat → Int32))).bind fun t4 =>
      am_let (s1.1 + 1 : Int32) fun t5 =>
      some (.inl (t5, t4))) else none)
    else (
      some (.inr s1.2))) : Option ((Int32 × (Nat → Nat → Int32)) ⊕ ((Nat → Nat → Int32))))) am_F (0, f) = some f' ∧ m_walks g = some g' ∧ tk_R 108 false c T f' g' ∧ tk_F 108 false f f' g g' := by
  have ho : 108 = 0 ∨ 108 = 108 := by decide
  obtain ⟨l, hl, el, -⟩ := id h.2.2.2.2.2.1
  unfold m_walks
  refine pu_two (fun j s t => ∃ fj gj, s = (nI j, fj) ∧ t = (nI j, gj) ∧ tk_R 108 false c T fj gj ∧ tk_F 108 false f fj g gj) (fun e e' => tk_R 108 false c T e e' ∧ tk_F 108 false f e g e') l ⟨f, g, rfl, rfl, h, tk_F.rf⟩ ?_ ?_
  · rintro j s t hj ⟨fj, gj, rfl, rfl, R, F⟩
    refine Or.inl ?_
    have e72 : gj 217 72 = nI l := by rw [F.2.2.1 72 (by decide) (Or.inl (by omega))]; exact el
    obtain ⟨l', hl', el', hL⟩ := id R.2.2.2.2.2.1
    have ell : l' = l := pu_nIinj (by omega) (by omega) (el'.symm.trans e72)
    subst ell
    have e20 : fj 20 0 = nI l' := (rl_gX R.2.1).2.trans e72
    obtain ⟨a, q, d, y1, y2, y3, y4, y5, ⟨n, yn, yn6, ygl⟩, y6, y7, y8, y9, y10, y11⟩ := hL j hj
    obtain ⟨n', m, t', b', x1, x2, x3, x4, -⟩ := id R.2.2.1
    have enn : n = n' := pu_nIinj (by omega) (by omega) (yn.symm.trans x1)
    subst enn
    have z1 : fj 21 j = nI a := y1
    have z4 : fj 22 j = nI q := y4
    have z6 : fj 23 j = nI d := y6
    have hjl : nI j < nI l' := nI_lt hj (by omega)
    have c16 : am_in (nI j) 16 = true := pu_in (by omega) (by omega)
    have c6 : am_in (nI q) 6 = true := pu_in (by omega) (by omega)
    have a343 : (343 : Int32) + 4 * nI j = nI (343 + 4 * j) := by rw [show (4 : Int32) = nI 4 from rfl, pk_mul, show (343 : Int32) = nI 343 from rfl, nI_add]
    have a344 : nI (343 + 4 * j) + 1 = nI (344 + 4 * j) := by rw [nI_1]; congr 1; omega
    have a345 : nI (343 + 4 * j) + 2 = nI (345 + 4 * j) := by rw [show (2 : Int32) = nI 2 from rfl, nI_add]; congr 1; omega
    have a346 : nI (343 + 4 * j) + 3 = nI (346 + 4 * j) := by rw [show (3 : Int32) = nI 3 from rfl, nI_add]; congr 1; omega
    have d343 : am_in (nI (343 + 4 * j)) 2008 = true := pu_in (by omega) (by omega)
    have d344 : am_in (nI (344 + 4 * j)) 2008 = true := pu_in (by omega) (by omega)
    have d345 : am_in (nI (345 + 4 * j)) 2008 = true := pu_in (by omega) (by omega)
    have d346 : am_in (nI (346 + 4 * j)) 2008 = true := pu_in (by omega) (by omega)
    have eti : fj 110 2 = gj 217 0 := rl_g_ti (o := 108) R.1
    have a21 : (21 : Int32) + nI q = nI (21 + q) := nI_add 21 q
    have a9 : (9 : Int32) + nI q = nI (9 + q) := nI_add 9 q
    have a3 : (3 : Int32) + nI q = nI (3 + q) := nI_add 3 q
    have d21 : am_in (nI (21 + q)) 2008 = true := pu_in (by omega) (by omega)
    have d9 : am_in (nI (9 + q)) 2008 = true := pu_in (by omega) (by omega)
    have d3 : am_in (nI (3 + q)) 2008 = true := pu_in (by omega) (by omega)
    have hg : xc_hasGlass_110 (nI q) fj = true := by
      unfold xc_hasGlass_110
      rw [show fj 110 0 = nI n from (rl_g_gn (o := 108) R.1).trans x1, if_neg (nI_pos (by omega)), if_pos (nI_lt ygl (by omega))]
    dsimp only
    simp only [e20, e72, hjl, c16, if_true, nI_clamp (show j < 2 ^ 31 by omega), z1, z4, hg, eti, a343, a344, a345, a346, d343, d344, d345, d346, nI_clamp (show 343 + 4 * j < 2 ^ 31 by omega), nI_clamp (show 344 + 4 * j < 2 ^ 31 by omega), nI_clamp (show 345 + 4 * j < 2 ^ 31 by omega), nI_clamp (show 346 + 4 * j < 2 ^ 31 by omega), y2, y5, y7, pu_letE, nI_1]
    by_cases ht : nI a = gj 217 0
    · simp only [ht, if_true]
      unfold xb_walkLine_110
      simp only [c16, c6, if_true, nI_clamp (show j < 2 ^ 31 by omega), nI_clamp (show q < 2 ^ 31 by omega), z4, z6, pu_letE, a21, a9, a3, d21, d9, d3, nI_clamp (show 21 + q < 2 ^ 31 by omega), nI_clamp (show 9 + q < 2 ^ 31 by omega), nI_clamp (show 3 + q < 2 ^ 31 by omega)]
      have hd : d = 2 ∨ d = 3 ∨ d = 4 ∨ d = 5 ∨ d = 6 ∨ d = 7 := by omega
      rcases hd with rfl | rfl | rfl | rfl | rfl | rfl
      · obtain ⟨v, hv, v1, v2⟩ := y10 rfl
        have v1' : fj 24 j = nI v := v1
        have R2 := tk_cell ho R (a := 6) (j := q) (i := 21 + q) (v := nI v) (by decide) (by decide) (by omega) (rl_s_sa R.1 (by omega) _) (iv_c_sa R.2.2.1 (by omega) (Or.inr ⟨v, hv, rfl⟩))
        simp only [show nI 2 = (2 : Int32) from rfl, show nI (2 + 7) = (9 : Int32) from rfl, if_true, v1', v2, pu_bs]
        exact ⟨_, _, rfl, rfl, _, _, rfl, rfl, R2.1, F.trans R2.2⟩
      · have R2 := tk_cell ho R (a := 6) (j := q) (i := 21 + q) (v := -1) (by decide) (by decide) (by omega) (rl_s_sa R.1 (by omega) _) (iv_c_sa R.2.2.1 (by omega) (Or.inl rfl))
        simp only [show ¬ (nI 3 = (2 : Int32)) by decide, show nI 3 = (3 : Int32) from rfl, show ¬ ((3 : Int32) = 2) by decide, show nI (3 + 7) = (10 : Int32) from rfl, show ¬ ((10 : Int32) = 9) by decide, if_true, if_false, pu_bs]
        exact ⟨_, _, rfl, rfl, _, _, rfl, rfl, R2.1, F.trans R2.2⟩
      · have R2 := tk_cell ho R (a := 4) (j := q) (i := 9 + q) (v := 300) (by decide) (by decide) (by omega) (rl_s_re R.1 (by omega) _) (iv_c_re R.2.2.1 (by omega) _)
        simp only [show nI 4 = (4 : Int32) from rfl, show ¬ ((4 : Int32) = 2) by decide, show ¬ ((4 : Int32) = 3) by decide, show nI (4 + 7) = (11 : Int32) from rfl, show ¬ ((11 : Int32) = 9) by decide, show ¬ ((11 : Int32) = 10) by decide, if_true, if_false, pu_bs]
        exact ⟨_, _, rfl, rfl, _, _, rfl, rfl, R2.1, F.trans R2.2⟩
      · have R2 := tk_cell ho R (a := 3) (j := q) (i := 3 + q) (v := 0) (by decide) (by decide) (by omega) (rl_s_le R.1 (by omega) _) (iv_c_le (z := 0) R.2.2.1 (by omega) (by omega))
        simp only [show nI 5 = (5 : Int32) from rfl, show ¬ ((5 : Int32) = 2) by decide, show ¬ ((5 : Int32) = 3) by decide, show ¬ ((5 : Int32) = 4) by decide, show nI (5 + 7) = (12 : Int32) from rfl, show ¬ ((12 : Int32) = 9) by decide, show ¬ ((12 : Int32) = 10) by decide, show ¬ ((12 : Int32) = 11) by decide, if_true, if_false, pu_bs]
        exact ⟨_, _, rfl, rfl, _, _, rfl, rfl, R2.1, F.trans R2.2⟩
      · obtain ⟨v, v1, v2, m', em', em12, hv⟩ := y11 rfl
        have v1' : fj 24 j = nI v := v1
        have emm : m' = m := pu_nIinj (by omega) (by omega) (em'.symm.trans x3)
        subst emm
        obtain ⟨f', g', p1, p2, p3, p4⟩ := put_110 R x1 x2 x3 x4 ygl hv
        simp only [show nI 6 = (6 : Int32) from rfl, show ¬ ((6 : Int32) = 2) by decide, show ¬ ((6 : Int32) = 3) by decide, show ¬ ((6 : Int32) = 4) by decide, show ¬ ((6 : Int32) = 5) by decide, show nI (6 + 7) = (13 : Int32) from rfl, show ¬ ((13 : Int32) = 9) by decide, show ¬ ((13 : Int32) = 10) by decide, show ¬ ((13 : Int32) = 11) by decide, show ¬ ((13 : Int32) = 12) by decide, if_true, if_false, pu_bs, v1', v2, p1, p2]
        exact ⟨_, _, rfl, rfl, _, _, rfl, rfl, p3, F.trans p4⟩
      · obtain ⟨f', g', p1, p2, p3, p4⟩ := out_110 R x1 x2 ygl
        simp only [show nI 7 = (7 : Int32) from rfl, show ¬ ((7 : Int32) = 2) by decide, show ¬ ((7 : Int32) = 3) by decide, show ¬ ((7 : Int32) = 4) by decide, show ¬ ((7 : Int32) = 5) by decide, show ¬ ((7 : Int32) = 6) by decide, show nI (7 + 7) = (14 : Int32) from rfl, show ¬ ((14 : Int32) = 9) by decide, show ¬ ((14 : Int32) = 10) by decide, show ¬ ((14 : Int32) = 11) by decide, show ¬ ((14 : Int32) = 12) by decide, show ¬ ((14 : Int32) = 13) by decide, if_true, if_false, pu_bs, p1, p2]
        exact ⟨_, _, rfl, rfl, _, _, rfl, rfl, p3, F.trans p4⟩
    · simp only [ht, if_false, pu_bs]
      exact ⟨_, _, rfl, rfl, fj, gj, rfl, rfl, R, F⟩
  · rintro s t ⟨fj, gj, rfl, rfl, R, F⟩
    have e72 : gj 217 72 = nI l := by rw [F.2.2.1 72 (by decide) (Or.inl (by omega))]; exact el
    have e20 : fj 20 0 = nI l := (rl_gX R.2.1).2.trans e72
    dsimp only
    have hll : ¬ nI l < nI l := nI_nlt (Nat.le_refl _) (by omega)
    simp only [e20, e72, hll, if_false]
    exact ⟨_, _, rfl, rfl, R, F⟩
