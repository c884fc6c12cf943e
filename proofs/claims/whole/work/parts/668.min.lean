theorem gls_2 {T : Nat} {f g : Nat → Nat → Int32} (h : tk_R 0 true (fun _ => 0) T f g) (hT : T < 1000000) {n m : Nat} (en : g 217 69 = nI n) (hn : n ≤ 6) (em : g 217 70 = nI m) (hm : m ≤ 12) : ∃ v f' g', am_loop (fun (s7 : Int32 × Int32 × (Nat → Nat → Int32)) => ((
    if s7.2.1 < s7.2.2 2 0 then (
      if am_in s7.2.1 6 = true then (
      ((if s7.2.2 5 s7.2.1.toNatClampNeg = (-1) then (
          some (s7.1, s7.2.2))
        else (
          (xb_passGlass_2 s7.2.1 true s7.2.2).bind fun p8 =>
          if p8.1 = true then (
            am_let (s7.1 + 1 : Int32) fun t9 =>
            some (t9, p8.2))
          else (
            some (s7.1, p8.2)))) : Option (Int32 × (Nat → Nat → Int32))).bind fun t10 =>
      am_let (s7.2.1 + 1 : Int32) fun t11 =>
      some (.inl (t10.1, t11, t10.2))) else none)
    else (
      some (.inr (s7.1, s7.2.2)))) : Option ((Int32 × Int32 × (Nat → Nat → Int32)) ⊕ (Int32 × (Nat → Nat → Int32))))) am_F (0, 0, f) = some (v, f') ∧ am_loop (fun (s2 : Int32 × Int32 × (Nat → Nat → Int32)) => ((
    if s2.2.1 < s2.2.2 217 69 then (
      (m_isRead s2.2.1 s2.2.2).bind fun p3 =>
      am_let ((if p3.1 = true then (
          true)
        else (
          false)) : Bool) fun t4 =>
      am_let ((s2.1 + (am_b t4)) : Int32) fun t5 =>
      am_let (s2.2.1 + 1 : Int32) fun t6 =>
      some (.inl (t5, t6, p3.2)))
    else (
      some (.inr (s2.1, s2.2.2)))) : Option ((Int32 × Int32 × (Nat → Nat → Int32)) ⊕ (Int32 × (Nat → Nat → Int32))))) am_F (0, 0, g) = some (v, g') ∧ tk_R 0 true (fun i => if i < n then 1 else 0) T f' g' ∧ tk_F 0 true f f' g g' := by
  have K := pu_two (f := fun (s7 : Int32 × Int32 × (Nat → Nat → Int32)) => ((
    if s7.2.1 < s7.2.2 2 0 then (
      if am_in s7.2.1 6 = true then (
      ((if s7.2.2 5 s7.2.1.toNatClampNeg = (-1) then (
          some (s7.1, s7.2.2))
        else (
          (xb_passGlass_2 s7.2.1 true s7.2.2).bind fun p8 =>
          if p8.1 = true then (
            am_let (s7.1 + 1 : Int32) fun t9 =>
            some (t9, p8.2))
          else (
            some (s7.1, p8.2)))) : Option (Int32 × (Nat → Nat → Int32))).bind fun t10 =>
      am_let (s7.2.1 + 1 : Int32) fun t11 =>
      some (.inl (t10.1, t11, t10.2))) else none)
    else (
      some (.inr (s7.1, s7.2.2)))) : Option ((Int32 × Int32 × (Nat → Nat → Int32)) ⊕ (Int32 × (Nat → Nat → Int32))))) (g := fun (s2 : Int32 × Int32 × (Nat → Nat → Int32)) => ((
    if s2.2.1 < s2.2.2 217 69 then (
      (m_isRead s2.2.1 s2.2.2).bind fun p3 =>
      am_let ((if p3.1 = true then (
          true)
        else (
          false)) : Bool) fun t4 =>
      am_let ((s2.1 + (am_b t4)) : Int32) fun t5 =>
      am_let (s2.2.1 + 1 : Int32) fun t6 =>
      some (.inl (t5, t6, p3.2)))
    else (
      some (.inr (s2.1, s2.2.2)))) : Option ((Int32 × Int32 × (Nat → Nat → Int32)) ⊕ (Int32 × (Nat → Nat → Int32))))) (s := (0, 0, f)) (t := (0, 0, g))
    (fun j s t => ∃ v fj gj, s = (v, nI j, fj) ∧ t = (v, nI j, gj) ∧ tk_R 0 true (fun i => if i < j then 1 else 0) T fj gj ∧ tk_F 0 true f fj g gj) (fun e e' => ∃ v fj gj, e = (v, fj) ∧ e' = (v, gj) ∧ tk_R 0 true (fun i => if i < n then 1 else 0) T fj gj ∧ tk_F 0 true f fj g gj) n ⟨0, f, g, rfl, rfl, h.mo (fun i => Nat.zero_le _), tk_F.rf⟩ (by
    rintro j s t hj ⟨v, fj, gj, rfl, rfl, R, F⟩
    refine Or.inl ?_
    have enj : gj 217 69 = nI n := by rw [F.2.2.1 69 (by decide) (Or.inl (by omega))]; exact en
    have emj : gj 217 70 = nI m := by rw [F.2.2.1 70 (by decide) (Or.inl (by omega))]; exact em
    have e20 : fj 2 0 = nI n := (rl_g_gn (o := 0) R.1).trans enj
    have eu : fj 5 j = gj 217 (15 + j) := rl_g_un (o := 0) R.1 (by omega)
    have hjl : nI j < nI n := nI_lt hj (by omega)
    have c6 : am_in (nI j) 6 = true := pu_in (by omega) (by omega)
    have a15 : (15 : Int32) + nI j = nI (15 + j) := nI_add 15 j
    have d15 : am_in (nI (15 + j)) 2008 = true := pu_in (by omega) (by omega)
    dsimp only
    simp only [e20, enj, hjl, c6, if_true, nI_clamp (show j < 2 ^ 31 by omega), eu, pu_letE, nI_1]
    obtain ⟨n0, m0, t0, b0, x1, x2, x3, x4, x5, x6, x7, x8, x9, x10, -⟩ := id R.2.2.1
    have e0 : n = n0 := pu_nIinj (by omega) (by omega) (enj.symm.trans x1)
    subst e0
    have em0 : m = m0 := pu_nIinj (by omega) (by omega) (emj.symm.trans x3)
    subst em0
    rcases x10 j hj with hu | ⟨p, hp, hu⟩
    · have e2 : m_isRead (nI j) gj = some (false, gj) := by
        unfold m_isRead
        simp only [a15, d15, if_true, nI_clamp (show 15 + j < 2 ^ 31 by omega), hu, pu_letE]
      simp only [hu, if_true, pu_bs, e2, Bool.false_eq_true, if_false]
      have e3 : v + am_b false = v := by
        show v + 0 = v
        exact Int32.add_zero v
      rw [e3]
      refine ⟨_, _, rfl, rfl, v, fj, gj, rfl, rfl, R.mo (fun i => ?_), F⟩
      by_cases hi : i < j
      · rw [if_pos hi, if_pos (by omega)]; exact Nat.le_refl _
      · rw [if_neg hi]; exact Nat.zero_le _
    · obtain ⟨b, f', g', p1, p2, p3, p4⟩ := pass_2 R hT (fun k => by by_cases hk : k < j; (· rw [if_pos hk]; exact Nat.le_refl _); (· rw [if_neg hk]; exact Nat.zero_le _)) x1 x2 x3 x4 hj hp hu
      have p3' : tk_R 0 true (fun i => if i < j + 1 then 1 else 0) T f' g' := p3.mo (fun i => by
        by_cases hi : i = j
        · subst hi
          rw [if_pos rfl, if_neg (by omega), if_pos (by omega)]
          exact Nat.le_refl _
        · rw [if_neg hi]
          by_cases h2 : i < j
          · rw [if_pos h2, if_pos (by omega)]; exact Nat.le_refl _
          · rw [if_neg h2]; exact Nat.zero_le _)
      simp only [hu, pu_neg1 (show p < 2 ^ 31 by omega), if_false, p1, p2, pu_bs]
      cases b with
      | true =>
        simp only [if_true, pu_bs, show am_b true = (1 : Int32) from rfl]
        exact ⟨_, _, rfl, rfl, _, f', g', rfl, rfl, p3', F.trans p4⟩
      | false =>
        have e3 : v + am_b false = v := by
          show v + 0 = v
          exact Int32.add_zero v
        simp only [Bool.false_eq_true, if_false, pu_bs, e3]
        exact ⟨_, _, rfl, rfl, _, f', g', rfl, rfl, p3', F.trans p4⟩) (by
    rintro s t ⟨v, fj, gj, rfl, rfl, R, F⟩
    have enj : gj 217 69 = nI n := by rw [F.2.2.1 69 (by decide) (Or.inl (by omega))]; exact en
    have e20 : fj 2 0 = nI n := (rl_g_gn (o := 0) R.1).trans enj
    have hll : ¬ nI n < nI n := nI_nlt (Nat.le_refl _) (by omega)
    dsimp only
    simp only [e20, enj, hll, if_false]
    exact ⟨_, _, rfl, rfl, v, fj, gj, rfl, rfl, R, F⟩)
  obtain ⟨e, e', k1, k2, v, fj, gj, rfl, rfl, R, F⟩ := K
  exact ⟨v, fj, gj, k1, k2, R, F⟩
theorem hush_2 {c : Nat → Nat} {T : Nat} {f g : Nat → Nat → Int32} (h : tk_R 0 true c T f g) {n : Nat} (en : g 217 69 = nI n) (hn : n ≤ 6) : ∃ f' g', am_loop (fun (s13 : Int32 × (Nat → Nat → Int32)) => ((
    if s13.1 < s13.2 2 0 then (
      if am_in s13.1 6 = true then (
      am_let (am_up s13.2 6 s13.1.toNatClampNeg (-1) : Nat → Nat → Int32) fun f14 =>
      am_let (s13.1 + 1 : Int32) fun t15 =>
      some (.inl (t15, f14))) else none)
    else (
      some (.inr s13.2))) : Option ((Int32 × (Nat → Nat → Int32)) ⊕ ((Nat → Nat → Int32))))) am_F (0, f) = some f' ∧ am_loop (fun (s8 : Int32 × (Nat → Nat → Int32)) => ((
    if s8.1 < s8.2 217 69 then (
      if am_in (21 + s8.1) 2008 = true then (
      am_let (am_up s8.2 217 (21 + s8.1).toNatClampNeg (-1) : Nat → Nat → Int32) fun f9 =>
      am_let (s8.1 + 1 : Int32) fun t10 =>
      some (.inl (t10, f9))) else none)
    else (
      some (.inr s8.2))) : Option ((Int32 × (Nat → Nat → Int32)) ⊕ ((Nat → Nat → Int32))))) am_F (0, g) = some g' ∧ tk_R 0 true c T f' g' ∧ tk_F 0 true f f' g g' := by
  have ho : 0 = 0 ∨ 0 = 108 := by decide
  refine pu_two (fun j s t => ∃ fj gj, s = (nI j, fj) ∧ t = (nI j, gj) ∧ tk_R 0 true c T fj gj ∧ tk_F 0 true f fj g gj) (fun e e' => tk_R 0 true c T e e' ∧ tk_F 0 true f e g e') n ⟨f, g, rfl, rfl, h, tk_F.rf⟩ ?_ ?_
  · rintro j s t hj ⟨fj, gj, rfl, rfl, R, F⟩
    refine Or.inl ?_
    have enj : gj 217 69 = nI n := by rw [F.2.2.1 69 (by decide) (Or.inl (by omega))]; exact en
    have e20 : fj 2 0 = nI n := (rl_g_gn (o := 0) R.1).trans enj
    have hjl : nI j < nI n := nI_lt hj (by omega)
    have c6 : am_in (nI j) 6 = true := pu_in (by omega) (by omega)
    have a21 : (21 : Int32) + nI j = nI (21 + j) := nI_add 21 j
    have d21 : am_in (nI (21 + j)) 2008 = true := pu_in (by omega) (by omega)
    have R2 := tk_cell ho R (a := 6) (j := j) (i := 21 + j) (v := -1) (by decide) (by decide) (by omega) (rl_s_sa R.1 (by omega) _) (iv_c_sa R.2.2.1 (by omega) (Or.inl rfl))
    dsimp only
    simp only [e20, enj, hjl, c6, a21, d21, if_true, nI_clamp (show j < 2 ^ 31 by omega), nI_clamp (show 21 + j < 2 ^ 31 by omega), pu_letE, nI_1]
    exact ⟨_, _, rfl, rfl, _, _, rfl, rfl, R2.1, F.trans R2.2⟩
  · rintro s t ⟨fj, gj, rfl, rfl, R, F⟩
    have enj : gj 217 69 = nI n := by rw [F.2.2.1 69 (by decide) (Or.inl (by omega))]; exact en
    have e20 : fj 2 0 = nI n := (rl_g_gn (o := 0) R.1).trans enj
    have hll : ¬ nI n < nI n := nI_nlt (Nat.le_refl _) (by omega)
    dsimp only
    simp only [e20, enj, hll, if_false]
    exact ⟨_, _, rfl, rfl, R, F⟩
theorem min_2 {T : Nat} {f g : Nat → Nat → Int32} (h : tk_R 0 true (fun _ => 0) T f g) (hT : T < 1000000) : ∃ v f' g', xb_passMinute_2 true f = some (v, f') ∧ m_goesBy g = some (v, g') ∧ tk_R 0 true (fun _ => 0) (T + 1) f' g' ∧ tk_F 0 true f f' g g' := by
  have ho : 0 = 0 ∨ 0 = 108 := by decide
  obtain ⟨n, m, t, b, x1, x2, x3, x4, x5, x6, x7, x8, -⟩ := id h.2.2.1
  obtain ⟨f1, g1, a1, a2, a3, a4⟩ := walk_2 h
  have en1 : g1 217 69 = nI n := by rw [a4.2.2.1 69 (by decide) (Or.inl (by omega))]; exact x1
  have em1 : g1 217 70 = nI m := by rw [a4.2.2.1 70 (by decide) (Or.inl (by omega))]; exact x3
  obtain ⟨v, f2, g2, b1, b2, b3, b4⟩ := gls_2 a3 hT en1 x2 em1 x4
  have en2 : g2 217 69 = nI n := by rw [b4.2.2.1 69 (by decide) (Or.inl (by omega))]; exact en1
  obtain ⟨f3, g3, c1, c2, c3, c4⟩ := hush_2 b3 en2 x2
  have eti : f3 2 2 = g3 217 0 := rl_g_ti (o := 0) c3.1
  have R := tk_cell ho c3 (a := 2) (j := 2) (i := 0) (v := g3 217 0 + 1) (c' := fun _ => 0) (T' := T + 1) (by decide) (by decide) (by decide) (rl_s_ti c3.1 _) (iv_c_ti c3.2.2.1 (fun i => by
    by_cases hi : i < n
    · rw [if_pos hi]; exact Nat.le_refl _
    · rw [if_neg hi]; exact Nat.zero_le _))
  refine ⟨v, _, _, ?_, ?_, R.1, ((a4.trans b4).trans c4).trans R.2⟩
  · unfold xb_passMinute_2
    rw [a1, pu_bs, b1, pu_bs]
    dsimp only
    rw [c1, pu_bs, pu_letE, eti]
  · unfold m_goesBy
    rw [a2, pu_bs, b2, pu_bs]
    dsimp only
    rw [c2, pu_bs, pu_letE]
theorem gls_110 {T : Nat} {f g : Nat → Nat → Int32} (h : tk_R 108 false (fun _ => 0) T f g) (hT : T < 1000000) {n m : Nat} (en : g 217 69 = nI n) (hn : n ≤ 6) (em : g 217 70 = nI m) (hm : m ≤ 12) : ∃ v f' g', am_loop (fun (s7 : Int32 × Int32 × (Nat → Nat → Int32)) => ((
    if s7.2.1 < s7.2.2 110 0 then (
      if am_in s7.2.1 6 = true then (
      ((if s7.2.2 113 s7.2.1.toNatClampNeg = (-1) then (
          some (s7.1, s7.2.2))
        else (
          (xb_passGlass_110 s7.2.1 false s7.2.2).bind fun p8 =>
          if p8.1 = true then (
            am_let (s7.1 + 1 : Int32) fun t9 =>
            some (t9, p8.2))
          else (
            some (s7.1, p8.2)))) : Option (Int32 × (Nat → Nat → Int32))).bind fun t10 =>
      am_let (s7.2.1 + 1 : Int32) fun t11 =>
      some (.inl (t10.1, t11, t10.2))) else none)
    else (
      some (.inr (s7.1, s7.2.2)))) : Option ((Int32 × Int32 × (Nat → Nat → Int32)) ⊕ (Int32 × (Nat → Nat → Int32))))) am_F (0, 0, f) = some (v, f') ∧ am_loop (fun (s2 : Int32 × Int32 × (Nat → Nat → Int32)) => ((
    if s2.2.1 < s2.2.2 217 69 then (
      (m_isRead s2.2.1 s2.2.2).bind fun p3 =>
      am_let ((if p3.1 = true then (
          true)
        else (
          false)) : Bool) fun t4 =>
      am_let ((s2.1 + (am_b t4)) : Int32) fun t5 =>
      am_let (s2.2.1 + 1 : Int32) fun t6 =>
      some (.inl (t5, t6, p3.2)))
    else (
      some (.inr (s2.1, s2.2.2)))) : Option ((Int32 × Int32 × (Nat → Nat → Int32)) ⊕ (Int32 × (Nat → Nat → Int32))))) am_F (0, 0, g) = some (v, g') ∧ tk_R 108 false (fun i => if i < n then 1 else 0) T f' g' ∧ tk_F 108 false f f' g g' := by
  have K := pu_two (f := fun (s7 : Int32 × Int32 × (Nat → Nat → Int32)) => ((
    if s7.2.1 < s7.2.2 110 0 then (
      if am_in s7.2.1 6 = true then (
      ((if s7.2.2 113 s7.2.1.toNatClampNeg = (-1) then (
          some (s7.1, s7.2.2))
        else (
          (xb_passGlass_110 s7.2.1 false s7.2.2).bind fun p8 =>
          if p8.1 = true then (
            am_let (s7.1 + 1 : Int32) fun t9 =>
            some (t9, p8.2))
          else (
            some (s7.1, p8.2)))) : Option (Int32 × (Nat → Nat → Int32))).bind fun t10 =>
      am_let (s7.2.1 + 1 : Int32) fun t11 =>
      some (.inl (t10.1, t11, t10.2))) else none)
    else (
      some (.inr (s7.1, s7.2.2)))) : Option ((Int32 × Int32 × (Nat → Nat → Int32)) ⊕ (Int32 × (Nat → Nat → Int32))))) (g := fun (s2 : Int32 × Int32 × (Nat → Nat → Int32)) => ((
    if s2.2.1 < s2.2.2 217 69 then (
      (m_isRead s2.2.1 s2.2.2).bind fun p3 =>
      am_let ((if p3.1 = true then (
          true)
        else (
          false)) : Bool) fun t4 =>
      am_let ((s2.1 + (am_b t4)) : Int32) fun t5 =>
      am_let (s2.2.1 + 1 : Int32) fun t6 =>
      some (.inl (t5, t6, p3.2)))
    else (
      some (.inr (s2.1, s2.2.2)))) : Option ((Int32 × Int32 × (Nat → Nat → Int32)) ⊕ (Int32 × (Nat → Nat → Int32))))) (s := (0, 0, f)) (t := (0, 0, g))
    (fun j s t => ∃ v fj gj, s = (v, nI j, fj) ∧ t = (v, nI j, gj) ∧ tk_R 108 false (fun i => if i < j then 1 else 0) T fj gj ∧ tk_F 108 false f fj g gj) (fun e e' => ∃ v fj gj, e = (v, fj) ∧ e' = (v, gj) ∧ tk_R 108 false (fun i => if i < n then 1 else 0) T fj gj ∧ tk_F 108 false f fj g gj) n ⟨0, f, g, rfl, rfl, h.mo (fun i => Nat.zero_le _), tk_F.rf⟩ (by
    rintro j s t hj ⟨v, fj, gj, rfl, rfl, R, F⟩
    refine Or.inl ?_
    have enj : gj 217 69 = nI n := by rw [F.2.2.1 69 (by decide) (Or.inl (by omega))]; exact en
    have emj : gj 217 70 = nI m := by rw [F.2.2.1 70 (by decide) (Or.inl (by omega))]; exact em
    have e20 : fj 110 0 = nI n := (rl_g_gn (o := 108) R.1).trans enj
    have eu : fj 113 j = gj 217 (15 + j) := rl_g_un (o := 108) R.1 (by omega)
    have hjl : nI j < nI n := nI_lt hj (by omega)
    have c6 : am_in (nI j) 6 = true := pu_in (by omega) (by omega)
    have a15 : (15 : Int32) + nI j = nI (15 + j) := nI_add 15 j
    have d15 : am_in (nI (15 + j)) 2008 = true := pu_in (by omega) (by omega)
    dsimp only
    simp only [e20, enj, hjl, c6, if_true, nI_clamp (show j < 2 ^ 31 by omega), eu, pu_letE, nI_1]
    obtain ⟨n0, m0, t0, b0, x1, x2, x3, x4, x5, x6, x7, x8, x9, x10, -⟩ := id R.2.2.1
    have e0 : n = n0 := pu_nIinj (by omega) (by omega) (enj.symm.trans x1)
    subst e0
    have em0 : m = m0 := pu_nIinj (by omega) (by omega) (emj.symm.trans x3)
    subst em0
    rcases x10 j hj with hu | ⟨p, hp, hu⟩
    · have e2 : m_isRead (nI j) gj = some (false, gj) := by
        unfold m_isRead
        simp only [a15, d15, if_true, nI_clamp (show 15 + j < 2 ^ 31 by omega), hu, pu_letE]
      simp only [hu, if_true, pu_bs, e2, Bool.false_eq_true, if_false]
      have e3 : v + am_b false = v := by
        show v + 0 = v
        exact Int32.add_zero v
      rw [e3]
      refine ⟨_, _, rfl, rfl, v, fj, gj, rfl, rfl, R.mo (fun i => ?_), F⟩
      by_cases hi : i < j
      · rw [if_pos hi, if_pos (by omega)]; exact Nat.le_refl _
      · rw [if_neg hi]; exact Nat.zero_le _
    · obtain ⟨b, f', g', p1, p2, p3, p4⟩ := pass_110 R hT (fun k => by by_cases hk : k < j; (· rw [if_pos hk]; exact Nat.le_refl _); (· rw [if_neg hk]; exact Nat.zero_le _)) x1 x2 x3 x4 hj hp hu
      have p3' : tk_R 108 false (fun i => if i < j + 1 then 1 else 0) T f' g' := p3.mo (fun i => by
        by_cases hi : i = j
        · subst hi
          rw [if_pos rfl, if_neg (by omega), if_pos (by omega)]
          exact Nat.le_refl _
        · rw [if_neg hi]
          by_cases h2 : i < j
          · rw [if_pos h2, if_pos (by omega)]; exact Nat.le_refl _
          · rw [if_neg h2]; exact Nat.zero_le _)
      simp only [hu, pu_neg1 (show p < 2 ^ 31 by omega), if_false, p1, p2, pu_bs]
      cases b with
      | true =>
        simp only [if_true, pu_bs, show am_b true = (1 : Int32) from rfl]
        exact ⟨_, _, rfl, rfl, _, f', g', rfl, rfl, p3', F.trans p4⟩
      | false =>
        have e3 : v + am_b false = v := by
          show v + 0 = v
          exact Int32.add_zero v
        simp only [Bool.false_eq_true, if_false, pu_bs, e3]
        exact ⟨_, _, rfl, rfl, _, f', g', rfl, rfl, p3', F.trans p4⟩) (by
    rintro s t ⟨v, fj, gj, rfl, rfl, R, F⟩
    have enj : gj 217 69 = nI n := by rw [F.2.2.1 69 (by decide) (Or.inl (by omega))]; exact en
    have e20 : fj 110 0 = nI n := (rl_g_gn (o := 108) R.1).trans enj
    have hll : ¬ nI n < nI n := nI_nlt (Nat.le_refl _) (by omega)
    dsimp only
    simp only [e20, enj, hll, if_false]
    exact ⟨_, _, rfl, rfl, v, fj, gj, rfl, rfl, R, F⟩)
  obtain ⟨e, e', k1, k2, v, fj, gj, rfl, rfl, R, F⟩ := K
  exact ⟨v, fj, gj, k1, k2, R, F⟩
theorem hush_110 {c : Nat → Nat} {T : Nat} {f g : Nat → Nat → Int32} (h : tk_R 108 false c T f g) {n : Nat} (en : g 217 69 = nI n) (hn : n ≤ 6) : ∃ f' g', am_loop (fun (s13 : Int32 × (Nat → Nat → Int32)) => ((
    if s13.1 < s13.2 110 0 then (
      if am_in s13.1 6 = true then (
      am_let (am_up s13.2 114 s13.1.toNatClampNeg (-1) : Nat → Nat → Int32) fun f14 =>
      am_let (s13.1 + 1 : Int32) fun t15 =>
      some (.inl (t15, f14))) else none)
    else (
      some (.inr s13.2))) : Option ((Int32 × (Nat → Nat → Int32)) ⊕ ((Nat → Nat → Int32))))) am_F (0, f) = some f' ∧ am_loop (fun (s8 : Int32 × (Nat → Nat → Int32)) => ((
    if s8.1 < s8.2 217 69 then (
      if am_in (21 + s8.1) 2008 = true then (
      am_let (am_up s8.2 217 (21 + s8.1).toNatClampNeg (-1) : Nat → Nat → Int32) fun f9 =>
      am_let (s8.1 + 1 : Int32) fun t10 =>
      some (.inl (t10, f9))) else none)
    else (
      some (.inr s8.2))) : Option ((Int32 × (Nat → Nat → Int32)) ⊕ ((Nat → Nat → Int32))))) am_F (0, g) = some g' ∧ tk_R 108 false c T f' g' ∧ tk_F 108 false f f' g g' := by
  have ho : 108 = 0 ∨ 108 = 108 := by decide
  refine pu_two (fun j s t => ∃ fj gj, s = (nI j, fj) ∧ t = (nI j, gj) ∧ tk_R 108 false c T fj gj ∧ tk_F 108 false f fj g gj) (fun e e' => tk_R 108 false c T e e' ∧ tk_F 108 false f e g e') n ⟨f, g, rfl, rfl, h, tk_F.rf⟩ ?_ ?_
  · rintro j s t hj ⟨fj, gj, rfl, rfl, R, F⟩
    refine Or.inl ?_
    have enj : gj 217 69 = nI n := by rw [F.2.2.1 69 (by decide) (Or.inl (by omega))]; exact en
    have e20 : fj 110 0 = nI n := (rl_g_gn (o := 108) R.1).trans enj
    have hjl : nI j < nI n := nI_lt hj (by omega)
    have c6 : am_in (nI j) 6 = true := pu_in (by omega) (by omega)
    have a21 : (21 : Int32) + nI j = nI (21 + j) := nI_add 21 j
    have d21 : am_in (nI (21 + j)) 2008 = true := pu_in (by omega) (by omega)
    have R2 := tk_cell ho R (a := 6) (j := j) (i := 21 + j) (v := -1) (by decide) (by decide) (by omega) (rl_s_sa R.1 (by omega) _) (iv_c_sa R.2.2.1 (by omega) (Or.inl rfl))
    dsimp only
    simp only [e20, enj, hjl, c6, a21, d21, if_true, nI_clamp (show j < 2 ^ 31 by omega), nI_clamp (show 21 + j < 2 ^ 31 by omega), pu_letE, nI_1]
    exact ⟨_, _, rfl, rfl, _, _, rfl, rfl, R2.1, F.trans R2.2⟩
  · rintro s t ⟨fj, gj, rfl, rfl, R, F⟩
    have enj : gj 217 69 = nI n := by rw [F.2.2.1 69 (by decide) (Or.inl (by omega))]; exact en
    have e20 : fj 110 0 = nI n := (rl_g_gn (o := 108) R.1).trans enj
    have hll : ¬ nI n < nI n := nI_nlt (Nat.le_refl _) (by omega)
    dsimp only
    simp only [e20, enj, hll, if_false]
    exact ⟨_, _, rfl, rfl, R, F⟩
theorem min_110 {T : Nat} {f g : Nat → Nat → Int32} (h : tk_R 108 false (fun _ => 0) T f g) (hT : T < 1000000) : ∃ v f' g', xb_passMinute_110 false f = some (v, f') ∧ m_goesBy g = some (v, g') ∧ tk_R 108 false (fun _ => 0) (T + 1) f' g' ∧ tk_F 108 false f f' g g' := by
  have ho : 108 = 0 ∨ 108 = 108 := by decide
  obtain ⟨n, m, t, b, x1, x2, x3, x4, x5, x6, x7, x8, -⟩ := id h.2.2.1
  obtain ⟨f1, g1, a1, a2, a3, a4⟩ := walk_110 h
  have en1 : g1 217 69 = nI n := by rw [a4.2.2.1 69 (by decide) (Or.inl (by omega))]; exact x1
  have em1 : g1 217 70 = nI m := by rw [a4.2.2.1 70 (by decide) (Or.inl (by omega))]; exact x3
  obtain ⟨v, f2, g2, b1, b2, b3, b4⟩ := gls_110 a3 hT en1 x2 em1 x4
  have en2 : g2 217 69 = nI n := by rw [b4.2.2.1 69 (by decide) (Or.inl (by omega))]; exact en1
  obtain ⟨f3, g3, c1, c2, c3, c4⟩ := hush_110 b3 en2 x2
  have eti : f3 110 2 = g3 217 0 := rl_g_ti (o := 108) c3.1
  have R := tk_cell ho c3 (a := 2) (j := 2) (i := 0) (v := g3 217 0 + 1) (c' := fun _ => 0) (T' := T + 1) (by decide) (by decide) (by decide) (rl_s_ti c3.1 _) (iv_c_ti c3.2.2.1 (fun i => by
    by_cases hi : i < n
    · rw [if_pos hi]; exact Nat.le_refl _
    · rw [if_neg hi]; exact Nat.zero_le _))
  refine ⟨v, _, _, ?_, ?_, R.1, ((a4.trans b4).trans c4).trans R.2⟩
  · unfold xb_passMinute_110
    rw [a1, pu_bs, b1, pu_bs]
    dsimp only
    rw [c1, pu_bs, pu_letE, eti]
  · unfold m_goesBy
    rw [a2, pu_bs, b2, pu_bs]
    dsimp only
    rw [c2, pu_bs, pu_letE]
