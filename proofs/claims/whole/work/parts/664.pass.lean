theorem topq_2 {c : Nat → Nat} {T : Nat} {F G : Nat → Nat → Int32} (h : tk_R 0 true c T F G) (hT : T < 1000000) (hc : ∀ k, c k ≤ 1) {n m i p : Nat} (en : G 217 69 = nI n) (hn : n ≤ 6) (em : G 217 70 = nI m) (hm : m ≤ 12) (hi : i < n) (hp : p < m) (hu : G 217 (15 + i) = nI p) : ∃ b F' G', (if am_in (nI i) 6 = true then (
  if 420 < F 4 (nI i).toNatClampNeg then (
    (xb_goOffTop_2 (nI i) true F).bind fun p9 =>
    some (true, p9))
  else (
    some (false, F))) else none) = some (b, F') ∧ (if am_in (9 + nI i) 2008 = true then (
      if 420 < G 217 (9 + nI i).toNatClampNeg then (
        if am_in (9 + nI i) 2008 = true then (
        am_let (am_up G 217 (9 + nI i).toNatClampNeg 420 : Nat → Nat → Int32) fun f18 =>
        if am_in (27 + nI i) 2008 = true then (
        if am_in (27 + nI i) 2008 = true then (
        am_let (am_up f18 217 (27 + nI i).toNatClampNeg ((f18 217 (27 + nI i).toNatClampNeg) + 1) : Nat → Nat → Int32) fun f19 =>
        if am_in (57 + nI p) 2008 = true then (
        if am_in (57 + nI p) 2008 = true then (
        am_let (am_up f19 217 (57 + nI p).toNatClampNeg ((f19 217 (57 + nI p).toNatClampNeg) + 1) : Nat → Nat → Int32) fun f20 =>
        if am_in (15 + nI i) 2008 = true then (
        am_let (am_up f20 217 (15 + nI i).toNatClampNeg (-1) : Nat → Nat → Int32) fun f21 =>
        (m_notes 4 (nI i) (nI p) f21).bind fun p22 =>
        some (true, p22)) else none) else none) else none) else none) else none) else none)
      else (
        some (false, G))) else none) = some (b, G') ∧ tk_R 0 true (fun j => if j = i then c j + 1 else c j) T F' G' ∧ tk_F 0 true F F' G G' := by
  have c6 : am_in (nI i) 6 = true := pu_in (by omega) (by omega)
  have a9 : (9 : Int32) + nI i = nI (9 + i) := nI_add 9 i
  have a27 : (27 : Int32) + nI i = nI (27 + i) := nI_add 27 i
  have a15 : (15 : Int32) + nI i = nI (15 + i) := nI_add 15 i
  have a57 : (57 : Int32) + nI p = nI (57 + p) := nI_add 57 p
  have d9 : am_in (nI (9 + i)) 2008 = true := pu_in (by omega) (by omega)
  have d27 : am_in (nI (27 + i)) 2008 = true := pu_in (by omega) (by omega)
  have d15 : am_in (nI (15 + i)) 2008 = true := pu_in (by omega) (by omega)
  have d57 : am_in (nI (57 + p)) 2008 = true := pu_in (by omega) (by omega)
  have er : F 4 i = G 217 (9 + i) := rl_g_re (o := 0) h.1 (by omega)
  have w27 : am_up G 217 (9 + i) 420 217 (27 + i) = G 217 (27 + i) := by rw [pu_up_row, pu_upd_ne _ _ (by omega)]
  have w57 : am_up (am_up G 217 (9 + i) 420) 217 (27 + i) (G 217 (27 + i) + 1) 217 (57 + p) = G 217 (57 + p) := by rw [pu_up_row, pu_upd_ne _ _ (by omega), pu_up_row, pu_upd_ne _ _ (by omega)]
  obtain ⟨f', g', o1, o2, o3, o4⟩ := off_2 h hT hc en hn em hm hi hp hu
  simp only [c6, a9, a27, a15, a57, d9, d27, d15, d57, if_true, nI_clamp (show i < 2 ^ 31 by omega), nI_clamp (show 9 + i < 2 ^ 31 by omega), nI_clamp (show 27 + i < 2 ^ 31 by omega), nI_clamp (show 15 + i < 2 ^ 31 by omega), nI_clamp (show 57 + p < 2 ^ 31 by omega), er, pu_letE, w27, w57, o1, o2, pu_bs]
  by_cases ht : 420 < G 217 (9 + i)
  · simp only [ht, if_true]
    exact ⟨true, f', g', rfl, rfl, o3, o4⟩
  · simp only [ht, if_false]
    refine ⟨false, F, G, rfl, rfl, h.mo (fun j => ?_), tk_F.rf⟩
    by_cases hj : j = i
    · rw [if_pos hj]; omega
    · rw [if_neg hj]; exact Nat.le_refl _
theorem pass_2 {c : Nat → Nat} {T : Nat} {f g : Nat → Nat → Int32} (h : tk_R 0 true c T f g) (hT : T < 1000000) (hc : ∀ k, c k ≤ 1) {n m i p : Nat} (en : g 217 69 = nI n) (hn : n ≤ 6) (em : g 217 70 = nI m) (hm : m ≤ 12) (hi : i < n) (hp : p < m) (hu : g 217 (15 + i) = nI p) : ∃ b f' g', xb_passGlass_2 (nI i) true f = some (b, f') ∧ m_isRead (nI i) g = some (b, g') ∧ tk_R 0 true (fun j => if j = i then c j + 1 else c j) T f' g' ∧ tk_F 0 true f f' g g' := by
  have ho : 0 = 0 ∨ 0 = 108 := by decide
  have c6 : am_in (nI i) 6 = true := pu_in (by omega) (by omega)
  have a9 : (9 : Int32) + nI i = nI (9 + i) := nI_add 9 i
  have a21 : (21 : Int32) + nI i = nI (21 + i) := nI_add 21 i
  have a15 : (15 : Int32) + nI i = nI (15 + i) := nI_add 15 i
  have a3 : (3 : Int32) + nI i = nI (3 + i) := nI_add 3 i
  have d9 : am_in (nI (9 + i)) 2008 = true := pu_in (by omega) (by omega)
  have d21 : am_in (nI (21 + i)) 2008 = true := pu_in (by omega) (by omega)
  have d15 : am_in (nI (15 + i)) 2008 = true := pu_in (by omega) (by omega)
  have d3 : am_in (nI (3 + i)) 2008 = true := pu_in (by omega) (by omega)
  have es : f 6 i = g 217 (21 + i) := rl_g_sa (o := 0) h.1 (by omega)
  obtain ⟨n0, m0, t0, b0, x1, x2, x3, x4, x5, x6, x7, x8, x9, x10, x11, -⟩ := id h.2.2.1
  have e0 : n = n0 := pu_nIinj (by omega) (by omega) (en.symm.trans x1)
  subst e0
  have ht : f 6 i = -1 ∨ ∃ q, q < 16 ∧ f 6 i = nI q := by rw [es]; exact x11 i hi
  have wk : ∀ j, c j ≤ (fun j => if j = i then c j + 1 else c j) j := fun j => by
    by_cases hj : j = i
    · show _ ≤ if j = i then _ else _
      rw [if_pos hj]; omega
    · show _ ≤ if j = i then _ else _
      rw [if_neg hj]; exact Nat.le_refl _
  obtain ⟨f1, g1, b1, b2, b3, b4, b5, b6, -, bk⟩ := ask_2 h.P en hn hi ht
  obtain ⟨v1, u1, u1', t1, t2, -⟩ := bk 1 (by decide) (f1 122) (g1 225)
  rw [row_self] at t1 t2
  have R2 := h.scr ho (f' := am_row f1 122 u1) (g' := am_row g1 225 u1') (fun a h1 h2 => by rw [row_ne _ _ h2]; exact b3 a h1) (fun a h1 h2 => by rw [row_ne _ _ h1]; exact b4 a h2)
  obtain ⟨b, f3, g3, s1, s2, s3, s4, s5, s6, s7, s8⟩ := slip_2 t1 R2.1
  have t2' : m_lawSays 21 0 1000 g1 = some (v1, am_row g1 225 u1') := t2
  have e1 : m_slipsOf (nI i) g = some (v1, am_row g1 225 u1') := by
    unfold m_slipsOf
    rw [es] at b2
    simp only [a21, d21, if_true, nI_clamp (show 21 + i < 2 ^ 31 by omega), b2, t2', pu_bs]
  have FF : tk_F 0 true f f3 g g3 := R2.2.trans s4
  have g217 : ∀ j, j ≠ 1 → g3 217 j = g 217 j := fun j hj => by rw [s7 j hj, row_ne _ _ (by decide), b4 _ (by decide)]
  have en3 : g3 217 69 = nI n := by rw [g217 _ (by decide)]; exact en
  have em3 : g3 217 70 = nI m := by rw [g217 _ (by decide)]; exact em
  have hu3 : g3 217 (15 + i) = nI p := by rw [g217 _ (by omega)]; exact hu
  have es3 : f3 6 i = g3 217 (21 + i) := rl_g_sa (o := 0) s3.1 (by omega)
  have er3 : f3 4 i = g3 217 (9 + i) := rl_g_re (o := 0) s3.1 (by omega)
  unfold xb_passGlass_2 m_isRead
  simp only [b1, pu_bs, s1, c6, a15, d15, a9, d9, a21, d21, a3, d3, if_true, nI_clamp (show i < 2 ^ 31 by omega), nI_clamp (show 15 + i < 2 ^ 31 by omega), nI_clamp (show 9 + i < 2 ^ 31 by omega), nI_clamp (show 21 + i < 2 ^ 31 by omega), nI_clamp (show 3 + i < 2 ^ 31 by omega), hu, pu_neg1 (show p < 2 ^ 31 by omega), if_false, pu_letE, e1, s2, er3, es3]
  cases b with
  | true =>
    obtain ⟨f4, n1, n2, n3, n4, -⟩ := nt_2 s3 3 (nI i) (g3 217 (9 + i))
    have R5 := tk_cell ho n3 (a := 4) (j := i) (i := 9 + i) (v := 300) (by decide) (by decide) (by omega) (rl_s_re n3.1 (by omega) _) (iv_c_re n3.2.2.1 (by omega) _)
    simp only [if_true, n1, n2, pu_bs, pu_up_row, pu_upd_eq, show ¬ ((420 : Int32) < 300) by decide, if_false]
    exact ⟨false, _, _, rfl, rfl, R5.1.mo wk, (FF.trans n4).trans R5.2⟩
  | false =>
    simp only [Bool.false_eq_true, if_false]
    have hf26 : ∀ j, j < 256 → f 26 j = g 217 (87 + j) := fun j hj => by
      have hq : ((26, 0, 87, 256, 1) : rl_B) ∈ rl_X := by decide +kernel
      have := h.2.1 _ hq j hj
      rw [show ((26, 0, 87, 256, 1) : rl_B).2.1 + j = j from Nat.zero_add j] at this
      rw [show rl_ix (26, 0, 87, 256, 1) j = 87 + j from by show 87 + 1 * j = _; omega] at this
      exact this
    have hb3 : xb_behold_2 (nI i) f3 = some f3 := bh_id_2 (f := f) (f1 := f1) (g := g) (m := m) (by omega) ((rl_g_wn (o := 0) h.1).trans em) hm (Or.inr ⟨p, hp, (rl_g_un (o := 0) h.1 (by omega)).trans hu⟩) ht hf26 h.2.2.2.2.1 b1
      (by rw [s5 _ (by decide), row_ne _ _ (by decide)]) (fun x y1 y2 y3 => by rw [s5 _ y3, row_ne _ _ y2, b3 _ y1]) (fun j hj => by rw [s8 j hj, row_ne _ _ (by decide), b3 _ (by decide)])
    have ht3 : f3 6 i = -1 ∨ ∃ q, q < 16 ∧ f3 6 i = nI q := by rw [es3, g217 _ (by omega)]; exact x11 i hi
    obtain ⟨f3', g4, d1, d2, d33, d4, d5, d6, ⟨a, ha, hae⟩, dk⟩ := ask_2 s3.P en3 hn hi ht3
    have e33 : f3' = f3 := Option.some.inj (d1.symm.trans hb3)
    subst e33
    rw [es3] at d2 d5 ht3
    rcases ht3 with hs | ⟨q, hq, hs⟩
    · obtain ⟨v, w, w', y1, y2, -⟩ := dk 2 (by decide) (f3' 122) (g4 225)
      rw [row_self] at y1 y2
      have y1' : xb_told 2 f3' = some (v, am_row f3' 122 w) := y1
      have y2' : m_lawSays 22 5 99 g4 = some (v, am_row g4 225 w') := y2
      have e2 : m_coolsOf (nI i) g3 = some (v, am_row g4 225 w') := by
        unfold m_coolsOf
        simp only [a21, d21, if_true, nI_clamp (show 21 + i < 2 ^ 31 by omega), d2, y2', pu_bs]
      have R := s3.scr ho (f' := am_row f3' 122 w) (g' := am_row g4 225 w') (fun a h1 h2 => row_ne _ _ h2) (fun a h1 h2 => by rw [row_ne _ _ h1]; exact d4 a h2)
      have R5 := tk_cell ho R.1 (a := 4) (j := i) (i := 9 + i) (v := m_greater 300 (g3 217 (9 + i) - v)) (by decide) (by decide) (by omega) (rl_s_re R.1.1 (by omega) _) (iv_c_re R.1.2.2.1 (by omega) _)
      have gq : ∀ j, j ≠ 9 + i → j ≠ 1 → am_up (am_row g4 225 w') 217 (9 + i) (m_greater 300 (g3 217 (9 + i) - v)) 217 j = g 217 j := fun j j1 j2 => by rw [pu_up_row, pu_upd_ne _ _ j1, row_ne _ _ (by decide), d4 _ (by decide), g217 _ j2]
      obtain ⟨bb, F', G', z1, z2, z3, z4⟩ := topq_2 R5.1 hT hc ((gq _ (by omega) (by omega)).trans en) hn ((gq _ (by omega) (by omega)).trans em) hm hi hp ((gq _ (by omega) (by omega)).trans hu)
      simp only [c6, a15, d15, a9, d9, if_true, nI_clamp (show i < 2 ^ 31 by omega), nI_clamp (show 15 + i < 2 ^ 31 by omega), nI_clamp (show 9 + i < 2 ^ 31 by omega), pu_letE] at z1 z2
      simp only [hs, if_true, y1', e2, pu_bs, am_mx]
      exact ⟨bb, F', G', z1, z2, z3, ((FF.trans R.2).trans R5.2).trans z4⟩
    · obtain ⟨v, w, w', y1, y2, -⟩ := dk 0 (by decide) (f3' 122) (g4 225)
      rw [row_self] at y1 y2
      have y1' : xb_told 0 f3' = some (v, am_row f3' 122 w) := y1
      have y2' : m_lawSays 20 (3 * g4 226 1 - 2 * g4 226 2) 99 g4 = some (v, am_row g4 225 w') := y2
      rw [hs] at d2 d5
      have e2 : m_warmsOf (nI i) (nI q) g3 = some (v, am_row g4 225 w') := by
        unfold m_warmsOf
        simp only [d2, y2', pu_bs]
      have R := s3.scr ho (f' := am_row f3' 122 w) (g' := am_row g4 225 w') (fun a h1 h2 => row_ne _ _ h2) (fun a h1 h2 => by rw [row_ne _ _ h1]; exact d4 a h2)
      have g5e : ∀ j, j ≠ 1 → am_row g4 225 w' 217 j = g 217 j := fun j j2 => by rw [row_ne _ _ (by decide), d4 _ (by decide), g217 _ j2]
      obtain ⟨f5, G5, g6, k1, k2, k3, k4, k5, k6, k7⟩ := warm_2 y1' R.1 (a := a) ((g5e _ (by decide)).trans en) hn hi (by rw [row_ne _ _ (by decide), d6]; exact hae) ha
      have en6 : g6 217 69 = nI n := by rw [k7.2.2.1 69 (by decide) (Or.inl (by omega))]; exact (g5e _ (by decide)).trans en
      have em6 : g6 217 70 = nI m := by rw [k7.2.2.1 70 (by decide) (Or.inl (by omega))]; exact (g5e _ (by decide)).trans em
      have hu6 : g6 217 (15 + i) = nI p := by rw [k5]; exact (g5e _ (by omega)).trans hu
      obtain ⟨bb, F', G', z1, z2, z3, z4⟩ := topq_2 k6 hT hc en6 hn em6 hm hi hp hu6
      simp only [c6, a15, d15, a9, d9, if_true, nI_clamp (show i < 2 ^ 31 by omega), nI_clamp (show 15 + i < 2 ^ 31 by omega), nI_clamp (show 9 + i < 2 ^ 31 by omega), pu_letE] at z1 z2
      have e5 : m_nearOf (nI i) (nI q) G5 = some (nI a) := by
        rw [no_eq (g := g3) s3.2.2.2.2.1 (fun j hj => (k3 j hj).trans (by rw [row_ne _ _ (by decide), d4 _ (by decide)])) (by omega) (Or.inr ⟨p, by omega, hu3⟩) (Or.inr ⟨q, hq, rfl⟩), d5, hae]
      simp only [hs, pu_neg1 (show q < 2 ^ 31 by omega), if_false, k1, e2, pu_bs, k2, e5, k4]
      exact ⟨bb, F', G', z1, z2, z3, ((FF.trans R.2).trans k7).trans z4⟩
theorem topq_110 {c : Nat → Nat} {T : Nat} {F G : Nat → Nat → Int32} (h : tk_R 108 false c T F G) (hT : T < 1000000) (hc : ∀ k, c k ≤ 1) {n m i p : Nat} (en : G 217 69 = nI n) (hn : n ≤ 6) (em : G 217 70 = nI m) (hm : m ≤ 12) (hi : i < n) (hp : p < m) (hu : G 217 (15 + i) = nI p) : ∃ b F' G', (if am_in (nI i) 6 = true then (
  if 420 < F 112 (nI i).toNatClampNeg then (
    (xb_goOffTop_110 (nI i) false F).bind fun p9 =>
    some (true, p9))
  else (
    some (false, F))) else none) = some (b, F') ∧ (if am_in (9 + nI i) 2008 = true then (
      if 420 < G 217 (9 + nI i).toNatClampNeg then (
        if am_in (9 + nI i) 2008 = true then (
        am_let (am_up G 217 (9 + nI i).toNatClampNeg 420 : Nat → Nat → Int32) fun f18 =>
        if am_in (27 + nI i) 2008 = true then (
        if am_in (27 + nI i) 2008 = true then (
        am_let (am_up f18 217 (27 + nI i).toNatClampNeg ((f18 217 (27 + nI i).toNatClampNeg) + 1) : Nat → Nat → Int32) fun f19 =>
        if am_in (57 + nI p) 2008 = true then (
        if am_in (57 + nI p) 2008 = true then (
        am_let (am_up f19 217 (57 + nI p).toNatClampNeg ((f19 217 (57 + nI p).toNatClampNeg) + 1) : Nat → Nat → Int32) fun f20 =>
        if am_in (15 + nI i) 2008 = true then (
        am_let (am_up f20 217 (15 + nI i).toNatClampNeg (-1) : Nat → Nat → Int32) fun f21 =>
        (m_notes 4 (nI i) (nI p) f21).bind fun p22 =>
        some (true, p22)) else none) else none) else none) else none) else none) else none)
      else (
        some (false, G))) else none) = some (b, G') ∧ tk_R 108 false (fun j => if j = i then c j + 1 else c j) T F' G' ∧ tk_F 108 false F F' G G' := by
  have c6 : am_in (nI i) 6 = true := pu_in (by omega) (by omega)
  have a9 : (9 : Int32) + nI i = nI (9 + i) := nI_add 9 i
  have a27 : (27 : Int32) + nI i = nI (27 + i) := nI_add 27 i
  have a15 : (15 : Int32) + nI i = nI (15 + i) := nI_add 15 i
  have a57 : (57 : Int32) + nI p = nI (57 + p) := nI_add 57 p
  have d9 : am_in (nI (9 + i)) 2008 = true := pu_in (by omega) (by omega)
  have d27 : am_in (nI (27 + i)) 2008 = true := pu_in (by omega) (by omega)
  have d15 : am_in (nI (15 + i)) 2008 = true := pu_in (by omega) (by omega)
  have d57 : am_in (nI (57 + p)) 2008 = true := pu_in (by omega) (by omega)
  have er : F 112 i = G 217 (9 + i) := rl_g_re (o := 108) h.1 (by omega)
  have w27 : am_up G 217 (9 + i) 420 217 (27 + i) = G 217 (27 + i) := by rw [pu_up_row, pu_upd_ne _ _ (by omega)]
  have w57 : am_up (am_up G 217 (9 + i) 420) 217 (27 + i) (G 217 (27 + i) + 1) 217 (57 + p) = G 217 (57 + p) := by rw [pu_up_row, pu_upd_ne _ _ (by omega), pu_up_row, pu_upd_ne _ _ (by omega)]
  obtain ⟨f', g', o1, o2, o3, o4⟩ := off_110 h hT hc en hn em hm hi hp hu
  simp only [c6, a9, a27, a15, a57, d9, d27, d15, d57, if_true, nI_clamp (show i < 2 ^ 31 by omega), nI_clamp (show 9 + i < 2 ^ 31 by omega), nI_clamp (show 27 + i < 2 ^ 31 by omega), nI_clamp (show 15 + i < 2 ^ 31 by omega), nI_clamp (show 57 + p < 2 ^ 31 by omega), er, pu_letE, w27, w57, o1, o2, pu_bs]
  by_cases ht : 420 < G 217 (9 + i)
  · simp only [ht, if_true]
    exact ⟨true, f', g', rfl, rfl, o3, o4⟩
  · simp only [ht, if_false]
    refine ⟨false, F, G, rfl, rfl, h.mo (fun j => ?_), tk_F.rf⟩
    by_cases hj : j = i
    · rw [if_pos hj]; omega
    · rw [if_neg hj]; exact Nat.le_refl _
theorem pass_110 {c : Nat → Nat} {T : Nat} {f g : Nat → Nat → Int32} (h : tk_R 108 false c T f g) (hT : T < 1000000) (hc : ∀ k, c k ≤ 1) {n m i p : Nat} (en : g 217 69 = nI n) (hn : n ≤ 6) (em : g 217 70 = nI m) (hm : m ≤ 12) (hi : i < n) (hp : p < m) (hu : g 217 (15 + i) = nI p) : ∃ b f' g', xb_passGlass_110 (nI i) false f = some (b, f') ∧ m_isRead (nI i) g = some (b, g') ∧ tk_R 108 false (fun j => if j = i then c j + 1 else c j) T f' g' ∧ tk_F 108 false f f' g g' := by
  have ho : 108 = 0 ∨ 108 = 108 := by decide
  have c6 : am_in (nI i) 6 = true := pu_in (by omega) (by omega)
  have a9 : (9 : Int32) + nI i = nI (9 + i) := nI_add 9 i
  have a21 : (21 : Int32) + nI i = nI (21 + i) := nI_add 21 i
  have a15 : (15 : Int32) + nI i = nI (15 + i) := nI_add 15 i
  have a3 : (3 : Int32) + nI i = nI (3 + i) := nI_add 3 i
  have d9 : am_in (nI (9 + i)) 2008 = true := pu_in (by omega) (by omega)
  have d21 : am_in (nI (21 + i)) 2008 = true := pu_in (by omega) (by omega)
  have d15 : am_in (nI (15 + i)) 2008 = true := pu_in (by omega) (by omega)
  have d3 : am_in (nI (3 + i)) 2008 = true := pu_in (by omega) (by omega)
  have es : f 114 i = g 217 (21 + i) := rl_g_sa (o := 108) h.1 (by omega)
  obtain ⟨n0, m0, t0, b0, x1, x2, x3, x4, x5, x6, x7, x8, x9, x10, x11, -⟩ := id h.2.2.1
  have e0 : n = n0 := pu_nIinj (by omega) (by omega) (en.symm.trans x1)
  subst e0
  have ht : f 114 i = -1 ∨ ∃ q, q < 16 ∧ f 114 i = nI q := by rw [es]; exact x11 i hi
  have wk : ∀ j, c j ≤ (fun j => if j = i then c j + 1 else c j) j := fun j => by
    by_cases hj : j = i
    · show _ ≤ if j = i then _ else _
      rw [if_pos hj]; omega
    · show _ ≤ if j = i then _ else _
      rw [if_neg hj]; exact Nat.le_refl _
  obtain ⟨f1, g1, b1, b2, b3, b4, b5, b6, -, bk⟩ := ask_110 h.P en hn hi ht
  obtain ⟨v1, u1, u1', t1, t2, -⟩ := bk 1 (by decide) (f1 122) (g1 225)
  rw [row_self] at t1 t2
  have R2 := h.scr ho (f' := am_row f1 122 u1) (g' := am_row g1 225 u1') (fun a h1 h2 => by rw [row_ne _ _ h2]; exact b3 a h1) (fun a h1 h2 => by rw [row_ne _ _ h1]; exact b4 a h2)
  obtain ⟨b, f3, g3, s1, s2, s3, s4, s5, s6, s7, s8⟩ := slip_110 t1 R2.1
  have t2' : m_lawSays 21 0 1000 g1 = some (v1, am_row g1 225 u1') := t2
  have e1 : m_slipsOf (nI i) g = some (v1, am_row g1 225 u1') := by
    unfold m_slipsOf
    rw [es] at b2
    simp only [a21, d21, if_true, nI_clamp (show 21 + i < 2 ^ 31 by omega), b2, t2', pu_bs]
  have FF : tk_F 108 false f f3 g g3 := R2.2.trans s4
  have g217 : ∀ j, j ≠ 1 → g3 217 j = g 217 j := fun j hj => by rw [s7 j hj, row_ne _ _ (by decide), b4 _ (by decide)]
  have en3 : g3 217 69 = nI n := by rw [g217 _ (by decide)]; exact en
  have em3 : g3 217 70 = nI m := by rw [g217 _ (by decide)]; exact em
  have hu3 : g3 217 (15 + i) = nI p := by rw [g217 _ (by omega)]; exact hu
  have es3 : f3 114 i = g3 217 (21 + i) := rl_g_sa (o := 108) s3.1 (by omega)
  have er3 : f3 112 i = g3 217 (9 + i) := rl_g_re (o := 108) s3.1 (by omega)
  unfold xb_passGlass_110 m_isRead
  simp only [b1, pu_bs, s1, c6, a15, d15, a9, d9, a21, d21, a3, d3, if_true, nI_clamp (show i < 2 ^ 31 by omega), nI_clamp (show 15 + i < 2 ^ 31 by omega), nI_clamp (show 9 + i < 2 ^ 31 by omega), nI_clamp (show 21 + i < 2 ^ 31 by omega), nI_clamp (show 3 + i < 2 ^ 31 by omega), hu, pu_neg1 (show p < 2 ^ 31 by omega), if_false, pu_letE, e1, s2, er3, es3]
  cases b with
  | true =>
    obtain ⟨f4, n1, n2, n3, n4, -⟩ := nt_110 s3 3 (nI i) (g3 217 (9 + i))
    have R5 := tk_cell ho n3 (a := 4) (j := i) (i := 9 + i) (v := 300) (by decide) (by decide) (by omega) (rl_s_re n3.1 (by omega) _) (iv_c_re n3.2.2.1 (by omega) _)
    simp only [if_true, n1, n2, pu_bs, pu_up_row, pu_upd_eq, show ¬ ((420 : Int32) < 300) by decide, if_false]
    exact ⟨false, _, _, rfl, rfl, R5.1.mo wk, (FF.trans n4).trans R5.2⟩
  | false =>
    simp only [Bool.false_eq_true, if_false]
    have hf26 : ∀ j, j < 256 → f 26 j = g 217 (87 + j) := fun j hj => by
      have hq : ((26, 0, 87, 256, 1) : rl_B) ∈ rl_X := by decide +kernel
      have := h.2.1 _ hq j hj
      rw [show ((26, 0, 87, 256, 1) : rl_B).2.1 + j = j from Nat.zero_add j] at this
      rw [show rl_ix (26, 0, 87, 256, 1) j = 87 + j from by show 87 + 1 * j = _; omega] at this
      exact this
    have hb3 : xb_behold_110 (nI i) f3 = some f3 := bh_id_110 (f := f) (f1 := f1) (g := g) (m := m) (by omega) ((rl_g_wn (o := 108) h.1).trans em) hm (Or.inr ⟨p, hp, (rl_g_un (o := 108) h.1 (by omega)).trans hu⟩) ht hf26 h.2.2.2.2.1 b1
      (by rw [s5 _ (by decide), row_ne _ _ (by decide)]) (fun x y1 y2 y3 => by rw [s5 _ y3, row_ne _ _ y2, b3 _ y1]) (fun j hj => by rw [s8 j hj, row_ne _ _ (by decide), b3 _ (by decide)])
    have ht3 : f3 114 i = -1 ∨ ∃ q, q < 16 ∧ f3 114 i = nI q := by rw [es3, g217 _ (by omega)]; exact x11 i hi
    obtain ⟨f3', g4, d1, d2, d33, d4, d5, d6, ⟨a, ha, hae⟩, dk⟩ := ask_110 s3.P en3 hn hi ht3
    have e33 : f3' = f3 := Option.some.inj (d1.symm.trans hb3)
    subst e33
    rw [es3] at d2 d5 ht3
    rcases ht3 with hs | ⟨q, hq, hs⟩
    · obtain ⟨v, w, w', y1, y2, -⟩ := dk 2 (by decide) (f3' 122) (g4 225)
      rw [row_self] at y1 y2
      have y1' : xb_told 2 f3' = some (v, am_row f3' 122 w) := y1
      have y2' : m_lawSays 22 5 99 g4 = some (v, am_row g4 225 w') := y2
      have e2 : m_coolsOf (nI i) g3 = some (v, am_row g4 225 w') := by
        unfold m_coolsOf
        simp only [a21, d21, if_true, nI_clamp (show 21 + i < 2 ^ 31 by omega), d2, y2', pu_bs]
      have R := s3.scr ho (f' := am_row f3' 122 w) (g' := am_row g4 225 w') (fun a h1 h2 => row_ne _ _ h2) (fun a h1 h2 => by rw [row_ne _ _ h1]; exact d4 a h2)
      have R5 := tk_cell ho R.1 (a := 4) (j := i) (i := 9 + i) (v := m_greater 300 (g3 217 (9 + i) - v)) (by decide) (by decide) (by omega) (rl_s_re R.1.1 (by omega) _) (iv_c_re R.1.2.2.1 (by omega) _)
      have gq : ∀ j, j ≠ 9 + i → j ≠ 1 → am_up (am_row g4 225 w') 217 (9 + i) (m_greater 300 (g3 217 (9 + i) - v)) 217 j = g 217 j := fun j j1 j2 => by rw [pu_up_row, pu_upd_ne _ _ j1, row_ne _ _ (by decide), d4 _ (by decide), g217 _ j2]
      obtain ⟨bb, F', G', z1, z2, z3, z4⟩ := topq_110 R5.1 hT hc ((gq _ (by omega) (by omega)).trans en) hn ((gq _ (by omega) (by omega)).trans em) hm hi hp ((gq _ (by omega) (by omega)).trans hu)
      simp only [c6, a15, d15, a9, d9, if_true, nI_clamp (show i < 2 ^ 31 by omega), nI_clamp (show 15 + i < 2 ^ 31 by omega), nI_clamp (show 9 + i < 2 ^ 31 by omega), pu_letE] at z1 z2
      simp only [hs, if_true, y1', e2, pu_bs, am_mx]
      exact ⟨bb, F', G', z1, z2, z3, ((FF.trans R.2).trans R5.2).trans z4⟩
    · obtain ⟨v, w, w', y1, y2, -⟩ := dk 0 (by decide) (f3' 122) (g4 225)
      rw [row_self] at y1 y2
      have y1' : xb_told 0 f3' = some (v, am_row f3' 122 w) := y1
      have y2' : m_lawSays 20 (3 * g4 226 1 - 2 * g4 226 2) 99 g4 = some (v, am_row g4 225 w') := y2
      rw [hs] at d2 d5
      have e2 : m_warmsOf (nI i) (nI q) g3 = some (v, am_row g4 225 w') := by
        unfold m_warmsOf
        simp only [d2, y2', pu_bs]
      have R := s3.scr ho (f' := am_row f3' 122 w) (g' := am_row g4 225 w') (fun a h1 h2 => row_ne _ _ h2) (fun a h1 h2 => by rw [row_ne _ _ h1]; exact d4 a h2)
      have g5e : ∀ j, j ≠ 1 → am_row g4 225 w' 217 j = g 217 j := fun j j2 => by rw [row_ne _ _ (by decide), d4 _ (by decide), g217 _ j2]
      obtain ⟨f5, G5, g6, k1, k2, k3, k4, k5, k6, k7⟩ := warm_110 y1' R.1 (a := a) ((g5e _ (by decide)).trans en) hn hi (by rw [row_ne _ _ (by decide), d6]; exact hae) ha
      have en6 : g6 217 69 = nI n := by rw [k7.2.2.1 69 (by decide) (Or.inl (by omega))]; exact (g5e _ (by decide)).trans en
      have em6 : g6 217 70 = nI m := by rw [k7.2.2.1 70 (by decide) (Or.inl (by omega))]; exact (g5e _ (by decide)).trans em
      have hu6 : g6 217 (15 + i) = nI p := by rw [k5]; exact (g5e _ (by omega)).trans hu
      obtain ⟨bb, F', G', z1, z2, z3, z4⟩ := topq_110 k6 hT hc en6 hn em6 hm hi hp hu6
      simp only [c6, a15, d15, a9, d9, if_true, nI_clamp (show i < 2 ^ 31 by omega), nI_clamp (show 15 + i < 2 ^ 31 by omega), nI_clamp (show 9 + i < 2 ^ 31 by omega), pu_letE] at z1 z2
      have e5 : m_nearOf (nI i) (nI q) G5 = some (nI a) := by
        rw [no_eq (g := g3) s3.2.2.2.2.1 (fun j hj => (k3 j hj).trans (by rw [row_ne _ _ (by decide), d4 _ (by decide)])) (by omega) (Or.inr ⟨p, by omega, hu3⟩) (Or.inr ⟨q, hq, rfl⟩), d5, hae]
      simp only [hs, pu_neg1 (show q < 2 ^ 31 by omega), if_false, k1, e2, pu_bs, k2, e5, k4]
      exact ⟨bb, F', G', z1, z2, z3, ((FF.trans R.2).trans k7).trans z4⟩
