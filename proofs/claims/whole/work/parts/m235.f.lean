set_option maxRecDepth 100000 in
set_option maxHeartbeats 4000000 in
theorem m_tellsTwo_ok {sc : Nat × (Nat → Int32)} (d : Nat) (a0 : Int32) (a1 : Int32) (a2 : Int32) (a3 : Int32) (f g : (Nat → Nat → Int32)) (r : Int32 × (Nat → Nat → Int32)) (h : m_tellsTwo a0 a1 a2 a3 f = some r) : am_Ev sc (d) 261 (0, [(0, .ref 216), (1, .int a0), (2, .int a1), (3, .int a2), (4, .int a3)], [], am_SH, (g, f)) ((some (.int r.1)), am_SH, (g, r.2)) := by
  have hcd : am_code 261 = am_c261 := rfl
  unfold m_tellsTwo at h
  refine am_Ev.go hcd 3 (s' := (3, [(0, .ref 216), (1, .int a0), (2, .int a1), (3, .int a2), (4, .int a3)], [.int a0, .ref 217], am_SH, (g, f))) rfl ?_
  obtain ⟨c2, h⟩ := am_grd h
  refine am_Ev.t hcd (o := none) (c := am_in a0 2008 = true) (s1 := (4, [(0, .ref 216), (1, .int a0), (2, .int a1), (3, .int a2), (4, .int a3)], [.int (f 217 a0.toNatClampNeg)], am_SH, (g, f))) rfl c2 ?_
  refine am_Ev.go hcd 1 (s' := (5, [(0, .ref 216), (1, .int a0), (2, .int a1), (3, .int a2), (4, .int a3)], [.int a1, .int (f 217 a0.toNatClampNeg)], am_SH, (g, f))) rfl ?_
  rcases am_ite h with ⟨c5, h⟩ | ⟨c5, h⟩
  · refine am_Ev.t hcd (c := f 217 a0.toNatClampNeg = a1) (s1 := (6, [(0, .ref 216), (1, .int a0), (2, .int a1), (3, .int a2), (4, .int a3)], [], am_SH, (g, f))) rfl c5 ?_
    refine am_Ev.go hcd 1 (s' := (7, [(0, .ref 216), (1, .int a0), (2, .int a1), (3, .int a2), (4, .int a3)], [.int (-1)], am_SH, (g, f))) rfl ?_
    exact am_Ev.cast (a := ((some (.int ((-1), f).1)), am_SH, (g, ((-1), f).2))) (by cases h; rfl) (am_Ev.ret hcd rfl)
  · refine am_Ev.f hcd (c := f 217 a0.toNatClampNeg = a1) (s1 := (8, [(0, .ref 216), (1, .int a0), (2, .int a1), (3, .int a2), (4, .int a3)], [], am_SH, (g, f))) rfl c5 ?_
    refine am_Ev.go hcd 9 (s' := (17, [(0, .ref 216), (1, .int a0), (2, .int a1), (3, .int a2), (4, .int a3)], [.int a0, .ref 217, .int 2, .int (a0 + 1), .ref 217], am_SH, (g, f))) rfl ?_
    obtain ⟨c11, h⟩ := am_grd h
    refine am_Ev.t hcd (o := none) (c := am_in a0 2008 = true) (s1 := (18, [(0, .ref 216), (1, .int a0), (2, .int a1), (3, .int a2), (4, .int a3)], [.int (f 217 a0.toNatClampNeg), .int 2, .int (a0 + 1), .ref 217], am_SH, (g, f))) rfl c11 ?_
    refine am_Ev.go hcd 3 (s' := (21, [(0, .ref 216), (1, .int a0), (2, .int a1), (3, .int a2), (4, .int a3)], [.int a2, .int ((a0 + 1) + (2 * (f 217 a0.toNatClampNeg))), .ref 217], am_SH, (g, f))) rfl ?_
    obtain ⟨c14, h⟩ := am_grd h
    obtain ⟨f1, Ef1, h⟩ := am_let_eq h
    refine am_Ev.t hcd (o := none) (c := am_in ((a0 + 1) + (2 * (f 217 a0.toNatClampNeg))) 2008 = true) (s1 := (22, [(0, .ref 216), (1, .int a0), (2, .int a1), (3, .int a2), (4, .int a3)], [], am_SH, (g, f1))) (by subst Ef1; exact rfl) c14 ?_
    refine am_Ev.go hcd 9 (s' := (31, [(0, .ref 216), (1, .int a0), (2, .int a1), (3, .int a2), (4, .int a3)], [.int a0, .ref 217, .int 2, .int (a0 + 2), .ref 217], am_SH, (g, f1))) rfl ?_
    obtain ⟨c18, h⟩ := am_grd h
    refine am_Ev.t hcd (o := none) (c := am_in a0 2008 = true) (s1 := (32, [(0, .ref 216), (1, .int a0), (2, .int a1), (3, .int a2), (4, .int a3)], [.int (f1 217 a0.toNatClampNeg), .int 2, .int (a0 + 2), .ref 217], am_SH, (g, f1))) rfl c18 ?_
    refine am_Ev.go hcd 3 (s' := (35, [(0, .ref 216), (1, .int a0), (2, .int a1), (3, .int a2), (4, .int a3)], [.int a3, .int ((a0 + 2) + (2 * (f1 217 a0.toNatClampNeg))), .ref 217], am_SH, (g, f1))) rfl ?_
    obtain ⟨c21, h⟩ := am_grd h
    obtain ⟨f2, Ef2, h⟩ := am_let_eq h
    refine am_Ev.t hcd (o := none) (c := am_in ((a0 + 2) + (2 * (f1 217 a0.toNatClampNeg))) 2008 = true) (s1 := (36, [(0, .ref 216), (1, .int a0), (2, .int a1), (3, .int a2), (4, .int a3)], [], am_SH, (g, f2))) (by subst Ef2; exact rfl) c21 ?_
    refine am_Ev.go hcd 4 (s' := (40, [(0, .ref 216), (1, .int a0), (2, .int a1), (3, .int a2), (4, .int a3)], [.int a0, .ref 217, .int a0, .ref 217], am_SH, (g, f2))) rfl ?_
    obtain ⟨c25, h⟩ := am_grd h
    refine am_Ev.t hcd (o := none) (c := am_in a0 2008 = true) (s1 := (41, [(0, .ref 216), (1, .int a0), (2, .int a1), (3, .int a2), (4, .int a3)], [.int (f2 217 a0.toNatClampNeg), .int a0, .ref 217], am_SH, (g, f2))) rfl c25 ?_
    refine am_Ev.go hcd 2 (s' := (43, [(0, .ref 216), (1, .int a0), (2, .int a1), (3, .int a2), (4, .int a3)], [.int ((f2 217 a0.toNatClampNeg) + 1), .int a0, .ref 217], am_SH, (g, f2))) rfl ?_
    obtain ⟨c28, h⟩ := am_grd h
    obtain ⟨f3, Ef3, h⟩ := am_let_eq h
    refine am_Ev.t hcd (o := none) (c := am_in a0 2008 = true) (s1 := (44, [(0, .ref 216), (1, .int a0), (2, .int a1), (3, .int a2), (4, .int a3)], [], am_SH, (g, f3))) (by subst Ef3; exact rfl) c28 ?_
    refine am_Ev.go hcd 3 (s' := (47, [(0, .ref 216), (1, .int a0), (2, .int a1), (3, .int a2), (4, .int a3)], [.int a0, .ref 217], am_SH, (g, f3))) rfl ?_
    obtain ⟨c32, h⟩ := am_grd h
    refine am_Ev.t hcd (o := none) (c := am_in a0 2008 = true) (s1 := (48, [(0, .ref 216), (1, .int a0), (2, .int a1), (3, .int a2), (4, .int a3)], [.int (f3 217 a0.toNatClampNeg)], am_SH, (g, f3))) rfl c32 ?_
    exact am_Ev.cast (a := ((some (.int (f3 217 a0.toNatClampNeg, f3).1)), am_SH, (g, (f3 217 a0.toNatClampNeg, f3).2))) (by cases h; rfl) (am_Ev.ret hcd rfl)
set_option maxRecDepth 100000 in
set_option maxHeartbeats 4000000 in
theorem m_warmth_ok {sc : Nat × (Nat → Int32)} (d : Nat) (a0 : Int32) (a1 : Int32) (f g : (Nat → Nat → Int32)) (r : Int32 × (Nat → Nat → Int32)) (h : m_warmth a0 a1 f = some r) : am_Ev sc (d + 2) 263 (0, [(0, .ref 216), (1, .int a0), (2, .int a1)], [], am_SH, (g, f)) ((some (.int r.1)), am_SH, (g, r.2)) := by
  have hcd : am_code 263 = am_c263 := rfl
  unfold m_warmth at h
  refine am_Ev.go hcd 2 (s' := (2, [(0, .ref 216), (1, .int a0), (2, .int a1)], [.int (-1), .int a0], am_SH, (g, f))) rfl ?_
  rcases am_ite h with ⟨c2, h⟩ | ⟨c2, h⟩
  · refine am_Ev.t hcd (c := a0 = (-1)) (s1 := (3, [(0, .ref 216), (1, .int a0), (2, .int a1)], [], am_SH, (g, f))) rfl c2 ?_
    refine am_Ev.go hcd 2 (s' := (5, [(0, .ref 216), (1, .int a0), (2, .int a1)], [.int 407, .ref 216], am_SH, (g, f))) rfl ?_
    obtain ⟨p1, hp1, h⟩ := am_bind_some h
    refine am_Ev.call hcd (a := 262) (s0 := (0, [(0, .ref 216), (1, .int 407)], [], am_SH, (g, f))) (q := ((some (.int p1.1)), am_SH, (g, p1.2))) (s1 := (6, [(0, .ref 216), (1, .int a0), (2, .int a1)], [.int p1.1], am_SH, (g, p1.2))) rfl rfl (m_endsRow_ok (d + 1) 407 f g p1 hp1) ?_
    refine am_Ev.go hcd 1 (s' := (23, [(0, .ref 216), (1, .int a0), (2, .int a1)], [.int p1.1], am_SH, (g, p1.2))) rfl ?_
    exact am_Ev.cast (a := ((some (.int (p1.1, p1.2).1)), am_SH, (g, (p1.1, p1.2).2))) (by cases h; rfl) (am_Ev.ret hcd rfl)
  · refine am_Ev.f hcd (c := a0 = (-1)) (s1 := (7, [(0, .ref 216), (1, .int a0), (2, .int a1)], [], am_SH, (g, f))) rfl c2 ?_
    refine am_Ev.go hcd 1 (s' := (8, [(0, .ref 216), (1, .int a0), (2, .int a1)], [.int a0], am_SH, (g, f))) rfl ?_
    refine am_Ev.call hcd (a := 183) (s0 := (0, [(0, .int a0)], [], am_SH, (g, f))) (q := ((some (.int (am_b (m_isTopic a0)))), am_SH, (g, f))) (s1 := (9, [(0, .ref 216), (1, .int a0), (2, .int a1)], [.int (am_b (m_isTopic a0))], am_SH, (g, f))) rfl rfl (m_isTopic_ok (d) a0 (g, f)) ?_
    rcases am_ite h with ⟨c13, h⟩ | ⟨c13, h⟩
    · refine am_Ev.f hcd (c := am_b (m_isTopic a0) = 0) (s1 := (10, [(0, .ref 216), (1, .int a0), (2, .int a1)], [], am_SH, (g, f))) rfl (am_b_t c13) ?_
      refine am_Ev.go hcd 3 (s' := (13, [(0, .ref 216), (1, .int a0), (2, .int a1)], [.int 10, .int 0, .int a1], am_SH, (g, f))) rfl ?_
      refine am_Ev.call hcd (a := 176) (s0 := (0, [(0, .int a1), (1, .int 0), (2, .int 10)], [], am_SH, (g, f))) (q := ((some (.int (am_b (m_isIn a1 0 10)))), am_SH, (g, f))) (s1 := (14, [(0, .ref 216), (1, .int a0), (2, .int a1)], [.int (am_b (m_isIn a1 0 10))], am_SH, (g, f))) rfl rfl (m_isIn_ok (d + 1) a1 0 10 (g, f)) ?_
      rcases am_ite h with ⟨c17, h⟩ | ⟨c17, h⟩
      · refine am_Ev.f hcd (c := am_b (m_isIn a1 0 10) = 0) (s1 := (15, [(0, .ref 216), (1, .int a0), (2, .int a1)], [], am_SH, (g, f))) rfl (am_b_t c17) ?_
        refine am_Ev.go hcd 5 (s' := (20, [(0, .ref 216), (1, .int a0), (2, .int a1)], [.int a1, .int a0, .int 8, .int 407, .ref 216], am_SH, (g, f))) rfl ?_
        obtain ⟨p4, hp4, h⟩ := am_bind_some h
        refine am_Ev.call hcd (a := 261) (s0 := (0, [(0, .ref 216), (1, .int 407), (2, .int 8), (3, .int a0), (4, .int a1)], [], am_SH, (g, f))) (q := ((some (.int p4.1)), am_SH, (g, p4.2))) (s1 := (21, [(0, .ref 216), (1, .int a0), (2, .int a1)], [.int p4.1], am_SH, (g, p4.2))) rfl rfl (m_tellsTwo_ok (d + 1) 407 8 a0 a1 f g p4 hp4) ?_
        refine am_Ev.go hcd 1 (s' := (23, [(0, .ref 216), (1, .int a0), (2, .int a1)], [.int p4.1], am_SH, (g, p4.2))) rfl ?_
        exact am_Ev.cast (a := ((some (.int (p4.1, p4.2).1)), am_SH, (g, (p4.1, p4.2).2))) (by cases h; rfl) (am_Ev.ret hcd rfl)
      · refine am_Ev.t hcd (c := am_b (m_isIn a1 0 10) = 0) (s1 := (22, [(0, .ref 216), (1, .int a0), (2, .int a1)], [], am_SH, (g, f))) rfl (am_b_f c17) ?_
        refine am_Ev.go hcd 1 (s' := (23, [(0, .ref 216), (1, .int a0), (2, .int a1)], [.int (-1)], am_SH, (g, f))) rfl ?_
        exact am_Ev.cast (a := ((some (.int ((-1), f).1)), am_SH, (g, ((-1), f).2))) (by cases h; rfl) (am_Ev.ret hcd rfl)
    · refine am_Ev.t hcd (c := am_b (m_isTopic a0) = 0) (s1 := (22, [(0, .ref 216), (1, .int a0), (2, .int a1)], [], am_SH, (g, f))) rfl (am_b_f c13) ?_
      refine am_Ev.go hcd 1 (s' := (23, [(0, .ref 216), (1, .int a0), (2, .int a1)], [.int (-1)], am_SH, (g, f))) rfl ?_
      exact am_Ev.cast (a := ((some (.int ((-1), f).1)), am_SH, (g, ((-1), f).2))) (by cases h; rfl) (am_Ev.ret hcd rfl)
set_option maxRecDepth 100000 in
set_option maxHeartbeats 4000000 in
theorem m_fitsAll_ok {sc : Nat × (Nat → Int32)} (d : Nat) (a0 : Int32) (f g : (Nat → Nat → Int32)) (r : Bool) (h : m_fitsAll a0 f = some r) : am_Ev sc (d + 2) 264 (0, [(0, .ref 216), (1, .int a0)], [], am_SH, (g, f)) ((some (.int (am_b r))), am_SH, (g, f)) := by
  have hcd : am_code 264 = am_c264 := rfl
  unfold m_fitsAll at h
  refine am_Ev.go hcd 2 (s' := (2, [(0, .ref 216), (1, .int a0), (2, .int 0)], [], am_SH, (g, f))) rfl ?_
  refine am_Ev.weak' (am_loop_ok (G := fun (s1 : Int32) => am_Ev sc (d + 2) 264 (2, [(0, .ref 216), (1, .int a0), (2, .int s1)], [], am_SH, (g, f)) ((some (.int (am_b r))), am_SH, (g, f))) (Z := fun (v : Bool) => (((some (.int (am_b v))), am_SH, (g, f)) : am_R) = ((some (.int (am_b r))), am_SH, (g, f))) ?_ am_F 0 r h rfl) (am_sub_cons rfl (am_sub_cons rfl (am_sub_cons rfl am_sub_nil))) rfl
  intro s1 q1 h hI1 hZ1
  show am_Ev sc (d + 2) 264 (2, [(0, .ref 216), (1, .int a0), (2, .int s1)], [], am_SH, (g, f)) ((some (.int (am_b r))), am_SH, (g, f))
  refine am_Ev.go hcd 5 (s' := (7, [(0, .ref 216), (1, .int a0), (2, .int s1)], [.int (f 217 407), .int s1], am_SH, (g, f))) rfl ?_
  rcases am_ite h with ⟨c6, h⟩ | ⟨c6, h⟩
  · refine am_Ev.t hcd (c := s1 < f 217 407) (s1 := (8, [(0, .ref 216), (1, .int a0), (2, .int s1)], [], am_SH, (g, f))) rfl c6 ?_
    refine am_Ev.go hcd 9 (s' := (17, [(0, .ref 216), (1, .int a0), (2, .int s1)], [.int (408 + (2 * s1)), .ref 217, .int a0, .ref 216], am_SH, (g, f))) rfl ?_
    obtain ⟨c9, h⟩ := am_grd h
    refine am_Ev.t hcd (o := none) (c := am_in (408 + (2 * s1)) 2008 = true) (s1 := (18, [(0, .ref 216), (1, .int a0), (2, .int s1)], [.int (f 217 (408 + (2 * s1)).toNatClampNeg), .int a0, .ref 216], am_SH, (g, f))) rfl c9 ?_
    obtain ⟨p2, hp2, h⟩ := am_bind_some h
    refine am_Ev.call hcd (a := 230) (s0 := (0, [(0, .ref 216), (1, .int a0), (2, .int (f 217 (408 + (2 * s1)).toNatClampNeg))], [], am_SH, (g, f))) (q := ((some (.int p2)), am_SH, (g, f))) (s1 := (19, [(0, .ref 216), (1, .int a0), (2, .int s1)], [.int p2], am_SH, (g, f))) rfl rfl (m_nearnessOf_ok (d) a0 (f 217 (408 + (2 * s1)).toNatClampNeg) f g p2 hp2) ?_
    refine am_Ev.go hcd 7 (s' := (26, [(0, .ref 216), (1, .int a0), (2, .int s1)], [.int (409 + (2 * s1)), .ref 217, .int p2], am_SH, (g, f))) rfl ?_
    obtain ⟨c14, h⟩ := am_grd h
    refine am_Ev.t hcd (o := none) (c := am_in (409 + (2 * s1)) 2008 = true) (s1 := (27, [(0, .ref 216), (1, .int a0), (2, .int s1)], [.int (f 217 (409 + (2 * s1)).toNatClampNeg), .int p2], am_SH, (g, f))) rfl c14 ?_
    rcases am_ite h with ⟨c17, h⟩ | ⟨c17, h⟩
    · refine am_Ev.t hcd (c := p2 = f 217 (409 + (2 * s1)).toNatClampNeg) (s1 := (30, [(0, .ref 216), (1, .int a0), (2, .int s1)], [], am_SH, (g, f))) rfl c17 ?_
      obtain ⟨t3, Et3, h⟩ := am_let_eq h
      refine am_Ev.go hcd 1 (s' := (31, [(0, .ref 216), (1, .int a0), (2, .int t3)], [], am_SH, (g, f))) (by subst Et3; exact rfl) ?_
      refine am_Ev.go hcd 1 (s' := (2, [(0, .ref 216), (1, .int a0), (2, .int t3)], [], am_SH, (g, f))) rfl ?_
      exact am_Ev.weak' (hI1 t3 (Option.some.inj h).symm) (am_sub_cons rfl (am_sub_cons rfl (am_sub_cons rfl am_sub_nil))) rfl
    · refine am_Ev.f hcd (c := p2 = f 217 (409 + (2 * s1)).toNatClampNeg) (s1 := (28, [(0, .ref 216), (1, .int a0), (2, .int s1)], [], am_SH, (g, f))) rfl c17 ?_
      refine am_Ev.go hcd 1 (s' := (29, [(0, .ref 216), (1, .int a0), (2, .int s1)], [.int 0], am_SH, (g, f))) rfl ?_
      exact am_Ev.cast (a := ((some (.int (am_b false))), am_SH, (g, f))) (hZ1 _ (Option.some.inj h).symm) (am_Ev.ret hcd rfl)
  · refine am_Ev.f hcd (c := s1 < f 217 407) (s1 := (32, [(0, .ref 216), (1, .int a0), (2, .int s1)], [], am_SH, (g, f))) rfl c6 ?_
    refine am_Ev.go hcd 1 (s' := (33, [(0, .ref 216), (1, .int a0), (2, .int s1)], [.int 1], am_SH, (g, f))) rfl ?_
    exact am_Ev.cast (a := ((some (.int (am_b true))), am_SH, (g, f))) (hZ1 _ (Option.some.inj h).symm) (am_Ev.ret hcd rfl)
set_option maxRecDepth 100000 in
set_option maxHeartbeats 4000000 in
theorem m_fits_ok {sc : Nat × (Nat → Int32)} (d : Nat) (a0 : Int32) (a1 : Int32) (f g : (Nat → Nat → Int32)) (r : Int32) (h : m_fits a0 a1 f = some r) : am_Ev sc (d + 3) 265 (0, [(0, .ref 216), (1, .int a0), (2, .int a1)], [], am_SH, (g, f)) ((some (.int r)), am_SH, (g, f)) := by
  have hcd : am_code 265 = am_c265 := rfl
  unfold m_fits at h
  refine am_Ev.go hcd 3 (s' := (3, [(0, .ref 216), (1, .int a0), (2, .int a1)], [.int 3, .int 1, .int a0], am_SH, (g, f))) rfl ?_
  refine am_Ev.call hcd (a := 176) (s0 := (0, [(0, .int a0), (1, .int 1), (2, .int 3)], [], am_SH, (g, f))) (q := ((some (.int (am_b (m_isIn a0 1 3)))), am_SH, (g, f))) (s1 := (4, [(0, .ref 216), (1, .int a0), (2, .int a1)], [.int (am_b (m_isIn a0 1 3))], am_SH, (g, f))) rfl rfl (m_isIn_ok (d + 2) a0 1 3 (g, f)) ?_
  rcases am_ite h with ⟨c4, h⟩ | ⟨c4, h⟩
  · refine am_Ev.f hcd (c := am_b (m_isIn a0 1 3) = 0) (s1 := (5, [(0, .ref 216), (1, .int a0), (2, .int a1)], [], am_SH, (g, f))) rfl (am_b_t c4) ?_
    refine am_Ev.go hcd 3 (s' := (8, [(0, .ref 216), (1, .int a0), (2, .int a1)], [.int 1, .int 0, .int a1], am_SH, (g, f))) rfl ?_
    refine am_Ev.call hcd (a := 176) (s0 := (0, [(0, .int a1), (1, .int 0), (2, .int 1)], [], am_SH, (g, f))) (q := ((some (.int (am_b (m_isIn a1 0 1)))), am_SH, (g, f))) (s1 := (9, [(0, .ref 216), (1, .int a0), (2, .int a1)], [.int (am_b (m_isIn a1 0 1))], am_SH, (g, f))) rfl rfl (m_isIn_ok (d + 2) a1 0 1 (g, f)) ?_
    rcases am_ite h with ⟨c8, h⟩ | ⟨c8, h⟩
    · refine am_Ev.f hcd (c := am_b (m_isIn a1 0 1) = 0) (s1 := (12, [(0, .ref 216), (1, .int a0), (2, .int a1)], [], am_SH, (g, f))) rfl (am_b_t c8) ?_
      refine am_Ev.go hcd 6 (s' := (18, [(0, .ref 216), (1, .int a0), (2, .int a1), (3, .int 0), (4, .int (-1)), (5, .int 65535)], [], am_SH, (g, f))) rfl ?_
      obtain ⟨e9, he9, h⟩ := am_bind_some h
      have hK3 : (fun (e9 : Int32 × Int32) => am_Ev sc (d + 3) 265 (34, [(2, .int a1), (3, .int e9.1), (4, .int e9.2)], [], am_SH, (g, f)) ((some (.int r)), am_SH, (g, f))) e9 := by
        show am_Ev sc (d + 3) 265 (34, [(2, .int a1), (3, .int e9.1), (4, .int e9.2)], [], am_SH, (g, f)) ((some (.int r)), am_SH, (g, f))
        refine am_Ev.go hcd 1 (s' := (35, [(2, .int a1), (3, .int e9.1), (4, .int e9.2)], [.int a1], am_SH, (g, f))) rfl ?_
        rcases am_ite h with ⟨c14, h⟩ | ⟨c14, h⟩
        · refine am_Ev.t hcd (c := a1 = 0) (s1 := (36, [(2, .int a1), (3, .int e9.1), (4, .int e9.2)], [], am_SH, (g, f))) rfl c14 ?_
          refine am_Ev.go hcd 2 (s' := (39, [(2, .int a1), (3, .int e9.1), (4, .int e9.2)], [.int e9.1], am_SH, (g, f))) rfl ?_
          exact am_Ev.cast (a := ((some (.int e9.1)), am_SH, (g, f))) (by cases h; rfl) (am_Ev.ret hcd rfl)
        · refine am_Ev.f hcd (c := a1 = 0) (s1 := (38, [(2, .int a1), (3, .int e9.1), (4, .int e9.2)], [], am_SH, (g, f))) rfl c14 ?_
          refine am_Ev.go hcd 1 (s' := (39, [(2, .int a1), (3, .int e9.1), (4, .int e9.2)], [.int e9.2], am_SH, (g, f))) rfl ?_
          exact am_Ev.cast (a := ((some (.int e9.2)), am_SH, (g, f))) (by cases h; rfl) (am_Ev.ret hcd rfl)
      refine am_Ev.weak' (am_loop_ok (G := fun (s3 : Int32 × Int32 × Int32) => am_Ev sc (d + 3) 265 (18, [(0, .ref 216), (1, .int a0), (2, .int a1), (3, .int s3.1), (4, .int s3.2.1), (5, .int s3.2.2)], [], am_SH, (g, f)) ((some (.int r)), am_SH, (g, f))) (Z := fun (e9 : Int32 × Int32) => am_Ev sc (d + 3) 265 (34, [(2, .int a1), (3, .int e9.1), (4, .int e9.2)], [], am_SH, (g, f)) ((some (.int r)), am_SH, (g, f))) ?_ am_F (0, (-1), 65535) e9 he9 hK3) (am_sub_cons rfl (am_sub_cons rfl (am_sub_cons rfl (am_sub_cons rfl (am_sub_cons rfl (am_sub_cons rfl am_sub_nil)))))) rfl
      intro s3 q3 h hI3 hZ3
      show am_Ev sc (d + 3) 265 (18, [(0, .ref 216), (1, .int a0), (2, .int a1), (3, .int s3.1), (4, .int s3.2.1), (5, .int s3.2.2)], [], am_SH, (g, f)) ((some (.int r)), am_SH, (g, f))
      refine am_Ev.go hcd 1 (s' := (19, [(0, .ref 216), (1, .int a0), (2, .int a1), (3, .int s3.1), (4, .int s3.2.1), (5, .int s3.2.2)], [.int s3.2.2], am_SH, (g, f))) rfl ?_
      rcases am_ite h with ⟨c25, h⟩ | ⟨c25, h⟩
      · refine am_Ev.t hcd (c := 0 < s3.2.2) (s1 := (20, [(0, .ref 216), (1, .int a0), (2, .int a1), (3, .int s3.1), (4, .int s3.2.1), (5, .int s3.2.2)], [], am_SH, (g, f))) rfl c25 ?_
        refine am_Ev.go hcd 1 (s' := (21, [(0, .ref 216), (1, .int a0), (2, .int a1), (3, .int s3.1), (4, .int s3.2.1), (5, .int s3.2.2)], [.int s3.2.2], am_SH, (g, f))) rfl ?_
        obtain ⟨p4, hp4, h⟩ := am_bind_some h
        refine am_Ev.call hcd (a := 179) (s0 := (0, [(0, .int s3.2.2)], [], am_SH, (g, f))) (q := ((some (.int p4)), am_SH, (g, f))) (s1 := (22, [(0, .ref 216), (1, .int a0), (2, .int a1), (3, .int s3.1), (4, .int s3.2.1), (5, .int s3.2.2)], [.int p4], am_SH, (g, f))) rfl rfl (m_bitsOf_ok (d + 2) s3.2.2 (g, f) p4 hp4) ?_
        obtain ⟨t7, ht7, kt7⟩ := am_bind_some h
        have hKt7 : am_Ev sc (d + 3) 265 (32, [(0, .ref 216), (1, .int a0), (2, .int a1), (3, .int t7.1), (4, .int t7.2), (5, .int s3.2.2)], [], am_SH, (g, f)) ((some (.int r)), am_SH, (g, f)) := by
          have h := kt7
          obtain ⟨t8, Et8, h⟩ := am_let_eq h
          refine am_Ev.go hcd 1 (s' := (33, [(0, .ref 216), (1, .int a0), (2, .int a1), (3, .int t7.1), (4, .int t7.2), (5, .int t8)], [], am_SH, (g, f))) (by subst Et8; exact rfl) ?_
          refine am_Ev.go hcd 1 (s' := (18, [(0, .ref 216), (1, .int a0), (2, .int a1), (3, .int t7.1), (4, .int t7.2), (5, .int t8)], [], am_SH, (g, f))) rfl ?_
          exact am_Ev.weak' (hI3 (t7.1, t7.2, t8) (Option.some.inj h).symm) (am_sub_cons rfl (am_sub_cons rfl (am_sub_cons rfl (am_sub_cons rfl (am_sub_cons rfl (am_sub_cons rfl am_sub_nil)))))) rfl
        have hLt7 : ∀ tt, tt = t7 → am_Ev sc (d + 3) 265 (32, [(0, .ref 216), (1, .int a0), (2, .int a1), (3, .int tt.1), (4, .int tt.2), (5, .int s3.2.2)], [], am_SH, (g, f)) ((some (.int r)), am_SH, (g, f)) := fun tt htt => by subst htt; exact hKt7
        have h := ht7
        refine am_Ev.go hcd 1 (s' := (23, [(0, .ref 216), (1, .int a0), (2, .int a1), (3, .int s3.1), (4, .int s3.2.1), (5, .int s3.2.2)], [.int a0, .int p4], am_SH, (g, f))) rfl ?_
        rcases am_ite h with ⟨c40, h⟩ | ⟨c40, h⟩
        · refine am_Ev.t hcd (c := p4 = a0) (s1 := (24, [(0, .ref 216), (1, .int a0), (2, .int a1), (3, .int s3.1), (4, .int s3.2.1), (5, .int s3.2.2)], [], am_SH, (g, f))) rfl c40 ?_
          refine am_Ev.go hcd 2 (s' := (26, [(0, .ref 216), (1, .int a0), (2, .int a1), (3, .int s3.1), (4, .int s3.2.1), (5, .int s3.2.2)], [.int s3.2.2, .ref 216], am_SH, (g, f))) rfl ?_
          obtain ⟨p5, hp5, h⟩ := am_bind_some h
          refine am_Ev.call hcd (a := 264) (s0 := (0, [(0, .ref 216), (1, .int s3.2.2)], [], am_SH, (g, f))) (q := ((some (.int (am_b p5))), am_SH, (g, f))) (s1 := (27, [(0, .ref 216), (1, .int a0), (2, .int a1), (3, .int s3.1), (4, .int s3.2.1), (5, .int s3.2.2)], [.int (am_b p5)], am_SH, (g, f))) rfl rfl (m_fitsAll_ok (d) s3.2.2 f g p5 hp5) ?_
          rcases am_ite h with ⟨c46, h⟩ | ⟨c46, h⟩
          · refine am_Ev.f hcd (c := am_b p5 = 0) (s1 := (29, [(0, .ref 216), (1, .int a0), (2, .int a1), (3, .int s3.1), (4, .int s3.2.1), (5, .int s3.2.2)], [], am_SH, (g, f))) rfl (am_b_t c46) ?_
            obtain ⟨t6, Et6, h⟩ := am_let_eq h
            refine am_Ev.go hcd 1 (s' := (30, [(0, .ref 216), (1, .int a0), (2, .int a1), (3, .int t6), (4, .int s3.2.1), (5, .int s3.2.2)], [], am_SH, (g, f))) (by subst Et6; exact rfl) ?_
            refine am_Ev.go hcd 2 (s' := (32, [(0, .ref 216), (1, .int a0), (2, .int a1), (3, .int t6), (4, .int s3.2.2), (5, .int s3.2.2)], [], am_SH, (g, f))) rfl ?_
            exact am_Ev.weak' (hLt7 (t6, s3.2.2) (Option.some.inj h)) (am_sub_cons rfl (am_sub_cons rfl (am_sub_cons rfl (am_sub_cons rfl (am_sub_cons rfl (am_sub_cons rfl am_sub_nil)))))) rfl
          · refine am_Ev.t hcd (c := am_b p5 = 0) (s1 := (28, [(0, .ref 216), (1, .int a0), (2, .int a1), (3, .int s3.1), (4, .int s3.2.1), (5, .int s3.2.2)], [], am_SH, (g, f))) rfl (am_b_f c46) ?_
            refine am_Ev.go hcd 1 (s' := (32, [(0, .ref 216), (1, .int a0), (2, .int a1), (3, .int s3.1), (4, .int s3.2.1), (5, .int s3.2.2)], [], am_SH, (g, f))) rfl ?_
            exact am_Ev.weak' (hLt7 (s3.1, s3.2.1) (Option.some.inj h)) (am_sub_cons rfl (am_sub_cons rfl (am_sub_cons rfl (am_sub_cons rfl (am_sub_cons rfl (am_sub_cons rfl am_sub_nil)))))) rfl
        · refine am_Ev.f hcd (c := p4 = a0) (s1 := (32, [(0, .ref 216), (1, .int a0), (2, .int a1), (3, .int s3.1), (4, .int s3.2.1), (5, .int s3.2.2)], [], am_SH, (g, f))) rfl c40 ?_
          exact am_Ev.weak' (hLt7 (s3.1, s3.2.1) (Option.some.inj h)) (am_sub_cons rfl (am_sub_cons rfl (am_sub_cons rfl (am_sub_cons rfl (am_sub_cons rfl (am_sub_cons rfl am_sub_nil)))))) rfl
      · refine am_Ev.f hcd (c := 0 < s3.2.2) (s1 := (34, [(0, .ref 216), (1, .int a0), (2, .int a1), (3, .int s3.1), (4, .int s3.2.1), (5, .int s3.2.2)], [], am_SH, (g, f))) rfl c25 ?_
        exact am_Ev.weak' (hZ3 (s3.1, s3.2.1) (Option.some.inj h).symm) (am_sub_cons rfl (am_sub_cons rfl (am_sub_cons rfl am_sub_nil))) rfl
    · refine am_Ev.t hcd (c := am_b (m_isIn a1 0 1) = 0) (s1 := (10, [(0, .ref 216), (1, .int a0), (2, .int a1)], [], am_SH, (g, f))) rfl (am_b_f c8) ?_
      refine am_Ev.go hcd 1 (s' := (11, [(0, .ref 216), (1, .int a0), (2, .int a1)], [.int (-1)], am_SH, (g, f))) rfl ?_
      exact am_Ev.cast (a := ((some (.int (-1))), am_SH, (g, f))) (by cases h; rfl) (am_Ev.ret hcd rfl)
  · refine am_Ev.t hcd (c := am_b (m_isIn a0 1 3) = 0) (s1 := (10, [(0, .ref 216), (1, .int a0), (2, .int a1)], [], am_SH, (g, f))) rfl (am_b_f c4) ?_
    refine am_Ev.go hcd 1 (s' := (11, [(0, .ref 216), (1, .int a0), (2, .int a1)], [.int (-1)], am_SH, (g, f))) rfl ?_
    exact am_Ev.cast (a := ((some (.int (-1))), am_SH, (g, f))) (by cases h; rfl) (am_Ev.ret hcd rfl)
set_option maxRecDepth 100000 in
set_option maxHeartbeats 4000000 in
theorem m_wordsBy_ok {sc : Nat × (Nat → Int32)} (d : Nat) (a0 : Int32) (a1 : Int32) (a2 : Int32) (f g : (Nat → Nat → Int32)) (r : Int32 × (Nat → Nat → Int32)) (h : m_wordsBy a0 a1 a2 f = some r) : am_Ev sc (d + 2) 266 (0, [(0, .ref 216), (1, .int a0), (2, .int a1), (3, .int a2)], [], am_SH, (g, f)) ((some (.int r.1)), am_SH, (g, r.2)) := by
  have hcd : am_code 266 = am_c266 := rfl
  unfold m_wordsBy at h
  refine am_Ev.go hcd 2 (s' := (2, [(0, .ref 216), (1, .int a0), (2, .int a1), (3, .int a2), (4, .int 0)], [], am_SH, (g, f))) rfl ?_
  obtain ⟨e4, he4, h⟩ := am_bind_some h
  have hK1 : (fun (e4 : (Nat → Nat → Int32)) => am_Ev sc (d + 2) 266 (12, [(0, .ref 216), (1, .int a0), (2, .int a1), (3, .int a2)], [], am_SH, (g, e4)) ((some (.int r.1)), am_SH, (g, r.2))) e4 := by
    show am_Ev sc (d + 2) 266 (12, [(0, .ref 216), (1, .int a0), (2, .int a1), (3, .int a2)], [], am_SH, (g, e4)) ((some (.int r.1)), am_SH, (g, r.2))
    refine am_Ev.go hcd 2 (s' := (14, [(0, .ref 216), (1, .int a0), (2, .int a1), (3, .int a2), (4, .int 0)], [], am_SH, (g, e4))) rfl ?_
    obtain ⟨e10, he10, h⟩ := am_bind_some h
    have hK5 : (fun (e10 : (Nat → Nat → Int32)) => am_Ev sc (d + 2) 266 (44, [(0, .ref 216), (1, .int a0)], [], am_SH, (g, e10)) ((some (.int r.1)), am_SH, (g, r.2))) e10 := by
      show am_Ev sc (d + 2) 266 (44, [(0, .ref 216), (1, .int a0)], [], am_SH, (g, e10)) ((some (.int r.1)), am_SH, (g, r.2))
      refine am_Ev.go hcd 4 (s' := (48, [(0, .ref 216), (1, .int a0), (4, .int 0), (5, .int 0)], [], am_SH, (g, e10))) rfl ?_
      obtain ⟨e15, he15, h⟩ := am_bind_some h
      have hK11 : (fun (e15 : Int32) => am_Ev sc (d + 2) 266 (78, [(4, .int e15)], [], am_SH, (g, e10)) ((some (.int r.1)), am_SH, (g, r.2))) e15 := by
        show am_Ev sc (d + 2) 266 (78, [(4, .int e15)], [], am_SH, (g, e10)) ((some (.int r.1)), am_SH, (g, r.2))
        refine am_Ev.go hcd 2 (s' := (80, [(4, .int e15)], [.int 100000000, .int e15], am_SH, (g, e10))) rfl ?_
        rcases am_ite h with ⟨c14, h⟩ | ⟨c14, h⟩
        · refine am_Ev.t hcd (c := e15 < 100000000) (s1 := (83, [(4, .int e15)], [], am_SH, (g, e10))) rfl c14 ?_
          refine am_Ev.go hcd 3 (s' := (86, [(4, .int e15)], [.int (e15 + 1)], am_SH, (g, e10))) rfl ?_
          exact am_Ev.cast (a := ((some (.int ((e15 + 1), e10).1)), am_SH, (g, ((e15 + 1), e10).2))) (by cases h; rfl) (am_Ev.ret hcd rfl)
        · refine am_Ev.f hcd (c := e15 < 100000000) (s1 := (81, [(4, .int e15)], [], am_SH, (g, e10))) rfl c14 ?_
          refine am_Ev.go hcd 2 (s' := (86, [(4, .int e15)], [.int 100000000], am_SH, (g, e10))) rfl ?_
          exact am_Ev.cast (a := ((some (.int (100000000, e10).1)), am_SH, (g, (100000000, e10).2))) (by cases h; rfl) (am_Ev.ret hcd rfl)
      refine am_Ev.weak' (am_loop_ok (G := fun (s11 : Int32 × Int32) => am_Ev sc (d + 2) 266 (48, [(0, .ref 216), (1, .int a0), (4, .int s11.1), (5, .int s11.2)], [], am_SH, (g, e10)) ((some (.int r.1)), am_SH, (g, r.2))) (Z := fun (e15 : Int32) => am_Ev sc (d + 2) 266 (78, [(4, .int e15)], [], am_SH, (g, e10)) ((some (.int r.1)), am_SH, (g, r.2))) ?_ am_F (0, 0) e15 he15 hK11) (am_sub_cons rfl (am_sub_cons rfl (am_sub_cons rfl (am_sub_cons rfl am_sub_nil)))) rfl
      intro s11 q11 h hI11 hZ11
      show am_Ev sc (d + 2) 266 (48, [(0, .ref 216), (1, .int a0), (4, .int s11.1), (5, .int s11.2)], [], am_SH, (g, e10)) ((some (.int r.1)), am_SH, (g, r.2))
      refine am_Ev.go hcd 2 (s' := (50, [(0, .ref 216), (1, .int a0), (4, .int s11.1), (5, .int s11.2)], [.int 11, .int s11.2], am_SH, (g, e10))) rfl ?_
      rcases am_ite h with ⟨c25, h⟩ | ⟨c25, h⟩
      · refine am_Ev.t hcd (c := s11.2 < 11) (s1 := (51, [(0, .ref 216), (1, .int a0), (4, .int s11.1), (5, .int s11.2)], [], am_SH, (g, e10))) rfl c25 ?_
        refine am_Ev.go hcd 3 (s' := (54, [(0, .ref 216), (1, .int a0), (4, .int s11.1), (5, .int s11.2)], [.int s11.2, .ref 229], am_SH, (g, e10))) rfl ?_
        obtain ⟨c28, h⟩ := am_grd h
        refine am_Ev.t hcd (o := none) (c := am_in s11.2 11 = true) (s1 := (55, [(0, .ref 216), (1, .int a0), (4, .int s11.1), (5, .int s11.2)], [.int (e10 229 s11.2.toNatClampNeg)], am_SH, (g, e10))) rfl c28 ?_
        obtain ⟨t13, ht13, kt13⟩ := am_bind_some h
        have hKt13 : am_Ev sc (d + 2) 266 (75, [(0, .ref 216), (1, .int a0), (5, .int s11.2)], [.int t13], am_SH, (g, e10)) ((some (.int r.1)), am_SH, (g, r.2)) := by
          have h := kt13
          obtain ⟨t14, Et14, h⟩ := am_let_eq h
          refine am_Ev.go hcd 2 (s' := (77, [(0, .ref 216), (1, .int a0), (4, .int t13), (5, .int t14)], [], am_SH, (g, e10))) (by subst Et14; exact rfl) ?_
          refine am_Ev.go hcd 1 (s' := (48, [(0, .ref 216), (1, .int a0), (4, .int t13), (5, .int t14)], [], am_SH, (g, e10))) rfl ?_
          exact am_Ev.weak' (hI11 (t13, t14) (Option.some.inj h).symm) (am_sub_cons rfl (am_sub_cons rfl (am_sub_cons rfl (am_sub_cons rfl am_sub_nil)))) rfl
        have hLt13 : ∀ tt, tt = t13 → am_Ev sc (d + 2) 266 (75, [(0, .ref 216), (1, .int a0), (5, .int s11.2)], [.int tt], am_SH, (g, e10)) ((some (.int r.1)), am_SH, (g, r.2)) := fun tt htt => by subst htt; exact hKt13
        have h := ht13
        refine am_Ev.go hcd 1 (s' := (56, [(0, .ref 216), (1, .int a0), (4, .int s11.1), (5, .int s11.2)], [.int a0, .int (e10 229 s11.2.toNatClampNeg)], am_SH, (g, e10))) rfl ?_
        rcases am_ite h with ⟨c40, h⟩ | ⟨c40, h⟩
        · refine am_Ev.t hcd (c := e10 229 s11.2.toNatClampNeg = a0) (s1 := (57, [(0, .ref 216), (1, .int a0), (4, .int s11.1), (5, .int s11.2)], [], am_SH, (g, e10))) rfl c40 ?_
          refine am_Ev.go hcd 2 (s' := (75, [(0, .ref 216), (1, .int a0), (4, .int s11.1), (5, .int s11.2)], [.int 100000000], am_SH, (g, e10))) rfl ?_
          exact am_Ev.weak' (hLt13 100000000 (Option.some.inj h)) (am_sub_cons rfl (am_sub_cons rfl (am_sub_cons rfl am_sub_nil))) rfl
        · refine am_Ev.f hcd (c := e10 229 s11.2.toNatClampNeg = a0) (s1 := (59, [(0, .ref 216), (1, .int a0), (4, .int s11.1), (5, .int s11.2)], [], am_SH, (g, e10))) rfl c40 ?_
          refine am_Ev.go hcd 3 (s' := (62, [(0, .ref 216), (1, .int a0), (4, .int s11.1), (5, .int s11.2)], [.int s11.2, .ref 229], am_SH, (g, e10))) rfl ?_
          obtain ⟨c46, h⟩ := am_grd h
          refine am_Ev.t hcd (o := none) (c := am_in s11.2 11 = true) (s1 := (63, [(0, .ref 216), (1, .int a0), (4, .int s11.1), (5, .int s11.2)], [.int (e10 229 s11.2.toNatClampNeg)], am_SH, (g, e10))) rfl c46 ?_
          rcases am_ite h with ⟨c49, h⟩ | ⟨c49, h⟩
          · refine am_Ev.t hcd (c := e10 229 s11.2.toNatClampNeg = 0) (s1 := (64, [(0, .ref 216), (1, .int a0), (4, .int s11.1), (5, .int s11.2)], [], am_SH, (g, e10))) rfl c49 ?_
            refine am_Ev.go hcd 2 (s' := (75, [(0, .ref 216), (1, .int a0), (4, .int s11.1), (5, .int s11.2)], [.int s11.1], am_SH, (g, e10))) rfl ?_
            exact am_Ev.weak' (hLt13 s11.1 (Option.some.inj h)) (am_sub_cons rfl (am_sub_cons rfl (am_sub_cons rfl am_sub_nil))) rfl
          · refine am_Ev.f hcd (c := e10 229 s11.2.toNatClampNeg = 0) (s1 := (66, [(0, .ref 216), (1, .int a0), (4, .int s11.1), (5, .int s11.2)], [], am_SH, (g, e10))) rfl c49 ?_
            refine am_Ev.go hcd 6 (s' := (72, [(0, .ref 216), (1, .int a0), (4, .int s11.1), (5, .int s11.2)], [.int s11.2, .ref 229, .ref 228, .int s11.1], am_SH, (g, e10))) rfl ?_
            obtain ⟨c54, h⟩ := am_grd h
            refine am_Ev.t hcd (o := none) (c := am_in s11.2 11 = true) (s1 := (73, [(0, .ref 216), (1, .int a0), (4, .int s11.1), (5, .int s11.2)], [.int (e10 229 s11.2.toNatClampNeg), .ref 228, .int s11.1], am_SH, (g, e10))) rfl c54 ?_
            obtain ⟨c57, h⟩ := am_grd h
            refine am_Ev.t hcd (o := none) (c := am_in (e10 229 s11.2.toNatClampNeg) 256 = true) (s1 := (74, [(0, .ref 216), (1, .int a0), (4, .int s11.1), (5, .int s11.2)], [.int (e10 228 (e10 229 s11.2.toNatClampNeg).toNatClampNeg), .int s11.1], am_SH, (g, e10))) rfl c57 ?_
            refine am_Ev.call hcd (a := 178) (s0 := (0, [(0, .int s11.1), (1, .int (e10 228 (e10 229 s11.2.toNatClampNeg).toNatClampNeg))], [], am_SH, (g, e10))) (q := ((some (.int (m_greater s11.1 (e10 228 (e10 229 s11.2.toNatClampNeg).toNatClampNeg)))), am_SH, (g, e10))) (s1 := (75, [(0, .ref 216), (1, .int a0), (4, .int s11.1), (5, .int s11.2)], [.int (m_greater s11.1 (e10 228 (e10 229 s11.2.toNatClampNeg).toNatClampNeg))], am_SH, (g, e10))) rfl rfl (m_greater_ok (d + 1) s11.1 (e10 228 (e10 229 s11.2.toNatClampNeg).toNatClampNeg) (g, e10)) ?_
            exact am_Ev.weak' (hLt13 (m_greater s11.1 (e10 228 (e10 229 s11.2.toNatClampNeg).toNatClampNeg)) (Option.some.inj h)) (am_sub_cons rfl (am_sub_cons rfl (am_sub_cons rfl am_sub_nil))) rfl
      · refine am_Ev.f hcd (c := s11.2 < 11) (s1 := (78, [(0, .ref 216), (1, .int a0), (4, .int s11.1), (5, .int s11.2)], [], am_SH, (g, e10))) rfl c25 ?_
        exact am_Ev.weak' (hZ11 s11.1 (Option.some.inj h).symm) (am_sub_cons rfl am_sub_nil) rfl
    refine am_Ev.weak' (am_loop_ok (G := fun (s5 : Int32 × (Nat → Nat → Int32)) => am_Ev sc (d + 2) 266 (14, [(0, .ref 216), (1, .int a0), (2, .int a1), (3, .int a2), (4, .int s5.1)], [], am_SH, (g, s5.2)) ((some (.int r.1)), am_SH, (g, r.2))) (Z := fun (e10 : (Nat → Nat → Int32)) => am_Ev sc (d + 2) 266 (44, [(0, .ref 216), (1, .int a0)], [], am_SH, (g, e10)) ((some (.int r.1)), am_SH, (g, r.2))) ?_ am_F (0, e4) e10 he10 hK5) (am_sub_cons rfl (am_sub_cons rfl (am_sub_cons rfl (am_sub_cons rfl (am_sub_cons rfl am_sub_nil))))) rfl
    intro s5 q5 h hI5 hZ5
    show am_Ev sc (d + 2) 266 (14, [(0, .ref 216), (1, .int a0), (2, .int a1), (3, .int a2), (4, .int s5.1)], [], am_SH, (g, s5.2)) ((some (.int r.1)), am_SH, (g, r.2))
    refine am_Ev.go hcd 2 (s' := (16, [(0, .ref 216), (1, .int a0), (2, .int a1), (3, .int a2), (4, .int s5.1)], [.int a1, .int s5.1], am_SH, (g, s5.2))) rfl ?_
    rcases am_ite h with ⟨c66, h⟩ | ⟨c66, h⟩
    · refine am_Ev.t hcd (c := s5.1 < a1) (s1 := (17, [(0, .ref 216), (1, .int a0), (2, .int a1), (3, .int a2), (4, .int s5.1)], [], am_SH, (g, s5.2))) rfl c66 ?_
      obtain ⟨t8, ht8, kt8⟩ := am_bind_some h
      have hKt8 : am_Ev sc (d + 2) 266 (42, [(0, .ref 216), (1, .int a0), (2, .int a1), (3, .int a2), (4, .int s5.1)], [], am_SH, (g, t8)) ((some (.int r.1)), am_SH, (g, r.2)) := by
        have h := kt8
        obtain ⟨t9, Et9, h⟩ := am_let_eq h
        refine am_Ev.go hcd 1 (s' := (43, [(0, .ref 216), (1, .int a0), (2, .int a1), (3, .int a2), (4, .int t9)], [], am_SH, (g, t8))) (by subst Et9; exact rfl) ?_
        refine am_Ev.go hcd 1 (s' := (14, [(0, .ref 216), (1, .int a0), (2, .int a1), (3, .int a2), (4, .int t9)], [], am_SH, (g, t8))) rfl ?_
        exact am_Ev.weak' (hI5 (t9, t8) (Option.some.inj h).symm) (am_sub_cons rfl (am_sub_cons rfl (am_sub_cons rfl (am_sub_cons rfl (am_sub_cons rfl am_sub_nil))))) rfl
      have hLt8 : ∀ tt, tt = t8 → am_Ev sc (d + 2) 266 (42, [(0, .ref 216), (1, .int a0), (2, .int a1), (3, .int a2), (4, .int s5.1)], [], am_SH, (g, tt)) ((some (.int r.1)), am_SH, (g, r.2)) := fun tt htt => by subst htt; exact hKt8
      have h := ht8
      refine am_Ev.go hcd 6 (s' := (23, [(0, .ref 216), (1, .int a0), (2, .int a1), (3, .int a2), (4, .int s5.1)], [.int 1, .int ((a0 >>> (s5.1 &&& 31)) &&& 1)], am_SH, (g, s5.2))) rfl ?_
      rcases am_ite h with ⟨c78, h⟩ | ⟨c78, h⟩
      · refine am_Ev.t hcd (c := ((a0 >>> (s5.1 &&& 31)) &&& 1) = 1) (s1 := (24, [(0, .ref 216), (1, .int a0), (2, .int a1), (3, .int a2), (4, .int s5.1)], [], am_SH, (g, s5.2))) rfl c78 ?_
        refine am_Ev.go hcd 7 (s' := (31, [(0, .ref 216), (1, .int a0), (2, .int a1), (3, .int a2), (4, .int s5.1)], [.int s5.1, .ref 227, .int 1, .ref 216, .ref 229], am_SH, (g, s5.2))) rfl ?_
        obtain ⟨c81, h⟩ := am_grd h
        refine am_Ev.t hcd (o := none) (c := am_in s5.1 8 = true) (s1 := (32, [(0, .ref 216), (1, .int a0), (2, .int a1), (3, .int a2), (4, .int s5.1)], [.int (s5.2 227 s5.1.toNatClampNeg), .int 1, .ref 216, .ref 229], am_SH, (g, s5.2))) rfl c81 ?_
        refine am_Ev.go hcd 2 (s' := (34, [(0, .ref 216), (1, .int a0), (2, .int a1), (3, .int a2), (4, .int s5.1)], [.int a2, .int (1 <<< ((s5.2 227 s5.1.toNatClampNeg) &&& 31)), .ref 216, .ref 229], am_SH, (g, s5.2))) rfl ?_
        obtain ⟨p6, hp6, h⟩ := am_bind_some h
        refine am_Ev.call hcd (a := 230) (s0 := (0, [(0, .ref 216), (1, .int (1 <<< ((s5.2 227 s5.1.toNatClampNeg) &&& 31))), (2, .int a2)], [], am_SH, (g, s5.2))) (q := ((some (.int p6)), am_SH, (g, s5.2))) (s1 := (35, [(0, .ref 216), (1, .int a0), (2, .int a1), (3, .int a2), (4, .int s5.1)], [.int p6, .ref 229], am_SH, (g, s5.2))) rfl rfl (m_nearnessOf_ok (d) (1 <<< ((s5.2 227 s5.1.toNatClampNeg) &&& 31)) a2 s5.2 g p6 hp6) ?_
        refine am_Ev.go hcd 1 (s' := (36, [(0, .ref 216), (1, .int a0), (2, .int a1), (3, .int a2), (4, .int s5.1)], [.int p6, .ref 229, .int p6, .ref 229], am_SH, (g, s5.2))) rfl ?_
        obtain ⟨c87, h⟩ := am_grd h
        refine am_Ev.t hcd (o := none) (c := am_in p6 11 = true) (s1 := (37, [(0, .ref 216), (1, .int a0), (2, .int a1), (3, .int a2), (4, .int s5.1)], [.int (s5.2 229 p6.toNatClampNeg), .int p6, .ref 229], am_SH, (g, s5.2))) rfl c87 ?_
        refine am_Ev.go hcd 4 (s' := (41, [(0, .ref 216), (1, .int a0), (2, .int a1), (3, .int a2), (4, .int s5.1)], [.int ((s5.2 229 p6.toNatClampNeg) ||| (1 <<< (s5.1 &&& 31))), .int p6, .ref 229], am_SH, (g, s5.2))) rfl ?_
        obtain ⟨c90, h⟩ := am_grd h
        obtain ⟨f7, Ef7, h⟩ := am_let_eq h
        refine am_Ev.t hcd (o := none) (c := am_in p6 11 = true) (s1 := (42, [(0, .ref 216), (1, .int a0), (2, .int a1), (3, .int a2), (4, .int s5.1)], [], am_SH, (g, f7))) (by subst Ef7; exact rfl) c90 ?_
        exact am_Ev.weak' (hLt8 f7 (Option.some.inj h)) (am_sub_cons rfl (am_sub_cons rfl (am_sub_cons rfl (am_sub_cons rfl (am_sub_cons rfl am_sub_nil))))) rfl
      · refine am_Ev.f hcd (c := ((a0 >>> (s5.1 &&& 31)) &&& 1) = 1) (s1 := (42, [(0, .ref 216), (1, .int a0), (2, .int a1), (3, .int a2), (4, .int s5.1)], [], am_SH, (g, s5.2))) rfl c78 ?_
        exact am_Ev.weak' (hLt8 s5.2 (Option.some.inj h)) (am_sub_cons rfl (am_sub_cons rfl (am_sub_cons rfl (am_sub_cons rfl (am_sub_cons rfl am_sub_nil))))) rfl
    · refine am_Ev.f hcd (c := s5.1 < a1) (s1 := (44, [(0, .ref 216), (1, .int a0), (2, .int a1), (3, .int a2), (4, .int s5.1)], [], am_SH, (g, s5.2))) rfl c66 ?_
      exact am_Ev.weak' (hZ5 s5.2 (Option.some.inj h).symm) (am_sub_cons rfl (am_sub_cons rfl am_sub_nil)) rfl
  refine am_Ev.weak' (am_loop_ok (G := fun (s1 : Int32 × (Nat → Nat → Int32)) => am_Ev sc (d + 2) 266 (2, [(0, .ref 216), (1, .int a0), (2, .int a1), (3, .int a2), (4, .int s1.1)], [], am_SH, (g, s1.2)) ((some (.int r.1)), am_SH, (g, r.2))) (Z := fun (e4 : (Nat → Nat → Int32)) => am_Ev sc (d + 2) 266 (12, [(0, .ref 216), (1, .int a0), (2, .int a1), (3, .int a2)], [], am_SH, (g, e4)) ((some (.int r.1)), am_SH, (g, r.2))) ?_ am_F (0, f) e4 he4 hK1) (am_sub_cons rfl (am_sub_cons rfl (am_sub_cons rfl (am_sub_cons rfl (am_sub_cons rfl am_sub_nil))))) rfl
  intro s1 q1 h hI1 hZ1
  show am_Ev sc (d + 2) 266 (2, [(0, .ref 216), (1, .int a0), (2, .int a1), (3, .int a2), (4, .int s1.1)], [], am_SH, (g, s1.2)) ((some (.int r.1)), am_SH, (g, r.2))
  refine am_Ev.go hcd 2 (s' := (4, [(0, .ref 216), (1, .int a0), (2, .int a1), (3, .int a2), (4, .int s1.1)], [.int 11, .int s1.1], am_SH, (g, s1.2))) rfl ?_
  rcases am_ite h with ⟨c102, h⟩ | ⟨c102, h⟩
  · refine am_Ev.t hcd (c := s1.1 < 11) (s1 := (5, [(0, .ref 216), (1, .int a0), (2, .int a1), (3, .int a2), (4, .int s1.1)], [], am_SH, (g, s1.2))) rfl c102 ?_
    refine am_Ev.go hcd 4 (s' := (9, [(0, .ref 216), (1, .int a0), (2, .int a1), (3, .int a2), (4, .int s1.1)], [.int 0, .int s1.1, .ref 229], am_SH, (g, s1.2))) rfl ?_
    obtain ⟨c105, h⟩ := am_grd h
    obtain ⟨f2, Ef2, h⟩ := am_let_eq h
    refine am_Ev.t hcd (o := none) (c := am_in s1.1 11 = true) (s1 := (10, [(0, .ref 216), (1, .int a0), (2, .int a1), (3, .int a2), (4, .int s1.1)], [], am_SH, (g, f2))) (by subst Ef2; exact rfl) c105 ?_
    obtain ⟨t3, Et3, h⟩ := am_let_eq h
    refine am_Ev.go hcd 1 (s' := (11, [(0, .ref 216), (1, .int a0), (2, .int a1), (3, .int a2), (4, .int t3)], [], am_SH, (g, f2))) (by subst Et3; exact rfl) ?_
    refine am_Ev.go hcd 1 (s' := (2, [(0, .ref 216), (1, .int a0), (2, .int a1), (3, .int a2), (4, .int t3)], [], am_SH, (g, f2))) rfl ?_
    exact am_Ev.weak' (hI1 (t3, f2) (Option.some.inj h).symm) (am_sub_cons rfl (am_sub_cons rfl (am_sub_cons rfl (am_sub_cons rfl (am_sub_cons rfl am_sub_nil))))) rfl
  · refine am_Ev.f hcd (c := s1.1 < 11) (s1 := (12, [(0, .ref 216), (1, .int a0), (2, .int a1), (3, .int a2), (4, .int s1.1)], [], am_SH, (g, s1.2))) rfl c102 ?_
    exact am_Ev.weak' (hZ1 s1.2 (Option.some.inj h).symm) (am_sub_cons rfl (am_sub_cons rfl (am_sub_cons rfl (am_sub_cons rfl am_sub_nil)))) rfl
set_option maxRecDepth 100000 in
set_option maxHeartbeats 4000000 in
theorem m_bestWord_ok {sc : Nat × (Nat → Int32)} (d : Nat) (a0 : Int32) (a1 : Int32) (f g : (Nat → Nat → Int32)) (r : Int32 × (Nat → Nat → Int32)) (h : m_bestWord a0 a1 f = some r) : am_Ev sc (d + 3) 267 (0, [(0, .ref 216), (1, .int a0), (2, .int a1)], [], am_SH, (g, f)) ((some (.int r.1)), am_SH, (g, r.2)) := by
  have hcd : am_code 267 = am_c267 := rfl
  unfold m_bestWord at h
  refine am_Ev.go hcd 4 (s' := (4, [(0, .ref 216), (1, .int a0), (2, .int a1), (3, .int 0), (4, .int 1)], [], am_SH, (g, f))) rfl ?_
  refine am_Ev.weak' (am_loop_ok (G := fun (s1 : Int32 × Int32 × (Nat → Nat → Int32)) => am_Ev sc (d + 3) 267 (4, [(0, .ref 216), (1, .int a0), (2, .int a1), (3, .int s1.1), (4, .int s1.2.1)], [], am_SH, (g, s1.2.2)) ((some (.int r.1)), am_SH, (g, r.2))) (Z := fun (v : Int32 × (Nat → Nat → Int32)) => (((some (.int v.1)), am_SH, (g, v.2)) : am_R) = ((some (.int r.1)), am_SH, (g, r.2))) ?_ am_F (0, 1, f) r h rfl) (am_sub_cons rfl (am_sub_cons rfl (am_sub_cons rfl (am_sub_cons rfl (am_sub_cons rfl am_sub_nil))))) rfl
  intro s1 q1 h hI1 hZ1
  show am_Ev sc (d + 3) 267 (4, [(0, .ref 216), (1, .int a0), (2, .int a1), (3, .int s1.1), (4, .int s1.2.1)], [], am_SH, (g, s1.2.2)) ((some (.int r.1)), am_SH, (g, r.2))
  refine am_Ev.go hcd 2 (s' := (6, [(0, .ref 216), (1, .int a0), (2, .int a1), (3, .int s1.1), (4, .int s1.2.1)], [.int 16, .int s1.2.1], am_SH, (g, s1.2.2))) rfl ?_
  rcases am_ite h with ⟨c6, h⟩ | ⟨c6, h⟩
  · refine am_Ev.t hcd (c := s1.2.1 < 16) (s1 := (7, [(0, .ref 216), (1, .int a0), (2, .int a1), (3, .int s1.1), (4, .int s1.2.1)], [], am_SH, (g, s1.2.2))) rfl c6 ?_
    refine am_Ev.go hcd 4 (s' := (11, [(0, .ref 216), (1, .int a0), (2, .int a1), (3, .int s1.1), (4, .int s1.2.1)], [.int s1.2.1, .int a1, .int a0, .ref 216], am_SH, (g, s1.2.2))) rfl ?_
    obtain ⟨p2, hp2, h⟩ := am_bind_some h
    refine am_Ev.call hcd (a := 266) (s0 := (0, [(0, .ref 216), (1, .int a0), (2, .int a1), (3, .int s1.2.1)], [], am_SH, (g, s1.2.2))) (q := ((some (.int p2.1)), am_SH, (g, p2.2))) (s1 := (12, [(0, .ref 216), (1, .int a0), (2, .int a1), (3, .int s1.1), (4, .int s1.2.1)], [.int p2.1], am_SH, (g, p2.2))) rfl rfl (m_wordsBy_ok (d) a0 a1 s1.2.1 s1.2.2 g p2 hp2) ?_
    refine am_Ev.go hcd 4 (s' := (16, [(0, .ref 216), (1, .int a0), (2, .int a1), (3, .int s1.1), (4, .int s1.2.1)], [.int s1.1, .int a1, .int a0, .ref 216, .int p2.1], am_SH, (g, p2.2))) rfl ?_
    obtain ⟨p3, hp3, h⟩ := am_bind_some h
    refine am_Ev.call hcd (a := 266) (s0 := (0, [(0, .ref 216), (1, .int a0), (2, .int a1), (3, .int s1.1)], [], am_SH, (g, p2.2))) (q := ((some (.int p3.1)), am_SH, (g, p3.2))) (s1 := (17, [(0, .ref 216), (1, .int a0), (2, .int a1), (3, .int s1.1), (4, .int s1.2.1)], [.int p3.1, .int p2.1], am_SH, (g, p3.2))) rfl rfl (m_wordsBy_ok (d) a0 a1 s1.1 p2.2 g p3 hp3) ?_
    obtain ⟨t4, ht4, kt4⟩ := am_let_eq h
    have hKt4 : am_Ev sc (d + 3) 267 (21, [(0, .ref 216), (1, .int a0), (2, .int a1), (4, .int s1.2.1)], [.int t4], am_SH, (g, p3.2)) ((some (.int r.1)), am_SH, (g, r.2)) := by
      have h := kt4
      obtain ⟨t5, Et5, h⟩ := am_let_eq h
      refine am_Ev.go hcd 2 (s' := (23, [(0, .ref 216), (1, .int a0), (2, .int a1), (3, .int t4), (4, .int t5)], [], am_SH, (g, p3.2))) (by subst Et5; exact rfl) ?_
      refine am_Ev.go hcd 1 (s' := (4, [(0, .ref 216), (1, .int a0), (2, .int a1), (3, .int t4), (4, .int t5)], [], am_SH, (g, p3.2))) rfl ?_
      exact am_Ev.weak' (hI1 (t4, t5, p3.2) (Option.some.inj h).symm) (am_sub_cons rfl (am_sub_cons rfl (am_sub_cons rfl (am_sub_cons rfl (am_sub_cons rfl am_sub_nil))))) rfl
    have hLt4 : ∀ tt, tt = t4 → am_Ev sc (d + 3) 267 (21, [(0, .ref 216), (1, .int a0), (2, .int a1), (4, .int s1.2.1)], [.int tt], am_SH, (g, p3.2)) ((some (.int r.1)), am_SH, (g, r.2)) := fun tt htt => by subst htt; exact hKt4
    have h := ht4
    rcases am_itv h with ⟨c24, h⟩ | ⟨c24, h⟩
    · refine am_Ev.t hcd (c := p2.1 < p3.1) (s1 := (18, [(0, .ref 216), (1, .int a0), (2, .int a1), (3, .int s1.1), (4, .int s1.2.1)], [], am_SH, (g, p3.2))) rfl c24 ?_
      refine am_Ev.go hcd 2 (s' := (21, [(0, .ref 216), (1, .int a0), (2, .int a1), (3, .int s1.1), (4, .int s1.2.1)], [.int s1.2.1], am_SH, (g, p3.2))) rfl ?_
      exact am_Ev.weak' (hLt4 s1.2.1 h.symm) (am_sub_cons rfl (am_sub_cons rfl (am_sub_cons rfl (am_sub_cons rfl am_sub_nil)))) rfl
    · refine am_Ev.f hcd (c := p2.1 < p3.1) (s1 := (20, [(0, .ref 216), (1, .int a0), (2, .int a1), (3, .int s1.1), (4, .int s1.2.1)], [], am_SH, (g, p3.2))) rfl c24 ?_
      refine am_Ev.go hcd 1 (s' := (21, [(0, .ref 216), (1, .int a0), (2, .int a1), (3, .int s1.1), (4, .int s1.2.1)], [.int s1.1], am_SH, (g, p3.2))) rfl ?_
      exact am_Ev.weak' (hLt4 s1.1 h.symm) (am_sub_cons rfl (am_sub_cons rfl (am_sub_cons rfl (am_sub_cons rfl am_sub_nil)))) rfl
  · refine am_Ev.f hcd (c := s1.2.1 < 16) (s1 := (24, [(0, .ref 216), (1, .int a0), (2, .int a1), (3, .int s1.1), (4, .int s1.2.1)], [], am_SH, (g, s1.2.2))) rfl c6 ?_
    refine am_Ev.go hcd 1 (s' := (25, [(0, .ref 216), (1, .int a0), (2, .int a1), (3, .int s1.1), (4, .int s1.2.1)], [.int s1.1], am_SH, (g, s1.2.2))) rfl ?_
    exact am_Ev.cast (a := ((some (.int (s1.1, s1.2.2).1)), am_SH, (g, (s1.1, s1.2.2).2))) (hZ1 _ (Option.some.inj h).symm) (am_Ev.ret hcd rfl)
