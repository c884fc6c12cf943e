set_option maxRecDepth 100000 in
set_option maxHeartbeats 4000000 in
theorem m_isRead_ok {sc : Nat × (Nat → Int32)} (d : Nat) (a0 : Int32) (f g : (Nat → Nat → Int32)) (r : Bool × (Nat → Nat → Int32)) (h : m_isRead a0 f = some r) : am_Ev sc (d + 5) 247 (0, [(0, .ref 216), (1, .int a0)], [], am_SH, (g, f)) ((some (.int (am_b r.1))), am_SH, (g, r.2)) := by
  have hcd : am_code 247 = am_c247 := rfl
  unfold m_isRead at h
  refine am_Ev.go hcd 5 (s' := (5, [(0, .ref 216), (1, .int a0)], [.int (15 + a0), .ref 217], am_SH, (g, f))) rfl ?_
  obtain ⟨c2, h⟩ := am_grd h
  refine am_Ev.t hcd (o := none) (c := am_in (15 + a0) 2008 = true) (s1 := (6, [(0, .ref 216), (1, .int a0)], [.int (f 217 (15 + a0).toNatClampNeg)], am_SH, (g, f))) rfl c2 ?_
  obtain ⟨t1, Et1, h⟩ := am_let_eq h
  refine am_Ev.go hcd 1 (s' := (7, [(0, .ref 216), (1, .int a0), (2, .int t1)], [], am_SH, (g, f))) (by subst Et1; exact rfl) ?_
  refine am_Ev.go hcd 2 (s' := (9, [(0, .ref 216), (1, .int a0), (2, .int t1)], [.int (-1), .int t1], am_SH, (g, f))) rfl ?_
  rcases am_ite h with ⟨c7, h⟩ | ⟨c7, h⟩
  · refine am_Ev.t hcd (c := t1 = (-1)) (s1 := (10, [(0, .ref 216), (1, .int a0), (2, .int t1)], [], am_SH, (g, f))) rfl c7 ?_
    refine am_Ev.go hcd 1 (s' := (11, [(0, .ref 216), (1, .int a0), (2, .int t1)], [.int 0], am_SH, (g, f))) rfl ?_
    exact am_Ev.cast (a := ((some (.int (am_b (false, f).1))), am_SH, (g, (false, f).2))) (by cases h; rfl) (am_Ev.ret hcd rfl)
  · refine am_Ev.f hcd (c := t1 = (-1)) (s1 := (12, [(0, .ref 216), (1, .int a0), (2, .int t1)], [], am_SH, (g, f))) rfl c7 ?_
    refine am_Ev.go hcd 3 (s' := (15, [(0, .ref 216), (1, .int a0), (2, .int t1)], [.int a0, .ref 216, .ref 216], am_SH, (g, f))) rfl ?_
    obtain ⟨p2, hp2, h⟩ := am_bind_some h
    refine am_Ev.call hcd (a := 234) (s0 := (0, [(0, .ref 216), (1, .int a0)], [], am_SH, (g, f))) (q := ((some (.int p2.1)), am_SH, (g, p2.2))) (s1 := (16, [(0, .ref 216), (1, .int a0), (2, .int t1)], [.int p2.1, .ref 216], am_SH, (g, p2.2))) rfl rfl (m_slipsOf_ok (d) a0 f g p2 hp2) ?_
    obtain ⟨p3, hp3, h⟩ := am_bind_some h
    refine am_Ev.call hcd (a := 239) (s0 := (0, [(0, .ref 216), (1, .int p2.1)], [], am_SH, (g, p2.2))) (q := ((some (.int (am_b p3.1))), am_SH, (g, p3.2))) (s1 := (17, [(0, .ref 216), (1, .int a0), (2, .int t1)], [.int (am_b p3.1)], am_SH, (g, p3.2))) rfl rfl (m_falls_ok (d + 3) p2.1 p2.2 g p3 hp3) ?_
    rcases am_ite h with ⟨c18, h⟩ | ⟨c18, h⟩
    · refine am_Ev.f hcd (c := am_b p3.1 = 0) (s1 := (18, [(0, .ref 216), (1, .int a0), (2, .int t1)], [], am_SH, (g, p3.2))) rfl (am_b_t c18) ?_
      refine am_Ev.go hcd 8 (s' := (26, [(0, .ref 216), (1, .int a0), (2, .int t1)], [.int (9 + a0), .ref 217, .int a0, .int 3, .ref 216], am_SH, (g, p3.2))) rfl ?_
      obtain ⟨c20, h⟩ := am_grd h
      refine am_Ev.t hcd (o := none) (c := am_in (9 + a0) 2008 = true) (s1 := (27, [(0, .ref 216), (1, .int a0), (2, .int t1)], [.int (p3.2 217 (9 + a0).toNatClampNeg), .int a0, .int 3, .ref 216], am_SH, (g, p3.2))) rfl c20 ?_
      obtain ⟨p4, hp4, h⟩ := am_bind_some h
      refine am_Ev.call hcd (a := 238) (s0 := (0, [(0, .ref 216), (1, .int 3), (2, .int a0), (3, .int (p3.2 217 (9 + a0).toNatClampNeg))], [], am_SH, (g, p3.2))) (q := (none, am_SH, (g, p4))) (s1 := (28, [(0, .ref 216), (1, .int a0), (2, .int t1)], [], am_SH, (g, p4))) rfl rfl (m_notes_ok (d + 4) 3 a0 (p3.2 217 (9 + a0).toNatClampNeg) p3.2 g p4 hp4) ?_
      refine am_Ev.go hcd 6 (s' := (34, [(0, .ref 216), (1, .int a0), (2, .int t1)], [.int 300, .int (9 + a0), .ref 217], am_SH, (g, p4))) rfl ?_
      obtain ⟨c25, h⟩ := am_grd h
      obtain ⟨f5, Ef5, h⟩ := am_let_eq h
      refine am_Ev.t hcd (o := none) (c := am_in (9 + a0) 2008 = true) (s1 := (35, [(0, .ref 216), (1, .int a0), (2, .int t1)], [], am_SH, (g, f5))) (by subst Ef5; exact rfl) c25 ?_
      refine am_Ev.go hcd 1 (s' := (36, [(0, .ref 216), (1, .int a0), (2, .int t1)], [.int 0], am_SH, (g, f5))) rfl ?_
      exact am_Ev.cast (a := ((some (.int (am_b (false, f5).1))), am_SH, (g, (false, f5).2))) (by cases h; rfl) (am_Ev.ret hcd rfl)
    · refine am_Ev.t hcd (c := am_b p3.1 = 0) (s1 := (37, [(0, .ref 216), (1, .int a0), (2, .int t1)], [], am_SH, (g, p3.2))) rfl (am_b_f c18) ?_
      refine am_Ev.go hcd 5 (s' := (42, [(0, .ref 216), (1, .int a0), (2, .int t1)], [.int (21 + a0), .ref 217], am_SH, (g, p3.2))) rfl ?_
      obtain ⟨c32, h⟩ := am_grd h
      refine am_Ev.t hcd (o := none) (c := am_in (21 + a0) 2008 = true) (s1 := (43, [(0, .ref 216), (1, .int a0), (2, .int t1)], [.int (p3.2 217 (21 + a0).toNatClampNeg)], am_SH, (g, p3.2))) rfl c32 ?_
      obtain ⟨t6, Et6, h⟩ := am_let_eq h
      refine am_Ev.go hcd 1 (s' := (44, [(0, .ref 216), (1, .int a0), (2, .int t1), (3, .int t6)], [], am_SH, (g, p3.2))) (by subst Et6; exact rfl) ?_
      obtain ⟨t17, ht17, kt17⟩ := am_bind_some h
      have hKt17 : am_Ev sc (d + 5) 247 (109, [(0, .ref 216), (1, .int a0), (2, .int t1)], [], am_SH, (g, t17)) ((some (.int (am_b r.1))), am_SH, (g, r.2)) := by
        have h := kt17
        refine am_Ev.go hcd 5 (s' := (114, [(0, .ref 216), (1, .int a0), (2, .int t1)], [.int (9 + a0), .ref 217], am_SH, (g, t17))) rfl ?_
        obtain ⟨c40, h⟩ := am_grd h
        refine am_Ev.t hcd (o := none) (c := am_in (9 + a0) 2008 = true) (s1 := (115, [(0, .ref 216), (1, .int a0), (2, .int t1)], [.int (t17 217 (9 + a0).toNatClampNeg)], am_SH, (g, t17))) rfl c40 ?_
        refine am_Ev.go hcd 1 (s' := (116, [(0, .ref 216), (1, .int a0), (2, .int t1)], [.int 420, .int (t17 217 (9 + a0).toNatClampNeg)], am_SH, (g, t17))) rfl ?_
        rcases am_ite h with ⟨c43, h⟩ | ⟨c43, h⟩
        · refine am_Ev.t hcd (c := 420 < t17 217 (9 + a0).toNatClampNeg) (s1 := (119, [(0, .ref 216), (1, .int a0), (2, .int t1)], [], am_SH, (g, t17))) rfl c43 ?_
          refine am_Ev.go hcd 6 (s' := (125, [(0, .ref 216), (1, .int a0), (2, .int t1)], [.int 420, .int (9 + a0), .ref 217], am_SH, (g, t17))) rfl ?_
          obtain ⟨c46, h⟩ := am_grd h
          obtain ⟨f18, Ef18, h⟩ := am_let_eq h
          refine am_Ev.t hcd (o := none) (c := am_in (9 + a0) 2008 = true) (s1 := (126, [(0, .ref 216), (1, .int a0), (2, .int t1)], [], am_SH, (g, f18))) (by subst Ef18; exact rfl) c46 ?_
          refine am_Ev.go hcd 6 (s' := (132, [(0, .ref 216), (1, .int a0), (2, .int t1)], [.int (27 + a0), .ref 217, .int (27 + a0), .ref 217], am_SH, (g, f18))) rfl ?_
          obtain ⟨c50, h⟩ := am_grd h
          refine am_Ev.t hcd (o := none) (c := am_in (27 + a0) 2008 = true) (s1 := (133, [(0, .ref 216), (1, .int a0), (2, .int t1)], [.int (f18 217 (27 + a0).toNatClampNeg), .int (27 + a0), .ref 217], am_SH, (g, f18))) rfl c50 ?_
          refine am_Ev.go hcd 2 (s' := (135, [(0, .ref 216), (1, .int a0), (2, .int t1)], [.int ((f18 217 (27 + a0).toNatClampNeg) + 1), .int (27 + a0), .ref 217], am_SH, (g, f18))) rfl ?_
          obtain ⟨c53, h⟩ := am_grd h
          obtain ⟨f19, Ef19, h⟩ := am_let_eq h
          refine am_Ev.t hcd (o := none) (c := am_in (27 + a0) 2008 = true) (s1 := (136, [(0, .ref 216), (1, .int a0), (2, .int t1)], [], am_SH, (g, f19))) (by subst Ef19; exact rfl) c53 ?_
          refine am_Ev.go hcd 6 (s' := (142, [(0, .ref 216), (1, .int a0), (2, .int t1)], [.int (57 + t1), .ref 217, .int (57 + t1), .ref 217], am_SH, (g, f19))) rfl ?_
          obtain ⟨c57, h⟩ := am_grd h
          refine am_Ev.t hcd (o := none) (c := am_in (57 + t1) 2008 = true) (s1 := (143, [(0, .ref 216), (1, .int a0), (2, .int t1)], [.int (f19 217 (57 + t1).toNatClampNeg), .int (57 + t1), .ref 217], am_SH, (g, f19))) rfl c57 ?_
          refine am_Ev.go hcd 2 (s' := (145, [(0, .ref 216), (1, .int a0), (2, .int t1)], [.int ((f19 217 (57 + t1).toNatClampNeg) + 1), .int (57 + t1), .ref 217], am_SH, (g, f19))) rfl ?_
          obtain ⟨c60, h⟩ := am_grd h
          obtain ⟨f20, Ef20, h⟩ := am_let_eq h
          refine am_Ev.t hcd (o := none) (c := am_in (57 + t1) 2008 = true) (s1 := (146, [(0, .ref 216), (1, .int a0), (2, .int t1)], [], am_SH, (g, f20))) (by subst Ef20; exact rfl) c60 ?_
          refine am_Ev.go hcd 6 (s' := (152, [(0, .ref 216), (1, .int a0), (2, .int t1)], [.int (-1), .int (15 + a0), .ref 217], am_SH, (g, f20))) rfl ?_
          obtain ⟨c64, h⟩ := am_grd h
          obtain ⟨f21, Ef21, h⟩ := am_let_eq h
          refine am_Ev.t hcd (o := none) (c := am_in (15 + a0) 2008 = true) (s1 := (153, [(0, .ref 216), (1, .int a0), (2, .int t1)], [], am_SH, (g, f21))) (by subst Ef21; exact rfl) c64 ?_
          refine am_Ev.go hcd 4 (s' := (157, [(0, .ref 216), (1, .int a0), (2, .int t1)], [.int t1, .int a0, .int 4, .ref 216], am_SH, (g, f21))) rfl ?_
          obtain ⟨p22, hp22, h⟩ := am_bind_some h
          refine am_Ev.call hcd (a := 238) (s0 := (0, [(0, .ref 216), (1, .int 4), (2, .int a0), (3, .int t1)], [], am_SH, (g, f21))) (q := (none, am_SH, (g, p22))) (s1 := (158, [(0, .ref 216), (1, .int a0), (2, .int t1)], [], am_SH, (g, p22))) rfl rfl (m_notes_ok (d + 4) 4 a0 t1 f21 g p22 hp22) ?_
          refine am_Ev.go hcd 1 (s' := (159, [(0, .ref 216), (1, .int a0), (2, .int t1)], [.int 1], am_SH, (g, p22))) rfl ?_
          exact am_Ev.cast (a := ((some (.int (am_b (true, p22).1))), am_SH, (g, (true, p22).2))) (by cases h; rfl) (am_Ev.ret hcd rfl)
        · refine am_Ev.f hcd (c := 420 < t17 217 (9 + a0).toNatClampNeg) (s1 := (117, [(0, .ref 216), (1, .int a0), (2, .int t1)], [], am_SH, (g, t17))) rfl c43 ?_
          refine am_Ev.go hcd 1 (s' := (118, [(0, .ref 216), (1, .int a0), (2, .int t1)], [.int 0], am_SH, (g, t17))) rfl ?_
          exact am_Ev.cast (a := ((some (.int (am_b (false, t17).1))), am_SH, (g, (false, t17).2))) (by cases h; rfl) (am_Ev.ret hcd rfl)
      have hLt17 : ∀ tt, tt = t17 → am_Ev sc (d + 5) 247 (109, [(0, .ref 216), (1, .int a0), (2, .int t1)], [], am_SH, (g, tt)) ((some (.int (am_b r.1))), am_SH, (g, r.2)) := fun tt htt => by subst htt; exact hKt17
      have h := ht17
      refine am_Ev.go hcd 2 (s' := (46, [(0, .ref 216), (1, .int a0), (2, .int t1), (3, .int t6)], [.int (-1), .int t6], am_SH, (g, p3.2))) rfl ?_
      rcases am_ite h with ⟨c78, h⟩ | ⟨c78, h⟩
      · refine am_Ev.t hcd (c := t6 = (-1)) (s1 := (47, [(0, .ref 216), (1, .int a0), (2, .int t1), (3, .int t6)], [], am_SH, (g, p3.2))) rfl c78 ?_
        refine am_Ev.go hcd 11 (s' := (58, [(0, .ref 216), (1, .int a0), (2, .int t1), (3, .int t6)], [.int (9 + a0), .ref 217, .int 300, .int (9 + a0), .ref 217], am_SH, (g, p3.2))) rfl ?_
        obtain ⟨c81, h⟩ := am_grd h
        refine am_Ev.t hcd (o := none) (c := am_in (9 + a0) 2008 = true) (s1 := (59, [(0, .ref 216), (1, .int a0), (2, .int t1), (3, .int t6)], [.int (p3.2 217 (9 + a0).toNatClampNeg), .int 300, .int (9 + a0), .ref 217], am_SH, (g, p3.2))) rfl c81 ?_
        refine am_Ev.go hcd 2 (s' := (61, [(0, .ref 216), (1, .int a0), (2, .int t1), (3, .int t6)], [.int a0, .ref 216, .int (p3.2 217 (9 + a0).toNatClampNeg), .int 300, .int (9 + a0), .ref 217], am_SH, (g, p3.2))) rfl ?_
        obtain ⟨p7, hp7, h⟩ := am_bind_some h
        refine am_Ev.call hcd (a := 235) (s0 := (0, [(0, .ref 216), (1, .int a0)], [], am_SH, (g, p3.2))) (q := ((some (.int p7.1)), am_SH, (g, p7.2))) (s1 := (62, [(0, .ref 216), (1, .int a0), (2, .int t1), (3, .int t6)], [.int p7.1, .int (p3.2 217 (9 + a0).toNatClampNeg), .int 300, .int (9 + a0), .ref 217], am_SH, (g, p7.2))) rfl rfl (m_coolsOf_ok (d) a0 p3.2 g p7 hp7) ?_
        refine am_Ev.go hcd 1 (s' := (63, [(0, .ref 216), (1, .int a0), (2, .int t1), (3, .int t6)], [.int ((p3.2 217 (9 + a0).toNatClampNeg) - p7.1), .int 300, .int (9 + a0), .ref 217], am_SH, (g, p7.2))) rfl ?_
        refine am_Ev.call hcd (a := 178) (s0 := (0, [(0, .int 300), (1, .int ((p3.2 217 (9 + a0).toNatClampNeg) - p7.1))], [], am_SH, (g, p7.2))) (q := ((some (.int (m_greater 300 ((p3.2 217 (9 + a0).toNatClampNeg) - p7.1)))), am_SH, (g, p7.2))) (s1 := (64, [(0, .ref 216), (1, .int a0), (2, .int t1), (3, .int t6)], [.int (m_greater 300 ((p3.2 217 (9 + a0).toNatClampNeg) - p7.1)), .int (9 + a0), .ref 217], am_SH, (g, p7.2))) rfl rfl (m_greater_ok (d + 4) 300 ((p3.2 217 (9 + a0).toNatClampNeg) - p7.1) (g, p7.2)) ?_
        obtain ⟨c89, h⟩ := am_grd h
        obtain ⟨f9, Ef9, h⟩ := am_let_eq h
        refine am_Ev.t hcd (o := none) (c := am_in (9 + a0) 2008 = true) (s1 := (65, [(0, .ref 216), (1, .int a0), (2, .int t1), (3, .int t6)], [], am_SH, (g, f9))) (by subst Ef9; exact rfl) c89 ?_
        refine am_Ev.go hcd 1 (s' := (109, [(0, .ref 216), (1, .int a0), (2, .int t1), (3, .int t6)], [], am_SH, (g, f9))) rfl ?_
        exact am_Ev.weak' (hLt17 f9 (Option.some.inj h)) (am_sub_cons rfl (am_sub_cons rfl (am_sub_cons rfl am_sub_nil))) rfl
      · refine am_Ev.f hcd (c := t6 = (-1)) (s1 := (66, [(0, .ref 216), (1, .int a0), (2, .int t1), (3, .int t6)], [], am_SH, (g, p3.2))) rfl c78 ?_
        refine am_Ev.go hcd 3 (s' := (69, [(0, .ref 216), (1, .int a0), (2, .int t1), (3, .int t6)], [.int t6, .int a0, .ref 216], am_SH, (g, p3.2))) rfl ?_
        obtain ⟨p10, hp10, h⟩ := am_bind_some h
        refine am_Ev.call hcd (a := 233) (s0 := (0, [(0, .ref 216), (1, .int a0), (2, .int t6)], [], am_SH, (g, p3.2))) (q := ((some (.int p10.1)), am_SH, (g, p10.2))) (s1 := (70, [(0, .ref 216), (1, .int a0), (2, .int t1), (3, .int t6)], [.int p10.1], am_SH, (g, p10.2))) rfl rfl (m_warmsOf_ok (d) a0 t6 p3.2 g p10 hp10) ?_
        refine am_Ev.go hcd 7 (s' := (77, [(0, .ref 216), (1, .int a0), (2, .int t1), (3, .int t6), (4, .int p10.1)], [.int (9 + a0), .ref 217, .int (9 + a0), .ref 217], am_SH, (g, p10.2))) rfl ?_
        obtain ⟨c98, h⟩ := am_grd h
        refine am_Ev.t hcd (o := none) (c := am_in (9 + a0) 2008 = true) (s1 := (78, [(0, .ref 216), (1, .int a0), (2, .int t1), (3, .int t6), (4, .int p10.1)], [.int (p10.2 217 (9 + a0).toNatClampNeg), .int (9 + a0), .ref 217], am_SH, (g, p10.2))) rfl c98 ?_
        refine am_Ev.go hcd 2 (s' := (80, [(0, .ref 216), (1, .int a0), (2, .int t1), (3, .int t6), (4, .int p10.1)], [.int ((p10.2 217 (9 + a0).toNatClampNeg) + p10.1), .int (9 + a0), .ref 217], am_SH, (g, p10.2))) rfl ?_
        obtain ⟨c101, h⟩ := am_grd h
        obtain ⟨f11, Ef11, h⟩ := am_let_eq h
        refine am_Ev.t hcd (o := none) (c := am_in (9 + a0) 2008 = true) (s1 := (81, [(0, .ref 216), (1, .int a0), (2, .int t1), (3, .int t6), (4, .int p10.1)], [], am_SH, (g, f11))) (by subst Ef11; exact rfl) c101 ?_
        obtain ⟨t13, ht13, kt13⟩ := am_bind_some h
        have hKt13 : am_Ev sc (d + 5) 247 (88, [(0, .ref 216), (1, .int a0), (2, .int t1), (3, .int t6)], [], am_SH, (g, t13)) ((some (.int (am_b r.1))), am_SH, (g, r.2)) := by
          have h := kt13
          refine am_Ev.go hcd 3 (s' := (91, [(0, .ref 216), (1, .int a0), (2, .int t1), (3, .int t6)], [.int t6, .int a0, .ref 216], am_SH, (g, t13))) rfl ?_
          obtain ⟨p14, hp14, h⟩ := am_bind_some h
          refine am_Ev.call hcd (a := 231) (s0 := (0, [(0, .ref 216), (1, .int a0), (2, .int t6)], [], am_SH, (g, t13))) (q := ((some (.int p14)), am_SH, (g, t13))) (s1 := (92, [(0, .ref 216), (1, .int a0), (2, .int t1), (3, .int t6)], [.int p14], am_SH, (g, t13))) rfl rfl (m_nearOf_ok (d + 2) a0 t6 t13 g p14 hp14) ?_
          rcases am_ite h with ⟨c111, h⟩ | ⟨c111, h⟩
          · refine am_Ev.t hcd (c := 0 < p14) (s1 := (93, [(0, .ref 216), (1, .int a0), (2, .int t1), (3, .int t6)], [], am_SH, (g, t13))) rfl c111 ?_
            refine am_Ev.go hcd 11 (s' := (104, [(0, .ref 216), (1, .int a0), (2, .int t1), (3, .int t6)], [.int (3 + a0), .ref 217, .int 99, .int (3 + a0), .ref 217], am_SH, (g, t13))) rfl ?_
            obtain ⟨c113, h⟩ := am_grd h
            refine am_Ev.t hcd (o := none) (c := am_in (3 + a0) 2008 = true) (s1 := (105, [(0, .ref 216), (1, .int a0), (2, .int t1), (3, .int t6)], [.int (t13 217 (3 + a0).toNatClampNeg), .int 99, .int (3 + a0), .ref 217], am_SH, (g, t13))) rfl c113 ?_
            refine am_Ev.go hcd 2 (s' := (107, [(0, .ref 216), (1, .int a0), (2, .int t1), (3, .int t6)], [.int ((t13 217 (3 + a0).toNatClampNeg) + 1), .int 99, .int (3 + a0), .ref 217], am_SH, (g, t13))) rfl ?_
            refine am_Ev.call hcd (a := 177) (s0 := (0, [(0, .int 99), (1, .int ((t13 217 (3 + a0).toNatClampNeg) + 1))], [], am_SH, (g, t13))) (q := ((some (.int (m_lesser 99 ((t13 217 (3 + a0).toNatClampNeg) + 1)))), am_SH, (g, t13))) (s1 := (108, [(0, .ref 216), (1, .int a0), (2, .int t1), (3, .int t6)], [.int (m_lesser 99 ((t13 217 (3 + a0).toNatClampNeg) + 1)), .int (3 + a0), .ref 217], am_SH, (g, t13))) rfl rfl (m_lesser_ok (d + 4) 99 ((t13 217 (3 + a0).toNatClampNeg) + 1) (g, t13)) ?_
            obtain ⟨c118, h⟩ := am_grd h
            obtain ⟨f16, Ef16, h⟩ := am_let_eq h
            refine am_Ev.t hcd (o := none) (c := am_in (3 + a0) 2008 = true) (s1 := (109, [(0, .ref 216), (1, .int a0), (2, .int t1), (3, .int t6)], [], am_SH, (g, f16))) (by subst Ef16; exact rfl) c118 ?_
            exact am_Ev.weak' (hLt17 f16 (Option.some.inj h)) (am_sub_cons rfl (am_sub_cons rfl (am_sub_cons rfl am_sub_nil))) rfl
          · refine am_Ev.f hcd (c := 0 < p14) (s1 := (109, [(0, .ref 216), (1, .int a0), (2, .int t1), (3, .int t6)], [], am_SH, (g, t13))) rfl c111 ?_
            exact am_Ev.weak' (hLt17 t13 (Option.some.inj h)) (am_sub_cons rfl (am_sub_cons rfl (am_sub_cons rfl am_sub_nil))) rfl
        have hLt13 : ∀ tt, tt = t13 → am_Ev sc (d + 5) 247 (88, [(0, .ref 216), (1, .int a0), (2, .int t1), (3, .int t6)], [], am_SH, (g, tt)) ((some (.int (am_b r.1))), am_SH, (g, r.2)) := fun tt htt => by subst htt; exact hKt13
        have h := ht13
        refine am_Ev.go hcd 1 (s' := (82, [(0, .ref 216), (1, .int a0), (2, .int t1), (3, .int t6), (4, .int p10.1)], [.int p10.1], am_SH, (g, f11))) rfl ?_
        rcases am_ite h with ⟨c126, h⟩ | ⟨c126, h⟩
        · refine am_Ev.t hcd (c := 0 < p10.1) (s1 := (83, [(0, .ref 216), (1, .int a0), (2, .int t1), (3, .int t6), (4, .int p10.1)], [], am_SH, (g, f11))) rfl c126 ?_
          refine am_Ev.go hcd 4 (s' := (87, [(0, .ref 216), (1, .int a0), (2, .int t1), (3, .int t6), (4, .int p10.1)], [.int p10.1, .int a0, .int 2, .ref 216], am_SH, (g, f11))) rfl ?_
          obtain ⟨p12, hp12, h⟩ := am_bind_some h
          refine am_Ev.call hcd (a := 238) (s0 := (0, [(0, .ref 216), (1, .int 2), (2, .int a0), (3, .int p10.1)], [], am_SH, (g, f11))) (q := (none, am_SH, (g, p12))) (s1 := (88, [(0, .ref 216), (1, .int a0), (2, .int t1), (3, .int t6), (4, .int p10.1)], [], am_SH, (g, p12))) rfl rfl (m_notes_ok (d + 4) 2 a0 p10.1 f11 g p12 hp12) ?_
          exact am_Ev.weak' (hLt13 p12 (Option.some.inj h)) (am_sub_cons rfl (am_sub_cons rfl (am_sub_cons rfl (am_sub_cons rfl am_sub_nil)))) rfl
        · refine am_Ev.f hcd (c := 0 < p10.1) (s1 := (88, [(0, .ref 216), (1, .int a0), (2, .int t1), (3, .int t6), (4, .int p10.1)], [], am_SH, (g, f11))) rfl c126 ?_
          exact am_Ev.weak' (hLt13 f11 (Option.some.inj h)) (am_sub_cons rfl (am_sub_cons rfl (am_sub_cons rfl (am_sub_cons rfl am_sub_nil)))) rfl
set_option maxRecDepth 100000 in
set_option maxHeartbeats 4000000 in
theorem m_goesBy_ok {sc : Nat × (Nat → Int32)} (d : Nat)  (f g : (Nat → Nat → Int32)) (r : Int32 × (Nat → Nat → Int32)) (h : m_goesBy  f = some r) : am_Ev sc (d + 6) 248 (0, [(0, .ref 216)], [], am_SH, (g, f)) ((some (.int r.1)), am_SH, (g, r.2)) := by
  have hcd : am_code 248 = am_c248 := rfl
  unfold m_goesBy at h
  refine am_Ev.go hcd 1 (s' := (1, [(0, .ref 216)], [.ref 216], am_SH, (g, f))) rfl ?_
  obtain ⟨p1, hp1, h⟩ := am_bind_some h
  refine am_Ev.call hcd (a := 246) (s0 := (0, [(0, .ref 216)], [], am_SH, (g, f))) (q := (none, am_SH, (g, p1))) (s1 := (2, [(0, .ref 216)], [], am_SH, (g, p1))) rfl rfl (m_walks_ok (d + 2)  f g p1 hp1) ?_
  refine am_Ev.go hcd 4 (s' := (6, [(0, .ref 216), (1, .int 0), (2, .int 0)], [], am_SH, (g, p1))) rfl ?_
  obtain ⟨e7, he7, h⟩ := am_bind_some h
  have hK2 : (fun (e7 : Int32 × (Nat → Nat → Int32)) => am_Ev sc (d + 6) 248 (24, [(0, .ref 216), (1, .int e7.1)], [], am_SH, (g, e7.2)) ((some (.int r.1)), am_SH, (g, r.2))) e7 := by
    show am_Ev sc (d + 6) 248 (24, [(0, .ref 216), (1, .int e7.1)], [], am_SH, (g, e7.2)) ((some (.int r.1)), am_SH, (g, r.2))
    refine am_Ev.go hcd 2 (s' := (26, [(0, .ref 216), (1, .int e7.1), (2, .int 0)], [], am_SH, (g, e7.2))) rfl ?_
    obtain ⟨e11, he11, h⟩ := am_bind_some h
    have hK8 : (fun (e11 : (Nat → Nat → Int32)) => am_Ev sc (d + 6) 248 (41, [(0, .ref 216), (1, .int e7.1)], [], am_SH, (g, e11)) ((some (.int r.1)), am_SH, (g, r.2))) e11 := by
      show am_Ev sc (d + 6) 248 (41, [(0, .ref 216), (1, .int e7.1)], [], am_SH, (g, e11)) ((some (.int r.1)), am_SH, (g, r.2))
      obtain ⟨f12, Ef12, h⟩ := am_let_eq h
      refine am_Ev.go hcd 8 (s' := (49, [(0, .ref 216), (1, .int e7.1)], [], am_SH, (g, f12))) (by subst Ef12; exact rfl) ?_
      refine am_Ev.go hcd 1 (s' := (50, [(0, .ref 216), (1, .int e7.1)], [.int e7.1], am_SH, (g, f12))) rfl ?_
      exact am_Ev.cast (a := ((some (.int (e7.1, f12).1)), am_SH, (g, (e7.1, f12).2))) (by cases h; rfl) (am_Ev.ret hcd rfl)
    refine am_Ev.weak' (am_loop_ok (G := fun (s8 : Int32 × (Nat → Nat → Int32)) => am_Ev sc (d + 6) 248 (26, [(0, .ref 216), (1, .int e7.1), (2, .int s8.1)], [], am_SH, (g, s8.2)) ((some (.int r.1)), am_SH, (g, r.2))) (Z := fun (e11 : (Nat → Nat → Int32)) => am_Ev sc (d + 6) 248 (41, [(0, .ref 216), (1, .int e7.1)], [], am_SH, (g, e11)) ((some (.int r.1)), am_SH, (g, r.2))) ?_ am_F (0, e7.2) e11 he11 hK8) (am_sub_cons rfl (am_sub_cons rfl (am_sub_cons rfl am_sub_nil))) rfl
    intro s8 q8 h hI8 hZ8
    show am_Ev sc (d + 6) 248 (26, [(0, .ref 216), (1, .int e7.1), (2, .int s8.1)], [], am_SH, (g, s8.2)) ((some (.int r.1)), am_SH, (g, r.2))
    refine am_Ev.go hcd 5 (s' := (31, [(0, .ref 216), (1, .int e7.1), (2, .int s8.1)], [.int (s8.2 217 69), .int s8.1], am_SH, (g, s8.2))) rfl ?_
    rcases am_ite h with ⟨c20, h⟩ | ⟨c20, h⟩
    · refine am_Ev.t hcd (c := s8.1 < s8.2 217 69) (s1 := (32, [(0, .ref 216), (1, .int e7.1), (2, .int s8.1)], [], am_SH, (g, s8.2))) rfl c20 ?_
      refine am_Ev.go hcd 6 (s' := (38, [(0, .ref 216), (1, .int e7.1), (2, .int s8.1)], [.int (-1), .int (21 + s8.1), .ref 217], am_SH, (g, s8.2))) rfl ?_
      obtain ⟨c23, h⟩ := am_grd h
      obtain ⟨f9, Ef9, h⟩ := am_let_eq h
      refine am_Ev.t hcd (o := none) (c := am_in (21 + s8.1) 2008 = true) (s1 := (39, [(0, .ref 216), (1, .int e7.1), (2, .int s8.1)], [], am_SH, (g, f9))) (by subst Ef9; exact rfl) c23 ?_
      obtain ⟨t10, Et10, h⟩ := am_let_eq h
      refine am_Ev.go hcd 1 (s' := (40, [(0, .ref 216), (1, .int e7.1), (2, .int t10)], [], am_SH, (g, f9))) (by subst Et10; exact rfl) ?_
      refine am_Ev.go hcd 1 (s' := (26, [(0, .ref 216), (1, .int e7.1), (2, .int t10)], [], am_SH, (g, f9))) rfl ?_
      exact am_Ev.weak' (hI8 (t10, f9) (Option.some.inj h).symm) (am_sub_cons rfl (am_sub_cons rfl (am_sub_cons rfl am_sub_nil))) rfl
    · refine am_Ev.f hcd (c := s8.1 < s8.2 217 69) (s1 := (41, [(0, .ref 216), (1, .int e7.1), (2, .int s8.1)], [], am_SH, (g, s8.2))) rfl c20 ?_
      exact am_Ev.weak' (hZ8 s8.2 (Option.some.inj h).symm) (am_sub_cons rfl (am_sub_cons rfl am_sub_nil)) rfl
  refine am_Ev.weak' (am_loop_ok (G := fun (s2 : Int32 × Int32 × (Nat → Nat → Int32)) => am_Ev sc (d + 6) 248 (6, [(0, .ref 216), (1, .int s2.1), (2, .int s2.2.1)], [], am_SH, (g, s2.2.2)) ((some (.int r.1)), am_SH, (g, r.2))) (Z := fun (e7 : Int32 × (Nat → Nat → Int32)) => am_Ev sc (d + 6) 248 (24, [(0, .ref 216), (1, .int e7.1)], [], am_SH, (g, e7.2)) ((some (.int r.1)), am_SH, (g, r.2))) ?_ am_F (0, 0, p1) e7 he7 hK2) (am_sub_cons rfl (am_sub_cons rfl (am_sub_cons rfl am_sub_nil))) rfl
  intro s2 q2 h hI2 hZ2
  show am_Ev sc (d + 6) 248 (6, [(0, .ref 216), (1, .int s2.1), (2, .int s2.2.1)], [], am_SH, (g, s2.2.2)) ((some (.int r.1)), am_SH, (g, r.2))
  refine am_Ev.go hcd 5 (s' := (11, [(0, .ref 216), (1, .int s2.1), (2, .int s2.2.1)], [.int (s2.2.2 217 69), .int s2.2.1], am_SH, (g, s2.2.2))) rfl ?_
  rcases am_ite h with ⟨c36, h⟩ | ⟨c36, h⟩
  · refine am_Ev.t hcd (c := s2.2.1 < s2.2.2 217 69) (s1 := (12, [(0, .ref 216), (1, .int s2.1), (2, .int s2.2.1)], [], am_SH, (g, s2.2.2))) rfl c36 ?_
    refine am_Ev.go hcd 3 (s' := (15, [(0, .ref 216), (1, .int s2.1), (2, .int s2.2.1)], [.int s2.2.1, .ref 216, .int s2.1], am_SH, (g, s2.2.2))) rfl ?_
    obtain ⟨p3, hp3, h⟩ := am_bind_some h
    refine am_Ev.call hcd (a := 247) (s0 := (0, [(0, .ref 216), (1, .int s2.2.1)], [], am_SH, (g, s2.2.2))) (q := ((some (.int (am_b p3.1))), am_SH, (g, p3.2))) (s1 := (16, [(0, .ref 216), (1, .int s2.1), (2, .int s2.2.1)], [.int (am_b p3.1), .int s2.1], am_SH, (g, p3.2))) rfl rfl (m_isRead_ok (d) s2.2.1 s2.2.2 g p3 hp3) ?_
    obtain ⟨t4, ht4, kt4⟩ := am_let_eq h
    have hKt4 : am_Ev sc (d + 6) 248 (20, [(0, .ref 216), (2, .int s2.2.1)], [.int (am_b t4), .int s2.1], am_SH, (g, p3.2)) ((some (.int r.1)), am_SH, (g, r.2)) := by
      have h := kt4
      obtain ⟨t5, Et5, h⟩ := am_let_eq h
      refine am_Ev.go hcd 2 (s' := (22, [(0, .ref 216), (1, .int t5), (2, .int s2.2.1)], [], am_SH, (g, p3.2))) (by subst Et5; exact rfl) ?_
      obtain ⟨t6, Et6, h⟩ := am_let_eq h
      refine am_Ev.go hcd 1 (s' := (23, [(0, .ref 216), (1, .int t5), (2, .int t6)], [], am_SH, (g, p3.2))) (by subst Et6; exact rfl) ?_
      refine am_Ev.go hcd 1 (s' := (6, [(0, .ref 216), (1, .int t5), (2, .int t6)], [], am_SH, (g, p3.2))) rfl ?_
      exact am_Ev.weak' (hI2 (t5, t6, p3.2) (Option.some.inj h).symm) (am_sub_cons rfl (am_sub_cons rfl (am_sub_cons rfl am_sub_nil))) rfl
    have hLt4 : ∀ tt, tt = t4 → am_Ev sc (d + 6) 248 (20, [(0, .ref 216), (2, .int s2.2.1)], [.int (am_b tt), .int s2.1], am_SH, (g, p3.2)) ((some (.int r.1)), am_SH, (g, r.2)) := fun tt htt => by subst htt; exact hKt4
    have h := ht4
    rcases am_itv h with ⟨c53, h⟩ | ⟨c53, h⟩
    · refine am_Ev.f hcd (c := am_b p3.1 = 0) (s1 := (17, [(0, .ref 216), (1, .int s2.1), (2, .int s2.2.1)], [.int s2.1], am_SH, (g, p3.2))) rfl (am_b_t c53) ?_
      refine am_Ev.go hcd 2 (s' := (20, [(0, .ref 216), (1, .int s2.1), (2, .int s2.2.1)], [.int 1, .int s2.1], am_SH, (g, p3.2))) rfl ?_
      exact am_Ev.weak' (hLt4 true h.symm) (am_sub_cons rfl (am_sub_cons rfl am_sub_nil)) rfl
    · refine am_Ev.t hcd (c := am_b p3.1 = 0) (s1 := (19, [(0, .ref 216), (1, .int s2.1), (2, .int s2.2.1)], [.int s2.1], am_SH, (g, p3.2))) rfl (am_b_f c53) ?_
      refine am_Ev.go hcd 1 (s' := (20, [(0, .ref 216), (1, .int s2.1), (2, .int s2.2.1)], [.int 0, .int s2.1], am_SH, (g, p3.2))) rfl ?_
      exact am_Ev.weak' (hLt4 false h.symm) (am_sub_cons rfl (am_sub_cons rfl am_sub_nil)) rfl
  · refine am_Ev.f hcd (c := s2.2.1 < s2.2.2 217 69) (s1 := (24, [(0, .ref 216), (1, .int s2.1), (2, .int s2.2.1)], [], am_SH, (g, s2.2.2))) rfl c36 ?_
    exact am_Ev.weak' (hZ2 (s2.1, s2.2.2) (Option.some.inj h).symm) (am_sub_cons rfl (am_sub_cons rfl am_sub_nil)) rfl
set_option maxRecDepth 100000 in
set_option maxHeartbeats 4000000 in
theorem m_minutes_ok {sc : Nat × (Nat → Int32)} (d : Nat) (a0 : Int32) (f g : (Nat → Nat → Int32)) (r : Int32 × (Nat → Nat → Int32)) (h : m_minutes a0 f = some r) : am_Ev sc (d + 7) 249 (0, [(0, .ref 216), (1, .int a0)], [], am_SH, (g, f)) ((some (.int r.1)), am_SH, (g, r.2)) := by
  have hcd : am_code 249 = am_c249 := rfl
  unfold m_minutes at h
  refine am_Ev.go hcd 3 (s' := (3, [(0, .ref 216), (1, .int a0)], [.int 60, .int 1, .int a0], am_SH, (g, f))) rfl ?_
  refine am_Ev.call hcd (a := 176) (s0 := (0, [(0, .int a0), (1, .int 1), (2, .int 60)], [], am_SH, (g, f))) (q := ((some (.int (am_b (m_isIn a0 1 60)))), am_SH, (g, f))) (s1 := (4, [(0, .ref 216), (1, .int a0)], [.int (am_b (m_isIn a0 1 60))], am_SH, (g, f))) rfl rfl (m_isIn_ok (d + 6) a0 1 60 (g, f)) ?_
  rcases am_ite h with ⟨c4, h⟩ | ⟨c4, h⟩
  · refine am_Ev.f hcd (c := am_b (m_isIn a0 1 60) = 0) (s1 := (5, [(0, .ref 216), (1, .int a0)], [], am_SH, (g, f))) rfl (am_b_t c4) ?_
    refine am_Ev.go hcd 7 (s' := (12, [(0, .ref 216), (1, .int a0)], [.int 9999, .int ((f 217 0) + a0)], am_SH, (g, f))) rfl ?_
    rcases am_ite h with ⟨c6, h⟩ | ⟨c6, h⟩
    · refine am_Ev.t hcd (c := 9999 < ((f 217 0) + a0)) (s1 := (13, [(0, .ref 216), (1, .int a0)], [], am_SH, (g, f))) rfl c6 ?_
      refine am_Ev.go hcd 1 (s' := (14, [(0, .ref 216), (1, .int a0)], [.int (-1)], am_SH, (g, f))) rfl ?_
      exact am_Ev.cast (a := ((some (.int ((-1), f).1)), am_SH, (g, ((-1), f).2))) (by cases h; rfl) (am_Ev.ret hcd rfl)
    · refine am_Ev.f hcd (c := 9999 < ((f 217 0) + a0)) (s1 := (15, [(0, .ref 216), (1, .int a0)], [], am_SH, (g, f))) rfl c6 ?_
      refine am_Ev.go hcd 4 (s' := (19, [(0, .ref 216), (1, .int a0), (2, .int 0), (3, .int 0)], [], am_SH, (g, f))) rfl ?_
      refine am_Ev.weak' (am_loop_ok (G := fun (s2 : Int32 × Int32 × (Nat → Nat → Int32)) => am_Ev sc (d + 7) 249 (19, [(0, .ref 216), (1, .int a0), (2, .int s2.1), (3, .int s2.2.1)], [], am_SH, (g, s2.2.2)) ((some (.int r.1)), am_SH, (g, r.2))) (Z := fun (v : Int32 × (Nat → Nat → Int32)) => (((some (.int v.1)), am_SH, (g, v.2)) : am_R) = ((some (.int r.1)), am_SH, (g, r.2))) ?_ am_F (0, 0, f) r h rfl) (am_sub_cons rfl (am_sub_cons rfl (am_sub_cons rfl (am_sub_cons rfl am_sub_nil)))) rfl
      intro s2 q2 h hI2 hZ2
      show am_Ev sc (d + 7) 249 (19, [(0, .ref 216), (1, .int a0), (2, .int s2.1), (3, .int s2.2.1)], [], am_SH, (g, s2.2.2)) ((some (.int r.1)), am_SH, (g, r.2))
      refine am_Ev.go hcd 2 (s' := (21, [(0, .ref 216), (1, .int a0), (2, .int s2.1), (3, .int s2.2.1)], [.int a0, .int s2.2.1], am_SH, (g, s2.2.2))) rfl ?_
      rcases am_ite h with ⟨c16, h⟩ | ⟨c16, h⟩
      · refine am_Ev.t hcd (c := s2.2.1 < a0) (s1 := (22, [(0, .ref 216), (1, .int a0), (2, .int s2.1), (3, .int s2.2.1)], [], am_SH, (g, s2.2.2))) rfl c16 ?_
        refine am_Ev.go hcd 1 (s' := (23, [(0, .ref 216), (1, .int a0), (2, .int s2.1), (3, .int s2.2.1)], [.ref 216], am_SH, (g, s2.2.2))) rfl ?_
        obtain ⟨p3, hp3, h⟩ := am_bind_some h
        refine am_Ev.call hcd (a := 236) (s0 := (0, [(0, .ref 216)], [], am_SH, (g, s2.2.2))) (q := (none, am_SH, (g, p3))) (s1 := (24, [(0, .ref 216), (1, .int a0), (2, .int s2.1), (3, .int s2.2.1)], [], am_SH, (g, p3))) rfl rfl (m_keeps_ok (d + 6)  s2.2.2 g p3 hp3) ?_
        refine am_Ev.go hcd 2 (s' := (26, [(0, .ref 216), (1, .int a0), (2, .int s2.1), (3, .int s2.2.1)], [.ref 216, .int s2.1], am_SH, (g, p3))) rfl ?_
        obtain ⟨p4, hp4, h⟩ := am_bind_some h
        refine am_Ev.call hcd (a := 248) (s0 := (0, [(0, .ref 216)], [], am_SH, (g, p3))) (q := ((some (.int p4.1)), am_SH, (g, p4.2))) (s1 := (27, [(0, .ref 216), (1, .int a0), (2, .int s2.1), (3, .int s2.2.1)], [.int p4.1, .int s2.1], am_SH, (g, p4.2))) rfl rfl (m_goesBy_ok (d)  p3 g p4 hp4) ?_
        obtain ⟨t5, Et5, h⟩ := am_let_eq h
        refine am_Ev.go hcd 2 (s' := (29, [(0, .ref 216), (1, .int a0), (2, .int t5), (3, .int s2.2.1)], [], am_SH, (g, p4.2))) (by subst Et5; exact rfl) ?_
        obtain ⟨t6, Et6, h⟩ := am_let_eq h
        refine am_Ev.go hcd 1 (s' := (30, [(0, .ref 216), (1, .int a0), (2, .int t5), (3, .int t6)], [], am_SH, (g, p4.2))) (by subst Et6; exact rfl) ?_
        refine am_Ev.go hcd 1 (s' := (19, [(0, .ref 216), (1, .int a0), (2, .int t5), (3, .int t6)], [], am_SH, (g, p4.2))) rfl ?_
        exact am_Ev.weak' (hI2 (t5, t6, p4.2) (Option.some.inj h).symm) (am_sub_cons rfl (am_sub_cons rfl (am_sub_cons rfl (am_sub_cons rfl am_sub_nil)))) rfl
      · refine am_Ev.f hcd (c := s2.2.1 < a0) (s1 := (31, [(0, .ref 216), (1, .int a0), (2, .int s2.1), (3, .int s2.2.1)], [], am_SH, (g, s2.2.2))) rfl c16 ?_
        refine am_Ev.go hcd 1 (s' := (32, [(0, .ref 216), (1, .int a0), (2, .int s2.1), (3, .int s2.2.1)], [.int s2.1], am_SH, (g, s2.2.2))) rfl ?_
        exact am_Ev.cast (a := ((some (.int (s2.1, s2.2.2).1)), am_SH, (g, (s2.1, s2.2.2).2))) (hZ2 _ (Option.some.inj h).symm) (am_Ev.ret hcd rfl)
  · refine am_Ev.t hcd (c := am_b (m_isIn a0 1 60) = 0) (s1 := (13, [(0, .ref 216), (1, .int a0)], [], am_SH, (g, f))) rfl (am_b_f c4) ?_
    refine am_Ev.go hcd 1 (s' := (14, [(0, .ref 216), (1, .int a0)], [.int (-1)], am_SH, (g, f))) rfl ?_
    exact am_Ev.cast (a := ((some (.int ((-1), f).1)), am_SH, (g, ((-1), f).2))) (by cases h; rfl) (am_Ev.ret hcd rfl)
set_option maxRecDepth 100000 in
set_option maxHeartbeats 4000000 in
theorem m_feed_ok {sc : Nat × (Nat → Int32)} (d : Nat) (a0 : Int32) (a1 : Int32) (a2 : Int32) (a3 : Int32) (a4 : Int32) (f g : (Nat → Nat → Int32)) (r : Int32 × (Nat → Nat → Int32)) (h : m_feed a0 a1 a2 a3 a4 f = some r) : am_Ev sc (d) 190 (0, [(0, .ref 216), (1, .int a0), (2, .int a1), (3, .int a2), (4, .int a3), (5, .int a4)], [], am_SH, (g, f)) ((some (.int r.1)), am_SH, (g, r.2)) := by
  have hcd : am_code 190 = am_c190 := rfl
  unfold m_feed at h
  refine am_Ev.go hcd 5 (s' := (5, [(0, .ref 216), (1, .int a0), (2, .int a1), (3, .int a2), (4, .int a3), (5, .int a4)], [.int 400, .int ((f 216 16) + 20)], am_SH, (g, f))) rfl ?_
  rcases am_ite h with ⟨c2, h⟩ | ⟨c2, h⟩
  · refine am_Ev.t hcd (c := 400 < ((f 216 16) + 20)) (s1 := (6, [(0, .ref 216), (1, .int a0), (2, .int a1), (3, .int a2), (4, .int a3), (5, .int a4)], [], am_SH, (g, f))) rfl c2 ?_
    refine am_Ev.go hcd 1 (s' := (7, [(0, .ref 216), (1, .int a0), (2, .int a1), (3, .int a2), (4, .int a3), (5, .int a4)], [.int (-1)], am_SH, (g, f))) rfl ?_
    exact am_Ev.cast (a := ((some (.int ((-1), f).1)), am_SH, (g, ((-1), f).2))) (by cases h; rfl) (am_Ev.ret hcd rfl)
  · refine am_Ev.f hcd (c := 400 < ((f 216 16) + 20)) (s1 := (8, [(0, .ref 216), (1, .int a0), (2, .int a1), (3, .int a2), (4, .int a3), (5, .int a4)], [], am_SH, (g, f))) rfl c2 ?_
    refine am_Ev.go hcd 2 (s' := (10, [(0, .ref 216), (1, .int a0), (2, .int a1), (3, .int a2), (4, .int a3), (5, .int a4), (6, .int 0)], [], am_SH, (g, f))) rfl ?_
    refine am_Ev.weak' (am_loop_ok (G := fun (s1 : Int32 × (Nat → Nat → Int32)) => am_Ev sc (d) 190 (10, [(0, .ref 216), (1, .int a0), (2, .int a1), (3, .int a2), (4, .int a3), (5, .int a4), (6, .int s1.1)], [], am_SH, (g, s1.2)) ((some (.int r.1)), am_SH, (g, r.2))) (Z := fun (v : Int32 × (Nat → Nat → Int32)) => (((some (.int v.1)), am_SH, (g, v.2)) : am_R) = ((some (.int r.1)), am_SH, (g, r.2))) ?_ am_F (0, f) r h rfl) (am_sub_cons rfl (am_sub_cons rfl (am_sub_cons rfl (am_sub_cons rfl (am_sub_cons rfl (am_sub_cons rfl (am_sub_cons rfl am_sub_nil))))))) rfl
    intro s1 q1 h hI1 hZ1
    show am_Ev sc (d) 190 (10, [(0, .ref 216), (1, .int a0), (2, .int a1), (3, .int a2), (4, .int a3), (5, .int a4), (6, .int s1.1)], [], am_SH, (g, s1.2)) ((some (.int r.1)), am_SH, (g, r.2))
    refine am_Ev.go hcd 2 (s' := (12, [(0, .ref 216), (1, .int a0), (2, .int a1), (3, .int a2), (4, .int a3), (5, .int a4), (6, .int s1.1)], [.int 20, .int s1.1], am_SH, (g, s1.2))) rfl ?_
    rcases am_ite h with ⟨c12, h⟩ | ⟨c12, h⟩
    · refine am_Ev.t hcd (c := s1.1 < 20) (s1 := (13, [(0, .ref 216), (1, .int a0), (2, .int a1), (3, .int a2), (4, .int a3), (5, .int a4), (6, .int s1.1)], [], am_SH, (g, s1.2))) rfl c12 ?_
      obtain ⟨t2, ht2, kt2⟩ := am_let_eq h
      have hKt2 : am_Ev sc (d) 190 (34, [(0, .ref 216), (1, .int a0), (2, .int a1), (3, .int a2), (4, .int a3), (5, .int a4), (6, .int s1.1)], [.int t2], am_SH, (g, s1.2)) ((some (.int r.1)), am_SH, (g, r.2)) := by
        have h := kt2
        refine am_Ev.go hcd 16 (s' := (50, [(0, .ref 216), (1, .int a0), (2, .int a1), (3, .int a2), (4, .int a3), (5, .int a4), (6, .int s1.1), (7, .int t2)], [.int ((t2 >>> ((24 - (8 * (s1.1 - s1.1 / 4 * 4))) &&& 31)) &&& 255), .int (s1.2 216 16), .ref 224], am_SH, (g, s1.2))) rfl ?_
        obtain ⟨c18, h⟩ := am_grd h
        obtain ⟨f3, Ef3, h⟩ := am_let_eq h
        refine am_Ev.t hcd (o := none) (c := am_in (s1.2 216 16) 400 = true) (s1 := (51, [(0, .ref 216), (1, .int a0), (2, .int a1), (3, .int a2), (4, .int a3), (5, .int a4), (6, .int s1.1), (7, .int t2)], [], am_SH, (g, f3))) (by subst Ef3; exact rfl) c18 ?_
        obtain ⟨f4, Ef4, h⟩ := am_let_eq h
        refine am_Ev.go hcd 6 (s' := (57, [(0, .ref 216), (1, .int a0), (2, .int a1), (3, .int a2), (4, .int a3), (5, .int a4), (6, .int s1.1), (7, .int t2)], [], am_SH, (g, f4))) (by subst Ef4; exact rfl) ?_
        obtain ⟨t5, Et5, h⟩ := am_let_eq h
        refine am_Ev.go hcd 1 (s' := (58, [(0, .ref 216), (1, .int a0), (2, .int a1), (3, .int a2), (4, .int a3), (5, .int a4), (6, .int t5), (7, .int t2)], [], am_SH, (g, f4))) (by subst Et5; exact rfl) ?_
        refine am_Ev.go hcd 1 (s' := (10, [(0, .ref 216), (1, .int a0), (2, .int a1), (3, .int a2), (4, .int a3), (5, .int a4), (6, .int t5), (7, .int t2)], [], am_SH, (g, f4))) rfl ?_
        exact am_Ev.weak' (hI1 (t5, f4) (Option.some.inj h).symm) (am_sub_cons rfl (am_sub_cons rfl (am_sub_cons rfl (am_sub_cons rfl (am_sub_cons rfl (am_sub_cons rfl (am_sub_cons rfl am_sub_nil))))))) rfl
      have hLt2 : ∀ tt, tt = t2 → am_Ev sc (d) 190 (34, [(0, .ref 216), (1, .int a0), (2, .int a1), (3, .int a2), (4, .int a3), (5, .int a4), (6, .int s1.1)], [.int tt], am_SH, (g, s1.2)) ((some (.int r.1)), am_SH, (g, r.2)) := fun tt htt => by subst htt; exact hKt2
      have h := ht2
      refine am_Ev.go hcd 2 (s' := (15, [(0, .ref 216), (1, .int a0), (2, .int a1), (3, .int a2), (4, .int a3), (5, .int a4), (6, .int s1.1)], [.int 4, .int s1.1], am_SH, (g, s1.2))) rfl ?_
      rcases am_itv h with ⟨c30, h⟩ | ⟨c30, h⟩
      · refine am_Ev.t hcd (c := s1.1 < 4) (s1 := (16, [(0, .ref 216), (1, .int a0), (2, .int a1), (3, .int a2), (4, .int a3), (5, .int a4), (6, .int s1.1)], [], am_SH, (g, s1.2))) rfl c30 ?_
        refine am_Ev.go hcd 2 (s' := (34, [(0, .ref 216), (1, .int a0), (2, .int a1), (3, .int a2), (4, .int a3), (5, .int a4), (6, .int s1.1)], [.int a0], am_SH, (g, s1.2))) rfl ?_
        exact am_Ev.weak' (hLt2 a0 h.symm) (am_sub_cons rfl (am_sub_cons rfl (am_sub_cons rfl (am_sub_cons rfl (am_sub_cons rfl (am_sub_cons rfl (am_sub_cons rfl am_sub_nil))))))) rfl
      · refine am_Ev.f hcd (c := s1.1 < 4) (s1 := (18, [(0, .ref 216), (1, .int a0), (2, .int a1), (3, .int a2), (4, .int a3), (5, .int a4), (6, .int s1.1)], [], am_SH, (g, s1.2))) rfl c30 ?_
        refine am_Ev.go hcd 2 (s' := (20, [(0, .ref 216), (1, .int a0), (2, .int a1), (3, .int a2), (4, .int a3), (5, .int a4), (6, .int s1.1)], [.int 8, .int s1.1], am_SH, (g, s1.2))) rfl ?_
        rcases am_itv h with ⟨c36, h⟩ | ⟨c36, h⟩
        · refine am_Ev.t hcd (c := s1.1 < 8) (s1 := (21, [(0, .ref 216), (1, .int a0), (2, .int a1), (3, .int a2), (4, .int a3), (5, .int a4), (6, .int s1.1)], [], am_SH, (g, s1.2))) rfl c36 ?_
          refine am_Ev.go hcd 2 (s' := (34, [(0, .ref 216), (1, .int a0), (2, .int a1), (3, .int a2), (4, .int a3), (5, .int a4), (6, .int s1.1)], [.int a1], am_SH, (g, s1.2))) rfl ?_
          exact am_Ev.weak' (hLt2 a1 h.symm) (am_sub_cons rfl (am_sub_cons rfl (am_sub_cons rfl (am_sub_cons rfl (am_sub_cons rfl (am_sub_cons rfl (am_sub_cons rfl am_sub_nil))))))) rfl
        · refine am_Ev.f hcd (c := s1.1 < 8) (s1 := (23, [(0, .ref 216), (1, .int a0), (2, .int a1), (3, .int a2), (4, .int a3), (5, .int a4), (6, .int s1.1)], [], am_SH, (g, s1.2))) rfl c36 ?_
          refine am_Ev.go hcd 2 (s' := (25, [(0, .ref 216), (1, .int a0), (2, .int a1), (3, .int a2), (4, .int a3), (5, .int a4), (6, .int s1.1)], [.int 12, .int s1.1], am_SH, (g, s1.2))) rfl ?_
          rcases am_itv h with ⟨c42, h⟩ | ⟨c42, h⟩
          · refine am_Ev.t hcd (c := s1.1 < 12) (s1 := (26, [(0, .ref 216), (1, .int a0), (2, .int a1), (3, .int a2), (4, .int a3), (5, .int a4), (6, .int s1.1)], [], am_SH, (g, s1.2))) rfl c42 ?_
            refine am_Ev.go hcd 2 (s' := (34, [(0, .ref 216), (1, .int a0), (2, .int a1), (3, .int a2), (4, .int a3), (5, .int a4), (6, .int s1.1)], [.int a2], am_SH, (g, s1.2))) rfl ?_
            exact am_Ev.weak' (hLt2 a2 h.symm) (am_sub_cons rfl (am_sub_cons rfl (am_sub_cons rfl (am_sub_cons rfl (am_sub_cons rfl (am_sub_cons rfl (am_sub_cons rfl am_sub_nil))))))) rfl
          · refine am_Ev.f hcd (c := s1.1 < 12) (s1 := (28, [(0, .ref 216), (1, .int a0), (2, .int a1), (3, .int a2), (4, .int a3), (5, .int a4), (6, .int s1.1)], [], am_SH, (g, s1.2))) rfl c42 ?_
            refine am_Ev.go hcd 2 (s' := (30, [(0, .ref 216), (1, .int a0), (2, .int a1), (3, .int a2), (4, .int a3), (5, .int a4), (6, .int s1.1)], [.int 16, .int s1.1], am_SH, (g, s1.2))) rfl ?_
            rcases am_itv h with ⟨c48, h⟩ | ⟨c48, h⟩
            · refine am_Ev.t hcd (c := s1.1 < 16) (s1 := (31, [(0, .ref 216), (1, .int a0), (2, .int a1), (3, .int a2), (4, .int a3), (5, .int a4), (6, .int s1.1)], [], am_SH, (g, s1.2))) rfl c48 ?_
              refine am_Ev.go hcd 2 (s' := (34, [(0, .ref 216), (1, .int a0), (2, .int a1), (3, .int a2), (4, .int a3), (5, .int a4), (6, .int s1.1)], [.int a3], am_SH, (g, s1.2))) rfl ?_
              exact am_Ev.weak' (hLt2 a3 h.symm) (am_sub_cons rfl (am_sub_cons rfl (am_sub_cons rfl (am_sub_cons rfl (am_sub_cons rfl (am_sub_cons rfl (am_sub_cons rfl am_sub_nil))))))) rfl
            · refine am_Ev.f hcd (c := s1.1 < 16) (s1 := (33, [(0, .ref 216), (1, .int a0), (2, .int a1), (3, .int a2), (4, .int a3), (5, .int a4), (6, .int s1.1)], [], am_SH, (g, s1.2))) rfl c48 ?_
              refine am_Ev.go hcd 1 (s' := (34, [(0, .ref 216), (1, .int a0), (2, .int a1), (3, .int a2), (4, .int a3), (5, .int a4), (6, .int s1.1)], [.int a4], am_SH, (g, s1.2))) rfl ?_
              exact am_Ev.weak' (hLt2 a4 h.symm) (am_sub_cons rfl (am_sub_cons rfl (am_sub_cons rfl (am_sub_cons rfl (am_sub_cons rfl (am_sub_cons rfl (am_sub_cons rfl am_sub_nil))))))) rfl
    · refine am_Ev.f hcd (c := s1.1 < 20) (s1 := (59, [(0, .ref 216), (1, .int a0), (2, .int a1), (3, .int a2), (4, .int a3), (5, .int a4), (6, .int s1.1)], [], am_SH, (g, s1.2))) rfl c12 ?_
      refine am_Ev.go hcd 2 (s' := (61, [(0, .ref 216), (1, .int a0), (2, .int a1), (3, .int a2), (4, .int a3), (5, .int a4), (6, .int s1.1)], [.int (s1.2 216 16)], am_SH, (g, s1.2))) rfl ?_
      exact am_Ev.cast (a := ((some (.int (s1.2 216 16, s1.2).1)), am_SH, (g, (s1.2 216 16, s1.2).2))) (hZ1 _ (Option.some.inj h).symm) (am_Ev.ret hcd rfl)
set_option maxRecDepth 100000 in
set_option maxHeartbeats 4000000 in
theorem m_end_ok {sc : Nat × (Nat → Int32)} (d : Nat) (a0 : Int32) (f g : (Nat → Nat → Int32)) : am_Ev sc (d + 1) 191 (0, [(0, .ref 216), (1, .int a0)], [], am_SH, (g, f)) ((some (.int (am_b (m_end a0 f).1))), am_SH, (g, (m_end a0 f).2)) := by
  have hcd : am_code 191 = am_c191 := rfl
  obtain ⟨r, h⟩ : ∃ r, r = m_end a0 f := ⟨_, rfl⟩
  rw [← h]
  unfold m_end at h
  refine am_Ev.go hcd 4 (s' := (4, [(0, .ref 216), (1, .int a0)], [.int (f 216 16), .int 0, .int a0], am_SH, (g, f))) rfl ?_
  refine am_Ev.call hcd (a := 176) (s0 := (0, [(0, .int a0), (1, .int 0), (2, .int (f 216 16))], [], am_SH, (g, f))) (q := ((some (.int (am_b (m_isIn a0 0 (f 216 16))))), am_SH, (g, f))) (s1 := (5, [(0, .ref 216), (1, .int a0)], [.int (am_b (m_isIn a0 0 (f 216 16)))], am_SH, (g, f))) rfl rfl (m_isIn_ok (d) a0 0 (f 216 16) (g, f)) ?_
  rcases am_itv h with ⟨c6, h⟩ | ⟨c6, h⟩
  · refine am_Ev.f hcd (c := am_b (m_isIn a0 0 (f 216 16)) = 0) (s1 := (8, [(0, .ref 216), (1, .int a0)], [], am_SH, (g, f))) rfl (am_b_t c6) ?_
    obtain ⟨f2, Ef2, h⟩ := am_let_eq' h
    refine am_Ev.go hcd 3 (s' := (11, [(0, .ref 216), (1, .int a0)], [], am_SH, (g, f2))) (by subst Ef2; exact rfl) ?_
    refine am_Ev.go hcd 1 (s' := (12, [(0, .ref 216), (1, .int a0)], [.int 1], am_SH, (g, f2))) rfl ?_
    exact am_Ev.cast (a := ((some (.int (am_b (true, f2).1))), am_SH, (g, (true, f2).2))) (by subst h; rfl) (am_Ev.ret hcd rfl)
  · refine am_Ev.t hcd (c := am_b (m_isIn a0 0 (f 216 16)) = 0) (s1 := (6, [(0, .ref 216), (1, .int a0)], [], am_SH, (g, f))) rfl (am_b_f c6) ?_
    refine am_Ev.go hcd 1 (s' := (7, [(0, .ref 216), (1, .int a0)], [.int 0], am_SH, (g, f))) rfl ?_
    exact am_Ev.cast (a := ((some (.int (am_b (false, f).1))), am_SH, (g, (false, f).2))) (by subst h; rfl) (am_Ev.ret hcd rfl)
set_option maxRecDepth 100000 in
set_option maxHeartbeats 4000000 in
theorem m_see_ok {sc : Nat × (Nat → Int32)} (d : Nat) (a0 : Int32) (f g : (Nat → Nat → Int32)) (r : Int32) (h : m_see a0 f = some r) : am_Ev sc (d) 192 (0, [(0, .ref 216), (1, .int a0)], [], am_SH, (g, f)) ((some (.int r)), am_SH, (g, f)) := by
  have hcd : am_code 192 = am_c192 := rfl
  unfold m_see at h
  refine am_Ev.go hcd 3 (s' := (3, [(0, .ref 216), (1, .int a0)], [.int (f 216 16), .int a0], am_SH, (g, f))) rfl ?_
  rcases am_ite h with ⟨c2, h⟩ | ⟨c2, h⟩
  · refine am_Ev.t hcd (c := a0 < f 216 16) (s1 := (4, [(0, .ref 216), (1, .int a0)], [], am_SH, (g, f))) rfl c2 ?_
    refine am_Ev.go hcd 3 (s' := (7, [(0, .ref 216), (1, .int a0)], [.int a0, .ref 224], am_SH, (g, f))) rfl ?_
    obtain ⟨c5, h⟩ := am_grd h
    refine am_Ev.t hcd (o := none) (c := am_in a0 400 = true) (s1 := (8, [(0, .ref 216), (1, .int a0)], [.int (f 224 a0.toNatClampNeg)], am_SH, (g, f))) rfl c5 ?_
    refine am_Ev.go hcd 1 (s' := (10, [(0, .ref 216), (1, .int a0)], [.int (f 224 a0.toNatClampNeg)], am_SH, (g, f))) rfl ?_
    exact am_Ev.cast (a := ((some (.int (f 224 a0.toNatClampNeg : Int32))), am_SH, (g, f))) (by cases h; rfl) (am_Ev.ret hcd rfl)
  · refine am_Ev.f hcd (c := a0 < f 216 16) (s1 := (9, [(0, .ref 216), (1, .int a0)], [], am_SH, (g, f))) rfl c2 ?_
    refine am_Ev.go hcd 1 (s' := (10, [(0, .ref 216), (1, .int a0)], [.int (-1)], am_SH, (g, f))) rfl ?_
    exact am_Ev.cast (a := ((some (.int (-1))), am_SH, (g, f))) (by cases h; rfl) (am_Ev.ret hcd rfl)
set_option maxRecDepth 100000 in
set_option maxHeartbeats 4000000 in
theorem m_isLetter_ok {sc : Nat × (Nat → Int32)} (d : Nat) (a0 : Int32) (hp : am_H) : am_Ev sc (d + 1) 193 (0, [(0, .int a0)], [], am_SH, hp) ((some (.int (am_b (m_isLetter a0)))), am_SH, hp) := by
  have hcd : am_code 193 = am_c193 := rfl
  obtain ⟨r, h⟩ : ∃ r, r = m_isLetter a0 := ⟨_, rfl⟩
  rw [← h]
  unfold m_isLetter at h
  refine am_Ev.go hcd 3 (s' := (3, [(0, .int a0)], [.int 122, .int 97, .int a0], am_SH, hp)) rfl ?_
  refine am_Ev.call hcd (a := 176) (s0 := (0, [(0, .int a0), (1, .int 97), (2, .int 122)], [], am_SH, hp)) (q := ((some (.int (am_b (m_isIn a0 97 122)))), am_SH, hp)) (s1 := (4, [(0, .int a0)], [.int (am_b (m_isIn a0 97 122))], am_SH, hp)) rfl rfl (m_isIn_ok (d) a0 97 122 hp) ?_
  rcases am_itv h with ⟨c6, h⟩ | ⟨c6, h⟩
  · refine am_Ev.f hcd (c := am_b (m_isIn a0 97 122) = 0) (s1 := (10, [(0, .int a0)], [], am_SH, hp)) rfl (am_b_t c6) ?_
    refine am_Ev.go hcd 2 (s' := (13, [(0, .int a0)], [.int 1], am_SH, hp)) rfl ?_
    exact am_Ev.cast (a := ((some (.int (am_b true))), am_SH, hp)) (by subst h; rfl) (am_Ev.ret hcd rfl)
  · refine am_Ev.t hcd (c := am_b (m_isIn a0 97 122) = 0) (s1 := (5, [(0, .int a0)], [], am_SH, hp)) rfl (am_b_f c6) ?_
    refine am_Ev.go hcd 3 (s' := (8, [(0, .int a0)], [.int 90, .int 65, .int a0], am_SH, hp)) rfl ?_
    refine am_Ev.call hcd (a := 176) (s0 := (0, [(0, .int a0), (1, .int 65), (2, .int 90)], [], am_SH, hp)) (q := ((some (.int (am_b (m_isIn a0 65 90)))), am_SH, hp)) (s1 := (9, [(0, .int a0)], [.int (am_b (m_isIn a0 65 90))], am_SH, hp)) rfl rfl (m_isIn_ok (d) a0 65 90 hp) ?_
    rcases am_itv h with ⟨c13, h⟩ | ⟨c13, h⟩
    · refine am_Ev.f hcd (c := am_b (m_isIn a0 65 90) = 0) (s1 := (10, [(0, .int a0)], [], am_SH, hp)) rfl (am_b_t c13) ?_
      refine am_Ev.go hcd 2 (s' := (13, [(0, .int a0)], [.int 1], am_SH, hp)) rfl ?_
      exact am_Ev.cast (a := ((some (.int (am_b true))), am_SH, hp)) (by subst h; rfl) (am_Ev.ret hcd rfl)
    · refine am_Ev.t hcd (c := am_b (m_isIn a0 65 90) = 0) (s1 := (12, [(0, .int a0)], [], am_SH, hp)) rfl (am_b_f c13) ?_
      refine am_Ev.go hcd 1 (s' := (13, [(0, .int a0)], [.int 0], am_SH, hp)) rfl ?_
      exact am_Ev.cast (a := ((some (.int (am_b false))), am_SH, hp)) (by subst h; rfl) (am_Ev.ret hcd rfl)
