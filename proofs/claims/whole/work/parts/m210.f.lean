set_option maxRecDepth 100000 in
set_option maxHeartbeats 4000000 in
theorem xs_readLawLine_ok {sc : Nat × (Nat → Int32)} (d : Nat) (a0 : Int32) (a1 : Int32) (f g : (Nat → Nat → Int32)) (r : Bool × (Nat → Nat → Int32)) (h : xs_readLawLine a0 a1 f = some r) : am_Ev sc (d + 44) 102 (0, [(0, .ref 128), (1, .int a0), (2, .int a1)], [], am_SH, (f, g)) ((some (.int (am_b r.1))), am_SH, (r.2, g)) := by
  have hcd : am_code 102 = am_c102 := rfl
  unfold xs_readLawLine at h
  refine am_Ev.go hcd 5 (s' := (5, [(0, .ref 128), (1, .int a0), (2, .int a1)], [.int a1, .int a0, .ref 131], am_SH, (f, g))) rfl ?_
  obtain ⟨c2, h⟩ := am_grd h
  obtain ⟨f1, Ef1, h⟩ := am_let_eq h
  refine am_Ev.t hcd (o := none) (c := am_in a0 16 = true) (s1 := (6, [(0, .ref 128), (1, .int a0), (2, .int a1)], [], am_SH, (f1, g))) (by subst Ef1; exact rfl) c2 ?_
  refine am_Ev.go hcd 7 (s' := (13, [(0, .ref 128), (1, .int a0), (2, .int a1)], [.int (f1 129 1), .int a0, .ref 132], am_SH, (f1, g))) rfl ?_
  obtain ⟨c6, h⟩ := am_grd h
  obtain ⟨f2, Ef2, h⟩ := am_let_eq h
  refine am_Ev.t hcd (o := none) (c := am_in a0 16 = true) (s1 := (14, [(0, .ref 128), (1, .int a0), (2, .int a1)], [], am_SH, (f2, g))) (by subst Ef2; exact rfl) c6 ?_
  refine am_Ev.go hcd 1 (s' := (15, [(0, .ref 128), (1, .int a0), (2, .int a1)], [.ref 128], am_SH, (f2, g))) rfl ?_
  obtain ⟨p3, hp3, h⟩ := am_bind_some h
  refine am_Ev.call hcd (a := 105) (s0 := (0, [(0, .ref 128)], [], am_SH, (f2, g))) (q := ((some (.int (am_b p3.1))), am_SH, (p3.2, g))) (s1 := (16, [(0, .ref 128), (1, .int a0), (2, .int a1)], [.int (am_b p3.1)], am_SH, (p3.2, g))) rfl rfl (xs_readSum_ok (d + 41)  f2 g p3 hp3) ?_
  rcases am_ite h with ⟨c13, h⟩ | ⟨c13, h⟩
  · refine am_Ev.f hcd (c := am_b p3.1 = 0) (s1 := (19, [(0, .ref 128), (1, .int a0), (2, .int a1)], [], am_SH, (p3.2, g))) rfl (am_b_t c13) ?_
    refine am_Ev.go hcd 7 (s' := (26, [(0, .ref 128), (1, .int a0), (2, .int a1)], [.int (p3.2 129 1), .int a0, .ref 133], am_SH, (p3.2, g))) rfl ?_
    obtain ⟨c15, h⟩ := am_grd h
    obtain ⟨f4, Ef4, h⟩ := am_let_eq h
    refine am_Ev.t hcd (o := none) (c := am_in a0 16 = true) (s1 := (27, [(0, .ref 128), (1, .int a0), (2, .int a1)], [], am_SH, (f4, g))) (by subst Ef4; exact rfl) c15 ?_
    refine am_Ev.go hcd 3 (s' := (30, [(0, .ref 128), (1, .int a0), (2, .int a1)], [.int 3, .ref 123], am_SH, (f4, g))) rfl ?_
    refine am_Ev.call hcd (a := 112) (s0 := (0, [(0, .ref 123), (1, .int 3)], [], am_SH, (f4, g))) (q := ((some (.int (am_b (xt_isWord 3 f4)))), am_SH, (f4, g))) (s1 := (31, [(0, .ref 128), (1, .int a0), (2, .int a1)], [.int (am_b (xt_isWord 3 f4))], am_SH, (f4, g))) rfl rfl (xt_isWord_ok (d + 43) 3 f4 g) ?_
    rcases am_ite h with ⟨c21, h⟩ | ⟨c21, h⟩
    · refine am_Ev.f hcd (c := am_b (xt_isWord 3 f4) = 0) (s1 := (32, [(0, .ref 128), (1, .int a0), (2, .int a1)], [], am_SH, (f4, g))) rfl (am_b_t c21) ?_
      refine am_Ev.go hcd 2 (s' := (34, [(0, .ref 128), (1, .int a0), (2, .int a1)], [.ref 123], am_SH, (f4, g))) rfl ?_
      obtain ⟨p6, hp6, h⟩ := am_bind_some h
      refine am_Ev.call hcd (a := 111) (s0 := (0, [(0, .ref 123)], [], am_SH, (f4, g))) (q := (none, am_SH, (p6, g))) (s1 := (35, [(0, .ref 128), (1, .int a0), (2, .int a1)], [], am_SH, (p6, g))) rfl rfl (xt_advance_ok (d + 43)  f4 g p6 hp6) ?_
      refine am_Ev.go hcd 2 (s' := (37, [(0, .ref 128), (1, .int a0), (2, .int a1)], [.int 0, .ref 128], am_SH, (p6, g))) rfl ?_
      obtain ⟨p7, hp7, h⟩ := am_bind_some h
      refine am_Ev.call hcd (a := 103) (s0 := (0, [(0, .ref 128), (1, .int 0)], [], am_SH, (p6, g))) (q := ((some (.int (am_b p7.1))), am_SH, (p7.2, g))) (s1 := (38, [(0, .ref 128), (1, .int a0), (2, .int a1)], [.int (am_b p7.1)], am_SH, (p7.2, g))) rfl rfl (xs_readAny_ok (d + 1) 40 0 p6 g p7 hp7) ?_
      rcases am_ite h with ⟨c29, h⟩ | ⟨c29, h⟩
      · refine am_Ev.f hcd (c := am_b p7.1 = 0) (s1 := (41, [(0, .ref 128), (1, .int a0), (2, .int a1)], [], am_SH, (p7.2, g))) rfl (am_b_t c29) ?_
        refine am_Ev.go hcd 7 (s' := (48, [(0, .ref 128), (1, .int a0), (2, .int a1)], [.int (p7.2 129 1), .int a0, .ref 134], am_SH, (p7.2, g))) rfl ?_
        obtain ⟨c31, h⟩ := am_grd h
        obtain ⟨f8, Ef8, h⟩ := am_let_eq h
        refine am_Ev.t hcd (o := none) (c := am_in a0 16 = true) (s1 := (49, [(0, .ref 128), (1, .int a0), (2, .int a1)], [], am_SH, (f8, g))) (by subst Ef8; exact rfl) c31 ?_
        refine am_Ev.go hcd 1 (s' := (50, [(0, .ref 128), (1, .int a0), (2, .int a1)], [.int 1], am_SH, (f8, g))) rfl ?_
        exact am_Ev.cast (a := ((some (.int (am_b (true, f8).1))), am_SH, ((true, f8).2, g))) (by cases h; rfl) (am_Ev.ret hcd rfl)
      · refine am_Ev.t hcd (c := am_b p7.1 = 0) (s1 := (39, [(0, .ref 128), (1, .int a0), (2, .int a1)], [], am_SH, (p7.2, g))) rfl (am_b_f c29) ?_
        refine am_Ev.go hcd 1 (s' := (40, [(0, .ref 128), (1, .int a0), (2, .int a1)], [.int 0], am_SH, (p7.2, g))) rfl ?_
        exact am_Ev.cast (a := ((some (.int (am_b (false, p7.2).1))), am_SH, ((false, p7.2).2, g))) (by cases h; rfl) (am_Ev.ret hcd rfl)
    · refine am_Ev.t hcd (c := am_b (xt_isWord 3 f4) = 0) (s1 := (41, [(0, .ref 128), (1, .int a0), (2, .int a1)], [], am_SH, (f4, g))) rfl (am_b_f c21) ?_
      refine am_Ev.go hcd 7 (s' := (48, [(0, .ref 128), (1, .int a0), (2, .int a1)], [.int (f4 129 1), .int a0, .ref 134], am_SH, (f4, g))) rfl ?_
      obtain ⟨c41, h⟩ := am_grd h
      obtain ⟨f9, Ef9, h⟩ := am_let_eq h
      refine am_Ev.t hcd (o := none) (c := am_in a0 16 = true) (s1 := (49, [(0, .ref 128), (1, .int a0), (2, .int a1)], [], am_SH, (f9, g))) (by subst Ef9; exact rfl) c41 ?_
      refine am_Ev.go hcd 1 (s' := (50, [(0, .ref 128), (1, .int a0), (2, .int a1)], [.int 1], am_SH, (f9, g))) rfl ?_
      exact am_Ev.cast (a := ((some (.int (am_b (true, f9).1))), am_SH, ((true, f9).2, g))) (by cases h; rfl) (am_Ev.ret hcd rfl)
  · refine am_Ev.t hcd (c := am_b p3.1 = 0) (s1 := (17, [(0, .ref 128), (1, .int a0), (2, .int a1)], [], am_SH, (p3.2, g))) rfl (am_b_f c13) ?_
    refine am_Ev.go hcd 1 (s' := (18, [(0, .ref 128), (1, .int a0), (2, .int a1)], [.int 0], am_SH, (p3.2, g))) rfl ?_
    exact am_Ev.cast (a := ((some (.int (am_b (false, p3.2).1))), am_SH, ((false, p3.2).2, g))) (by cases h; rfl) (am_Ev.ret hcd rfl)
set_option maxRecDepth 100000 in
set_option maxHeartbeats 4000000 in
theorem xs_takeWord_ok {sc : Nat × (Nat → Int32)} (d : Nat) (a0 : Int32) (f g : (Nat → Nat → Int32)) (r : Bool × (Nat → Nat → Int32)) (h : xs_takeWord a0 f = some r) : am_Ev sc (d + 1) 95 (0, [(0, .ref 128), (1, .int a0)], [], am_SH, (f, g)) ((some (.int (am_b r.1))), am_SH, (r.2, g)) := by
  have hcd : am_code 95 = am_c95 := rfl
  unfold xs_takeWord at h
  refine am_Ev.go hcd 3 (s' := (3, [(0, .ref 128), (1, .int a0)], [.int a0, .ref 123], am_SH, (f, g))) rfl ?_
  refine am_Ev.call hcd (a := 112) (s0 := (0, [(0, .ref 123), (1, .int a0)], [], am_SH, (f, g))) (q := ((some (.int (am_b (xt_isWord a0 f)))), am_SH, (f, g))) (s1 := (4, [(0, .ref 128), (1, .int a0)], [.int (am_b (xt_isWord a0 f))], am_SH, (f, g))) rfl rfl (xt_isWord_ok (d) a0 f g) ?_
  rcases am_ite h with ⟨c4, h⟩ | ⟨c4, h⟩
  · refine am_Ev.f hcd (c := am_b (xt_isWord a0 f) = 0) (s1 := (9, [(0, .ref 128), (1, .int a0)], [], am_SH, (f, g))) rfl (am_b_t c4) ?_
    refine am_Ev.go hcd 2 (s' := (11, [(0, .ref 128), (1, .int a0)], [.ref 123], am_SH, (f, g))) rfl ?_
    obtain ⟨p2, hp2, h⟩ := am_bind_some h
    refine am_Ev.call hcd (a := 111) (s0 := (0, [(0, .ref 123)], [], am_SH, (f, g))) (q := (none, am_SH, (p2, g))) (s1 := (12, [(0, .ref 128), (1, .int a0)], [], am_SH, (p2, g))) rfl rfl (xt_advance_ok (d)  f g p2 hp2) ?_
    refine am_Ev.go hcd 1 (s' := (13, [(0, .ref 128), (1, .int a0)], [.int 1], am_SH, (p2, g))) rfl ?_
    exact am_Ev.cast (a := ((some (.int (am_b (true, p2).1))), am_SH, ((true, p2).2, g))) (by cases h; rfl) (am_Ev.ret hcd rfl)
  · refine am_Ev.t hcd (c := am_b (xt_isWord a0 f) = 0) (s1 := (5, [(0, .ref 128), (1, .int a0)], [], am_SH, (f, g))) rfl (am_b_f c4) ?_
    refine am_Ev.go hcd 2 (s' := (7, [(0, .ref 128), (1, .int a0)], [.int 1, .ref 128], am_SH, (f, g))) rfl ?_
    obtain ⟨p3, Ep3, h⟩ := am_let_eq h
    refine am_Ev.call hcd (a := 92) (s0 := (0, [(0, .ref 128), (1, .int 1)], [], am_SH, (f, g))) (q := ((some (.int (am_b p3.1))), am_SH, (p3.2, g))) (s1 := (8, [(0, .ref 128), (1, .int a0)], [.int (am_b p3.1)], am_SH, (p3.2, g))) rfl rfl (by subst Ep3; exact xs_refuse_ok (d) 1 f g) ?_
    exact am_Ev.cast (a := ((some (.int (am_b (p3.1, p3.2).1))), am_SH, ((p3.1, p3.2).2, g))) (by cases h; rfl) (am_Ev.retb hcd rfl)
set_option maxRecDepth 100000 in
set_option maxHeartbeats 4000000 in
theorem xs_readWalkLine_ok {sc : Nat × (Nat → Int32)} (d : Nat) (a0 : Int32) (f g : (Nat → Nat → Int32)) (r : Bool × (Nat → Nat → Int32)) (h : xs_readWalkLine a0 f = some r) : am_Ev sc (d + 2) 99 (0, [(0, .ref 128), (1, .int a0)], [], am_SH, (f, g)) ((some (.int (am_b r.1))), am_SH, (r.2, g)) := by
  have hcd : am_code 99 = am_c99 := rfl
  unfold xs_readWalkLine at h
  refine am_Ev.go hcd 3 (s' := (3, [(0, .ref 128), (1, .int a0)], [.int 999, .int 0, .ref 128], am_SH, (f, g))) rfl ?_
  obtain ⟨p1, hp1, h⟩ := am_bind_some h
  refine am_Ev.call hcd (a := 96) (s0 := (0, [(0, .ref 128), (1, .int 0), (2, .int 999)], [], am_SH, (f, g))) (q := ((some (.int (am_b p1.1))), am_SH, (p1.2, g))) (s1 := (4, [(0, .ref 128), (1, .int a0)], [.int (am_b p1.1)], am_SH, (p1.2, g))) rfl rfl (xs_takeNumber_ok (d) 0 999 f g p1 hp1) ?_
  rcases am_ite h with ⟨c5, h⟩ | ⟨c5, h⟩
  · refine am_Ev.f hcd (c := am_b p1.1 = 0) (s1 := (7, [(0, .ref 128), (1, .int a0)], [], am_SH, (p1.2, g))) rfl (am_b_t c5) ?_
    refine am_Ev.go hcd 6 (s' := (13, [(0, .ref 128), (1, .int a0)], [.int (p1.2 128 7), .int a0, .ref 136], am_SH, (p1.2, g))) rfl ?_
    obtain ⟨c7, h⟩ := am_grd h
    obtain ⟨f2, Ef2, h⟩ := am_let_eq h
    refine am_Ev.t hcd (o := none) (c := am_in a0 16 = true) (s1 := (14, [(0, .ref 128), (1, .int a0)], [], am_SH, (f2, g))) (by subst Ef2; exact rfl) c7 ?_
    refine am_Ev.go hcd 2 (s' := (16, [(0, .ref 128), (1, .int a0)], [.int 1, .ref 128], am_SH, (f2, g))) rfl ?_
    obtain ⟨p3, hp3, h⟩ := am_bind_some h
    refine am_Ev.call hcd (a := 95) (s0 := (0, [(0, .ref 128), (1, .int 1)], [], am_SH, (f2, g))) (q := ((some (.int (am_b p3.1))), am_SH, (p3.2, g))) (s1 := (17, [(0, .ref 128), (1, .int a0)], [.int (am_b p3.1)], am_SH, (p3.2, g))) rfl rfl (xs_takeWord_ok (d) 1 f2 g p3 hp3) ?_
    rcases am_ite h with ⟨c14, h⟩ | ⟨c14, h⟩
    · refine am_Ev.f hcd (c := am_b p3.1 = 0) (s1 := (18, [(0, .ref 128), (1, .int a0)], [], am_SH, (p3.2, g))) rfl (am_b_t c14) ?_
      refine am_Ev.go hcd 6 (s' := (24, [(0, .ref 128), (1, .int a0)], [.int ((p3.2 128 8) - 1), .int 0, .ref 128], am_SH, (p3.2, g))) rfl ?_
      obtain ⟨p4, hp4, h⟩ := am_bind_some h
      refine am_Ev.call hcd (a := 96) (s0 := (0, [(0, .ref 128), (1, .int 0), (2, .int ((p3.2 128 8) - 1))], [], am_SH, (p3.2, g))) (q := ((some (.int (am_b p4.1))), am_SH, (p4.2, g))) (s1 := (25, [(0, .ref 128), (1, .int a0)], [.int (am_b p4.1)], am_SH, (p4.2, g))) rfl rfl (xs_takeNumber_ok (d) 0 ((p3.2 128 8) - 1) p3.2 g p4 hp4) ?_
      rcases am_ite h with ⟨c19, h⟩ | ⟨c19, h⟩
      · refine am_Ev.f hcd (c := am_b p4.1 = 0) (s1 := (28, [(0, .ref 128), (1, .int a0)], [], am_SH, (p4.2, g))) rfl (am_b_t c19) ?_
        refine am_Ev.go hcd 6 (s' := (34, [(0, .ref 128), (1, .int a0)], [.int (p4.2 128 7), .int a0, .ref 137], am_SH, (p4.2, g))) rfl ?_
        obtain ⟨c21, h⟩ := am_grd h
        obtain ⟨f5, Ef5, h⟩ := am_let_eq h
        refine am_Ev.t hcd (o := none) (c := am_in a0 16 = true) (s1 := (35, [(0, .ref 128), (1, .int a0)], [], am_SH, (f5, g))) (by subst Ef5; exact rfl) c21 ?_
        obtain ⟨t6, Et6, h⟩ := am_let_eq h
        refine am_Ev.go hcd 4 (s' := (39, [(0, .ref 128), (1, .int a0), (2, .int t6)], [], am_SH, (f5, g))) (by subst Et6; exact rfl) ?_
        refine am_Ev.go hcd 4 (s' := (43, [(0, .ref 128), (1, .int a0), (2, .int t6)], [.int 1, .int (f5 123 1)], am_SH, (f5, g))) rfl ?_
        rcases am_ite h with ⟨c27, h⟩ | ⟨c27, h⟩
        · refine am_Ev.t hcd (c := f5 123 1 = 1) (s1 := (44, [(0, .ref 128), (1, .int a0), (2, .int t6)], [], am_SH, (f5, g))) rfl c27 ?_
          refine am_Ev.go hcd 2 (s' := (46, [(0, .ref 128), (1, .int a0), (2, .int t6)], [.int 2, .int t6], am_SH, (f5, g))) rfl ?_
          rcases am_ite h with ⟨c30, h⟩ | ⟨c30, h⟩
          · refine am_Ev.t hcd (c := t6 < 2) (s1 := (50, [(0, .ref 128), (1, .int a0), (2, .int t6)], [], am_SH, (f5, g))) rfl c30 ?_
            refine am_Ev.go hcd 2 (s' := (52, [(0, .ref 128), (1, .int a0), (2, .int t6)], [.int 1, .ref 128], am_SH, (f5, g))) rfl ?_
            obtain ⟨p7, Ep7, h⟩ := am_let_eq h
            refine am_Ev.call hcd (a := 92) (s0 := (0, [(0, .ref 128), (1, .int 1)], [], am_SH, (f5, g))) (q := ((some (.int (am_b p7.1))), am_SH, (p7.2, g))) (s1 := (53, [(0, .ref 128), (1, .int a0), (2, .int t6)], [.int (am_b p7.1)], am_SH, (p7.2, g))) rfl rfl (by subst Ep7; exact xs_refuse_ok (d + 1) 1 f5 g) ?_
            exact am_Ev.cast (a := ((some (.int (am_b (p7.1, p7.2).1))), am_SH, ((p7.1, p7.2).2, g))) (by cases h; rfl) (am_Ev.retb hcd rfl)
          · refine am_Ev.f hcd (c := t6 < 2) (s1 := (47, [(0, .ref 128), (1, .int a0), (2, .int t6)], [], am_SH, (f5, g))) rfl c30 ?_
            refine am_Ev.go hcd 2 (s' := (49, [(0, .ref 128), (1, .int a0), (2, .int t6)], [.int 7, .int t6], am_SH, (f5, g))) rfl ?_
            rcases am_ite h with ⟨c38, h⟩ | ⟨c38, h⟩
            · refine am_Ev.t hcd (c := 7 < t6) (s1 := (50, [(0, .ref 128), (1, .int a0), (2, .int t6)], [], am_SH, (f5, g))) rfl c38 ?_
              refine am_Ev.go hcd 2 (s' := (52, [(0, .ref 128), (1, .int a0), (2, .int t6)], [.int 1, .ref 128], am_SH, (f5, g))) rfl ?_
              obtain ⟨p8, Ep8, h⟩ := am_let_eq h
              refine am_Ev.call hcd (a := 92) (s0 := (0, [(0, .ref 128), (1, .int 1)], [], am_SH, (f5, g))) (q := ((some (.int (am_b p8.1))), am_SH, (p8.2, g))) (s1 := (53, [(0, .ref 128), (1, .int a0), (2, .int t6)], [.int (am_b p8.1)], am_SH, (p8.2, g))) rfl rfl (by subst Ep8; exact xs_refuse_ok (d + 1) 1 f5 g) ?_
              exact am_Ev.cast (a := ((some (.int (am_b (p8.1, p8.2).1))), am_SH, ((p8.1, p8.2).2, g))) (by cases h; rfl) (am_Ev.retb hcd rfl)
            · refine am_Ev.f hcd (c := 7 < t6) (s1 := (54, [(0, .ref 128), (1, .int a0), (2, .int t6)], [], am_SH, (f5, g))) rfl c38 ?_
              refine am_Ev.go hcd 2 (s' := (56, [(0, .ref 128), (1, .int a0), (2, .int t6)], [.ref 123], am_SH, (f5, g))) rfl ?_
              obtain ⟨p9, hp9, h⟩ := am_bind_some h
              refine am_Ev.call hcd (a := 111) (s0 := (0, [(0, .ref 123)], [], am_SH, (f5, g))) (q := (none, am_SH, (p9, g))) (s1 := (57, [(0, .ref 128), (1, .int a0), (2, .int t6)], [], am_SH, (p9, g))) rfl rfl (xt_advance_ok (d + 1)  f5 g p9 hp9) ?_
              refine am_Ev.go hcd 5 (s' := (62, [(0, .ref 128), (1, .int a0), (2, .int t6)], [.int t6, .int a0, .ref 138], am_SH, (p9, g))) rfl ?_
              obtain ⟨c49, h⟩ := am_grd h
              obtain ⟨f10, Ef10, h⟩ := am_let_eq h
              refine am_Ev.t hcd (o := none) (c := am_in a0 16 = true) (s1 := (63, [(0, .ref 128), (1, .int a0), (2, .int t6)], [], am_SH, (f10, g))) (by subst Ef10; exact rfl) c49 ?_
              obtain ⟨f11, Ef11, h⟩ := am_let_eq h
              refine am_Ev.go hcd 3 (s' := (66, [(0, .ref 128), (1, .int a0), (2, .int t6)], [], am_SH, (f11, g))) (by subst Ef11; exact rfl) ?_
              refine am_Ev.go hcd 2 (s' := (68, [(0, .ref 128), (1, .int a0), (2, .int t6)], [.int 2, .int t6], am_SH, (f11, g))) rfl ?_
              rcases am_ite h with ⟨c55, h⟩ | ⟨c55, h⟩
              · refine am_Ev.t hcd (c := t6 = 2) (s1 := (69, [(0, .ref 128), (1, .int a0), (2, .int t6)], [], am_SH, (f11, g))) rfl c55 ?_
                refine am_Ev.go hcd 3 (s' := (72, [(0, .ref 128), (1, .int a0), (2, .int t6)], [.int 15, .int 0, .ref 128], am_SH, (f11, g))) rfl ?_
                obtain ⟨p12, hp12, h⟩ := am_bind_some h
                refine am_Ev.call hcd (a := 96) (s0 := (0, [(0, .ref 128), (1, .int 0), (2, .int 15)], [], am_SH, (f11, g))) (q := ((some (.int (am_b p12.1))), am_SH, (p12.2, g))) (s1 := (73, [(0, .ref 128), (1, .int a0), (2, .int t6)], [.int (am_b p12.1)], am_SH, (p12.2, g))) rfl rfl (xs_takeNumber_ok (d) 0 15 f11 g p12 hp12) ?_
                rcases am_ite h with ⟨c61, h⟩ | ⟨c61, h⟩
                · refine am_Ev.f hcd (c := am_b p12.1 = 0) (s1 := (76, [(0, .ref 128), (1, .int a0), (2, .int t6)], [], am_SH, (p12.2, g))) rfl (am_b_t c61) ?_
                  refine am_Ev.go hcd 2 (s' := (78, [(0, .ref 128), (1, .int a0), (2, .int t6)], [.int 6, .int t6], am_SH, (p12.2, g))) rfl ?_
                  rcases am_ite h with ⟨c63, h⟩ | ⟨c63, h⟩
                  · refine am_Ev.t hcd (c := t6 = 6) (s1 := (79, [(0, .ref 128), (1, .int a0), (2, .int t6)], [], am_SH, (p12.2, g))) rfl c63 ?_
                    refine am_Ev.go hcd 6 (s' := (85, [(0, .ref 128), (1, .int a0), (2, .int t6)], [.int ((p12.2 128 9) - 1), .int 0, .ref 128], am_SH, (p12.2, g))) rfl ?_
                    obtain ⟨p13, hp13, h⟩ := am_bind_some h
                    refine am_Ev.call hcd (a := 96) (s0 := (0, [(0, .ref 128), (1, .int 0), (2, .int ((p12.2 128 9) - 1))], [], am_SH, (p12.2, g))) (q := ((some (.int (am_b p13.1))), am_SH, (p13.2, g))) (s1 := (86, [(0, .ref 128), (1, .int a0), (2, .int t6)], [.int (am_b p13.1)], am_SH, (p13.2, g))) rfl rfl (xs_takeNumber_ok (d) 0 ((p12.2 128 9) - 1) p12.2 g p13 hp13) ?_
                    rcases am_ite h with ⟨c69, h⟩ | ⟨c69, h⟩
                    · refine am_Ev.f hcd (c := am_b p13.1 = 0) (s1 := (89, [(0, .ref 128), (1, .int a0), (2, .int t6)], [], am_SH, (p13.2, g))) rfl (am_b_t c69) ?_
                      refine am_Ev.go hcd 6 (s' := (95, [(0, .ref 128), (1, .int a0), (2, .int t6)], [.int (p13.2 128 7), .int a0, .ref 139], am_SH, (p13.2, g))) rfl ?_
                      obtain ⟨c71, h⟩ := am_grd h
                      obtain ⟨f14, Ef14, h⟩ := am_let_eq h
                      refine am_Ev.t hcd (o := none) (c := am_in a0 16 = true) (s1 := (96, [(0, .ref 128), (1, .int a0), (2, .int t6)], [], am_SH, (f14, g))) (by subst Ef14; exact rfl) c71 ?_
                      refine am_Ev.go hcd 1 (s' := (97, [(0, .ref 128), (1, .int a0), (2, .int t6)], [.int 1], am_SH, (f14, g))) rfl ?_
                      exact am_Ev.cast (a := ((some (.int (am_b (true, f14).1))), am_SH, ((true, f14).2, g))) (by cases h; rfl) (am_Ev.ret hcd rfl)
                    · refine am_Ev.t hcd (c := am_b p13.1 = 0) (s1 := (87, [(0, .ref 128), (1, .int a0), (2, .int t6)], [], am_SH, (p13.2, g))) rfl (am_b_f c69) ?_
                      refine am_Ev.go hcd 1 (s' := (88, [(0, .ref 128), (1, .int a0), (2, .int t6)], [.int 0], am_SH, (p13.2, g))) rfl ?_
                      exact am_Ev.cast (a := ((some (.int (am_b (false, p13.2).1))), am_SH, ((false, p13.2).2, g))) (by cases h; rfl) (am_Ev.ret hcd rfl)
                  · refine am_Ev.f hcd (c := t6 = 6) (s1 := (89, [(0, .ref 128), (1, .int a0), (2, .int t6)], [], am_SH, (p12.2, g))) rfl c63 ?_
                    refine am_Ev.go hcd 6 (s' := (95, [(0, .ref 128), (1, .int a0), (2, .int t6)], [.int (p12.2 128 7), .int a0, .ref 139], am_SH, (p12.2, g))) rfl ?_
                    obtain ⟨c81, h⟩ := am_grd h
                    obtain ⟨f15, Ef15, h⟩ := am_let_eq h
                    refine am_Ev.t hcd (o := none) (c := am_in a0 16 = true) (s1 := (96, [(0, .ref 128), (1, .int a0), (2, .int t6)], [], am_SH, (f15, g))) (by subst Ef15; exact rfl) c81 ?_
                    refine am_Ev.go hcd 1 (s' := (97, [(0, .ref 128), (1, .int a0), (2, .int t6)], [.int 1], am_SH, (f15, g))) rfl ?_
                    exact am_Ev.cast (a := ((some (.int (am_b (true, f15).1))), am_SH, ((true, f15).2, g))) (by cases h; rfl) (am_Ev.ret hcd rfl)
                · refine am_Ev.t hcd (c := am_b p12.1 = 0) (s1 := (74, [(0, .ref 128), (1, .int a0), (2, .int t6)], [], am_SH, (p12.2, g))) rfl (am_b_f c61) ?_
                  refine am_Ev.go hcd 1 (s' := (75, [(0, .ref 128), (1, .int a0), (2, .int t6)], [.int 0], am_SH, (p12.2, g))) rfl ?_
                  exact am_Ev.cast (a := ((some (.int (am_b (false, p12.2).1))), am_SH, ((false, p12.2).2, g))) (by cases h; rfl) (am_Ev.ret hcd rfl)
              · refine am_Ev.f hcd (c := t6 = 2) (s1 := (76, [(0, .ref 128), (1, .int a0), (2, .int t6)], [], am_SH, (f11, g))) rfl c55 ?_
                refine am_Ev.go hcd 2 (s' := (78, [(0, .ref 128), (1, .int a0), (2, .int t6)], [.int 6, .int t6], am_SH, (f11, g))) rfl ?_
                rcases am_ite h with ⟨c91, h⟩ | ⟨c91, h⟩
                · refine am_Ev.t hcd (c := t6 = 6) (s1 := (79, [(0, .ref 128), (1, .int a0), (2, .int t6)], [], am_SH, (f11, g))) rfl c91 ?_
                  refine am_Ev.go hcd 6 (s' := (85, [(0, .ref 128), (1, .int a0), (2, .int t6)], [.int ((f11 128 9) - 1), .int 0, .ref 128], am_SH, (f11, g))) rfl ?_
                  obtain ⟨p16, hp16, h⟩ := am_bind_some h
                  refine am_Ev.call hcd (a := 96) (s0 := (0, [(0, .ref 128), (1, .int 0), (2, .int ((f11 128 9) - 1))], [], am_SH, (f11, g))) (q := ((some (.int (am_b p16.1))), am_SH, (p16.2, g))) (s1 := (86, [(0, .ref 128), (1, .int a0), (2, .int t6)], [.int (am_b p16.1)], am_SH, (p16.2, g))) rfl rfl (xs_takeNumber_ok (d) 0 ((f11 128 9) - 1) f11 g p16 hp16) ?_
                  rcases am_ite h with ⟨c97, h⟩ | ⟨c97, h⟩
                  · refine am_Ev.f hcd (c := am_b p16.1 = 0) (s1 := (89, [(0, .ref 128), (1, .int a0), (2, .int t6)], [], am_SH, (p16.2, g))) rfl (am_b_t c97) ?_
                    refine am_Ev.go hcd 6 (s' := (95, [(0, .ref 128), (1, .int a0), (2, .int t6)], [.int (p16.2 128 7), .int a0, .ref 139], am_SH, (p16.2, g))) rfl ?_
                    obtain ⟨c99, h⟩ := am_grd h
                    obtain ⟨f17, Ef17, h⟩ := am_let_eq h
                    refine am_Ev.t hcd (o := none) (c := am_in a0 16 = true) (s1 := (96, [(0, .ref 128), (1, .int a0), (2, .int t6)], [], am_SH, (f17, g))) (by subst Ef17; exact rfl) c99 ?_
                    refine am_Ev.go hcd 1 (s' := (97, [(0, .ref 128), (1, .int a0), (2, .int t6)], [.int 1], am_SH, (f17, g))) rfl ?_
                    exact am_Ev.cast (a := ((some (.int (am_b (true, f17).1))), am_SH, ((true, f17).2, g))) (by cases h; rfl) (am_Ev.ret hcd rfl)
                  · refine am_Ev.t hcd (c := am_b p16.1 = 0) (s1 := (87, [(0, .ref 128), (1, .int a0), (2, .int t6)], [], am_SH, (p16.2, g))) rfl (am_b_f c97) ?_
                    refine am_Ev.go hcd 1 (s' := (88, [(0, .ref 128), (1, .int a0), (2, .int t6)], [.int 0], am_SH, (p16.2, g))) rfl ?_
                    exact am_Ev.cast (a := ((some (.int (am_b (false, p16.2).1))), am_SH, ((false, p16.2).2, g))) (by cases h; rfl) (am_Ev.ret hcd rfl)
                · refine am_Ev.f hcd (c := t6 = 6) (s1 := (89, [(0, .ref 128), (1, .int a0), (2, .int t6)], [], am_SH, (f11, g))) rfl c91 ?_
                  refine am_Ev.go hcd 6 (s' := (95, [(0, .ref 128), (1, .int a0), (2, .int t6)], [.int (f11 128 7), .int a0, .ref 139], am_SH, (f11, g))) rfl ?_
                  obtain ⟨c109, h⟩ := am_grd h
                  obtain ⟨f18, Ef18, h⟩ := am_let_eq h
                  refine am_Ev.t hcd (o := none) (c := am_in a0 16 = true) (s1 := (96, [(0, .ref 128), (1, .int a0), (2, .int t6)], [], am_SH, (f18, g))) (by subst Ef18; exact rfl) c109 ?_
                  refine am_Ev.go hcd 1 (s' := (97, [(0, .ref 128), (1, .int a0), (2, .int t6)], [.int 1], am_SH, (f18, g))) rfl ?_
                  exact am_Ev.cast (a := ((some (.int (am_b (true, f18).1))), am_SH, ((true, f18).2, g))) (by cases h; rfl) (am_Ev.ret hcd rfl)
        · refine am_Ev.f hcd (c := f5 123 1 = 1) (s1 := (50, [(0, .ref 128), (1, .int a0), (2, .int t6)], [], am_SH, (f5, g))) rfl c27 ?_
          refine am_Ev.go hcd 2 (s' := (52, [(0, .ref 128), (1, .int a0), (2, .int t6)], [.int 1, .ref 128], am_SH, (f5, g))) rfl ?_
          obtain ⟨p19, Ep19, h⟩ := am_let_eq h
          refine am_Ev.call hcd (a := 92) (s0 := (0, [(0, .ref 128), (1, .int 1)], [], am_SH, (f5, g))) (q := ((some (.int (am_b p19.1))), am_SH, (p19.2, g))) (s1 := (53, [(0, .ref 128), (1, .int a0), (2, .int t6)], [.int (am_b p19.1)], am_SH, (p19.2, g))) rfl rfl (by subst Ep19; exact xs_refuse_ok (d + 1) 1 f5 g) ?_
          exact am_Ev.cast (a := ((some (.int (am_b (p19.1, p19.2).1))), am_SH, ((p19.1, p19.2).2, g))) (by cases h; rfl) (am_Ev.retb hcd rfl)
      · refine am_Ev.t hcd (c := am_b p4.1 = 0) (s1 := (26, [(0, .ref 128), (1, .int a0)], [], am_SH, (p4.2, g))) rfl (am_b_f c19) ?_
        refine am_Ev.go hcd 1 (s' := (27, [(0, .ref 128), (1, .int a0)], [.int 0], am_SH, (p4.2, g))) rfl ?_
        exact am_Ev.cast (a := ((some (.int (am_b (false, p4.2).1))), am_SH, ((false, p4.2).2, g))) (by cases h; rfl) (am_Ev.ret hcd rfl)
    · refine am_Ev.t hcd (c := am_b p3.1 = 0) (s1 := (26, [(0, .ref 128), (1, .int a0)], [], am_SH, (p3.2, g))) rfl (am_b_f c14) ?_
      refine am_Ev.go hcd 1 (s' := (27, [(0, .ref 128), (1, .int a0)], [.int 0], am_SH, (p3.2, g))) rfl ?_
      exact am_Ev.cast (a := ((some (.int (am_b (false, p3.2).1))), am_SH, ((false, p3.2).2, g))) (by cases h; rfl) (am_Ev.ret hcd rfl)
  · refine am_Ev.t hcd (c := am_b p1.1 = 0) (s1 := (5, [(0, .ref 128), (1, .int a0)], [], am_SH, (p1.2, g))) rfl (am_b_f c5) ?_
    refine am_Ev.go hcd 1 (s' := (6, [(0, .ref 128), (1, .int a0)], [.int 0], am_SH, (p1.2, g))) rfl ?_
    exact am_Ev.cast (a := ((some (.int (am_b (false, p1.2).1))), am_SH, ((false, p1.2).2, g))) (by cases h; rfl) (am_Ev.ret hcd rfl)
set_option maxRecDepth 100000 in
set_option maxHeartbeats 4000000 in
theorem xs_takeTopicUnless_ok {sc : Nat × (Nat → Int32)} (d : Nat) (a0 : Bool) (a1 : Int32) (f g : (Nat → Nat → Int32)) (r : Bool × (Nat → Nat → Int32)) (h : xs_takeTopicUnless a0 a1 f = some r) : am_Ev sc (d + 2) 97 (0, [(0, .ref 128), (1, .int (am_b a0)), (2, .int a1)], [], am_SH, (f, g)) ((some (.int (am_b r.1))), am_SH, (r.2, g)) := by
  have hcd : am_code 97 = am_c97 := rfl
  unfold xs_takeTopicUnless at h
  refine am_Ev.go hcd 1 (s' := (1, [(0, .ref 128), (1, .int (am_b a0)), (2, .int a1)], [.int (am_b a0)], am_SH, (f, g))) rfl ?_
  rcases am_ite h with ⟨c2, h⟩ | ⟨c2, h⟩
  · refine am_Ev.f hcd (c := am_b a0 = 0) (s1 := (2, [(0, .ref 128), (1, .int (am_b a0)), (2, .int a1)], [], am_SH, (f, g))) rfl (am_b_t c2) ?_
    refine am_Ev.go hcd 4 (s' := (6, [(0, .ref 128), (1, .int (am_b a0)), (2, .int a1)], [.int 2, .int (f 123 1)], am_SH, (f, g))) rfl ?_
    rcases am_ite h with ⟨c5, h⟩ | ⟨c5, h⟩
    · refine am_Ev.t hcd (c := f 123 1 = 2) (s1 := (7, [(0, .ref 128), (1, .int (am_b a0)), (2, .int a1)], [], am_SH, (f, g))) rfl c5 ?_
      refine am_Ev.go hcd 3 (s' := (10, [(0, .ref 128), (1, .int (am_b a0)), (2, .int a1)], [.int (f 123 2)], am_SH, (f, g))) rfl ?_
      refine am_Ev.call hcd (a := 171) (s0 := (0, [(0, .int (f 123 2))], [], am_SH, (f, g))) (q := ((some (.int (am_b (x_isTopic (f 123 2))))), am_SH, (f, g))) (s1 := (11, [(0, .ref 128), (1, .int (am_b a0)), (2, .int a1)], [.int (am_b (x_isTopic (f 123 2)))], am_SH, (f, g))) rfl rfl (x_isTopic_ok (d) (f 123 2) (f, g)) ?_
      rcases am_ite h with ⟨c10, h⟩ | ⟨c10, h⟩
      · refine am_Ev.f hcd (c := am_b (x_isTopic (f 123 2)) = 0) (s1 := (12, [(0, .ref 128), (1, .int (am_b a0)), (2, .int a1)], [], am_SH, (f, g))) rfl (am_b_t c10) ?_
        refine am_Ev.go hcd 2 (s' := (14, [(0, .ref 128), (1, .int (am_b a0)), (2, .int a1)], [.int a1, .ref 128], am_SH, (f, g))) rfl ?_
        obtain ⟨p2, Ep2, h⟩ := am_let_eq h
        refine am_Ev.call hcd (a := 92) (s0 := (0, [(0, .ref 128), (1, .int a1)], [], am_SH, (f, g))) (q := ((some (.int (am_b p2.1))), am_SH, (p2.2, g))) (s1 := (15, [(0, .ref 128), (1, .int (am_b a0)), (2, .int a1)], [.int (am_b p2.1)], am_SH, (p2.2, g))) rfl rfl (by subst Ep2; exact xs_refuse_ok (d + 1) a1 f g) ?_
        exact am_Ev.cast (a := ((some (.int (am_b (p2.1, p2.2).1))), am_SH, ((p2.1, p2.2).2, g))) (by cases h; rfl) (am_Ev.retb hcd rfl)
      · refine am_Ev.t hcd (c := am_b (x_isTopic (f 123 2)) = 0) (s1 := (16, [(0, .ref 128), (1, .int (am_b a0)), (2, .int a1)], [], am_SH, (f, g))) rfl (am_b_f c10) ?_
        refine am_Ev.go hcd 3 (s' := (19, [(0, .ref 128), (1, .int (am_b a0)), (2, .int a1)], [.int 15, .int 0, .ref 128], am_SH, (f, g))) rfl ?_
        obtain ⟨p3, hp3, h⟩ := am_bind_some h
        refine am_Ev.call hcd (a := 96) (s0 := (0, [(0, .ref 128), (1, .int 0), (2, .int 15)], [], am_SH, (f, g))) (q := ((some (.int (am_b p3.1))), am_SH, (p3.2, g))) (s1 := (20, [(0, .ref 128), (1, .int (am_b a0)), (2, .int a1)], [.int (am_b p3.1)], am_SH, (p3.2, g))) rfl rfl (xs_takeNumber_ok (d) 0 15 f g p3 hp3) ?_
        exact am_Ev.cast (a := ((some (.int (am_b (p3.1, p3.2).1))), am_SH, ((p3.1, p3.2).2, g))) (by cases h; rfl) (am_Ev.retb hcd rfl)
    · refine am_Ev.f hcd (c := f 123 1 = 2) (s1 := (16, [(0, .ref 128), (1, .int (am_b a0)), (2, .int a1)], [], am_SH, (f, g))) rfl c5 ?_
      refine am_Ev.go hcd 3 (s' := (19, [(0, .ref 128), (1, .int (am_b a0)), (2, .int a1)], [.int 15, .int 0, .ref 128], am_SH, (f, g))) rfl ?_
      obtain ⟨p4, hp4, h⟩ := am_bind_some h
      refine am_Ev.call hcd (a := 96) (s0 := (0, [(0, .ref 128), (1, .int 0), (2, .int 15)], [], am_SH, (f, g))) (q := ((some (.int (am_b p4.1))), am_SH, (p4.2, g))) (s1 := (20, [(0, .ref 128), (1, .int (am_b a0)), (2, .int a1)], [.int (am_b p4.1)], am_SH, (p4.2, g))) rfl rfl (xs_takeNumber_ok (d) 0 15 f g p4 hp4) ?_
      exact am_Ev.cast (a := ((some (.int (am_b (p4.1, p4.2).1))), am_SH, ((p4.1, p4.2).2, g))) (by cases h; rfl) (am_Ev.retb hcd rfl)
  · refine am_Ev.t hcd (c := am_b a0 = 0) (s1 := (16, [(0, .ref 128), (1, .int (am_b a0)), (2, .int a1)], [], am_SH, (f, g))) rfl (am_b_f c2) ?_
    refine am_Ev.go hcd 3 (s' := (19, [(0, .ref 128), (1, .int (am_b a0)), (2, .int a1)], [.int 15, .int 0, .ref 128], am_SH, (f, g))) rfl ?_
    obtain ⟨p5, hp5, h⟩ := am_bind_some h
    refine am_Ev.call hcd (a := 96) (s0 := (0, [(0, .ref 128), (1, .int 0), (2, .int 15)], [], am_SH, (f, g))) (q := ((some (.int (am_b p5.1))), am_SH, (p5.2, g))) (s1 := (20, [(0, .ref 128), (1, .int (am_b a0)), (2, .int a1)], [.int (am_b p5.1)], am_SH, (p5.2, g))) rfl rfl (xs_takeNumber_ok (d) 0 15 f g p5 hp5) ?_
    exact am_Ev.cast (a := ((some (.int (am_b (p5.1, p5.2).1))), am_SH, ((p5.1, p5.2).2, g))) (by cases h; rfl) (am_Ev.retb hcd rfl)
set_option maxRecDepth 100000 in
set_option maxHeartbeats 4000000 in
theorem xn_between_140_ok {sc : Nat × (Nat → Int32)} (d : Nat) (a0 : Int32) (a1 : Int32) (f g : (Nat → Nat → Int32)) (r : Int32) (h : xn_between_140 a0 a1 f = some r) : am_Ev sc (d) 79 (0, [(0, .ref 140), (1, .int a0), (2, .int a1)], [], am_SH, (f, g)) ((some (.int r)), am_SH, (f, g)) := by
  have hcd : am_code 79 = am_c79 := rfl
  unfold xn_between_140 at h
  refine am_Ev.go hcd 7 (s' := (7, [(0, .ref 140), (1, .int a0), (2, .int a1)], [.int ((16 * a0) + a1), .ref 141], am_SH, (f, g))) rfl ?_
  obtain ⟨c2, h⟩ := am_grd h
  refine am_Ev.t hcd (o := none) (c := am_in ((16 * a0) + a1) 256 = true) (s1 := (8, [(0, .ref 140), (1, .int a0), (2, .int a1)], [.int (f 141 ((16 * a0) + a1).toNatClampNeg)], am_SH, (f, g))) rfl c2 ?_
  exact am_Ev.cast (a := ((some (.int (f 141 ((16 * a0) + a1).toNatClampNeg : Int32))), am_SH, (f, g))) (by cases h; rfl) (am_Ev.ret hcd rfl)
set_option maxRecDepth 100000 in
set_option maxHeartbeats 4000000 in
theorem xn_tell_140_ok {sc : Nat × (Nat → Int32)} (d : Nat) (a0 : Int32) (a1 : Int32) (a2 : Int32) (f g : (Nat → Nat → Int32)) (r : (Nat → Nat → Int32)) (h : xn_tell_140 a0 a1 a2 f = some r) : am_Ev sc (d + 1) 80 (0, [(0, .ref 140), (1, .int a0), (2, .int a1), (3, .int a2)], [], am_SH, (f, g)) (none, am_SH, (r, g)) := by
  have hcd : am_code 80 = am_c80 := rfl
  unfold xn_tell_140 at h
  refine am_Ev.go hcd 4 (s' := (4, [(0, .ref 140), (1, .int a0), (2, .int a1), (3, .int a2)], [.int a1, .int a0, .ref 140, .int a2], am_SH, (f, g))) rfl ?_
  obtain ⟨p1, hp1, h⟩ := am_bind_some h
  refine am_Ev.call hcd (a := 79) (s0 := (0, [(0, .ref 140), (1, .int a0), (2, .int a1)], [], am_SH, (f, g))) (q := ((some (.int p1)), am_SH, (f, g))) (s1 := (5, [(0, .ref 140), (1, .int a0), (2, .int a1), (3, .int a2)], [.int p1, .int a2], am_SH, (f, g))) rfl rfl (xn_between_140_ok (d) a0 a1 f g p1 hp1) ?_
  rcases am_ite h with ⟨c5, h⟩ | ⟨c5, h⟩
  · refine am_Ev.t hcd (c := p1 < a2) (s1 := (6, [(0, .ref 140), (1, .int a0), (2, .int a1), (3, .int a2)], [], am_SH, (f, g))) rfl c5 ?_
    refine am_Ev.go hcd 8 (s' := (14, [(0, .ref 140), (1, .int a0), (2, .int a1), (3, .int a2)], [.int a2, .int ((16 * a0) + a1), .ref 141], am_SH, (f, g))) rfl ?_
    obtain ⟨c7, h⟩ := am_grd h
    obtain ⟨f2, Ef2, h⟩ := am_let_eq h
    refine am_Ev.t hcd (o := none) (c := am_in ((16 * a0) + a1) 256 = true) (s1 := (15, [(0, .ref 140), (1, .int a0), (2, .int a1), (3, .int a2)], [], am_SH, (f2, g))) (by subst Ef2; exact rfl) c7 ?_
    refine am_Ev.go hcd 8 (s' := (23, [(0, .ref 140), (1, .int a0), (2, .int a1), (3, .int a2)], [.int a2, .int ((16 * a1) + a0), .ref 141], am_SH, (f2, g))) rfl ?_
    obtain ⟨c11, h⟩ := am_grd h
    obtain ⟨f3, Ef3, h⟩ := am_let_eq h
    refine am_Ev.t hcd (o := none) (c := am_in ((16 * a1) + a0) 256 = true) (s1 := (24, [(0, .ref 140), (1, .int a0), (2, .int a1), (3, .int a2)], [], am_SH, (f3, g))) (by subst Ef3; exact rfl) c11 ?_
    exact am_Ev.cast (a := (none, am_SH, (f3, g))) (by cases h; rfl) (am_Ev.ret hcd rfl)
  · refine am_Ev.f hcd (c := p1 < a2) (s1 := (24, [(0, .ref 140), (1, .int a0), (2, .int a1), (3, .int a2)], [], am_SH, (f, g))) rfl c5 ?_
    exact am_Ev.cast (a := (none, am_SH, (f, g))) (by cases h; rfl) (am_Ev.ret hcd rfl)
set_option maxRecDepth 100000 in
set_option maxHeartbeats 4000000 in
theorem xs_readNearLine_ok {sc : Nat × (Nat → Int32)} (d : Nat)  (f g : (Nat → Nat → Int32)) (r : Bool × (Nat → Nat → Int32)) (h : xs_readNearLine  f = some r) : am_Ev sc (d + 3) 100 (0, [(0, .ref 128)], [], am_SH, (f, g)) ((some (.int (am_b r.1))), am_SH, (r.2, g)) := by
  have hcd : am_code 100 = am_c100 := rfl
  unfold xs_readNearLine at h
  refine am_Ev.go hcd 3 (s' := (3, [(0, .ref 128)], [.int 15, .int 0, .ref 128], am_SH, (f, g))) rfl ?_
  obtain ⟨p1, hp1, h⟩ := am_bind_some h
  refine am_Ev.call hcd (a := 96) (s0 := (0, [(0, .ref 128), (1, .int 0), (2, .int 15)], [], am_SH, (f, g))) (q := ((some (.int (am_b p1.1))), am_SH, (p1.2, g))) (s1 := (4, [(0, .ref 128)], [.int (am_b p1.1)], am_SH, (p1.2, g))) rfl rfl (xs_takeNumber_ok (d + 1) 0 15 f g p1 hp1) ?_
  rcases am_ite h with ⟨c5, h⟩ | ⟨c5, h⟩
  · refine am_Ev.f hcd (c := am_b p1.1 = 0) (s1 := (7, [(0, .ref 128)], [], am_SH, (p1.2, g))) rfl (am_b_t c5) ?_
    obtain ⟨t2, Et2, h⟩ := am_let_eq h
    refine am_Ev.go hcd 3 (s' := (10, [(0, .ref 128), (1, .int t2)], [], am_SH, (p1.2, g))) (by subst Et2; exact rfl) ?_
    refine am_Ev.go hcd 2 (s' := (12, [(0, .ref 128), (1, .int t2)], [.int 1, .ref 128], am_SH, (p1.2, g))) rfl ?_
    obtain ⟨p3, hp3, h⟩ := am_bind_some h
    refine am_Ev.call hcd (a := 95) (s0 := (0, [(0, .ref 128), (1, .int 1)], [], am_SH, (p1.2, g))) (q := ((some (.int (am_b p3.1))), am_SH, (p3.2, g))) (s1 := (13, [(0, .ref 128), (1, .int t2)], [.int (am_b p3.1)], am_SH, (p3.2, g))) rfl rfl (xs_takeWord_ok (d + 1) 1 p1.2 g p3 hp3) ?_
    rcases am_ite h with ⟨c12, h⟩ | ⟨c12, h⟩
    · refine am_Ev.f hcd (c := am_b p3.1 = 0) (s1 := (14, [(0, .ref 128), (1, .int t2)], [], am_SH, (p3.2, g))) rfl (am_b_t c12) ?_
      obtain ⟨t4, ht4, kt4⟩ := am_let_eq h
      have hKt4 : am_Ev sc (d + 3) 100 (23, [(0, .ref 128), (1, .int t2)], [.int (am_b t4), .ref 128], am_SH, (p3.2, g)) ((some (.int (am_b r.1))), am_SH, (r.2, g)) := by
        have h := kt4
        refine am_Ev.go hcd 1 (s' := (24, [(0, .ref 128), (1, .int t2)], [.int 2, .int (am_b t4), .ref 128], am_SH, (p3.2, g))) rfl ?_
        obtain ⟨p5, hp5, h⟩ := am_bind_some h
        refine am_Ev.call hcd (a := 97) (s0 := (0, [(0, .ref 128), (1, .int (am_b t4)), (2, .int 2)], [], am_SH, (p3.2, g))) (q := ((some (.int (am_b p5.1))), am_SH, (p5.2, g))) (s1 := (25, [(0, .ref 128), (1, .int t2)], [.int (am_b p5.1)], am_SH, (p5.2, g))) rfl rfl (xs_takeTopicUnless_ok (d) t4 2 p3.2 g p5 hp5) ?_
        rcases am_ite h with ⟨c20, h⟩ | ⟨c20, h⟩
        · refine am_Ev.f hcd (c := am_b p5.1 = 0) (s1 := (28, [(0, .ref 128), (1, .int t2)], [], am_SH, (p5.2, g))) rfl (am_b_t c20) ?_
          obtain ⟨t6, Et6, h⟩ := am_let_eq h
          refine am_Ev.go hcd 3 (s' := (31, [(0, .ref 128), (1, .int t2), (2, .int t6)], [], am_SH, (p5.2, g))) (by subst Et6; exact rfl) ?_
          refine am_Ev.go hcd 3 (s' := (34, [(0, .ref 128), (1, .int t2), (2, .int t6)], [.int 9, .int 1, .ref 128], am_SH, (p5.2, g))) rfl ?_
          obtain ⟨p7, hp7, h⟩ := am_bind_some h
          refine am_Ev.call hcd (a := 96) (s0 := (0, [(0, .ref 128), (1, .int 1), (2, .int 9)], [], am_SH, (p5.2, g))) (q := ((some (.int (am_b p7.1))), am_SH, (p7.2, g))) (s1 := (35, [(0, .ref 128), (1, .int t2), (2, .int t6)], [.int (am_b p7.1)], am_SH, (p7.2, g))) rfl rfl (xs_takeNumber_ok (d + 1) 1 9 p5.2 g p7 hp7) ?_
          rcases am_ite h with ⟨c27, h⟩ | ⟨c27, h⟩
          · refine am_Ev.f hcd (c := am_b p7.1 = 0) (s1 := (38, [(0, .ref 128), (1, .int t2), (2, .int t6)], [], am_SH, (p7.2, g))) rfl (am_b_t c27) ?_
            refine am_Ev.go hcd 6 (s' := (44, [(0, .ref 128), (1, .int t2), (2, .int t6)], [.int (p7.2 128 7), .int t6, .int t2, .ref 140], am_SH, (p7.2, g))) rfl ?_
            obtain ⟨p8, hp8, h⟩ := am_bind_some h
            refine am_Ev.call hcd (a := 80) (s0 := (0, [(0, .ref 140), (1, .int t2), (2, .int t6), (3, .int (p7.2 128 7))], [], am_SH, (p7.2, g))) (q := (none, am_SH, (p8, g))) (s1 := (45, [(0, .ref 128), (1, .int t2), (2, .int t6)], [], am_SH, (p8, g))) rfl rfl (xn_tell_140_ok (d + 1) t2 t6 (p7.2 128 7) p7.2 g p8 hp8) ?_
            refine am_Ev.go hcd 1 (s' := (46, [(0, .ref 128), (1, .int t2), (2, .int t6)], [.int 1], am_SH, (p8, g))) rfl ?_
            exact am_Ev.cast (a := ((some (.int (am_b (true, p8).1))), am_SH, ((true, p8).2, g))) (by cases h; rfl) (am_Ev.ret hcd rfl)
          · refine am_Ev.t hcd (c := am_b p7.1 = 0) (s1 := (36, [(0, .ref 128), (1, .int t2), (2, .int t6)], [], am_SH, (p7.2, g))) rfl (am_b_f c27) ?_
            refine am_Ev.go hcd 1 (s' := (37, [(0, .ref 128), (1, .int t2), (2, .int t6)], [.int 0], am_SH, (p7.2, g))) rfl ?_
            exact am_Ev.cast (a := ((some (.int (am_b (false, p7.2).1))), am_SH, ((false, p7.2).2, g))) (by cases h; rfl) (am_Ev.ret hcd rfl)
        · refine am_Ev.t hcd (c := am_b p5.1 = 0) (s1 := (26, [(0, .ref 128), (1, .int t2)], [], am_SH, (p5.2, g))) rfl (am_b_f c20) ?_
          refine am_Ev.go hcd 1 (s' := (27, [(0, .ref 128), (1, .int t2)], [.int 0], am_SH, (p5.2, g))) rfl ?_
          exact am_Ev.cast (a := ((some (.int (am_b (false, p5.2).1))), am_SH, ((false, p5.2).2, g))) (by cases h; rfl) (am_Ev.ret hcd rfl)
      have hLt4 : ∀ tt, tt = t4 → am_Ev sc (d + 3) 100 (23, [(0, .ref 128), (1, .int t2)], [.int (am_b tt), .ref 128], am_SH, (p3.2, g)) ((some (.int (am_b r.1))), am_SH, (r.2, g)) := fun tt htt => by subst htt; exact hKt4
      have h := ht4
      refine am_Ev.go hcd 5 (s' := (19, [(0, .ref 128), (1, .int t2)], [.int t2, .int (p3.2 123 2), .ref 128], am_SH, (p3.2, g))) rfl ?_
      rcases am_itv h with ⟨c42, h⟩ | ⟨c42, h⟩
      · refine am_Ev.t hcd (c := p3.2 123 2 = t2) (s1 := (20, [(0, .ref 128), (1, .int t2)], [.ref 128], am_SH, (p3.2, g))) rfl c42 ?_
        refine am_Ev.go hcd 2 (s' := (23, [(0, .ref 128), (1, .int t2)], [.int 1, .ref 128], am_SH, (p3.2, g))) rfl ?_
        exact am_Ev.weak' (hLt4 true h.symm) (am_sub_cons rfl (am_sub_cons rfl am_sub_nil)) rfl
      · refine am_Ev.f hcd (c := p3.2 123 2 = t2) (s1 := (22, [(0, .ref 128), (1, .int t2)], [.ref 128], am_SH, (p3.2, g))) rfl c42 ?_
        refine am_Ev.go hcd 1 (s' := (23, [(0, .ref 128), (1, .int t2)], [.int 0, .ref 128], am_SH, (p3.2, g))) rfl ?_
        exact am_Ev.weak' (hLt4 false h.symm) (am_sub_cons rfl (am_sub_cons rfl am_sub_nil)) rfl
    · refine am_Ev.t hcd (c := am_b p3.1 = 0) (s1 := (26, [(0, .ref 128), (1, .int t2)], [], am_SH, (p3.2, g))) rfl (am_b_f c12) ?_
      refine am_Ev.go hcd 1 (s' := (27, [(0, .ref 128), (1, .int t2)], [.int 0], am_SH, (p3.2, g))) rfl ?_
      exact am_Ev.cast (a := ((some (.int (am_b (false, p3.2).1))), am_SH, ((false, p3.2).2, g))) (by cases h; rfl) (am_Ev.ret hcd rfl)
  · refine am_Ev.t hcd (c := am_b p1.1 = 0) (s1 := (5, [(0, .ref 128)], [], am_SH, (p1.2, g))) rfl (am_b_f c5) ?_
    refine am_Ev.go hcd 1 (s' := (6, [(0, .ref 128)], [.int 0], am_SH, (p1.2, g))) rfl ?_
    exact am_Ev.cast (a := ((some (.int (am_b (false, p1.2).1))), am_SH, ((false, p1.2).2, g))) (by cases h; rfl) (am_Ev.ret hcd rfl)
set_option maxRecDepth 100000 in
set_option maxHeartbeats 4000000 in
theorem xs_readKeepsLine_ok {sc : Nat × (Nat → Int32)} (d : Nat)  (f g : (Nat → Nat → Int32)) (r : Bool × (Nat → Nat → Int32)) (h : xs_readKeepsLine  f = some r) : am_Ev sc (d + 3) 101 (0, [(0, .ref 128)], [], am_SH, (f, g)) ((some (.int (am_b r.1))), am_SH, (r.2, g)) := by
  have hcd : am_code 101 = am_c101 := rfl
  unfold xs_readKeepsLine at h
  refine am_Ev.go hcd 6 (s' := (6, [(0, .ref 128)], [.int ((f 128 9) - 1), .int 0, .ref 128], am_SH, (f, g))) rfl ?_
  obtain ⟨p1, hp1, h⟩ := am_bind_some h
  refine am_Ev.call hcd (a := 96) (s0 := (0, [(0, .ref 128), (1, .int 0), (2, .int ((f 128 9) - 1))], [], am_SH, (f, g))) (q := ((some (.int (am_b p1.1))), am_SH, (p1.2, g))) (s1 := (7, [(0, .ref 128)], [.int (am_b p1.1)], am_SH, (p1.2, g))) rfl rfl (xs_takeNumber_ok (d + 1) 0 ((f 128 9) - 1) f g p1 hp1) ?_
  rcases am_ite h with ⟨c5, h⟩ | ⟨c5, h⟩
  · refine am_Ev.f hcd (c := am_b p1.1 = 0) (s1 := (10, [(0, .ref 128)], [], am_SH, (p1.2, g))) rfl (am_b_t c5) ?_
    obtain ⟨t2, Et2, h⟩ := am_let_eq h
    refine am_Ev.go hcd 3 (s' := (13, [(0, .ref 128), (1, .int t2)], [], am_SH, (p1.2, g))) (by subst Et2; exact rfl) ?_
    refine am_Ev.go hcd 2 (s' := (15, [(0, .ref 128), (1, .int t2)], [.int 1, .ref 128], am_SH, (p1.2, g))) rfl ?_
    obtain ⟨p3, hp3, h⟩ := am_bind_some h
    refine am_Ev.call hcd (a := 95) (s0 := (0, [(0, .ref 128), (1, .int 1)], [], am_SH, (p1.2, g))) (q := ((some (.int (am_b p3.1))), am_SH, (p3.2, g))) (s1 := (16, [(0, .ref 128), (1, .int t2)], [.int (am_b p3.1)], am_SH, (p3.2, g))) rfl rfl (xs_takeWord_ok (d + 1) 1 p1.2 g p3 hp3) ?_
    rcases am_ite h with ⟨c12, h⟩ | ⟨c12, h⟩
    · refine am_Ev.f hcd (c := am_b p3.1 = 0) (s1 := (19, [(0, .ref 128), (1, .int t2)], [], am_SH, (p3.2, g))) rfl (am_b_t c12) ?_
      refine am_Ev.go hcd 4 (s' := (23, [(0, .ref 128), (1, .int t2), (2, .int 0), (3, .int 0)], [], am_SH, (p3.2, g))) rfl ?_
      obtain ⟨e9, he9, h⟩ := am_bind_some h
      have hK4 : (fun (v : (Bool × (Nat → Nat → Int32)) ⊕ (Int32 × (Nat → Nat → Int32))) => v.elim (fun (v : Bool × (Nat → Nat → Int32)) => (((some (.int (am_b v.1))), am_SH, (v.2, g)) : am_R) = ((some (.int (am_b r.1))), am_SH, (r.2, g))) (fun (e10 : Int32 × (Nat → Nat → Int32)) => am_Ev sc (d + 3) 101 (53, [(0, .ref 128), (1, .int t2), (2, .int e10.1)], [], am_SH, (e10.2, g)) ((some (.int (am_b r.1))), am_SH, (r.2, g)))) e9 := by
        cases e9 with
        | inl v => exact (by cases h; rfl)
        | inr e10 =>
          have h := am_elim_r h
          show am_Ev sc (d + 3) 101 (53, [(0, .ref 128), (1, .int t2), (2, .int e10.1)], [], am_SH, (e10.2, g)) ((some (.int (am_b r.1))), am_SH, (r.2, g))
          refine am_Ev.go hcd 4 (s' := (57, [(0, .ref 128), (1, .int t2), (2, .int e10.1)], [.int e10.1, .int t2, .ref 142], am_SH, (e10.2, g))) rfl ?_
          obtain ⟨c22, h⟩ := am_grd h
          obtain ⟨f11, Ef11, h⟩ := am_let_eq h
          refine am_Ev.t hcd (o := none) (c := am_in t2 12 = true) (s1 := (58, [(0, .ref 128), (1, .int t2), (2, .int e10.1)], [], am_SH, (f11, g))) (by subst Ef11; exact rfl) c22 ?_
          refine am_Ev.go hcd 1 (s' := (59, [(0, .ref 128), (1, .int t2), (2, .int e10.1)], [.int 1], am_SH, (f11, g))) rfl ?_
          exact am_Ev.cast (a := ((some (.int (am_b (true, f11).1))), am_SH, ((true, f11).2, g))) (by cases h; rfl) (am_Ev.ret hcd rfl)
      refine am_Ev.weak' (am_loop_ok (G := fun (s4 : Int32 × Int32 × (Nat → Nat → Int32)) => am_Ev sc (d + 3) 101 (23, [(0, .ref 128), (1, .int t2), (2, .int s4.1), (3, .int s4.2.1)], [], am_SH, (s4.2.2, g)) ((some (.int (am_b r.1))), am_SH, (r.2, g))) (Z := fun (v : (Bool × (Nat → Nat → Int32)) ⊕ (Int32 × (Nat → Nat → Int32))) => v.elim (fun (v : Bool × (Nat → Nat → Int32)) => (((some (.int (am_b v.1))), am_SH, (v.2, g)) : am_R) = ((some (.int (am_b r.1))), am_SH, (r.2, g))) (fun (e10 : Int32 × (Nat → Nat → Int32)) => am_Ev sc (d + 3) 101 (53, [(0, .ref 128), (1, .int t2), (2, .int e10.1)], [], am_SH, (e10.2, g)) ((some (.int (am_b r.1))), am_SH, (r.2, g)))) ?_ am_F (0, 0, p3.2) e9 he9 hK4) (am_sub_cons rfl (am_sub_cons rfl (am_sub_cons rfl (am_sub_cons rfl am_sub_nil)))) rfl
      intro s4 q4 h hI4 hZ4
      show am_Ev sc (d + 3) 101 (23, [(0, .ref 128), (1, .int t2), (2, .int s4.1), (3, .int s4.2.1)], [], am_SH, (s4.2.2, g)) ((some (.int (am_b r.1))), am_SH, (r.2, g))
      refine am_Ev.go hcd 2 (s' := (25, [(0, .ref 128), (1, .int t2), (2, .int s4.1), (3, .int s4.2.1)], [.int 6, .int s4.2.1], am_SH, (s4.2.2, g))) rfl ?_
      rcases am_ite h with ⟨c31, h⟩ | ⟨c31, h⟩
      · refine am_Ev.t hcd (c := 6 < s4.2.1) (s1 := (53, [(0, .ref 128), (1, .int t2), (2, .int s4.1), (3, .int s4.2.1)], [], am_SH, (s4.2.2, g))) rfl c31 ?_
        exact am_Ev.weak' (hZ4 (.inr (s4.1, s4.2.2)) (Option.some.inj h).symm) (am_sub_cons rfl (am_sub_cons rfl (am_sub_cons rfl am_sub_nil))) rfl
      · refine am_Ev.f hcd (c := 6 < s4.2.1) (s1 := (26, [(0, .ref 128), (1, .int t2), (2, .int s4.1), (3, .int s4.2.1)], [], am_SH, (s4.2.2, g))) rfl c31 ?_
        obtain ⟨t5, ht5, kt5⟩ := am_let_eq h
        have hKt5 : am_Ev sc (d + 3) 101 (33, [(0, .ref 128), (1, .int t2), (2, .int s4.1), (3, .int s4.2.1)], [.int (am_b t5), .ref 128], am_SH, (s4.2.2, g)) ((some (.int (am_b r.1))), am_SH, (r.2, g)) := by
          have h := kt5
          refine am_Ev.go hcd 1 (s' := (34, [(0, .ref 128), (1, .int t2), (2, .int s4.1), (3, .int s4.2.1)], [.int 3, .int (am_b t5), .ref 128], am_SH, (s4.2.2, g))) rfl ?_
          obtain ⟨p6, hp6, h⟩ := am_bind_some h
          refine am_Ev.call hcd (a := 97) (s0 := (0, [(0, .ref 128), (1, .int (am_b t5)), (2, .int 3)], [], am_SH, (s4.2.2, g))) (q := ((some (.int (am_b p6.1))), am_SH, (p6.2, g))) (s1 := (35, [(0, .ref 128), (1, .int t2), (2, .int s4.1), (3, .int s4.2.1)], [.int (am_b p6.1)], am_SH, (p6.2, g))) rfl rfl (xs_takeTopicUnless_ok (d) t5 3 s4.2.2 g p6 hp6) ?_
          rcases am_ite h with ⟨c42, h⟩ | ⟨c42, h⟩
          · refine am_Ev.f hcd (c := am_b p6.1 = 0) (s1 := (38, [(0, .ref 128), (1, .int t2), (2, .int s4.1), (3, .int s4.2.1)], [], am_SH, (p6.2, g))) rfl (am_b_t c42) ?_
            obtain ⟨t7, Et7, h⟩ := am_let_eq h
            refine am_Ev.go hcd 7 (s' := (45, [(0, .ref 128), (1, .int t2), (2, .int t7), (3, .int s4.2.1)], [], am_SH, (p6.2, g))) (by subst Et7; exact rfl) ?_
            refine am_Ev.go hcd 4 (s' := (49, [(0, .ref 128), (1, .int t2), (2, .int t7), (3, .int s4.2.1)], [.int 2, .int (p6.2 123 1)], am_SH, (p6.2, g))) rfl ?_
            rcases am_ite h with ⟨c46, h⟩ | ⟨c46, h⟩
            · refine am_Ev.t hcd (c := p6.2 123 1 = 2) (s1 := (51, [(0, .ref 128), (1, .int t2), (2, .int t7), (3, .int s4.2.1)], [], am_SH, (p6.2, g))) rfl c46 ?_
              obtain ⟨t8, Et8, h⟩ := am_let_eq h
              refine am_Ev.go hcd 1 (s' := (52, [(0, .ref 128), (1, .int t2), (2, .int t7), (3, .int t8)], [], am_SH, (p6.2, g))) (by subst Et8; exact rfl) ?_
              refine am_Ev.go hcd 1 (s' := (23, [(0, .ref 128), (1, .int t2), (2, .int t7), (3, .int t8)], [], am_SH, (p6.2, g))) rfl ?_
              exact am_Ev.weak' (hI4 (t7, t8, p6.2) (Option.some.inj h).symm) (am_sub_cons rfl (am_sub_cons rfl (am_sub_cons rfl (am_sub_cons rfl am_sub_nil)))) rfl
            · refine am_Ev.f hcd (c := p6.2 123 1 = 2) (s1 := (50, [(0, .ref 128), (1, .int t2), (2, .int t7), (3, .int s4.2.1)], [], am_SH, (p6.2, g))) rfl c46 ?_
              refine am_Ev.go hcd 1 (s' := (53, [(0, .ref 128), (1, .int t2), (2, .int t7), (3, .int s4.2.1)], [], am_SH, (p6.2, g))) rfl ?_
              exact am_Ev.weak' (hZ4 (.inr (t7, p6.2)) (Option.some.inj h).symm) (am_sub_cons rfl (am_sub_cons rfl (am_sub_cons rfl am_sub_nil))) rfl
          · refine am_Ev.t hcd (c := am_b p6.1 = 0) (s1 := (36, [(0, .ref 128), (1, .int t2), (2, .int s4.1), (3, .int s4.2.1)], [], am_SH, (p6.2, g))) rfl (am_b_f c42) ?_
            refine am_Ev.go hcd 1 (s' := (37, [(0, .ref 128), (1, .int t2), (2, .int s4.1), (3, .int s4.2.1)], [.int 0], am_SH, (p6.2, g))) rfl ?_
            exact am_Ev.cast (a := ((some (.int (am_b (false, p6.2).1))), am_SH, ((false, p6.2).2, g))) (hZ4 _ (Option.some.inj h).symm) (am_Ev.ret hcd rfl)
        have hLt5 : ∀ tt, tt = t5 → am_Ev sc (d + 3) 101 (33, [(0, .ref 128), (1, .int t2), (2, .int s4.1), (3, .int s4.2.1)], [.int (am_b tt), .ref 128], am_SH, (s4.2.2, g)) ((some (.int (am_b r.1))), am_SH, (r.2, g)) := fun tt htt => by subst htt; exact hKt5
        have h := ht5
        refine am_Ev.go hcd 3 (s' := (29, [(0, .ref 128), (1, .int t2), (2, .int s4.1), (3, .int s4.2.1)], [.int 6, .int s4.2.1, .ref 128], am_SH, (s4.2.2, g))) rfl ?_
        rcases am_itv h with ⟨c61, h⟩ | ⟨c61, h⟩
        · refine am_Ev.t hcd (c := s4.2.1 = 6) (s1 := (30, [(0, .ref 128), (1, .int t2), (2, .int s4.1), (3, .int s4.2.1)], [.ref 128], am_SH, (s4.2.2, g))) rfl c61 ?_
          refine am_Ev.go hcd 2 (s' := (33, [(0, .ref 128), (1, .int t2), (2, .int s4.1), (3, .int s4.2.1)], [.int 1, .ref 128], am_SH, (s4.2.2, g))) rfl ?_
          exact am_Ev.weak' (hLt5 true h.symm) (am_sub_cons rfl (am_sub_cons rfl (am_sub_cons rfl (am_sub_cons rfl am_sub_nil)))) rfl
        · refine am_Ev.f hcd (c := s4.2.1 = 6) (s1 := (32, [(0, .ref 128), (1, .int t2), (2, .int s4.1), (3, .int s4.2.1)], [.ref 128], am_SH, (s4.2.2, g))) rfl c61 ?_
          refine am_Ev.go hcd 1 (s' := (33, [(0, .ref 128), (1, .int t2), (2, .int s4.1), (3, .int s4.2.1)], [.int 0, .ref 128], am_SH, (s4.2.2, g))) rfl ?_
          exact am_Ev.weak' (hLt5 false h.symm) (am_sub_cons rfl (am_sub_cons rfl (am_sub_cons rfl (am_sub_cons rfl am_sub_nil)))) rfl
    · refine am_Ev.t hcd (c := am_b p3.1 = 0) (s1 := (17, [(0, .ref 128), (1, .int t2)], [], am_SH, (p3.2, g))) rfl (am_b_f c12) ?_
      refine am_Ev.go hcd 1 (s' := (18, [(0, .ref 128), (1, .int t2)], [.int 0], am_SH, (p3.2, g))) rfl ?_
      exact am_Ev.cast (a := ((some (.int (am_b (false, p3.2).1))), am_SH, ((false, p3.2).2, g))) (by cases h; rfl) (am_Ev.ret hcd rfl)
  · refine am_Ev.t hcd (c := am_b p1.1 = 0) (s1 := (8, [(0, .ref 128)], [], am_SH, (p1.2, g))) rfl (am_b_f c5) ?_
    refine am_Ev.go hcd 1 (s' := (9, [(0, .ref 128)], [.int 0], am_SH, (p1.2, g))) rfl ?_
    exact am_Ev.cast (a := ((some (.int (am_b (false, p1.2).1))), am_SH, ((false, p1.2).2, g))) (by cases h; rfl) (am_Ev.ret hcd rfl)
