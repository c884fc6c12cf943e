set_option maxRecDepth 100000 in
set_option maxHeartbeats 4000000 in
theorem xr_append_45_ok {sc : Nat × (Nat → Int32)} (d : Nat) (a0 : Int32) (a1 : Int32) (f g : (Nat → Nat → Int32)) (r : Int32 × (Nat → Nat → Int32)) (h : xr_append_45 a0 a1 f = some r) : am_Ev sc (d) 85 (0, [(0, .ref 45), (1, .int a0), (2, .int a1)], [], am_SH, (f, g)) ((some (.int r.1)), am_SH, (r.2, g)) := by
  have hcd : am_code 85 = am_c85 := rfl
  unfold xr_append_45 at h
  refine am_Ev.go hcd 5 (s' := (5, [(0, .ref 45), (1, .int a0), (2, .int a1)], [.int (nI 24), .int (f 45 0)], am_SH, (f, g))) rfl ?_
  rcases am_ite h with ⟨c2, h⟩ | ⟨c2, h⟩
  · refine am_Ev.t hcd (c := f 45 0 < (nI 24)) (s1 := (8, [(0, .ref 45), (1, .int a0), (2, .int a1)], [], am_SH, (f, g))) rfl c2 ?_
    refine am_Ev.go hcd 5 (s' := (13, [(0, .ref 45), (1, .int a0), (2, .int a1)], [.int a0, .int (f 45 0), .ref 46], am_SH, (f, g))) rfl ?_
    obtain ⟨c5, h⟩ := am_grd h
    obtain ⟨f1, Ef1, h⟩ := am_let_eq h
    refine am_Ev.t hcd (o := none) (c := am_in (f 45 0) 24 = true) (s1 := (14, [(0, .ref 45), (1, .int a0), (2, .int a1)], [], am_SH, (f1, g))) (by subst Ef1; exact rfl) c5 ?_
    refine am_Ev.go hcd 5 (s' := (19, [(0, .ref 45), (1, .int a0), (2, .int a1)], [.int a1, .int (f1 45 0), .ref 47], am_SH, (f1, g))) rfl ?_
    obtain ⟨c9, h⟩ := am_grd h
    obtain ⟨f2, Ef2, h⟩ := am_let_eq h
    refine am_Ev.t hcd (o := none) (c := am_in (f1 45 0) 24 = true) (s1 := (20, [(0, .ref 45), (1, .int a0), (2, .int a1)], [], am_SH, (f2, g))) (by subst Ef2; exact rfl) c9 ?_
    obtain ⟨f3, Ef3, h⟩ := am_let_eq h
    refine am_Ev.go hcd 6 (s' := (26, [(0, .ref 45), (1, .int a0), (2, .int a1)], [], am_SH, (f3, g))) (by subst Ef3; exact rfl) ?_
    refine am_Ev.go hcd 2 (s' := (28, [(0, .ref 45), (1, .int a0), (2, .int a1)], [.int (f3 45 0)], am_SH, (f3, g))) rfl ?_
    exact am_Ev.cast (a := ((some (.int (f3 45 0, f3).1)), am_SH, ((f3 45 0, f3).2, g))) (by cases h; rfl) (am_Ev.ret hcd rfl)
  · refine am_Ev.f hcd (c := f 45 0 < (nI 24)) (s1 := (6, [(0, .ref 45), (1, .int a0), (2, .int a1)], [], am_SH, (f, g))) rfl c2 ?_
    refine am_Ev.go hcd 1 (s' := (7, [(0, .ref 45), (1, .int a0), (2, .int a1)], [.int (-1)], am_SH, (f, g))) rfl ?_
    exact am_Ev.cast (a := ((some (.int ((-1), f).1)), am_SH, (((-1), f).2, g))) (by cases h; rfl) (am_Ev.ret hcd rfl)
set_option maxRecDepth 100000 in
set_option maxHeartbeats 4000000 in
theorem x_reading_ok {sc : Nat × (Nat → Int32)} (d : Nat) (a0 : Int32) (f g : (Nat → Nat → Int32)) (r : Int32 × (Nat → Nat → Int32)) (h : x_reading a0 f = some r) : am_Ev sc (d + 1) 160 (0, [(0, .ref 0), (1, .int a0)], [], am_SH, (f, g)) ((some (.int r.1)), am_SH, (r.2, g)) := by
  have hcd : am_code 160 = am_c160 := rfl
  unfold x_reading at h
  refine am_Ev.go hcd 2 (s' := (2, [(0, .ref 0), (1, .int a0)], [.int (-1), .int a0], am_SH, (f, g))) rfl ?_
  rcases am_ite h with ⟨c2, h⟩ | ⟨c2, h⟩
  · refine am_Ev.t hcd (c := a0 = (-1)) (s1 := (3, [(0, .ref 0), (1, .int a0)], [], am_SH, (f, g))) rfl c2 ?_
    refine am_Ev.go hcd 3 (s' := (6, [(0, .ref 0), (1, .int a0)], [.ref 45], am_SH, (f, g))) rfl ?_
    obtain ⟨p1, Ep1, h⟩ := am_let_eq h
    refine am_Ev.call hcd (a := 86) (s0 := (0, [(0, .ref 45)], [], am_SH, (f, g))) (q := ((some (.int p1.1)), am_SH, (p1.2, g))) (s1 := (7, [(0, .ref 0), (1, .int a0)], [.int p1.1], am_SH, (p1.2, g))) rfl rfl (by subst Ep1; exact xr_clearAll_45_ok (d)  f g) ?_
    exact am_Ev.cast (a := ((some (.int (p1.1, p1.2).1)), am_SH, ((p1.1, p1.2).2, g))) (by cases h; rfl) (am_Ev.ret hcd rfl)
  · refine am_Ev.f hcd (c := a0 = (-1)) (s1 := (8, [(0, .ref 0), (1, .int a0)], [], am_SH, (f, g))) rfl c2 ?_
    refine am_Ev.go hcd 3 (s' := (11, [(0, .ref 0), (1, .int a0)], [.int 99, .int 0, .int a0], am_SH, (f, g))) rfl ?_
    refine am_Ev.call hcd (a := 170) (s0 := (0, [(0, .int a0), (1, .int 0), (2, .int 99)], [], am_SH, (f, g))) (q := ((some (.int (am_b (x_within a0 0 99)))), am_SH, (f, g))) (s1 := (12, [(0, .ref 0), (1, .int a0)], [.int (am_b (x_within a0 0 99))], am_SH, (f, g))) rfl rfl (x_within_ok (d) a0 0 99 (f, g)) ?_
    rcases am_ite h with ⟨c12, h⟩ | ⟨c12, h⟩
    · refine am_Ev.f hcd (c := am_b (x_within a0 0 99) = 0) (s1 := (13, [(0, .ref 0), (1, .int a0)], [], am_SH, (f, g))) rfl (am_b_t c12) ?_
      refine am_Ev.go hcd 5 (s' := (18, [(0, .ref 0), (1, .int a0)], [.int 0, .int a0, .ref 45], am_SH, (f, g))) rfl ?_
      obtain ⟨p3, hp3, h⟩ := am_bind_some h
      refine am_Ev.call hcd (a := 85) (s0 := (0, [(0, .ref 45), (1, .int a0), (2, .int 0)], [], am_SH, (f, g))) (q := ((some (.int p3.1)), am_SH, (p3.2, g))) (s1 := (19, [(0, .ref 0), (1, .int a0)], [.int p3.1], am_SH, (p3.2, g))) rfl rfl (xr_append_45_ok (d) a0 0 f g p3 hp3) ?_
      refine am_Ev.go hcd 1 (s' := (21, [(0, .ref 0), (1, .int a0)], [.int p3.1], am_SH, (p3.2, g))) rfl ?_
      exact am_Ev.cast (a := ((some (.int (p3.1, p3.2).1)), am_SH, ((p3.1, p3.2).2, g))) (by cases h; rfl) (am_Ev.ret hcd rfl)
    · refine am_Ev.t hcd (c := am_b (x_within a0 0 99) = 0) (s1 := (20, [(0, .ref 0), (1, .int a0)], [], am_SH, (f, g))) rfl (am_b_f c12) ?_
      refine am_Ev.go hcd 1 (s' := (21, [(0, .ref 0), (1, .int a0)], [.int (-1)], am_SH, (f, g))) rfl ?_
      exact am_Ev.cast (a := ((some (.int ((-1), f).1)), am_SH, (((-1), f).2, g))) (by cases h; rfl) (am_Ev.ret hcd rfl)
set_option maxRecDepth 100000 in
set_option maxHeartbeats 4000000 in
theorem xm_steadyFrom_45_ok {sc : Nat × (Nat → Int32)} (d : Nat) (a0 : Int32) (a1 : Int32) (f g : (Nat → Nat → Int32)) (r : Int32) (h : xm_steadyFrom_45 a0 a1 f = some r) : am_Ev sc (d + 1) 67 (0, [(0, .ref 45), (1, .int a0), (2, .int a1)], [], am_SH, (f, g)) ((some (.int r)), am_SH, (f, g)) := by
  have hcd : am_code 67 = am_c67 := rfl
  unfold xm_steadyFrom_45 at h
  refine am_Ev.go hcd 3 (s' := (3, [(0, .ref 45), (1, .int a0), (2, .int a1)], [.int a0, .ref 46], am_SH, (f, g))) rfl ?_
  obtain ⟨c2, h⟩ := am_grd h
  refine am_Ev.t hcd (o := none) (c := am_in a0 24 = true) (s1 := (4, [(0, .ref 45), (1, .int a0), (2, .int a1)], [.int (f 46 a0.toNatClampNeg)], am_SH, (f, g))) rfl c2 ?_
  obtain ⟨t1, Et1, h⟩ := am_let_eq h
  refine am_Ev.go hcd 1 (s' := (5, [(0, .ref 45), (1, .int a0), (2, .int a1), (3, .int t1)], [], am_SH, (f, g))) (by subst Et1; exact rfl) ?_
  refine am_Ev.go hcd 4 (s' := (9, [(0, .ref 45), (1, .int a0), (2, .int a1), (3, .int t1), (4, .int t1), (5, .int a0)], [], am_SH, (f, g))) rfl ?_
  refine am_Ev.weak' (am_loop_ok (G := fun (s2 : Int32 × Int32 × Int32) => am_Ev sc (d + 1) 67 (9, [(0, .ref 45), (1, .int a0), (2, .int a1), (3, .int s2.1), (4, .int s2.2.1), (5, .int s2.2.2)], [], am_SH, (f, g)) ((some (.int r)), am_SH, (f, g))) (Z := fun (v : Int32) => (((some (.int v)), am_SH, (f, g)) : am_R) = ((some (.int r)), am_SH, (f, g))) ?_ am_F (t1, t1, a0) r h rfl) (am_sub_cons rfl (am_sub_cons rfl (am_sub_cons rfl (am_sub_cons rfl (am_sub_cons rfl (am_sub_cons rfl am_sub_nil)))))) rfl
  intro s2 q2 h hI2 hZ2
  show am_Ev sc (d + 1) 67 (9, [(0, .ref 45), (1, .int a0), (2, .int a1), (3, .int s2.1), (4, .int s2.2.1), (5, .int s2.2.2)], [], am_SH, (f, g)) ((some (.int r)), am_SH, (f, g))
  refine am_Ev.go hcd 3 (s' := (12, [(0, .ref 45), (1, .int a0), (2, .int a1), (3, .int s2.1), (4, .int s2.2.1), (5, .int s2.2.2)], [.int (f 45 0), .int s2.2.2], am_SH, (f, g))) rfl ?_
  rcases am_ite h with ⟨c11, h⟩ | ⟨c11, h⟩
  · refine am_Ev.t hcd (c := s2.2.2 < f 45 0) (s1 := (13, [(0, .ref 45), (1, .int a0), (2, .int a1), (3, .int s2.1), (4, .int s2.2.1), (5, .int s2.2.2)], [], am_SH, (f, g))) rfl c11 ?_
    refine am_Ev.go hcd 4 (s' := (17, [(0, .ref 45), (1, .int a0), (2, .int a1), (3, .int s2.1), (4, .int s2.2.1), (5, .int s2.2.2)], [.int s2.2.2, .ref 46, .int s2.1], am_SH, (f, g))) rfl ?_
    obtain ⟨c14, h⟩ := am_grd h
    refine am_Ev.t hcd (o := none) (c := am_in s2.2.2 24 = true) (s1 := (18, [(0, .ref 45), (1, .int a0), (2, .int a1), (3, .int s2.1), (4, .int s2.2.1), (5, .int s2.2.2)], [.int (f 46 s2.2.2.toNatClampNeg), .int s2.1], am_SH, (f, g))) rfl c14 ?_
    refine am_Ev.jdk hcd (s1 := (19, [(0, .ref 45), (1, .int a0), (2, .int a1), (3, .int s2.1), (4, .int s2.2.1), (5, .int s2.2.2)], [.int (am_min s2.1 (f 46 s2.2.2.toNatClampNeg))], am_SH, (f, g))) rfl ?_
    obtain ⟨t3, Et3, h⟩ := am_let_eq h
    refine am_Ev.go hcd 1 (s' := (20, [(0, .ref 45), (1, .int a0), (2, .int a1), (3, .int t3), (4, .int s2.2.1), (5, .int s2.2.2)], [], am_SH, (f, g))) (by subst Et3; exact rfl) ?_
    refine am_Ev.go hcd 4 (s' := (24, [(0, .ref 45), (1, .int a0), (2, .int a1), (3, .int t3), (4, .int s2.2.1), (5, .int s2.2.2)], [.int s2.2.2, .ref 46, .int s2.2.1], am_SH, (f, g))) rfl ?_
    obtain ⟨c20, h⟩ := am_grd h
    refine am_Ev.t hcd (o := none) (c := am_in s2.2.2 24 = true) (s1 := (25, [(0, .ref 45), (1, .int a0), (2, .int a1), (3, .int t3), (4, .int s2.2.1), (5, .int s2.2.2)], [.int (f 46 s2.2.2.toNatClampNeg), .int s2.2.1], am_SH, (f, g))) rfl c20 ?_
    refine am_Ev.jdk hcd (s1 := (26, [(0, .ref 45), (1, .int a0), (2, .int a1), (3, .int t3), (4, .int s2.2.1), (5, .int s2.2.2)], [.int (am_max s2.2.1 (f 46 s2.2.2.toNatClampNeg))], am_SH, (f, g))) rfl ?_
    obtain ⟨t4, Et4, h⟩ := am_let_eq h
    refine am_Ev.go hcd 1 (s' := (27, [(0, .ref 45), (1, .int a0), (2, .int a1), (3, .int t3), (4, .int t4), (5, .int s2.2.2)], [], am_SH, (f, g))) (by subst Et4; exact rfl) ?_
    refine am_Ev.go hcd 4 (s' := (31, [(0, .ref 45), (1, .int a0), (2, .int a1), (3, .int t3), (4, .int t4), (5, .int s2.2.2)], [.int a1, .int (t4 - t3)], am_SH, (f, g))) rfl ?_
    rcases am_ite h with ⟨c26, h⟩ | ⟨c26, h⟩
    · refine am_Ev.t hcd (c := a1 < (t4 - t3)) (s1 := (32, [(0, .ref 45), (1, .int a0), (2, .int a1), (3, .int t3), (4, .int t4), (5, .int s2.2.2)], [], am_SH, (f, g))) rfl c26 ?_
      refine am_Ev.go hcd 3 (s' := (35, [(0, .ref 45), (1, .int a0), (2, .int a1), (3, .int t3), (4, .int t4), (5, .int s2.2.2)], [.int (s2.2.2 - a0)], am_SH, (f, g))) rfl ?_
      exact am_Ev.cast (a := ((some (.int (s2.2.2 - a0))), am_SH, (f, g))) (hZ2 _ (Option.some.inj h).symm) (am_Ev.ret hcd rfl)
    · refine am_Ev.f hcd (c := a1 < (t4 - t3)) (s1 := (36, [(0, .ref 45), (1, .int a0), (2, .int a1), (3, .int t3), (4, .int t4), (5, .int s2.2.2)], [], am_SH, (f, g))) rfl c26 ?_
      obtain ⟨t5, Et5, h⟩ := am_let_eq h
      refine am_Ev.go hcd 1 (s' := (37, [(0, .ref 45), (1, .int a0), (2, .int a1), (3, .int t3), (4, .int t4), (5, .int t5)], [], am_SH, (f, g))) (by subst Et5; exact rfl) ?_
      refine am_Ev.go hcd 1 (s' := (9, [(0, .ref 45), (1, .int a0), (2, .int a1), (3, .int t3), (4, .int t4), (5, .int t5)], [], am_SH, (f, g))) rfl ?_
      exact am_Ev.weak' (hI2 (t3, t4, t5) (Option.some.inj h).symm) (am_sub_cons rfl (am_sub_cons rfl (am_sub_cons rfl (am_sub_cons rfl (am_sub_cons rfl (am_sub_cons rfl am_sub_nil)))))) rfl
  · refine am_Ev.f hcd (c := s2.2.2 < f 45 0) (s1 := (38, [(0, .ref 45), (1, .int a0), (2, .int a1), (3, .int s2.1), (4, .int s2.2.1), (5, .int s2.2.2)], [], am_SH, (f, g))) rfl c11 ?_
    refine am_Ev.go hcd 4 (s' := (42, [(0, .ref 45), (1, .int a0), (2, .int a1), (3, .int s2.1), (4, .int s2.2.1), (5, .int s2.2.2)], [.int ((f 45 0) - a0)], am_SH, (f, g))) rfl ?_
    exact am_Ev.cast (a := ((some (.int ((f 45 0) - a0))), am_SH, (f, g))) (hZ2 _ (Option.some.inj h).symm) (am_Ev.ret hcd rfl)
set_option maxRecDepth 100000 in
set_option maxHeartbeats 4000000 in
theorem xm_steadiest_45_ok {sc : Nat × (Nat → Int32)} (d : Nat) (a0 : Int32) (a1 : Int32) (f g : (Nat → Nat → Int32)) (r : Int32) (h : xm_steadiest_45 a0 a1 f = some r) : am_Ev sc (d + 2) 66 (0, [(0, .ref 143), (1, .ref 45), (2, .int a0), (3, .int a1)], [], am_SH, (f, g)) ((some (.int r)), am_SH, (f, g)) := by
  have hcd : am_code 66 = am_c66 := rfl
  unfold xm_steadiest_45 at h
  refine am_Ev.go hcd 6 (s' := (6, [(0, .ref 143), (1, .ref 45), (2, .int a0), (3, .int a1), (4, .int 0), (5, .int (-1)), (6, .int 0)], [], am_SH, (f, g))) rfl ?_
  obtain ⟨e5, he5, h⟩ := am_bind_some h
  have hK1 : (fun (e5 : Int32 × Int32) => am_Ev sc (d + 2) 66 (24, [(3, .int a1), (4, .int e5.1), (5, .int e5.2)], [], am_SH, (f, g)) ((some (.int r)), am_SH, (f, g))) e5 := by
    show am_Ev sc (d + 2) 66 (24, [(3, .int a1), (4, .int e5.1), (5, .int e5.2)], [], am_SH, (f, g)) ((some (.int r)), am_SH, (f, g))
    refine am_Ev.go hcd 1 (s' := (25, [(3, .int a1), (4, .int e5.1), (5, .int e5.2)], [.int a1], am_SH, (f, g))) rfl ?_
    rcases am_ite h with ⟨c6, h⟩ | ⟨c6, h⟩
    · refine am_Ev.t hcd (c := a1 = 0) (s1 := (26, [(3, .int a1), (4, .int e5.1), (5, .int e5.2)], [], am_SH, (f, g))) rfl c6 ?_
      refine am_Ev.go hcd 2 (s' := (29, [(3, .int a1), (4, .int e5.1), (5, .int e5.2)], [.int e5.1], am_SH, (f, g))) rfl ?_
      exact am_Ev.cast (a := ((some (.int e5.1)), am_SH, (f, g))) (by cases h; rfl) (am_Ev.ret hcd rfl)
    · refine am_Ev.f hcd (c := a1 = 0) (s1 := (28, [(3, .int a1), (4, .int e5.1), (5, .int e5.2)], [], am_SH, (f, g))) rfl c6 ?_
      refine am_Ev.go hcd 1 (s' := (29, [(3, .int a1), (4, .int e5.1), (5, .int e5.2)], [.int e5.2], am_SH, (f, g))) rfl ?_
      exact am_Ev.cast (a := ((some (.int e5.2)), am_SH, (f, g))) (by cases h; rfl) (am_Ev.ret hcd rfl)
  refine am_Ev.weak' (am_loop_ok (G := fun (s1 : Int32 × Int32 × Int32) => am_Ev sc (d + 2) 66 (6, [(1, .ref 45), (2, .int a0), (3, .int a1), (4, .int s1.1), (5, .int s1.2.1), (6, .int s1.2.2)], [], am_SH, (f, g)) ((some (.int r)), am_SH, (f, g))) (Z := fun (e5 : Int32 × Int32) => am_Ev sc (d + 2) 66 (24, [(3, .int a1), (4, .int e5.1), (5, .int e5.2)], [], am_SH, (f, g)) ((some (.int r)), am_SH, (f, g))) ?_ am_F (0, (-1), 0) e5 he5 hK1) (am_sub_cons rfl (am_sub_cons rfl (am_sub_cons rfl (am_sub_cons rfl (am_sub_cons rfl (am_sub_cons rfl am_sub_nil)))))) rfl
  intro s1 q1 h hI1 hZ1
  show am_Ev sc (d + 2) 66 (6, [(1, .ref 45), (2, .int a0), (3, .int a1), (4, .int s1.1), (5, .int s1.2.1), (6, .int s1.2.2)], [], am_SH, (f, g)) ((some (.int r)), am_SH, (f, g))
  refine am_Ev.go hcd 3 (s' := (9, [(1, .ref 45), (2, .int a0), (3, .int a1), (4, .int s1.1), (5, .int s1.2.1), (6, .int s1.2.2)], [.int (f 45 0), .int s1.2.2], am_SH, (f, g))) rfl ?_
  rcases am_ite h with ⟨c17, h⟩ | ⟨c17, h⟩
  · refine am_Ev.t hcd (c := s1.2.2 < f 45 0) (s1 := (10, [(1, .ref 45), (2, .int a0), (3, .int a1), (4, .int s1.1), (5, .int s1.2.1), (6, .int s1.2.2)], [], am_SH, (f, g))) rfl c17 ?_
    refine am_Ev.go hcd 3 (s' := (13, [(1, .ref 45), (2, .int a0), (3, .int a1), (4, .int s1.1), (5, .int s1.2.1), (6, .int s1.2.2)], [.int a0, .int s1.2.2, .ref 45], am_SH, (f, g))) rfl ?_
    obtain ⟨p2, hp2, h⟩ := am_bind_some h
    refine am_Ev.call hcd (a := 67) (s0 := (0, [(0, .ref 45), (1, .int s1.2.2), (2, .int a0)], [], am_SH, (f, g))) (q := ((some (.int p2)), am_SH, (f, g))) (s1 := (14, [(1, .ref 45), (2, .int a0), (3, .int a1), (4, .int s1.1), (5, .int s1.2.1), (6, .int s1.2.2)], [.int p2], am_SH, (f, g))) rfl rfl (xm_steadyFrom_45_ok (d) s1.2.2 a0 f g p2 hp2) ?_
    obtain ⟨t3, ht3, kt3⟩ := am_let_eq h
    have hKt3 : am_Ev sc (d + 2) 66 (22, [(1, .ref 45), (2, .int a0), (3, .int a1), (4, .int t3.1), (5, .int t3.2), (6, .int s1.2.2)], [], am_SH, (f, g)) ((some (.int r)), am_SH, (f, g)) := by
      have h := kt3
      obtain ⟨t4, Et4, h⟩ := am_let_eq h
      refine am_Ev.go hcd 1 (s' := (23, [(1, .ref 45), (2, .int a0), (3, .int a1), (4, .int t3.1), (5, .int t3.2), (6, .int t4)], [], am_SH, (f, g))) (by subst Et4; exact rfl) ?_
      refine am_Ev.go hcd 1 (s' := (6, [(1, .ref 45), (2, .int a0), (3, .int a1), (4, .int t3.1), (5, .int t3.2), (6, .int t4)], [], am_SH, (f, g))) rfl ?_
      exact am_Ev.weak' (hI1 (t3.1, t3.2, t4) (Option.some.inj h).symm) (am_sub_cons rfl (am_sub_cons rfl (am_sub_cons rfl (am_sub_cons rfl (am_sub_cons rfl (am_sub_cons rfl am_sub_nil)))))) rfl
    have hLt3 : ∀ tt, tt = t3 → am_Ev sc (d + 2) 66 (22, [(1, .ref 45), (2, .int a0), (3, .int a1), (4, .int tt.1), (5, .int tt.2), (6, .int s1.2.2)], [], am_SH, (f, g)) ((some (.int r)), am_SH, (f, g)) := fun tt htt => by subst htt; exact hKt3
    have h := ht3
    refine am_Ev.go hcd 3 (s' := (17, [(1, .ref 45), (2, .int a0), (3, .int a1), (4, .int s1.1), (5, .int s1.2.1), (6, .int s1.2.2), (7, .int p2)], [.int s1.1, .int p2], am_SH, (f, g))) rfl ?_
    rcases am_itv h with ⟨c32, h⟩ | ⟨c32, h⟩
    · refine am_Ev.t hcd (c := s1.1 < p2) (s1 := (18, [(1, .ref 45), (2, .int a0), (3, .int a1), (4, .int s1.1), (5, .int s1.2.1), (6, .int s1.2.2), (7, .int p2)], [], am_SH, (f, g))) rfl c32 ?_
      refine am_Ev.go hcd 4 (s' := (22, [(1, .ref 45), (2, .int a0), (3, .int a1), (4, .int p2), (5, .int s1.2.2), (6, .int s1.2.2), (7, .int p2)], [], am_SH, (f, g))) rfl ?_
      exact am_Ev.weak' (hLt3 (p2, s1.2.2) h.symm) (am_sub_cons rfl (am_sub_cons rfl (am_sub_cons rfl (am_sub_cons rfl (am_sub_cons rfl (am_sub_cons rfl am_sub_nil)))))) rfl
    · refine am_Ev.f hcd (c := s1.1 < p2) (s1 := (22, [(1, .ref 45), (2, .int a0), (3, .int a1), (4, .int s1.1), (5, .int s1.2.1), (6, .int s1.2.2), (7, .int p2)], [], am_SH, (f, g))) rfl c32 ?_
      exact am_Ev.weak' (hLt3 (s1.1, s1.2.1) h.symm) (am_sub_cons rfl (am_sub_cons rfl (am_sub_cons rfl (am_sub_cons rfl (am_sub_cons rfl (am_sub_cons rfl am_sub_nil)))))) rfl
  · refine am_Ev.f hcd (c := s1.2.2 < f 45 0) (s1 := (24, [(1, .ref 45), (2, .int a0), (3, .int a1), (4, .int s1.1), (5, .int s1.2.1), (6, .int s1.2.2)], [], am_SH, (f, g))) rfl c17 ?_
    exact am_Ev.weak' (hZ1 (s1.1, s1.2.1) (Option.some.inj h).symm) (am_sub_cons rfl (am_sub_cons rfl (am_sub_cons rfl am_sub_nil))) rfl
set_option maxRecDepth 100000 in
set_option maxHeartbeats 4000000 in
theorem x_steady_ok {sc : Nat × (Nat → Int32)} (d : Nat) (a0 : Int32) (a1 : Int32) (f g : (Nat → Nat → Int32)) (r : Int32) (h : x_steady a0 a1 f = some r) : am_Ev sc (d + 3) 161 (0, [(0, .ref 0), (1, .int a0), (2, .int a1)], [], am_SH, (f, g)) ((some (.int r)), am_SH, (f, g)) := by
  have hcd : am_code 161 = am_c161 := rfl
  unfold x_steady at h
  refine am_Ev.go hcd 3 (s' := (3, [(0, .ref 0), (1, .int a0), (2, .int a1)], [.int 99, .int 0, .int a0], am_SH, (f, g))) rfl ?_
  refine am_Ev.call hcd (a := 170) (s0 := (0, [(0, .int a0), (1, .int 0), (2, .int 99)], [], am_SH, (f, g))) (q := ((some (.int (am_b (x_within a0 0 99)))), am_SH, (f, g))) (s1 := (4, [(0, .ref 0), (1, .int a0), (2, .int a1)], [.int (am_b (x_within a0 0 99))], am_SH, (f, g))) rfl rfl (x_within_ok (d + 2) a0 0 99 (f, g)) ?_
  rcases am_ite h with ⟨c4, h⟩ | ⟨c4, h⟩
  · refine am_Ev.f hcd (c := am_b (x_within a0 0 99) = 0) (s1 := (5, [(0, .ref 0), (1, .int a0), (2, .int a1)], [], am_SH, (f, g))) rfl (am_b_t c4) ?_
    refine am_Ev.go hcd 3 (s' := (8, [(0, .ref 0), (1, .int a0), (2, .int a1)], [.int 1, .int 0, .int a1], am_SH, (f, g))) rfl ?_
    refine am_Ev.call hcd (a := 170) (s0 := (0, [(0, .int a1), (1, .int 0), (2, .int 1)], [], am_SH, (f, g))) (q := ((some (.int (am_b (x_within a1 0 1)))), am_SH, (f, g))) (s1 := (9, [(0, .ref 0), (1, .int a0), (2, .int a1)], [.int (am_b (x_within a1 0 1))], am_SH, (f, g))) rfl rfl (x_within_ok (d + 2) a1 0 1 (f, g)) ?_
    rcases am_ite h with ⟨c8, h⟩ | ⟨c8, h⟩
    · refine am_Ev.f hcd (c := am_b (x_within a1 0 1) = 0) (s1 := (12, [(0, .ref 0), (1, .int a0), (2, .int a1)], [], am_SH, (f, g))) rfl (am_b_t c8) ?_
      refine am_Ev.go hcd 7 (s' := (19, [(0, .ref 0), (1, .int a0), (2, .int a1)], [.int a1, .int a0, .ref 45, .ref 143], am_SH, (f, g))) rfl ?_
      obtain ⟨p3, hp3, h⟩ := am_bind_some h
      refine am_Ev.call hcd (a := 66) (s0 := (0, [(0, .ref 143), (1, .ref 45), (2, .int a0), (3, .int a1)], [], am_SH, (f, g))) (q := ((some (.int p3)), am_SH, (f, g))) (s1 := (20, [(0, .ref 0), (1, .int a0), (2, .int a1)], [.int p3], am_SH, (f, g))) rfl rfl (xm_steadiest_45_ok (d) a0 a1 f g p3 hp3) ?_
      exact am_Ev.cast (a := ((some (.int p3)), am_SH, (f, g))) (by cases h; rfl) (am_Ev.ret hcd rfl)
    · refine am_Ev.t hcd (c := am_b (x_within a1 0 1) = 0) (s1 := (10, [(0, .ref 0), (1, .int a0), (2, .int a1)], [], am_SH, (f, g))) rfl (am_b_f c8) ?_
      refine am_Ev.go hcd 1 (s' := (11, [(0, .ref 0), (1, .int a0), (2, .int a1)], [.int (-1)], am_SH, (f, g))) rfl ?_
      exact am_Ev.cast (a := ((some (.int (-1))), am_SH, (f, g))) (by cases h; rfl) (am_Ev.ret hcd rfl)
  · refine am_Ev.t hcd (c := am_b (x_within a0 0 99) = 0) (s1 := (10, [(0, .ref 0), (1, .int a0), (2, .int a1)], [], am_SH, (f, g))) rfl (am_b_f c4) ?_
    refine am_Ev.go hcd 1 (s' := (11, [(0, .ref 0), (1, .int a0), (2, .int a1)], [.int (-1)], am_SH, (f, g))) rfl ?_
    exact am_Ev.cast (a := ((some (.int (-1))), am_SH, (f, g))) (by cases h; rfl) (am_Ev.ret hcd rfl)
set_option maxRecDepth 100000 in
set_option maxHeartbeats 4000000 in
theorem xm_quietWays_ok {sc : Nat × (Nat → Int32)} (d : Nat) (a0 : Int32) (a1 : Int32) (f g : (Nat → Nat → Int32)) (r : Int32 × (Nat → Nat → Int32)) (h : xm_quietWays a0 a1 f = some r) : am_Ev sc (d) 68 (0, [(0, .ref 143), (1, .int a0), (2, .int a1)], [], am_SH, (f, g)) ((some (.int r.1)), am_SH, (r.2, g)) := by
  have hcd : am_code 68 = am_c68 := rfl
  unfold xm_quietWays at h
  refine am_Ev.go hcd 4 (s' := (4, [(0, .ref 143), (1, .int a0), (2, .int a1)], [.long ((1 : Int32).toInt64), .int 0, .ref 154], am_SH, (f, g))) rfl ?_
  obtain ⟨c2, h⟩ := am_grd h
  obtain ⟨f1, Ef1, h⟩ := am_let_eq h
  refine am_Ev.t hcd (o := none) (c := am_in 0 6 = true ∧ ((1 : Int32).toInt64).toInt32.toInt64 = ((1 : Int32).toInt64)) (s1 := (5, [(0, .ref 143), (1, .int a0), (2, .int a1)], [], am_SH, (f1, g))) (by subst Ef1; exact rfl) c2 ?_
  refine am_Ev.go hcd 2 (s' := (7, [(0, .ref 143), (1, .int a0), (2, .int a1), (3, .int 1)], [], am_SH, (f1, g))) rfl ?_
  obtain ⟨e5, he5, h⟩ := am_bind_some h
  have hK2 : (fun (e5 : (Nat → Nat → Int32)) => am_Ev sc (d) 68 (17, [(0, .ref 143), (1, .int a0), (2, .int a1)], [], am_SH, (e5, g)) ((some (.int r.1)), am_SH, (r.2, g))) e5 := by
    show am_Ev sc (d) 68 (17, [(0, .ref 143), (1, .int a0), (2, .int a1)], [], am_SH, (e5, g)) ((some (.int r.1)), am_SH, (r.2, g))
    obtain ⟨t6, Et6, h⟩ := am_let_eq h
    refine am_Ev.go hcd 2 (s' := (19, [(0, .ref 143), (1, .int a0), (2, .int a1), (3, .long t6)], [], am_SH, (e5, g))) (by subst Et6; exact rfl) ?_
    refine am_Ev.go hcd 2 (s' := (21, [(0, .ref 143), (1, .int a0), (2, .int a1), (3, .long t6), (5, .int 0)], [], am_SH, (e5, g))) rfl ?_
    refine am_Ev.weak' (am_loop_ok (G := fun (s7 : Int64 × Int32 × (Nat → Nat → Int32)) => am_Ev sc (d) 68 (21, [(0, .ref 143), (1, .int a0), (2, .int a1), (3, .long s7.1), (5, .int s7.2.1)], [], am_SH, (s7.2.2, g)) ((some (.int r.1)), am_SH, (r.2, g))) (Z := fun (v : Int32 × (Nat → Nat → Int32)) => (((some (.int v.1)), am_SH, (v.2, g)) : am_R) = ((some (.int r.1)), am_SH, (r.2, g))) ?_ am_F (t6, 0, e5) r h rfl) (am_sub_cons rfl (am_sub_cons rfl (am_sub_cons rfl (am_sub_cons rfl (am_sub_cons rfl am_sub_nil))))) rfl
    intro s7 q7 h hI7 hZ7
    show am_Ev sc (d) 68 (21, [(0, .ref 143), (1, .int a0), (2, .int a1), (3, .long s7.1), (5, .int s7.2.1)], [], am_SH, (s7.2.2, g)) ((some (.int r.1)), am_SH, (r.2, g))
    refine am_Ev.go hcd 2 (s' := (23, [(0, .ref 143), (1, .int a0), (2, .int a1), (3, .long s7.1), (5, .int s7.2.1)], [.int a0, .int s7.2.1], am_SH, (s7.2.2, g))) rfl ?_
    rcases am_ite h with ⟨c16, h⟩ | ⟨c16, h⟩
    · refine am_Ev.t hcd (c := s7.2.1 < a0) (s1 := (24, [(0, .ref 143), (1, .int a0), (2, .int a1), (3, .long s7.1), (5, .int s7.2.1)], [], am_SH, (s7.2.2, g))) rfl c16 ?_
      obtain ⟨t8, Et8, h⟩ := am_let_eq h
      refine am_Ev.go hcd 4 (s' := (28, [(0, .ref 143), (1, .int a0), (2, .int a1), (3, .long s7.1), (5, .int s7.2.1), (6, .int t8)], [], am_SH, (s7.2.2, g))) (by subst Et8; exact rfl) ?_
      obtain ⟨e12, he12, h⟩ := am_bind_some h
      have hK9 : (fun (e12 : (Nat → Nat → Int32)) => am_Ev sc (d) 68 (42, [(0, .ref 143), (1, .int a0), (2, .int a1), (3, .long s7.1), (5, .int s7.2.1)], [], am_SH, (e12, g)) ((some (.int r.1)), am_SH, (r.2, g))) e12 := by
        show am_Ev sc (d) 68 (42, [(0, .ref 143), (1, .int a0), (2, .int a1), (3, .long s7.1), (5, .int s7.2.1)], [], am_SH, (e12, g)) ((some (.int r.1)), am_SH, (r.2, g))
        refine am_Ev.go hcd 4 (s' := (46, [(0, .ref 143), (1, .int a0), (2, .int a1), (3, .long s7.1), (5, .int s7.2.1)], [.long s7.1, .int 0, .ref 154], am_SH, (e12, g))) rfl ?_
        obtain ⟨c24, h⟩ := am_grd h
        obtain ⟨f13, Ef13, h⟩ := am_let_eq h
        refine am_Ev.t hcd (o := none) (c := am_in 0 6 = true ∧ s7.1.toInt32.toInt64 = s7.1) (s1 := (47, [(0, .ref 143), (1, .int a0), (2, .int a1), (3, .long s7.1), (5, .int s7.2.1)], [], am_SH, (f13, g))) (by subst Ef13; exact rfl) c24 ?_
        obtain ⟨t14, Et14, h⟩ := am_let_eq h
        refine am_Ev.go hcd 2 (s' := (49, [(0, .ref 143), (1, .int a0), (2, .int a1), (3, .long t14), (5, .int s7.2.1)], [], am_SH, (f13, g))) (by subst Et14; exact rfl) ?_
        refine am_Ev.go hcd 2 (s' := (51, [(0, .ref 143), (1, .int a0), (2, .int a1), (3, .long t14), (5, .int s7.2.1), (6, .int 0)], [], am_SH, (f13, g))) rfl ?_
        obtain ⟨e18, he18, h⟩ := am_bind_some h
        have hK15 : (fun (e18 : Int64) => am_Ev sc (d) 68 (65, [(0, .ref 143), (1, .int a0), (2, .int a1), (3, .long e18), (5, .int s7.2.1)], [], am_SH, (f13, g)) ((some (.int r.1)), am_SH, (r.2, g))) e18 := by
          show am_Ev sc (d) 68 (65, [(0, .ref 143), (1, .int a0), (2, .int a1), (3, .long e18), (5, .int s7.2.1)], [], am_SH, (f13, g)) ((some (.int r.1)), am_SH, (r.2, g))
          obtain ⟨t19, Et19, h⟩ := am_let_eq h
          refine am_Ev.go hcd 1 (s' := (66, [(0, .ref 143), (1, .int a0), (2, .int a1), (3, .long e18), (5, .int t19)], [], am_SH, (f13, g))) (by subst Et19; exact rfl) ?_
          refine am_Ev.go hcd 1 (s' := (21, [(0, .ref 143), (1, .int a0), (2, .int a1), (3, .long e18), (5, .int t19)], [], am_SH, (f13, g))) rfl ?_
          exact am_Ev.weak' (hI7 (e18, t19, f13) (Option.some.inj h).symm) (am_sub_cons rfl (am_sub_cons rfl (am_sub_cons rfl (am_sub_cons rfl (am_sub_cons rfl am_sub_nil))))) rfl
        refine am_Ev.weak' (am_loop_ok (G := fun (s15 : Int64 × Int32) => am_Ev sc (d) 68 (51, [(0, .ref 143), (1, .int a0), (2, .int a1), (3, .long s15.1), (5, .int s7.2.1), (6, .int s15.2)], [], am_SH, (f13, g)) ((some (.int r.1)), am_SH, (r.2, g))) (Z := fun (e18 : Int64) => am_Ev sc (d) 68 (65, [(0, .ref 143), (1, .int a0), (2, .int a1), (3, .long e18), (5, .int s7.2.1)], [], am_SH, (f13, g)) ((some (.int r.1)), am_SH, (r.2, g))) ?_ am_F (t14, 0) e18 he18 hK15) (am_sub_cons rfl (am_sub_cons rfl (am_sub_cons rfl (am_sub_cons rfl (am_sub_cons rfl (am_sub_cons rfl am_sub_nil)))))) rfl
        intro s15 q15 h hI15 hZ15
        show am_Ev sc (d) 68 (51, [(0, .ref 143), (1, .int a0), (2, .int a1), (3, .long s15.1), (5, .int s7.2.1), (6, .int s15.2)], [], am_SH, (f13, g)) ((some (.int r.1)), am_SH, (r.2, g))
        refine am_Ev.go hcd 2 (s' := (53, [(0, .ref 143), (1, .int a0), (2, .int a1), (3, .long s15.1), (5, .int s7.2.1), (6, .int s15.2)], [.int a1, .int s15.2], am_SH, (f13, g))) rfl ?_
        rcases am_ite h with ⟨c41, h⟩ | ⟨c41, h⟩
        · refine am_Ev.t hcd (c := s15.2 < a1) (s1 := (54, [(0, .ref 143), (1, .int a0), (2, .int a1), (3, .long s15.1), (5, .int s7.2.1), (6, .int s15.2)], [], am_SH, (f13, g))) rfl c41 ?_
          refine am_Ev.go hcd 4 (s' := (58, [(0, .ref 143), (1, .int a0), (2, .int a1), (3, .long s15.1), (5, .int s7.2.1), (6, .int s15.2)], [.int s15.2, .ref 154, .long s15.1], am_SH, (f13, g))) rfl ?_
          obtain ⟨c44, h⟩ := am_grd h
          refine am_Ev.t hcd (o := none) (c := am_in s15.2 6 = true) (s1 := (59, [(0, .ref 143), (1, .int a0), (2, .int a1), (3, .long s15.1), (5, .int s7.2.1), (6, .int s15.2)], [.long ((f13 154 s15.2.toNatClampNeg).toInt64), .long s15.1], am_SH, (f13, g))) rfl c44 ?_
          obtain ⟨t16, Et16, h⟩ := am_let_eq h
          refine am_Ev.go hcd 4 (s' := (63, [(0, .ref 143), (1, .int a0), (2, .int a1), (3, .long t16), (5, .int s7.2.1), (6, .int s15.2)], [], am_SH, (f13, g))) (by subst Et16; exact rfl) ?_
          obtain ⟨t17, Et17, h⟩ := am_let_eq h
          refine am_Ev.go hcd 1 (s' := (64, [(0, .ref 143), (1, .int a0), (2, .int a1), (3, .long t16), (5, .int s7.2.1), (6, .int t17)], [], am_SH, (f13, g))) (by subst Et17; exact rfl) ?_
          refine am_Ev.go hcd 1 (s' := (51, [(0, .ref 143), (1, .int a0), (2, .int a1), (3, .long t16), (5, .int s7.2.1), (6, .int t17)], [], am_SH, (f13, g))) rfl ?_
          exact am_Ev.weak' (hI15 (t16, t17) (Option.some.inj h).symm) (am_sub_cons rfl (am_sub_cons rfl (am_sub_cons rfl (am_sub_cons rfl (am_sub_cons rfl (am_sub_cons rfl am_sub_nil)))))) rfl
        · refine am_Ev.f hcd (c := s15.2 < a1) (s1 := (65, [(0, .ref 143), (1, .int a0), (2, .int a1), (3, .long s15.1), (5, .int s7.2.1), (6, .int s15.2)], [], am_SH, (f13, g))) rfl c41 ?_
          exact am_Ev.weak' (hZ15 s15.1 (Option.some.inj h).symm) (am_sub_cons rfl (am_sub_cons rfl (am_sub_cons rfl (am_sub_cons rfl (am_sub_cons rfl am_sub_nil))))) rfl
      refine am_Ev.weak' (am_loop_ok (G := fun (s9 : Int32 × (Nat → Nat → Int32)) => am_Ev sc (d) 68 (28, [(0, .ref 143), (1, .int a0), (2, .int a1), (3, .long s7.1), (5, .int s7.2.1), (6, .int s9.1)], [], am_SH, (s9.2, g)) ((some (.int r.1)), am_SH, (r.2, g))) (Z := fun (e12 : (Nat → Nat → Int32)) => am_Ev sc (d) 68 (42, [(0, .ref 143), (1, .int a0), (2, .int a1), (3, .long s7.1), (5, .int s7.2.1)], [], am_SH, (e12, g)) ((some (.int r.1)), am_SH, (r.2, g))) ?_ am_F (t8, s7.2.2) e12 he12 hK9) (am_sub_cons rfl (am_sub_cons rfl (am_sub_cons rfl (am_sub_cons rfl (am_sub_cons rfl (am_sub_cons rfl am_sub_nil)))))) rfl
      intro s9 q9 h hI9 hZ9
      show am_Ev sc (d) 68 (28, [(0, .ref 143), (1, .int a0), (2, .int a1), (3, .long s7.1), (5, .int s7.2.1), (6, .int s9.1)], [], am_SH, (s9.2, g)) ((some (.int r.1)), am_SH, (r.2, g))
      refine am_Ev.go hcd 1 (s' := (29, [(0, .ref 143), (1, .int a0), (2, .int a1), (3, .long s7.1), (5, .int s7.2.1), (6, .int s9.1)], [.int s9.1], am_SH, (s9.2, g))) rfl ?_
      rcases am_ite h with ⟨c58, h⟩ | ⟨c58, h⟩
      · refine am_Ev.t hcd (c := 0 < s9.1) (s1 := (30, [(0, .ref 143), (1, .int a0), (2, .int a1), (3, .long s7.1), (5, .int s7.2.1), (6, .int s9.1)], [], am_SH, (s9.2, g))) rfl c58 ?_
        refine am_Ev.go hcd 8 (s' := (38, [(0, .ref 143), (1, .int a0), (2, .int a1), (3, .long s7.1), (5, .int s7.2.1), (6, .int s9.1)], [.int (s9.1 - 1), .ref 154, .int s9.1, .ref 154], am_SH, (s9.2, g))) rfl ?_
        obtain ⟨c61, h⟩ := am_grd h
        refine am_Ev.t hcd (o := none) (c := am_in (s9.1 - 1) 6 = true) (s1 := (39, [(0, .ref 143), (1, .int a0), (2, .int a1), (3, .long s7.1), (5, .int s7.2.1), (6, .int s9.1)], [.long ((s9.2 154 (s9.1 - 1).toNatClampNeg).toInt64), .int s9.1, .ref 154], am_SH, (s9.2, g))) rfl c61 ?_
        obtain ⟨c64, h⟩ := am_grd h
        obtain ⟨f10, Ef10, h⟩ := am_let_eq h
        refine am_Ev.t hcd (o := none) (c := am_in s9.1 6 = true ∧ ((s9.2 154 (s9.1 - 1).toNatClampNeg).toInt64).toInt32.toInt64 = ((s9.2 154 (s9.1 - 1).toNatClampNeg).toInt64)) (s1 := (40, [(0, .ref 143), (1, .int a0), (2, .int a1), (3, .long s7.1), (5, .int s7.2.1), (6, .int s9.1)], [], am_SH, (f10, g))) (by subst Ef10; exact rfl) c64 ?_
        obtain ⟨t11, Et11, h⟩ := am_let_eq h
        refine am_Ev.go hcd 1 (s' := (41, [(0, .ref 143), (1, .int a0), (2, .int a1), (3, .long s7.1), (5, .int s7.2.1), (6, .int t11)], [], am_SH, (f10, g))) (by subst Et11; exact rfl) ?_
        refine am_Ev.go hcd 1 (s' := (28, [(0, .ref 143), (1, .int a0), (2, .int a1), (3, .long s7.1), (5, .int s7.2.1), (6, .int t11)], [], am_SH, (f10, g))) rfl ?_
        exact am_Ev.weak' (hI9 (t11, f10) (Option.some.inj h).symm) (am_sub_cons rfl (am_sub_cons rfl (am_sub_cons rfl (am_sub_cons rfl (am_sub_cons rfl (am_sub_cons rfl am_sub_nil)))))) rfl
      · refine am_Ev.f hcd (c := 0 < s9.1) (s1 := (42, [(0, .ref 143), (1, .int a0), (2, .int a1), (3, .long s7.1), (5, .int s7.2.1), (6, .int s9.1)], [], am_SH, (s9.2, g))) rfl c58 ?_
        exact am_Ev.weak' (hZ9 s9.2 (Option.some.inj h).symm) (am_sub_cons rfl (am_sub_cons rfl (am_sub_cons rfl (am_sub_cons rfl (am_sub_cons rfl am_sub_nil))))) rfl
    · refine am_Ev.f hcd (c := s7.2.1 < a0) (s1 := (67, [(0, .ref 143), (1, .int a0), (2, .int a1), (3, .long s7.1), (5, .int s7.2.1)], [], am_SH, (s7.2.2, g))) rfl c16 ?_
      refine am_Ev.go hcd 2 (s' := (69, [(0, .ref 143), (1, .int a0), (2, .int a1), (3, .long s7.1), (5, .int s7.2.1)], [.int (s7.1.toInt32)], am_SH, (s7.2.2, g))) rfl ?_
      exact am_Ev.cast (a := ((some (.int ((s7.1.toInt32), s7.2.2).1)), am_SH, (((s7.1.toInt32), s7.2.2).2, g))) (hZ7 _ (Option.some.inj h).symm) (am_Ev.ret hcd rfl)
  refine am_Ev.weak' (am_loop_ok (G := fun (s2 : Int32 × (Nat → Nat → Int32)) => am_Ev sc (d) 68 (7, [(0, .ref 143), (1, .int a0), (2, .int a1), (3, .int s2.1)], [], am_SH, (s2.2, g)) ((some (.int r.1)), am_SH, (r.2, g))) (Z := fun (e5 : (Nat → Nat → Int32)) => am_Ev sc (d) 68 (17, [(0, .ref 143), (1, .int a0), (2, .int a1)], [], am_SH, (e5, g)) ((some (.int r.1)), am_SH, (r.2, g))) ?_ am_F (1, f1) e5 he5 hK2) (am_sub_cons rfl (am_sub_cons rfl (am_sub_cons rfl (am_sub_cons rfl am_sub_nil)))) rfl
  intro s2 q2 h hI2 hZ2
  show am_Ev sc (d) 68 (7, [(0, .ref 143), (1, .int a0), (2, .int a1), (3, .int s2.1)], [], am_SH, (s2.2, g)) ((some (.int r.1)), am_SH, (r.2, g))
  refine am_Ev.go hcd 2 (s' := (9, [(0, .ref 143), (1, .int a0), (2, .int a1), (3, .int s2.1)], [.int a1, .int s2.1], am_SH, (s2.2, g))) rfl ?_
  rcases am_ite h with ⟨c79, h⟩ | ⟨c79, h⟩
  · refine am_Ev.t hcd (c := s2.1 < a1) (s1 := (10, [(0, .ref 143), (1, .int a0), (2, .int a1), (3, .int s2.1)], [], am_SH, (s2.2, g))) rfl c79 ?_
    refine am_Ev.go hcd 4 (s' := (14, [(0, .ref 143), (1, .int a0), (2, .int a1), (3, .int s2.1)], [.long ((0 : Int32).toInt64), .int s2.1, .ref 154], am_SH, (s2.2, g))) rfl ?_
    obtain ⟨c82, h⟩ := am_grd h
    obtain ⟨f3, Ef3, h⟩ := am_let_eq h
    refine am_Ev.t hcd (o := none) (c := am_in s2.1 6 = true ∧ ((0 : Int32).toInt64).toInt32.toInt64 = ((0 : Int32).toInt64)) (s1 := (15, [(0, .ref 143), (1, .int a0), (2, .int a1), (3, .int s2.1)], [], am_SH, (f3, g))) (by subst Ef3; exact rfl) c82 ?_
    obtain ⟨t4, Et4, h⟩ := am_let_eq h
    refine am_Ev.go hcd 1 (s' := (16, [(0, .ref 143), (1, .int a0), (2, .int a1), (3, .int t4)], [], am_SH, (f3, g))) (by subst Et4; exact rfl) ?_
    refine am_Ev.go hcd 1 (s' := (7, [(0, .ref 143), (1, .int a0), (2, .int a1), (3, .int t4)], [], am_SH, (f3, g))) rfl ?_
    exact am_Ev.weak' (hI2 (t4, f3) (Option.some.inj h).symm) (am_sub_cons rfl (am_sub_cons rfl (am_sub_cons rfl (am_sub_cons rfl am_sub_nil)))) rfl
  · refine am_Ev.f hcd (c := s2.1 < a1) (s1 := (17, [(0, .ref 143), (1, .int a0), (2, .int a1), (3, .int s2.1)], [], am_SH, (s2.2, g))) rfl c79 ?_
    exact am_Ev.weak' (hZ2 s2.2 (Option.some.inj h).symm) (am_sub_cons rfl (am_sub_cons rfl (am_sub_cons rfl am_sub_nil))) rfl
set_option maxRecDepth 100000 in
set_option maxHeartbeats 4000000 in
theorem x_quiet_ok {sc : Nat × (Nat → Int32)} (d : Nat) (a0 : Int32) (a1 : Int32) (f g : (Nat → Nat → Int32)) (r : Int32 × (Nat → Nat → Int32)) (h : x_quiet a0 a1 f = some r) : am_Ev sc (d + 1) 162 (0, [(0, .ref 0), (1, .int a0), (2, .int a1)], [], am_SH, (f, g)) ((some (.int r.1)), am_SH, (r.2, g)) := by
  have hcd : am_code 162 = am_c162 := rfl
  unfold x_quiet at h
  refine am_Ev.go hcd 3 (s' := (3, [(0, .ref 0), (1, .int a0), (2, .int a1)], [.int 60, .int 0, .int a0], am_SH, (f, g))) rfl ?_
  refine am_Ev.call hcd (a := 170) (s0 := (0, [(0, .int a0), (1, .int 0), (2, .int 60)], [], am_SH, (f, g))) (q := ((some (.int (am_b (x_within a0 0 60)))), am_SH, (f, g))) (s1 := (4, [(0, .ref 0), (1, .int a0), (2, .int a1)], [.int (am_b (x_within a0 0 60))], am_SH, (f, g))) rfl rfl (x_within_ok (d) a0 0 60 (f, g)) ?_
  rcases am_ite h with ⟨c4, h⟩ | ⟨c4, h⟩
  · refine am_Ev.f hcd (c := am_b (x_within a0 0 60) = 0) (s1 := (5, [(0, .ref 0), (1, .int a0), (2, .int a1)], [], am_SH, (f, g))) rfl (am_b_t c4) ?_
    refine am_Ev.go hcd 3 (s' := (8, [(0, .ref 0), (1, .int a0), (2, .int a1)], [.int 5, .int 1, .int a1], am_SH, (f, g))) rfl ?_
    refine am_Ev.call hcd (a := 170) (s0 := (0, [(0, .int a1), (1, .int 1), (2, .int 5)], [], am_SH, (f, g))) (q := ((some (.int (am_b (x_within a1 1 5)))), am_SH, (f, g))) (s1 := (9, [(0, .ref 0), (1, .int a0), (2, .int a1)], [.int (am_b (x_within a1 1 5))], am_SH, (f, g))) rfl rfl (x_within_ok (d) a1 1 5 (f, g)) ?_
    rcases am_ite h with ⟨c8, h⟩ | ⟨c8, h⟩
    · refine am_Ev.f hcd (c := am_b (x_within a1 1 5) = 0) (s1 := (12, [(0, .ref 0), (1, .int a0), (2, .int a1)], [], am_SH, (f, g))) rfl (am_b_t c8) ?_
      refine am_Ev.go hcd 4 (s' := (16, [(0, .ref 0), (1, .int a0), (2, .int a1)], [.int a1, .int a0, .ref 143], am_SH, (f, g))) rfl ?_
      obtain ⟨p3, hp3, h⟩ := am_bind_some h
      refine am_Ev.call hcd (a := 68) (s0 := (0, [(0, .ref 143), (1, .int a0), (2, .int a1)], [], am_SH, (f, g))) (q := ((some (.int p3.1)), am_SH, (p3.2, g))) (s1 := (17, [(0, .ref 0), (1, .int a0), (2, .int a1)], [.int p3.1], am_SH, (p3.2, g))) rfl rfl (xm_quietWays_ok (d) a0 a1 f g p3 hp3) ?_
      exact am_Ev.cast (a := ((some (.int (p3.1, p3.2).1)), am_SH, ((p3.1, p3.2).2, g))) (by cases h; rfl) (am_Ev.ret hcd rfl)
    · refine am_Ev.t hcd (c := am_b (x_within a1 1 5) = 0) (s1 := (10, [(0, .ref 0), (1, .int a0), (2, .int a1)], [], am_SH, (f, g))) rfl (am_b_f c8) ?_
      refine am_Ev.go hcd 1 (s' := (11, [(0, .ref 0), (1, .int a0), (2, .int a1)], [.int (-1)], am_SH, (f, g))) rfl ?_
      exact am_Ev.cast (a := ((some (.int ((-1), f).1)), am_SH, (((-1), f).2, g))) (by cases h; rfl) (am_Ev.ret hcd rfl)
  · refine am_Ev.t hcd (c := am_b (x_within a0 0 60) = 0) (s1 := (10, [(0, .ref 0), (1, .int a0), (2, .int a1)], [], am_SH, (f, g))) rfl (am_b_f c4) ?_
    refine am_Ev.go hcd 1 (s' := (11, [(0, .ref 0), (1, .int a0), (2, .int a1)], [.int (-1)], am_SH, (f, g))) rfl ?_
    exact am_Ev.cast (a := ((some (.int ((-1), f).1)), am_SH, (((-1), f).2, g))) (by cases h; rfl) (am_Ev.ret hcd rfl)
set_option maxRecDepth 100000 in
set_option maxHeartbeats 4000000 in
theorem xr_clearAll_48_ok {sc : Nat × (Nat → Int32)} (d : Nat)  (f g : (Nat → Nat → Int32)) : am_Ev sc (d) 86 (0, [(0, .ref 48)], [], am_SH, (f, g)) ((some (.int (xr_clearAll_48  f).1)), am_SH, ((xr_clearAll_48  f).2, g)) := by
  have hcd : am_code 86 = am_c86 := rfl
  obtain ⟨r, h⟩ : ∃ r, r = xr_clearAll_48  f := ⟨_, rfl⟩
  rw [← h]
  unfold xr_clearAll_48 at h
  obtain ⟨f1, Ef1, h⟩ := am_let_eq' h
  refine am_Ev.go hcd 3 (s' := (3, [(0, .ref 48)], [], am_SH, (f1, g))) (by subst Ef1; exact rfl) ?_
  refine am_Ev.go hcd 2 (s' := (5, [(0, .ref 48)], [.int (f1 48 0)], am_SH, (f1, g))) rfl ?_
  exact am_Ev.cast (a := ((some (.int (f1 48 0, f1).1)), am_SH, ((f1 48 0, f1).2, g))) (by subst h; rfl) (am_Ev.ret hcd rfl)
set_option maxRecDepth 100000 in
set_option maxHeartbeats 4000000 in
theorem xr_append_48_ok {sc : Nat × (Nat → Int32)} (d : Nat) (a0 : Int32) (a1 : Int32) (f g : (Nat → Nat → Int32)) (r : Int32 × (Nat → Nat → Int32)) (h : xr_append_48 a0 a1 f = some r) : am_Ev sc (d) 85 (0, [(0, .ref 48), (1, .int a0), (2, .int a1)], [], am_SH, (f, g)) ((some (.int r.1)), am_SH, (r.2, g)) := by
  have hcd : am_code 85 = am_c85 := rfl
  unfold xr_append_48 at h
  refine am_Ev.go hcd 5 (s' := (5, [(0, .ref 48), (1, .int a0), (2, .int a1)], [.int (nI 8), .int (f 48 0)], am_SH, (f, g))) rfl ?_
  rcases am_ite h with ⟨c2, h⟩ | ⟨c2, h⟩
  · refine am_Ev.t hcd (c := f 48 0 < (nI 8)) (s1 := (8, [(0, .ref 48), (1, .int a0), (2, .int a1)], [], am_SH, (f, g))) rfl c2 ?_
    refine am_Ev.go hcd 5 (s' := (13, [(0, .ref 48), (1, .int a0), (2, .int a1)], [.int a0, .int (f 48 0), .ref 49], am_SH, (f, g))) rfl ?_
    obtain ⟨c5, h⟩ := am_grd h
    obtain ⟨f1, Ef1, h⟩ := am_let_eq h
    refine am_Ev.t hcd (o := none) (c := am_in (f 48 0) 8 = true) (s1 := (14, [(0, .ref 48), (1, .int a0), (2, .int a1)], [], am_SH, (f1, g))) (by subst Ef1; exact rfl) c5 ?_
    refine am_Ev.go hcd 5 (s' := (19, [(0, .ref 48), (1, .int a0), (2, .int a1)], [.int a1, .int (f1 48 0), .ref 50], am_SH, (f1, g))) rfl ?_
    obtain ⟨c9, h⟩ := am_grd h
    obtain ⟨f2, Ef2, h⟩ := am_let_eq h
    refine am_Ev.t hcd (o := none) (c := am_in (f1 48 0) 8 = true) (s1 := (20, [(0, .ref 48), (1, .int a0), (2, .int a1)], [], am_SH, (f2, g))) (by subst Ef2; exact rfl) c9 ?_
    obtain ⟨f3, Ef3, h⟩ := am_let_eq h
    refine am_Ev.go hcd 6 (s' := (26, [(0, .ref 48), (1, .int a0), (2, .int a1)], [], am_SH, (f3, g))) (by subst Ef3; exact rfl) ?_
    refine am_Ev.go hcd 2 (s' := (28, [(0, .ref 48), (1, .int a0), (2, .int a1)], [.int (f3 48 0)], am_SH, (f3, g))) rfl ?_
    exact am_Ev.cast (a := ((some (.int (f3 48 0, f3).1)), am_SH, ((f3 48 0, f3).2, g))) (by cases h; rfl) (am_Ev.ret hcd rfl)
  · refine am_Ev.f hcd (c := f 48 0 < (nI 8)) (s1 := (6, [(0, .ref 48), (1, .int a0), (2, .int a1)], [], am_SH, (f, g))) rfl c2 ?_
    refine am_Ev.go hcd 1 (s' := (7, [(0, .ref 48), (1, .int a0), (2, .int a1)], [.int (-1)], am_SH, (f, g))) rfl ?_
    exact am_Ev.cast (a := ((some (.int ((-1), f).1)), am_SH, (((-1), f).2, g))) (by cases h; rfl) (am_Ev.ret hcd rfl)
set_option maxRecDepth 100000 in
set_option maxHeartbeats 4000000 in
theorem x_dog_ok {sc : Nat × (Nat → Int32)} (d : Nat) (a0 : Int32) (f g : (Nat → Nat → Int32)) (r : Int32 × (Nat → Nat → Int32)) (h : x_dog a0 f = some r) : am_Ev sc (d + 1) 163 (0, [(0, .ref 0), (1, .int a0)], [], am_SH, (f, g)) ((some (.int r.1)), am_SH, (r.2, g)) := by
  have hcd : am_code 163 = am_c163 := rfl
  unfold x_dog at h
  refine am_Ev.go hcd 2 (s' := (2, [(0, .ref 0), (1, .int a0)], [.int (-1), .int a0], am_SH, (f, g))) rfl ?_
  rcases am_ite h with ⟨c2, h⟩ | ⟨c2, h⟩
  · refine am_Ev.t hcd (c := a0 = (-1)) (s1 := (3, [(0, .ref 0), (1, .int a0)], [], am_SH, (f, g))) rfl c2 ?_
    refine am_Ev.go hcd 3 (s' := (6, [(0, .ref 0), (1, .int a0)], [.ref 48], am_SH, (f, g))) rfl ?_
    obtain ⟨p1, Ep1, h⟩ := am_let_eq h
    refine am_Ev.call hcd (a := 86) (s0 := (0, [(0, .ref 48)], [], am_SH, (f, g))) (q := ((some (.int p1.1)), am_SH, (p1.2, g))) (s1 := (7, [(0, .ref 0), (1, .int a0)], [.int p1.1], am_SH, (p1.2, g))) rfl rfl (by subst Ep1; exact xr_clearAll_48_ok (d)  f g) ?_
    exact am_Ev.cast (a := ((some (.int (p1.1, p1.2).1)), am_SH, ((p1.1, p1.2).2, g))) (by cases h; rfl) (am_Ev.ret hcd rfl)
  · refine am_Ev.f hcd (c := a0 = (-1)) (s1 := (8, [(0, .ref 0), (1, .int a0)], [], am_SH, (f, g))) rfl c2 ?_
    refine am_Ev.go hcd 3 (s' := (11, [(0, .ref 0), (1, .int a0)], [.int 9999, .int 1, .int a0], am_SH, (f, g))) rfl ?_
    refine am_Ev.call hcd (a := 170) (s0 := (0, [(0, .int a0), (1, .int 1), (2, .int 9999)], [], am_SH, (f, g))) (q := ((some (.int (am_b (x_within a0 1 9999)))), am_SH, (f, g))) (s1 := (12, [(0, .ref 0), (1, .int a0)], [.int (am_b (x_within a0 1 9999))], am_SH, (f, g))) rfl rfl (x_within_ok (d) a0 1 9999 (f, g)) ?_
    rcases am_ite h with ⟨c12, h⟩ | ⟨c12, h⟩
    · refine am_Ev.f hcd (c := am_b (x_within a0 1 9999) = 0) (s1 := (13, [(0, .ref 0), (1, .int a0)], [], am_SH, (f, g))) rfl (am_b_t c12) ?_
      refine am_Ev.go hcd 5 (s' := (18, [(0, .ref 0), (1, .int a0)], [.int 0, .int a0, .ref 48], am_SH, (f, g))) rfl ?_
      obtain ⟨p3, hp3, h⟩ := am_bind_some h
      refine am_Ev.call hcd (a := 85) (s0 := (0, [(0, .ref 48), (1, .int a0), (2, .int 0)], [], am_SH, (f, g))) (q := ((some (.int p3.1)), am_SH, (p3.2, g))) (s1 := (19, [(0, .ref 0), (1, .int a0)], [.int p3.1], am_SH, (p3.2, g))) rfl rfl (xr_append_48_ok (d) a0 0 f g p3 hp3) ?_
      refine am_Ev.go hcd 1 (s' := (21, [(0, .ref 0), (1, .int a0)], [.int p3.1], am_SH, (p3.2, g))) rfl ?_
      exact am_Ev.cast (a := ((some (.int (p3.1, p3.2).1)), am_SH, ((p3.1, p3.2).2, g))) (by cases h; rfl) (am_Ev.ret hcd rfl)
    · refine am_Ev.t hcd (c := am_b (x_within a0 1 9999) = 0) (s1 := (20, [(0, .ref 0), (1, .int a0)], [], am_SH, (f, g))) rfl (am_b_f c12) ?_
      refine am_Ev.go hcd 1 (s' := (21, [(0, .ref 0), (1, .int a0)], [.int (-1)], am_SH, (f, g))) rfl ?_
      exact am_Ev.cast (a := ((some (.int ((-1), f).1)), am_SH, (((-1), f).2, g))) (by cases h; rfl) (am_Ev.ret hcd rfl)
set_option maxRecDepth 100000 in
set_option maxHeartbeats 4000000 in
theorem xm_letterCount_ok {sc : Nat × (Nat → Int32)} (d : Nat) (a0 : Int32) (hp : am_H) : am_Ev sc (d) 70 (0, [(0, .int a0)], [], am_SH, hp) ((some (.int (xm_letterCount a0))), am_SH, hp) := by
  have hcd : am_code 70 = am_c70 := rfl
  obtain ⟨r, h⟩ : ∃ r, r = xm_letterCount a0 := ⟨_, rfl⟩
  rw [← h]
  unfold xm_letterCount at h
  refine am_Ev.go hcd 2 (s' := (2, [(0, .int a0)], [.int 999, .int a0], am_SH, hp)) rfl ?_
  rcases am_itv h with ⟨c4, h⟩ | ⟨c4, h⟩
  · refine am_Ev.t hcd (c := 999 < a0) (s1 := (3, [(0, .int a0)], [], am_SH, hp)) rfl c4 ?_
    refine am_Ev.go hcd 2 (s' := (16, [(0, .int a0)], [.int 4], am_SH, hp)) rfl ?_
    exact am_Ev.cast (a := ((some (.int 4)), am_SH, hp)) (by subst h; rfl) (am_Ev.ret hcd rfl)
  · refine am_Ev.f hcd (c := 999 < a0) (s1 := (5, [(0, .int a0)], [], am_SH, hp)) rfl c4 ?_
    refine am_Ev.go hcd 2 (s' := (7, [(0, .int a0)], [.int 99, .int a0], am_SH, hp)) rfl ?_
    rcases am_itv h with ⟨c10, h⟩ | ⟨c10, h⟩
    · refine am_Ev.t hcd (c := 99 < a0) (s1 := (8, [(0, .int a0)], [], am_SH, hp)) rfl c10 ?_
      refine am_Ev.go hcd 2 (s' := (16, [(0, .int a0)], [.int 3], am_SH, hp)) rfl ?_
      exact am_Ev.cast (a := ((some (.int 3)), am_SH, hp)) (by subst h; rfl) (am_Ev.ret hcd rfl)
    · refine am_Ev.f hcd (c := 99 < a0) (s1 := (10, [(0, .int a0)], [], am_SH, hp)) rfl c10 ?_
      refine am_Ev.go hcd 2 (s' := (12, [(0, .int a0)], [.int 9, .int a0], am_SH, hp)) rfl ?_
      rcases am_itv h with ⟨c16, h⟩ | ⟨c16, h⟩
      · refine am_Ev.t hcd (c := 9 < a0) (s1 := (13, [(0, .int a0)], [], am_SH, hp)) rfl c16 ?_
        refine am_Ev.go hcd 2 (s' := (16, [(0, .int a0)], [.int 2], am_SH, hp)) rfl ?_
        exact am_Ev.cast (a := ((some (.int 2)), am_SH, hp)) (by subst h; rfl) (am_Ev.ret hcd rfl)
      · refine am_Ev.f hcd (c := 9 < a0) (s1 := (15, [(0, .int a0)], [], am_SH, hp)) rfl c16 ?_
        refine am_Ev.go hcd 1 (s' := (16, [(0, .int a0)], [.int 1], am_SH, hp)) rfl ?_
        exact am_Ev.cast (a := ((some (.int 1)), am_SH, hp)) (by subst h; rfl) (am_Ev.ret hcd rfl)
set_option maxRecDepth 100000 in
set_option maxHeartbeats 4000000 in
theorem xm_beginning_ok {sc : Nat × (Nat → Int32)} (d : Nat) (a0 : Int32) (a1 : Int32) (hp : am_H) (r : Int32) (h : xm_beginning a0 a1 = some r) : am_Ev sc (d + 1) 71 (0, [(0, .int a0), (1, .int a1)], [], am_SH, hp) ((some (.int r)), am_SH, hp) := by
  have hcd : am_code 71 = am_c71 := rfl
  unfold xm_beginning at h
  refine am_Ev.go hcd 3 (s' := (3, [(0, .int a0), (1, .int a1), (2, .int a0)], [.int a0], am_SH, hp)) rfl ?_
  refine am_Ev.call hcd (a := 70) (s0 := (0, [(0, .int a0)], [], am_SH, hp)) (q := ((some (.int (xm_letterCount a0))), am_SH, hp)) (s1 := (4, [(0, .int a0), (1, .int a1), (2, .int a0)], [.int (xm_letterCount a0)], am_SH, hp)) rfl rfl (xm_letterCount_ok (d) a0 hp) ?_
  obtain ⟨t2, Et2, h⟩ := am_let_eq h
  refine am_Ev.go hcd 1 (s' := (5, [(0, .int a0), (1, .int a1), (2, .int a0), (3, .int t2)], [], am_SH, hp)) (by subst Et2; exact rfl) ?_
  refine am_Ev.weak' (am_loop_ok (G := fun (s3 : Int32 × Int32) => am_Ev sc (d + 1) 71 (5, [(1, .int a1), (2, .int s3.1), (3, .int s3.2)], [], am_SH, hp) ((some (.int r)), am_SH, hp)) (Z := fun (v : Int32) => (((some (.int v)), am_SH, hp) : am_R) = ((some (.int r)), am_SH, hp)) ?_ am_F (a0, t2) r h rfl) (am_sub_cons rfl (am_sub_cons rfl (am_sub_cons rfl am_sub_nil))) rfl
  intro s3 q3 h hI3 hZ3
  show am_Ev sc (d + 1) 71 (5, [(1, .int a1), (2, .int s3.1), (3, .int s3.2)], [], am_SH, hp) ((some (.int r)), am_SH, hp)
  refine am_Ev.go hcd 2 (s' := (7, [(1, .int a1), (2, .int s3.1), (3, .int s3.2)], [.int a1, .int s3.2], am_SH, hp)) rfl ?_
  rcases am_ite h with ⟨c9, h⟩ | ⟨c9, h⟩
  · refine am_Ev.t hcd (c := a1 < s3.2) (s1 := (8, [(1, .int a1), (2, .int s3.1), (3, .int s3.2)], [], am_SH, hp)) rfl c9 ?_
    obtain ⟨t4, Et4, h⟩ := am_let_eq h
    refine am_Ev.go hcd 4 (s' := (12, [(1, .int a1), (2, .int t4), (3, .int s3.2)], [], am_SH, hp)) (by subst Et4; exact rfl) ?_
    obtain ⟨t5, Et5, h⟩ := am_let_eq h
    refine am_Ev.go hcd 1 (s' := (13, [(1, .int a1), (2, .int t4), (3, .int t5)], [], am_SH, hp)) (by subst Et5; exact rfl) ?_
    refine am_Ev.go hcd 1 (s' := (5, [(1, .int a1), (2, .int t4), (3, .int t5)], [], am_SH, hp)) rfl ?_
    exact am_Ev.weak' (hI3 (t4, t5) (Option.some.inj h).symm) (am_sub_cons rfl (am_sub_cons rfl (am_sub_cons rfl am_sub_nil))) rfl
  · refine am_Ev.f hcd (c := a1 < s3.2) (s1 := (14, [(1, .int a1), (2, .int s3.1), (3, .int s3.2)], [], am_SH, hp)) rfl c9 ?_
    refine am_Ev.go hcd 1 (s' := (15, [(1, .int a1), (2, .int s3.1), (3, .int s3.2)], [.int s3.1], am_SH, hp)) rfl ?_
    exact am_Ev.cast (a := ((some (.int s3.1)), am_SH, hp)) (hZ3 _ (Option.some.inj h).symm) (am_Ev.ret hcd rfl)
