set_option maxRecDepth 100000 in
set_option maxHeartbeats 4000000 in
theorem x_show_ok {sc : Nat × (Nat → Int32)} (d : Nat) (a0 : Int32) (a1 : Int32) (f g : (Nat → Nat → Int32)) (r : Int32 × (Nat → Nat → Int32)) (h : x_show a0 a1 f = some r) : am_Ev sc (d + 2) 156 (0, [(0, .ref 0), (1, .int a0), (2, .int a1)], [], am_SH, (f, g)) ((some (.int r.1)), am_SH, (r.2, g)) := by
  have hcd : am_code 156 = am_c156 := rfl
  unfold x_show at h
  refine am_Ev.go hcd 1 (s' := (1, [(0, .ref 0), (1, .int a0), (2, .int a1)], [.int a1], am_SH, (f, g))) rfl ?_
  rcases am_ite h with ⟨c2, h⟩ | ⟨c2, h⟩
  · refine am_Ev.t hcd (c := a1 = 0) (s1 := (2, [(0, .ref 0), (1, .int a0), (2, .int a1)], [], am_SH, (f, g))) rfl c2 ?_
    refine am_Ev.go hcd 5 (s' := (7, [(0, .ref 0), (1, .int a0), (2, .int a1)], [.ref 42, .ref 143], am_SH, (f, g))) rfl ?_
    obtain ⟨p1, hp1, h⟩ := am_bind_some h
    refine am_Ev.call hcd (a := 59) (s0 := (0, [(0, .ref 143), (1, .ref 42)], [], am_SH, (f, g))) (q := ((some (.int p1.1)), am_SH, (p1.2, g))) (s1 := (8, [(0, .ref 0), (1, .int a0), (2, .int a1)], [.int p1.1], am_SH, (p1.2, g))) rfl rfl (xm_rank_42_ok (d + 1)  f g p1 hp1) ?_
    exact am_Ev.cast (a := ((some (.int (p1.1, p1.2).1)), am_SH, ((p1.1, p1.2).2, g))) (by cases h; rfl) (am_Ev.ret hcd rfl)
  · refine am_Ev.f hcd (c := a1 = 0) (s1 := (9, [(0, .ref 0), (1, .int a0), (2, .int a1)], [], am_SH, (f, g))) rfl c2 ?_
    refine am_Ev.go hcd 3 (s' := (12, [(0, .ref 0), (1, .int a0), (2, .int a1)], [.int 65535, .int 0, .int a0], am_SH, (f, g))) rfl ?_
    refine am_Ev.call hcd (a := 170) (s0 := (0, [(0, .int a0), (1, .int 0), (2, .int 65535)], [], am_SH, (f, g))) (q := ((some (.int (am_b (x_within a0 0 65535)))), am_SH, (f, g))) (s1 := (13, [(0, .ref 0), (1, .int a0), (2, .int a1)], [.int (am_b (x_within a0 0 65535))], am_SH, (f, g))) rfl rfl (x_within_ok (d + 1) a0 0 65535 (f, g)) ?_
    rcases am_ite h with ⟨c12, h⟩ | ⟨c12, h⟩
    · refine am_Ev.f hcd (c := am_b (x_within a0 0 65535) = 0) (s1 := (14, [(0, .ref 0), (1, .int a0), (2, .int a1)], [], am_SH, (f, g))) rfl (am_b_t c12) ?_
      refine am_Ev.go hcd 3 (s' := (17, [(0, .ref 0), (1, .int a0), (2, .int a1)], [.int 2, .int 1, .int a1], am_SH, (f, g))) rfl ?_
      refine am_Ev.call hcd (a := 170) (s0 := (0, [(0, .int a1), (1, .int 1), (2, .int 2)], [], am_SH, (f, g))) (q := ((some (.int (am_b (x_within a1 1 2)))), am_SH, (f, g))) (s1 := (18, [(0, .ref 0), (1, .int a0), (2, .int a1)], [.int (am_b (x_within a1 1 2))], am_SH, (f, g))) rfl rfl (x_within_ok (d + 1) a1 1 2 (f, g)) ?_
      rcases am_ite h with ⟨c16, h⟩ | ⟨c16, h⟩
      · refine am_Ev.f hcd (c := am_b (x_within a1 1 2) = 0) (s1 := (21, [(0, .ref 0), (1, .int a0), (2, .int a1)], [], am_SH, (f, g))) rfl (am_b_t c16) ?_
        refine am_Ev.go hcd 6 (s' := (27, [(0, .ref 0), (1, .int a0), (2, .int a1)], [.int a0, .ref 42, .ref 143], am_SH, (f, g))) rfl ?_
        obtain ⟨p4, hp4, h⟩ := am_bind_some h
        refine am_Ev.call hcd (a := 60) (s0 := (0, [(0, .ref 143), (1, .ref 42), (2, .int a0)], [], am_SH, (f, g))) (q := ((some (.int p4)), am_SH, (f, g))) (s1 := (28, [(0, .ref 0), (1, .int a0), (2, .int a1)], [.int p4], am_SH, (f, g))) rfl rfl (xm_fewestLaid_42_ok (d) a0 f g p4 hp4) ?_
        refine am_Ev.go hcd 3 (s' := (31, [(0, .ref 0), (1, .int a0), (2, .int a1), (3, .int p4)], [.int 2, .int a1], am_SH, (f, g))) rfl ?_
        rcases am_ite h with ⟨c21, h⟩ | ⟨c21, h⟩
        · refine am_Ev.t hcd (c := a1 = 2) (s1 := (32, [(0, .ref 0), (1, .int a0), (2, .int a1), (3, .int p4)], [], am_SH, (f, g))) rfl c21 ?_
          refine am_Ev.go hcd 1 (s' := (33, [(0, .ref 0), (1, .int a0), (2, .int a1), (3, .int p4)], [.int p4], am_SH, (f, g))) rfl ?_
          exact am_Ev.cast (a := ((some (.int (p4, f).1)), am_SH, ((p4, f).2, g))) (by cases h; rfl) (am_Ev.ret hcd rfl)
        · refine am_Ev.f hcd (c := a1 = 2) (s1 := (34, [(0, .ref 0), (1, .int a0), (2, .int a1), (3, .int p4)], [], am_SH, (f, g))) rfl c21 ?_
          refine am_Ev.go hcd 2 (s' := (36, [(0, .ref 0), (1, .int a0), (2, .int a1), (3, .int p4)], [.int (-1), .int p4], am_SH, (f, g))) rfl ?_
          rcases am_ite h with ⟨c27, h⟩ | ⟨c27, h⟩
          · refine am_Ev.t hcd (c := p4 = (-1)) (s1 := (37, [(0, .ref 0), (1, .int a0), (2, .int a1), (3, .int p4)], [], am_SH, (f, g))) rfl c27 ?_
            refine am_Ev.go hcd 2 (s' := (40, [(0, .ref 0), (1, .int a0), (2, .int a1), (3, .int p4)], [.int 0], am_SH, (f, g))) rfl ?_
            exact am_Ev.cast (a := ((some (.int (0, f).1)), am_SH, ((0, f).2, g))) (by cases h; rfl) (am_Ev.ret hcd rfl)
          · refine am_Ev.f hcd (c := p4 = (-1)) (s1 := (39, [(0, .ref 0), (1, .int a0), (2, .int a1), (3, .int p4)], [], am_SH, (f, g))) rfl c27 ?_
            refine am_Ev.go hcd 1 (s' := (40, [(0, .ref 0), (1, .int a0), (2, .int a1), (3, .int p4)], [.int 1], am_SH, (f, g))) rfl ?_
            exact am_Ev.cast (a := ((some (.int (1, f).1)), am_SH, ((1, f).2, g))) (by cases h; rfl) (am_Ev.ret hcd rfl)
      · refine am_Ev.t hcd (c := am_b (x_within a1 1 2) = 0) (s1 := (19, [(0, .ref 0), (1, .int a0), (2, .int a1)], [], am_SH, (f, g))) rfl (am_b_f c16) ?_
        refine am_Ev.go hcd 1 (s' := (20, [(0, .ref 0), (1, .int a0), (2, .int a1)], [.int (-1)], am_SH, (f, g))) rfl ?_
        exact am_Ev.cast (a := ((some (.int ((-1), f).1)), am_SH, (((-1), f).2, g))) (by cases h; rfl) (am_Ev.ret hcd rfl)
    · refine am_Ev.t hcd (c := am_b (x_within a0 0 65535) = 0) (s1 := (19, [(0, .ref 0), (1, .int a0), (2, .int a1)], [], am_SH, (f, g))) rfl (am_b_f c12) ?_
      refine am_Ev.go hcd 1 (s' := (20, [(0, .ref 0), (1, .int a0), (2, .int a1)], [.int (-1)], am_SH, (f, g))) rfl ?_
      exact am_Ev.cast (a := ((some (.int ((-1), f).1)), am_SH, (((-1), f).2, g))) (by cases h; rfl) (am_Ev.ret hcd rfl)
set_option maxRecDepth 100000 in
set_option maxHeartbeats 4000000 in
theorem x_cost_ok {sc : Nat × (Nat → Int32)} (d : Nat) (a0 : Int32) (a1 : Int32) (f g : (Nat → Nat → Int32)) (r : Bool × (Nat → Nat → Int32)) (h : x_cost a0 a1 f = some r) : am_Ev sc (d + 1) 157 (0, [(0, .ref 0), (1, .int a0), (2, .int a1)], [], am_SH, (f, g)) ((some (.int (am_b r.1))), am_SH, (r.2, g)) := by
  have hcd : am_code 157 = am_c157 := rfl
  unfold x_cost at h
  refine am_Ev.go hcd 3 (s' := (3, [(0, .ref 0), (1, .int a0), (2, .int a1)], [.int 7, .int 0, .int a0], am_SH, (f, g))) rfl ?_
  refine am_Ev.call hcd (a := 170) (s0 := (0, [(0, .int a0), (1, .int 0), (2, .int 7)], [], am_SH, (f, g))) (q := ((some (.int (am_b (x_within a0 0 7)))), am_SH, (f, g))) (s1 := (4, [(0, .ref 0), (1, .int a0), (2, .int a1)], [.int (am_b (x_within a0 0 7))], am_SH, (f, g))) rfl rfl (x_within_ok (d) a0 0 7 (f, g)) ?_
  rcases am_ite h with ⟨c4, h⟩ | ⟨c4, h⟩
  · refine am_Ev.f hcd (c := am_b (x_within a0 0 7) = 0) (s1 := (5, [(0, .ref 0), (1, .int a0), (2, .int a1)], [], am_SH, (f, g))) rfl (am_b_t c4) ?_
    refine am_Ev.go hcd 3 (s' := (8, [(0, .ref 0), (1, .int a0), (2, .int a1)], [.int 99, .int 0, .int a1], am_SH, (f, g))) rfl ?_
    refine am_Ev.call hcd (a := 170) (s0 := (0, [(0, .int a1), (1, .int 0), (2, .int 99)], [], am_SH, (f, g))) (q := ((some (.int (am_b (x_within a1 0 99)))), am_SH, (f, g))) (s1 := (9, [(0, .ref 0), (1, .int a0), (2, .int a1)], [.int (am_b (x_within a1 0 99))], am_SH, (f, g))) rfl rfl (x_within_ok (d) a1 0 99 (f, g)) ?_
    rcases am_ite h with ⟨c8, h⟩ | ⟨c8, h⟩
    · refine am_Ev.f hcd (c := am_b (x_within a1 0 99) = 0) (s1 := (12, [(0, .ref 0), (1, .int a0), (2, .int a1)], [], am_SH, (f, g))) rfl (am_b_t c8) ?_
      refine am_Ev.go hcd 5 (s' := (17, [(0, .ref 0), (1, .int a0), (2, .int a1)], [.int a1, .int a0, .ref 54], am_SH, (f, g))) rfl ?_
      obtain ⟨c10, h⟩ := am_grd h
      obtain ⟨f3, Ef3, h⟩ := am_let_eq h
      refine am_Ev.t hcd (o := none) (c := am_in a0 8 = true) (s1 := (18, [(0, .ref 0), (1, .int a0), (2, .int a1)], [], am_SH, (f3, g))) (by subst Ef3; exact rfl) c10 ?_
      refine am_Ev.go hcd 1 (s' := (19, [(0, .ref 0), (1, .int a0), (2, .int a1)], [.int 1], am_SH, (f3, g))) rfl ?_
      exact am_Ev.cast (a := ((some (.int (am_b (true, f3).1))), am_SH, ((true, f3).2, g))) (by cases h; rfl) (am_Ev.ret hcd rfl)
    · refine am_Ev.t hcd (c := am_b (x_within a1 0 99) = 0) (s1 := (10, [(0, .ref 0), (1, .int a0), (2, .int a1)], [], am_SH, (f, g))) rfl (am_b_f c8) ?_
      refine am_Ev.go hcd 1 (s' := (11, [(0, .ref 0), (1, .int a0), (2, .int a1)], [.int 0], am_SH, (f, g))) rfl ?_
      exact am_Ev.cast (a := ((some (.int (am_b (false, f).1))), am_SH, ((false, f).2, g))) (by cases h; rfl) (am_Ev.ret hcd rfl)
  · refine am_Ev.t hcd (c := am_b (x_within a0 0 7) = 0) (s1 := (10, [(0, .ref 0), (1, .int a0), (2, .int a1)], [], am_SH, (f, g))) rfl (am_b_f c4) ?_
    refine am_Ev.go hcd 1 (s' := (11, [(0, .ref 0), (1, .int a0), (2, .int a1)], [.int 0], am_SH, (f, g))) rfl ?_
    exact am_Ev.cast (a := ((some (.int (am_b (false, f).1))), am_SH, ((false, f).2, g))) (by cases h; rfl) (am_Ev.ret hcd rfl)
set_option maxRecDepth 100000 in
set_option maxHeartbeats 4000000 in
theorem xm_leastChange_54_ok {sc : Nat × (Nat → Int32)} (d : Nat) (a0 : Int32) (a1 : Int32) (a2 : Int32) (f g : (Nat → Nat → Int32)) (r : Int32 × (Nat → Nat → Int32)) (h : xm_leastChange_54 a0 a1 a2 f = some r) : am_Ev sc (d) 61 (0, [(0, .ref 143), (1, .ref 54), (2, .int a0), (3, .int a1), (4, .int a2)], [], am_SH, (f, g)) ((some (.int r.1)), am_SH, (r.2, g)) := by
  have hcd : am_code 61 = am_c61 := rfl
  unfold xm_leastChange_54 at h
  obtain ⟨f1, Ef1, h⟩ := am_let_eq h
  refine am_Ev.go hcd 5 (s' := (5, [(0, .ref 143), (1, .ref 54), (2, .int a0), (3, .int a1), (4, .int a2)], [], am_SH, (f1, g))) (by subst Ef1; exact rfl) ?_
  refine am_Ev.go hcd 4 (s' := (9, [(0, .ref 143), (1, .ref 54), (2, .int a0), (3, .int a1), (4, .int a2), (5, .int (-1)), (6, .int 1)], [], am_SH, (f1, g))) rfl ?_
  obtain ⟨e11, he11, h⟩ := am_bind_some h
  have hK2 : (fun (e11 : Int32 × (Nat → Nat → Int32)) => am_Ev sc (d) 61 (67, [(0, .ref 143), (2, .int a0), (4, .int a2), (5, .int e11.1)], [], am_SH, (e11.2, g)) ((some (.int r.1)), am_SH, (r.2, g))) e11 := by
    show am_Ev sc (d) 61 (67, [(0, .ref 143), (2, .int a0), (4, .int a2), (5, .int e11.1)], [], am_SH, (e11.2, g)) ((some (.int r.1)), am_SH, (r.2, g))
    refine am_Ev.go hcd 1 (s' := (68, [(0, .ref 143), (2, .int a0), (4, .int a2), (5, .int e11.1)], [.int a2], am_SH, (e11.2, g))) rfl ?_
    rcases am_ite h with ⟨c8, h⟩ | ⟨c8, h⟩
    · refine am_Ev.t hcd (c := a2 = 0) (s1 := (69, [(0, .ref 143), (2, .int a0), (4, .int a2), (5, .int e11.1)], [], am_SH, (e11.2, g))) rfl c8 ?_
      refine am_Ev.go hcd 3 (s' := (72, [(0, .ref 143), (2, .int a0), (4, .int a2), (5, .int e11.1)], [.int a0, .ref 152], am_SH, (e11.2, g))) rfl ?_
      obtain ⟨c11, h⟩ := am_grd h
      refine am_Ev.t hcd (o := none) (c := am_in a0 41 = true) (s1 := (73, [(0, .ref 143), (2, .int a0), (4, .int a2), (5, .int e11.1)], [.int (e11.2 152 a0.toNatClampNeg)], am_SH, (e11.2, g))) rfl c11 ?_
      refine am_Ev.go hcd 1 (s' := (75, [(0, .ref 143), (2, .int a0), (4, .int a2), (5, .int e11.1)], [.int (e11.2 152 a0.toNatClampNeg)], am_SH, (e11.2, g))) rfl ?_
      exact am_Ev.cast (a := ((some (.int (e11.2 152 a0.toNatClampNeg, e11.2).1)), am_SH, ((e11.2 152 a0.toNatClampNeg, e11.2).2, g))) (by cases h; rfl) (am_Ev.ret hcd rfl)
    · refine am_Ev.f hcd (c := a2 = 0) (s1 := (74, [(0, .ref 143), (2, .int a0), (4, .int a2), (5, .int e11.1)], [], am_SH, (e11.2, g))) rfl c8 ?_
      refine am_Ev.go hcd 1 (s' := (75, [(0, .ref 143), (2, .int a0), (4, .int a2), (5, .int e11.1)], [.int e11.1], am_SH, (e11.2, g))) rfl ?_
      exact am_Ev.cast (a := ((some (.int (e11.1, e11.2).1)), am_SH, ((e11.1, e11.2).2, g))) (by cases h; rfl) (am_Ev.ret hcd rfl)
  refine am_Ev.weak' (am_loop_ok (G := fun (s2 : Int32 × Int32 × (Nat → Nat → Int32)) => am_Ev sc (d) 61 (9, [(0, .ref 143), (1, .ref 54), (2, .int a0), (3, .int a1), (4, .int a2), (5, .int s2.1), (6, .int s2.2.1)], [], am_SH, (s2.2.2, g)) ((some (.int r.1)), am_SH, (r.2, g))) (Z := fun (e11 : Int32 × (Nat → Nat → Int32)) => am_Ev sc (d) 61 (67, [(0, .ref 143), (2, .int a0), (4, .int a2), (5, .int e11.1)], [], am_SH, (e11.2, g)) ((some (.int r.1)), am_SH, (r.2, g))) ?_ am_F ((-1), 1, f1) e11 he11 hK2) (am_sub_cons rfl (am_sub_cons rfl (am_sub_cons rfl (am_sub_cons rfl (am_sub_cons rfl (am_sub_cons rfl (am_sub_cons rfl am_sub_nil))))))) rfl
  intro s2 q2 h hI2 hZ2
  show am_Ev sc (d) 61 (9, [(0, .ref 143), (1, .ref 54), (2, .int a0), (3, .int a1), (4, .int a2), (5, .int s2.1), (6, .int s2.2.1)], [], am_SH, (s2.2.2, g)) ((some (.int r.1)), am_SH, (r.2, g))
  refine am_Ev.go hcd 2 (s' := (11, [(0, .ref 143), (1, .ref 54), (2, .int a0), (3, .int a1), (4, .int a2), (5, .int s2.1), (6, .int s2.2.1)], [.int a0, .int s2.2.1], am_SH, (s2.2.2, g))) rfl ?_
  rcases am_ite h with ⟨c22, h⟩ | ⟨c22, h⟩
  · refine am_Ev.t hcd (c := a0 < s2.2.1) (s1 := (67, [(0, .ref 143), (1, .ref 54), (2, .int a0), (3, .int a1), (4, .int a2), (5, .int s2.1), (6, .int s2.2.1)], [], am_SH, (s2.2.2, g))) rfl c22 ?_
    exact am_Ev.weak' (hZ2 (s2.1, s2.2.2) (Option.some.inj h).symm) (am_sub_cons rfl (am_sub_cons rfl (am_sub_cons rfl (am_sub_cons rfl am_sub_nil)))) rfl
  · refine am_Ev.f hcd (c := a0 < s2.2.1) (s1 := (12, [(0, .ref 143), (1, .ref 54), (2, .int a0), (3, .int a1), (4, .int a2), (5, .int s2.1), (6, .int s2.2.1)], [], am_SH, (s2.2.2, g))) rfl c22 ?_
    refine am_Ev.go hcd 4 (s' := (16, [(0, .ref 143), (1, .ref 54), (2, .int a0), (3, .int a1), (4, .int a2), (5, .int s2.1), (6, .int s2.2.1)], [.int 1000000, .int s2.2.1, .ref 152], am_SH, (s2.2.2, g))) rfl ?_
    obtain ⟨c27, h⟩ := am_grd h
    obtain ⟨f3, Ef3, h⟩ := am_let_eq h
    refine am_Ev.t hcd (o := none) (c := am_in s2.2.1 41 = true) (s1 := (17, [(0, .ref 143), (1, .ref 54), (2, .int a0), (3, .int a1), (4, .int a2), (5, .int s2.1), (6, .int s2.2.1)], [], am_SH, (f3, g))) (by subst Ef3; exact rfl) c27 ?_
    refine am_Ev.go hcd 4 (s' := (21, [(0, .ref 143), (1, .ref 54), (2, .int a0), (3, .int a1), (4, .int a2), (5, .int s2.1), (6, .int s2.2.1), (7, .int a1), (8, .int 1)], [], am_SH, (f3, g))) rfl ?_
    obtain ⟨e9, he9, h⟩ := am_bind_some h
    have hK4 : (fun (e9 : Int32 × (Nat → Nat → Int32)) => am_Ev sc (d) 61 (65, [(0, .ref 143), (1, .ref 54), (2, .int a0), (3, .int a1), (4, .int a2), (5, .int e9.1), (6, .int s2.2.1)], [], am_SH, (e9.2, g)) ((some (.int r.1)), am_SH, (r.2, g))) e9 := by
      show am_Ev sc (d) 61 (65, [(0, .ref 143), (1, .ref 54), (2, .int a0), (3, .int a1), (4, .int a2), (5, .int e9.1), (6, .int s2.2.1)], [], am_SH, (e9.2, g)) ((some (.int r.1)), am_SH, (r.2, g))
      obtain ⟨t10, Et10, h⟩ := am_let_eq h
      refine am_Ev.go hcd 1 (s' := (66, [(0, .ref 143), (1, .ref 54), (2, .int a0), (3, .int a1), (4, .int a2), (5, .int e9.1), (6, .int t10)], [], am_SH, (e9.2, g))) (by subst Et10; exact rfl) ?_
      refine am_Ev.go hcd 1 (s' := (9, [(0, .ref 143), (1, .ref 54), (2, .int a0), (3, .int a1), (4, .int a2), (5, .int e9.1), (6, .int t10)], [], am_SH, (e9.2, g))) rfl ?_
      exact am_Ev.weak' (hI2 (e9.1, t10, e9.2) (Option.some.inj h).symm) (am_sub_cons rfl (am_sub_cons rfl (am_sub_cons rfl (am_sub_cons rfl (am_sub_cons rfl (am_sub_cons rfl (am_sub_cons rfl am_sub_nil))))))) rfl
    refine am_Ev.weak' (am_loop_ok (G := fun (s4 : Int32 × Int32 × Int32 × (Nat → Nat → Int32)) => am_Ev sc (d) 61 (21, [(0, .ref 143), (1, .ref 54), (2, .int a0), (3, .int a1), (4, .int a2), (5, .int s4.1), (6, .int s2.2.1), (7, .int s4.2.1), (8, .int s4.2.2.1)], [], am_SH, (s4.2.2.2, g)) ((some (.int r.1)), am_SH, (r.2, g))) (Z := fun (e9 : Int32 × (Nat → Nat → Int32)) => am_Ev sc (d) 61 (65, [(0, .ref 143), (1, .ref 54), (2, .int a0), (3, .int a1), (4, .int a2), (5, .int e9.1), (6, .int s2.2.1)], [], am_SH, (e9.2, g)) ((some (.int r.1)), am_SH, (r.2, g))) ?_ am_F (s2.1, a1, 1, f3) e9 he9 hK4) (am_sub_cons rfl (am_sub_cons rfl (am_sub_cons rfl (am_sub_cons rfl (am_sub_cons rfl (am_sub_cons rfl (am_sub_cons rfl (am_sub_cons rfl (am_sub_cons rfl am_sub_nil))))))))) rfl
    intro s4 q4 h hI4 hZ4
    show am_Ev sc (d) 61 (21, [(0, .ref 143), (1, .ref 54), (2, .int a0), (3, .int a1), (4, .int a2), (5, .int s4.1), (6, .int s2.2.1), (7, .int s4.2.1), (8, .int s4.2.2.1)], [], am_SH, (s4.2.2.2, g)) ((some (.int r.1)), am_SH, (r.2, g))
    refine am_Ev.go hcd 2 (s' := (23, [(0, .ref 143), (1, .ref 54), (2, .int a0), (3, .int a1), (4, .int a2), (5, .int s4.1), (6, .int s2.2.1), (7, .int s4.2.1), (8, .int s4.2.2.1)], [.int s2.2.1, .int s4.2.2.1], am_SH, (s4.2.2.2, g))) rfl ?_
    rcases am_ite h with ⟨c42, h⟩ | ⟨c42, h⟩
    · refine am_Ev.t hcd (c := s2.2.1 < s4.2.2.1) (s1 := (65, [(0, .ref 143), (1, .ref 54), (2, .int a0), (3, .int a1), (4, .int a2), (5, .int s4.1), (6, .int s2.2.1), (7, .int s4.2.1), (8, .int s4.2.2.1)], [], am_SH, (s4.2.2.2, g))) rfl c42 ?_
      exact am_Ev.weak' (hZ4 (s4.1, s4.2.2.2) (Option.some.inj h).symm) (am_sub_cons rfl (am_sub_cons rfl (am_sub_cons rfl (am_sub_cons rfl (am_sub_cons rfl (am_sub_cons rfl (am_sub_cons rfl am_sub_nil))))))) rfl
    · refine am_Ev.f hcd (c := s2.2.1 < s4.2.2.1) (s1 := (24, [(0, .ref 143), (1, .ref 54), (2, .int a0), (3, .int a1), (4, .int a2), (5, .int s4.1), (6, .int s2.2.1), (7, .int s4.2.1), (8, .int s4.2.2.1)], [], am_SH, (s4.2.2.2, g))) rfl c42 ?_
      refine am_Ev.go hcd 3 (s' := (27, [(0, .ref 143), (1, .ref 54), (2, .int a0), (3, .int a1), (4, .int a2), (5, .int s4.1), (6, .int s2.2.1), (7, .int s4.2.1), (8, .int s4.2.2.1)], [.int (nI 8), .int s4.2.2.1], am_SH, (s4.2.2.2, g))) rfl ?_
      rcases am_ite h with ⟨c47, h⟩ | ⟨c47, h⟩
      · refine am_Ev.t hcd (c := (nI 8) < s4.2.2.1) (s1 := (65, [(0, .ref 143), (1, .ref 54), (2, .int a0), (3, .int a1), (4, .int a2), (5, .int s4.1), (6, .int s2.2.1), (7, .int s4.2.1), (8, .int s4.2.2.1)], [], am_SH, (s4.2.2.2, g))) rfl c47 ?_
        exact am_Ev.weak' (hZ4 (s4.1, s4.2.2.2) (Option.some.inj h).symm) (am_sub_cons rfl (am_sub_cons rfl (am_sub_cons rfl (am_sub_cons rfl (am_sub_cons rfl (am_sub_cons rfl (am_sub_cons rfl am_sub_nil))))))) rfl
      · refine am_Ev.f hcd (c := (nI 8) < s4.2.2.1) (s1 := (28, [(0, .ref 143), (1, .ref 54), (2, .int a0), (3, .int a1), (4, .int a2), (5, .int s4.1), (6, .int s2.2.1), (7, .int s4.2.1), (8, .int s4.2.2.1)], [], am_SH, (s4.2.2.2, g))) rfl c47 ?_
        refine am_Ev.go hcd 5 (s' := (33, [(0, .ref 143), (1, .ref 54), (2, .int a0), (3, .int a1), (4, .int a2), (5, .int s4.1), (6, .int s2.2.1), (7, .int s4.2.1), (8, .int s4.2.2.1)], [.int (s4.2.2.1 - 1), .ref 54, .int s4.2.1], am_SH, (s4.2.2.2, g))) rfl ?_
        obtain ⟨c52, h⟩ := am_grd h
        refine am_Ev.t hcd (o := none) (c := am_in (s4.2.2.1 - 1) 8 = true) (s1 := (34, [(0, .ref 143), (1, .ref 54), (2, .int a0), (3, .int a1), (4, .int a2), (5, .int s4.1), (6, .int s2.2.1), (7, .int s4.2.1), (8, .int s4.2.2.1)], [.int (s4.2.2.2 54 (s4.2.2.1 - 1).toNatClampNeg), .int s4.2.1], am_SH, (s4.2.2.2, g))) rfl c52 ?_
        obtain ⟨t5, Et5, h⟩ := am_let_eq h
        refine am_Ev.go hcd 2 (s' := (36, [(0, .ref 143), (1, .ref 54), (2, .int a0), (3, .int a1), (4, .int a2), (5, .int s4.1), (6, .int s2.2.1), (7, .int t5), (8, .int s4.2.2.1)], [], am_SH, (s4.2.2.2, g))) (by subst Et5; exact rfl) ?_
        refine am_Ev.go hcd 6 (s' := (42, [(0, .ref 143), (1, .ref 54), (2, .int a0), (3, .int a1), (4, .int a2), (5, .int s4.1), (6, .int s2.2.1), (7, .int t5), (8, .int s4.2.2.1)], [.int (s2.2.1 - s4.2.2.1), .ref 152, .int t5], am_SH, (s4.2.2.2, g))) rfl ?_
        obtain ⟨c57, h⟩ := am_grd h
        refine am_Ev.t hcd (o := none) (c := am_in (s2.2.1 - s4.2.2.1) 41 = true) (s1 := (43, [(0, .ref 143), (1, .ref 54), (2, .int a0), (3, .int a1), (4, .int a2), (5, .int s4.1), (6, .int s2.2.1), (7, .int t5), (8, .int s4.2.2.1)], [.int (s4.2.2.2 152 (s2.2.1 - s4.2.2.1).toNatClampNeg), .int t5], am_SH, (s4.2.2.2, g))) rfl c57 ?_
        refine am_Ev.go hcd 4 (s' := (47, [(0, .ref 143), (1, .ref 54), (2, .int a0), (3, .int a1), (4, .int a2), (5, .int s4.1), (6, .int s2.2.1), (7, .int t5), (8, .int s4.2.2.1)], [.int s2.2.1, .ref 152, .int (t5 + (s4.2.2.2 152 (s2.2.1 - s4.2.2.1).toNatClampNeg))], am_SH, (s4.2.2.2, g))) rfl ?_
        obtain ⟨c60, h⟩ := am_grd h
        refine am_Ev.t hcd (o := none) (c := am_in s2.2.1 41 = true) (s1 := (48, [(0, .ref 143), (1, .ref 54), (2, .int a0), (3, .int a1), (4, .int a2), (5, .int s4.1), (6, .int s2.2.1), (7, .int t5), (8, .int s4.2.2.1)], [.int (s4.2.2.2 152 s2.2.1.toNatClampNeg), .int (t5 + (s4.2.2.2 152 (s2.2.1 - s4.2.2.1).toNatClampNeg))], am_SH, (s4.2.2.2, g))) rfl c60 ?_
        obtain ⟨t7, ht7, kt7⟩ := am_bind_some h
        have hKt7 : am_Ev sc (d) 61 (63, [(0, .ref 143), (1, .ref 54), (2, .int a0), (3, .int a1), (4, .int a2), (5, .int t7.1), (6, .int s2.2.1), (7, .int t5), (8, .int s4.2.2.1)], [], am_SH, (t7.2, g)) ((some (.int r.1)), am_SH, (r.2, g)) := by
          have h := kt7
          obtain ⟨t8, Et8, h⟩ := am_let_eq h
          refine am_Ev.go hcd 1 (s' := (64, [(0, .ref 143), (1, .ref 54), (2, .int a0), (3, .int a1), (4, .int a2), (5, .int t7.1), (6, .int s2.2.1), (7, .int t5), (8, .int t8)], [], am_SH, (t7.2, g))) (by subst Et8; exact rfl) ?_
          refine am_Ev.go hcd 1 (s' := (21, [(0, .ref 143), (1, .ref 54), (2, .int a0), (3, .int a1), (4, .int a2), (5, .int t7.1), (6, .int s2.2.1), (7, .int t5), (8, .int t8)], [], am_SH, (t7.2, g))) rfl ?_
          exact am_Ev.weak' (hI4 (t7.1, t5, t8, t7.2) (Option.some.inj h).symm) (am_sub_cons rfl (am_sub_cons rfl (am_sub_cons rfl (am_sub_cons rfl (am_sub_cons rfl (am_sub_cons rfl (am_sub_cons rfl (am_sub_cons rfl (am_sub_cons rfl am_sub_nil))))))))) rfl
        have hLt7 : ∀ tt, tt = t7 → am_Ev sc (d) 61 (63, [(0, .ref 143), (1, .ref 54), (2, .int a0), (3, .int a1), (4, .int a2), (5, .int tt.1), (6, .int s2.2.1), (7, .int t5), (8, .int s4.2.2.1)], [], am_SH, (tt.2, g)) ((some (.int r.1)), am_SH, (r.2, g)) := fun tt htt => by subst htt; exact hKt7
        have h := ht7
        rcases am_ite h with ⟨c72, h⟩ | ⟨c72, h⟩
        · refine am_Ev.t hcd (c := (t5 + (s4.2.2.2 152 (s2.2.1 - s4.2.2.1).toNatClampNeg)) < s4.2.2.2 152 s2.2.1.toNatClampNeg) (s1 := (49, [(0, .ref 143), (1, .ref 54), (2, .int a0), (3, .int a1), (4, .int a2), (5, .int s4.1), (6, .int s2.2.1), (7, .int t5), (8, .int s4.2.2.1)], [], am_SH, (s4.2.2.2, g))) rfl c72 ?_
          refine am_Ev.go hcd 9 (s' := (58, [(0, .ref 143), (1, .ref 54), (2, .int a0), (3, .int a1), (4, .int a2), (5, .int s4.1), (6, .int s2.2.1), (7, .int t5), (8, .int s4.2.2.1)], [.int (s2.2.1 - s4.2.2.1), .ref 152, .int t5, .int s2.2.1, .ref 152], am_SH, (s4.2.2.2, g))) rfl ?_
          obtain ⟨c74, h⟩ := am_grd h
          refine am_Ev.t hcd (o := none) (c := am_in (s2.2.1 - s4.2.2.1) 41 = true) (s1 := (59, [(0, .ref 143), (1, .ref 54), (2, .int a0), (3, .int a1), (4, .int a2), (5, .int s4.1), (6, .int s2.2.1), (7, .int t5), (8, .int s4.2.2.1)], [.int (s4.2.2.2 152 (s2.2.1 - s4.2.2.1).toNatClampNeg), .int t5, .int s2.2.1, .ref 152], am_SH, (s4.2.2.2, g))) rfl c74 ?_
          refine am_Ev.go hcd 1 (s' := (60, [(0, .ref 143), (1, .ref 54), (2, .int a0), (3, .int a1), (4, .int a2), (5, .int s4.1), (6, .int s2.2.1), (7, .int t5), (8, .int s4.2.2.1)], [.int (t5 + (s4.2.2.2 152 (s2.2.1 - s4.2.2.1).toNatClampNeg)), .int s2.2.1, .ref 152], am_SH, (s4.2.2.2, g))) rfl ?_
          obtain ⟨c77, h⟩ := am_grd h
          obtain ⟨f6, Ef6, h⟩ := am_let_eq h
          refine am_Ev.t hcd (o := none) (c := am_in s2.2.1 41 = true) (s1 := (61, [(0, .ref 143), (1, .ref 54), (2, .int a0), (3, .int a1), (4, .int a2), (5, .int s4.1), (6, .int s2.2.1), (7, .int t5), (8, .int s4.2.2.1)], [], am_SH, (f6, g))) (by subst Ef6; exact rfl) c77 ?_
          refine am_Ev.go hcd 2 (s' := (63, [(0, .ref 143), (1, .ref 54), (2, .int a0), (3, .int a1), (4, .int a2), (5, .int s4.2.2.1), (6, .int s2.2.1), (7, .int t5), (8, .int s4.2.2.1)], [], am_SH, (f6, g))) rfl ?_
          exact am_Ev.weak' (hLt7 (s4.2.2.1, f6) (Option.some.inj h)) (am_sub_cons rfl (am_sub_cons rfl (am_sub_cons rfl (am_sub_cons rfl (am_sub_cons rfl (am_sub_cons rfl (am_sub_cons rfl (am_sub_cons rfl (am_sub_cons rfl am_sub_nil))))))))) rfl
        · refine am_Ev.f hcd (c := (t5 + (s4.2.2.2 152 (s2.2.1 - s4.2.2.1).toNatClampNeg)) < s4.2.2.2 152 s2.2.1.toNatClampNeg) (s1 := (63, [(0, .ref 143), (1, .ref 54), (2, .int a0), (3, .int a1), (4, .int a2), (5, .int s4.1), (6, .int s2.2.1), (7, .int t5), (8, .int s4.2.2.1)], [], am_SH, (s4.2.2.2, g))) rfl c72 ?_
          exact am_Ev.weak' (hLt7 (s4.1, s4.2.2.2) (Option.some.inj h)) (am_sub_cons rfl (am_sub_cons rfl (am_sub_cons rfl (am_sub_cons rfl (am_sub_cons rfl (am_sub_cons rfl (am_sub_cons rfl (am_sub_cons rfl (am_sub_cons rfl am_sub_nil))))))))) rfl
set_option maxRecDepth 100000 in
set_option maxHeartbeats 4000000 in
theorem x_change_ok {sc : Nat × (Nat → Int32)} (d : Nat) (a0 : Int32) (a1 : Int32) (a2 : Int32) (f g : (Nat → Nat → Int32)) (r : Int32 × (Nat → Nat → Int32)) (h : x_change a0 a1 a2 f = some r) : am_Ev sc (d + 1) 158 (0, [(0, .ref 0), (1, .int a0), (2, .int a1), (3, .int a2)], [], am_SH, (f, g)) ((some (.int r.1)), am_SH, (r.2, g)) := by
  have hcd : am_code 158 = am_c158 := rfl
  unfold x_change at h
  refine am_Ev.go hcd 3 (s' := (3, [(0, .ref 0), (1, .int a0), (2, .int a1), (3, .int a2)], [.int 40, .int 1, .int a0], am_SH, (f, g))) rfl ?_
  refine am_Ev.call hcd (a := 170) (s0 := (0, [(0, .int a0), (1, .int 1), (2, .int 40)], [], am_SH, (f, g))) (q := ((some (.int (am_b (x_within a0 1 40)))), am_SH, (f, g))) (s1 := (4, [(0, .ref 0), (1, .int a0), (2, .int a1), (3, .int a2)], [.int (am_b (x_within a0 1 40))], am_SH, (f, g))) rfl rfl (x_within_ok (d) a0 1 40 (f, g)) ?_
  rcases am_ite h with ⟨c4, h⟩ | ⟨c4, h⟩
  · refine am_Ev.f hcd (c := am_b (x_within a0 1 40) = 0) (s1 := (5, [(0, .ref 0), (1, .int a0), (2, .int a1), (3, .int a2)], [], am_SH, (f, g))) rfl (am_b_t c4) ?_
    refine am_Ev.go hcd 3 (s' := (8, [(0, .ref 0), (1, .int a0), (2, .int a1), (3, .int a2)], [.int 99, .int 0, .int a1], am_SH, (f, g))) rfl ?_
    refine am_Ev.call hcd (a := 170) (s0 := (0, [(0, .int a1), (1, .int 0), (2, .int 99)], [], am_SH, (f, g))) (q := ((some (.int (am_b (x_within a1 0 99)))), am_SH, (f, g))) (s1 := (9, [(0, .ref 0), (1, .int a0), (2, .int a1), (3, .int a2)], [.int (am_b (x_within a1 0 99))], am_SH, (f, g))) rfl rfl (x_within_ok (d) a1 0 99 (f, g)) ?_
    rcases am_ite h with ⟨c8, h⟩ | ⟨c8, h⟩
    · refine am_Ev.f hcd (c := am_b (x_within a1 0 99) = 0) (s1 := (10, [(0, .ref 0), (1, .int a0), (2, .int a1), (3, .int a2)], [], am_SH, (f, g))) rfl (am_b_t c8) ?_
      refine am_Ev.go hcd 3 (s' := (13, [(0, .ref 0), (1, .int a0), (2, .int a1), (3, .int a2)], [.int 1, .int 0, .int a2], am_SH, (f, g))) rfl ?_
      refine am_Ev.call hcd (a := 170) (s0 := (0, [(0, .int a2), (1, .int 0), (2, .int 1)], [], am_SH, (f, g))) (q := ((some (.int (am_b (x_within a2 0 1)))), am_SH, (f, g))) (s1 := (14, [(0, .ref 0), (1, .int a0), (2, .int a1), (3, .int a2)], [.int (am_b (x_within a2 0 1))], am_SH, (f, g))) rfl rfl (x_within_ok (d) a2 0 1 (f, g)) ?_
      rcases am_ite h with ⟨c12, h⟩ | ⟨c12, h⟩
      · refine am_Ev.f hcd (c := am_b (x_within a2 0 1) = 0) (s1 := (17, [(0, .ref 0), (1, .int a0), (2, .int a1), (3, .int a2)], [], am_SH, (f, g))) rfl (am_b_t c12) ?_
        refine am_Ev.go hcd 8 (s' := (25, [(0, .ref 0), (1, .int a0), (2, .int a1), (3, .int a2)], [.int a2, .int a1, .int a0, .ref 54, .ref 143], am_SH, (f, g))) rfl ?_
        obtain ⟨p4, hp4, h⟩ := am_bind_some h
        refine am_Ev.call hcd (a := 61) (s0 := (0, [(0, .ref 143), (1, .ref 54), (2, .int a0), (3, .int a1), (4, .int a2)], [], am_SH, (f, g))) (q := ((some (.int p4.1)), am_SH, (p4.2, g))) (s1 := (26, [(0, .ref 0), (1, .int a0), (2, .int a1), (3, .int a2)], [.int p4.1], am_SH, (p4.2, g))) rfl rfl (xm_leastChange_54_ok (d) a0 a1 a2 f g p4 hp4) ?_
        exact am_Ev.cast (a := ((some (.int (p4.1, p4.2).1)), am_SH, ((p4.1, p4.2).2, g))) (by cases h; rfl) (am_Ev.ret hcd rfl)
      · refine am_Ev.t hcd (c := am_b (x_within a2 0 1) = 0) (s1 := (15, [(0, .ref 0), (1, .int a0), (2, .int a1), (3, .int a2)], [], am_SH, (f, g))) rfl (am_b_f c12) ?_
        refine am_Ev.go hcd 1 (s' := (16, [(0, .ref 0), (1, .int a0), (2, .int a1), (3, .int a2)], [.int (-1)], am_SH, (f, g))) rfl ?_
        exact am_Ev.cast (a := ((some (.int ((-1), f).1)), am_SH, (((-1), f).2, g))) (by cases h; rfl) (am_Ev.ret hcd rfl)
    · refine am_Ev.t hcd (c := am_b (x_within a1 0 99) = 0) (s1 := (15, [(0, .ref 0), (1, .int a0), (2, .int a1), (3, .int a2)], [], am_SH, (f, g))) rfl (am_b_f c8) ?_
      refine am_Ev.go hcd 1 (s' := (16, [(0, .ref 0), (1, .int a0), (2, .int a1), (3, .int a2)], [.int (-1)], am_SH, (f, g))) rfl ?_
      exact am_Ev.cast (a := ((some (.int ((-1), f).1)), am_SH, (((-1), f).2, g))) (by cases h; rfl) (am_Ev.ret hcd rfl)
  · refine am_Ev.t hcd (c := am_b (x_within a0 1 40) = 0) (s1 := (15, [(0, .ref 0), (1, .int a0), (2, .int a1), (3, .int a2)], [], am_SH, (f, g))) rfl (am_b_f c4) ?_
    refine am_Ev.go hcd 1 (s' := (16, [(0, .ref 0), (1, .int a0), (2, .int a1), (3, .int a2)], [.int (-1)], am_SH, (f, g))) rfl ?_
    exact am_Ev.cast (a := ((some (.int ((-1), f).1)), am_SH, (((-1), f).2, g))) (by cases h; rfl) (am_Ev.ret hcd rfl)
set_option maxRecDepth 100000 in
set_option maxHeartbeats 4000000 in
theorem xm_priceOf_ok {sc : Nat × (Nat → Int32)} (d : Nat) (a0 : Int32) (a1 : Int32) (f g : (Nat → Nat → Int32)) (r : Int32) (h : xm_priceOf a0 a1 f = some r) : am_Ev sc (d) 64 (0, [(0, .ref 143), (1, .int a0), (2, .int a1)], [], am_SH, (f, g)) ((some (.int r)), am_SH, (f, g)) := by
  have hcd : am_code 64 = am_c64 := rfl
  unfold xm_priceOf at h
  refine am_Ev.go hcd 2 (s' := (2, [(0, .ref 143), (1, .int a0), (2, .int a1)], [.int a1, .int a0], am_SH, (f, g))) rfl ?_
  rcases am_ite h with ⟨c2, h⟩ | ⟨c2, h⟩
  · refine am_Ev.t hcd (c := a0 < a1) (s1 := (5, [(0, .ref 143), (1, .int a0), (2, .int a1)], [], am_SH, (f, g))) rfl c2 ?_
    refine am_Ev.go hcd 7 (s' := (12, [(0, .ref 143), (1, .int a0), (2, .int a1)], [.int ((41 * a0) + a1), .ref 153], am_SH, (f, g))) rfl ?_
    obtain ⟨c5, h⟩ := am_grd h
    refine am_Ev.t hcd (o := none) (c := am_in ((41 * a0) + a1) 1681 = true) (s1 := (13, [(0, .ref 143), (1, .int a0), (2, .int a1)], [.int (f 153 ((41 * a0) + a1).toNatClampNeg)], am_SH, (f, g))) rfl c5 ?_
    exact am_Ev.cast (a := ((some (.int (f 153 ((41 * a0) + a1).toNatClampNeg : Int32))), am_SH, (f, g))) (by cases h; rfl) (am_Ev.ret hcd rfl)
  · refine am_Ev.f hcd (c := a0 < a1) (s1 := (3, [(0, .ref 143), (1, .int a0), (2, .int a1)], [], am_SH, (f, g))) rfl c2 ?_
    refine am_Ev.go hcd 2 (s' := (13, [(0, .ref 143), (1, .int a0), (2, .int a1)], [.int 0], am_SH, (f, g))) rfl ?_
    exact am_Ev.cast (a := ((some (.int 0)), am_SH, (f, g))) (by cases h; rfl) (am_Ev.ret hcd rfl)
set_option maxRecDepth 100000 in
set_option maxHeartbeats 4000000 in
theorem xm_priceBy_ok {sc : Nat × (Nat → Int32)} (d : Nat) (a0 : Int32) (a1 : Int32) (a2 : Int32) (f g : (Nat → Nat → Int32)) (r : Int32) (h : xm_priceBy a0 a1 a2 f = some r) : am_Ev sc (d + 1) 65 (0, [(0, .ref 143), (1, .int a0), (2, .int a1), (3, .int a2)], [], am_SH, (f, g)) ((some (.int r)), am_SH, (f, g)) := by
  have hcd : am_code 65 = am_c65 := rfl
  unfold xm_priceBy at h
  refine am_Ev.go hcd 6 (s' := (6, [(0, .ref 143), (1, .int a0), (2, .int a1), (3, .int a2)], [.int (a2 - 1), .int a0, .ref 143, .int a2], am_SH, (f, g))) rfl ?_
  obtain ⟨p1, hp1, h⟩ := am_bind_some h
  refine am_Ev.call hcd (a := 64) (s0 := (0, [(0, .ref 143), (1, .int a0), (2, .int (a2 - 1))], [], am_SH, (f, g))) (q := ((some (.int p1)), am_SH, (f, g))) (s1 := (7, [(0, .ref 143), (1, .int a0), (2, .int a1), (3, .int a2)], [.int p1, .int a2], am_SH, (f, g))) rfl rfl (xm_priceOf_ok (d) a0 (a2 - 1) f g p1 hp1) ?_
  refine am_Ev.go hcd 5 (s' := (12, [(0, .ref 143), (1, .int a0), (2, .int a1), (3, .int a2)], [.int a1, .int (a2 + 1), .ref 143, .int p1, .int a2], am_SH, (f, g))) rfl ?_
  obtain ⟨p2, hp2, h⟩ := am_bind_some h
  refine am_Ev.call hcd (a := 64) (s0 := (0, [(0, .ref 143), (1, .int (a2 + 1)), (2, .int a1)], [], am_SH, (f, g))) (q := ((some (.int p2)), am_SH, (f, g))) (s1 := (13, [(0, .ref 143), (1, .int a0), (2, .int a1), (3, .int a2)], [.int p2, .int p1, .int a2], am_SH, (f, g))) rfl rfl (xm_priceOf_ok (d) (a2 + 1) a1 f g p2 hp2) ?_
  refine am_Ev.jdk hcd (s1 := (14, [(0, .ref 143), (1, .int a0), (2, .int a1), (3, .int a2)], [.int (am_max p1 p2), .int a2], am_SH, (f, g))) rfl ?_
  refine am_Ev.go hcd 1 (s' := (15, [(0, .ref 143), (1, .int a0), (2, .int a1), (3, .int a2)], [.int (a2 + (am_max p1 p2))], am_SH, (f, g))) rfl ?_
  exact am_Ev.cast (a := ((some (.int (a2 + (am_max p1 p2)))), am_SH, (f, g))) (by cases h; rfl) (am_Ev.ret hcd rfl)
set_option maxRecDepth 100000 in
set_option maxHeartbeats 4000000 in
theorem xm_learnPrices_ok {sc : Nat × (Nat → Int32)} (d : Nat) (a0 : Int32) (f g : (Nat → Nat → Int32)) (r : (Nat → Nat → Int32)) (h : xm_learnPrices a0 f = some r) : am_Ev sc (d + 2) 63 (0, [(0, .ref 143), (1, .int a0)], [], am_SH, (f, g)) (none, am_SH, (r, g)) := by
  have hcd : am_code 63 = am_c63 := rfl
  unfold xm_learnPrices at h
  obtain ⟨t1, Et1, h⟩ := am_let_eq h
  refine am_Ev.go hcd 5 (s' := (5, [(0, .ref 143), (1, .int a0), (2, .int t1)], [], am_SH, (f, g))) (by subst Et1; exact rfl) ?_
  refine am_Ev.weak' (am_loop_ok (G := fun (s2 : Int32 × (Nat → Nat → Int32)) => am_Ev sc (d + 2) 63 (5, [(0, .ref 143), (1, .int a0), (2, .int s2.1)], [], am_SH, (s2.2, g)) (none, am_SH, (r, g))) (Z := fun (v : (Nat → Nat → Int32)) => ((none, am_SH, (v, g)) : am_R) = (none, am_SH, (r, g))) ?_ am_F (t1, f) r h rfl) (am_sub_cons rfl (am_sub_cons rfl (am_sub_cons rfl am_sub_nil))) rfl
  intro s2 q2 h hI2 hZ2
  show am_Ev sc (d + 2) 63 (5, [(0, .ref 143), (1, .int a0), (2, .int s2.1)], [], am_SH, (s2.2, g)) (none, am_SH, (r, g))
  refine am_Ev.go hcd 2 (s' := (7, [(0, .ref 143), (1, .int a0), (2, .int s2.1)], [.int a0, .int s2.1], am_SH, (s2.2, g))) rfl ?_
  rcases am_ite h with ⟨c7, h⟩ | ⟨c7, h⟩
  · refine am_Ev.t hcd (c := a0 < s2.1) (s1 := (51, [(0, .ref 143), (1, .int a0), (2, .int s2.1)], [], am_SH, (s2.2, g))) rfl c7 ?_
    exact am_Ev.cast (a := (none, am_SH, (s2.2, g))) (hZ2 _ (Option.some.inj h).symm) (am_Ev.ret hcd rfl)
  · refine am_Ev.f hcd (c := a0 < s2.1) (s1 := (8, [(0, .ref 143), (1, .int a0), (2, .int s2.1)], [], am_SH, (s2.2, g))) rfl c7 ?_
    refine am_Ev.go hcd 2 (s' := (10, [(0, .ref 143), (1, .int a0), (2, .int s2.1)], [.int 40, .int s2.1], am_SH, (s2.2, g))) rfl ?_
    rcases am_ite h with ⟨c12, h⟩ | ⟨c12, h⟩
    · refine am_Ev.t hcd (c := 40 < s2.1) (s1 := (51, [(0, .ref 143), (1, .int a0), (2, .int s2.1)], [], am_SH, (s2.2, g))) rfl c12 ?_
      exact am_Ev.cast (a := (none, am_SH, (s2.2, g))) (hZ2 _ (Option.some.inj h).symm) (am_Ev.ret hcd rfl)
    · refine am_Ev.f hcd (c := 40 < s2.1) (s1 := (11, [(0, .ref 143), (1, .int a0), (2, .int s2.1)], [], am_SH, (s2.2, g))) rfl c12 ?_
      obtain ⟨t3, Et3, h⟩ := am_let_eq h
      refine am_Ev.go hcd 4 (s' := (15, [(0, .ref 143), (1, .int a0), (2, .int s2.1), (3, .int t3)], [], am_SH, (s2.2, g))) (by subst Et3; exact rfl) ?_
      obtain ⟨e12, he12, h⟩ := am_bind_some h
      have hK4 : (fun (e12 : (Nat → Nat → Int32)) => am_Ev sc (d + 2) 63 (46, [(0, .ref 143), (1, .int a0), (2, .int s2.1)], [], am_SH, (e12, g)) (none, am_SH, (r, g))) e12 := by
        show am_Ev sc (d + 2) 63 (46, [(0, .ref 143), (1, .int a0), (2, .int s2.1)], [], am_SH, (e12, g)) (none, am_SH, (r, g))
        obtain ⟨f13, Ef13, h⟩ := am_let_eq h
        refine am_Ev.go hcd 3 (s' := (49, [(0, .ref 143), (1, .int a0), (2, .int s2.1)], [], am_SH, (f13, g))) (by subst Ef13; exact rfl) ?_
        obtain ⟨t14, Et14, h⟩ := am_let_eq h
        refine am_Ev.go hcd 1 (s' := (50, [(0, .ref 143), (1, .int a0), (2, .int t14)], [], am_SH, (f13, g))) (by subst Et14; exact rfl) ?_
        refine am_Ev.go hcd 1 (s' := (5, [(0, .ref 143), (1, .int a0), (2, .int t14)], [], am_SH, (f13, g))) rfl ?_
        exact am_Ev.weak' (hI2 (t14, f13) (Option.some.inj h).symm) (am_sub_cons rfl (am_sub_cons rfl (am_sub_cons rfl am_sub_nil))) rfl
      refine am_Ev.weak' (am_loop_ok (G := fun (s4 : Int32 × (Nat → Nat → Int32)) => am_Ev sc (d + 2) 63 (15, [(0, .ref 143), (1, .int a0), (2, .int s2.1), (3, .int s4.1)], [], am_SH, (s4.2, g)) (none, am_SH, (r, g))) (Z := fun (e12 : (Nat → Nat → Int32)) => am_Ev sc (d + 2) 63 (46, [(0, .ref 143), (1, .int a0), (2, .int s2.1)], [], am_SH, (e12, g)) (none, am_SH, (r, g))) ?_ am_F (t3, s2.2) e12 he12 hK4) (am_sub_cons rfl (am_sub_cons rfl (am_sub_cons rfl (am_sub_cons rfl am_sub_nil)))) rfl
      intro s4 q4 h hI4 hZ4
      show am_Ev sc (d + 2) 63 (15, [(0, .ref 143), (1, .int a0), (2, .int s2.1), (3, .int s4.1)], [], am_SH, (s4.2, g)) (none, am_SH, (r, g))
      refine am_Ev.go hcd 2 (s' := (17, [(0, .ref 143), (1, .int a0), (2, .int s2.1), (3, .int s4.1)], [.int 1, .int s4.1], am_SH, (s4.2, g))) rfl ?_
      rcases am_ite h with ⟨c31, h⟩ | ⟨c31, h⟩
      · refine am_Ev.t hcd (c := s4.1 < 1) (s1 := (46, [(0, .ref 143), (1, .int a0), (2, .int s2.1), (3, .int s4.1)], [], am_SH, (s4.2, g))) rfl c31 ?_
        exact am_Ev.weak' (hZ4 s4.2 (Option.some.inj h).symm) (am_sub_cons rfl (am_sub_cons rfl (am_sub_cons rfl am_sub_nil))) rfl
      · refine am_Ev.f hcd (c := s4.1 < 1) (s1 := (18, [(0, .ref 143), (1, .int a0), (2, .int s2.1), (3, .int s4.1)], [], am_SH, (s4.2, g))) rfl c31 ?_
        refine am_Ev.go hcd 4 (s' := (22, [(0, .ref 143), (1, .int a0), (2, .int s2.1), (3, .int s4.1), (4, .int 1000000), (5, .int s4.1)], [], am_SH, (s4.2, g))) rfl ?_
        obtain ⟨e9, he9, h⟩ := am_bind_some h
        have hK5 : (fun (e9 : Int32) => am_Ev sc (d + 2) 63 (35, [(0, .ref 143), (1, .int a0), (2, .int s2.1), (3, .int s4.1), (4, .int e9)], [], am_SH, (s4.2, g)) (none, am_SH, (r, g))) e9 := by
          show am_Ev sc (d + 2) 63 (35, [(0, .ref 143), (1, .int a0), (2, .int s2.1), (3, .int s4.1), (4, .int e9)], [], am_SH, (s4.2, g)) (none, am_SH, (r, g))
          refine am_Ev.go hcd 8 (s' := (43, [(0, .ref 143), (1, .int a0), (2, .int s2.1), (3, .int s4.1), (4, .int e9)], [.int e9, .int ((41 * s4.1) + s2.1), .ref 153], am_SH, (s4.2, g))) rfl ?_
          obtain ⟨c40, h⟩ := am_grd h
          obtain ⟨f10, Ef10, h⟩ := am_let_eq h
          refine am_Ev.t hcd (o := none) (c := am_in ((41 * s4.1) + s2.1) 1681 = true) (s1 := (44, [(0, .ref 143), (1, .int a0), (2, .int s2.1), (3, .int s4.1), (4, .int e9)], [], am_SH, (f10, g))) (by subst Ef10; exact rfl) c40 ?_
          obtain ⟨t11, Et11, h⟩ := am_let_eq h
          refine am_Ev.go hcd 1 (s' := (45, [(0, .ref 143), (1, .int a0), (2, .int s2.1), (3, .int t11), (4, .int e9)], [], am_SH, (f10, g))) (by subst Et11; exact rfl) ?_
          refine am_Ev.go hcd 1 (s' := (15, [(0, .ref 143), (1, .int a0), (2, .int s2.1), (3, .int t11), (4, .int e9)], [], am_SH, (f10, g))) rfl ?_
          exact am_Ev.weak' (hI4 (t11, f10) (Option.some.inj h).symm) (am_sub_cons rfl (am_sub_cons rfl (am_sub_cons rfl (am_sub_cons rfl am_sub_nil)))) rfl
        refine am_Ev.weak' (am_loop_ok (G := fun (s5 : Int32 × Int32) => am_Ev sc (d + 2) 63 (22, [(0, .ref 143), (1, .int a0), (2, .int s2.1), (3, .int s4.1), (4, .int s5.1), (5, .int s5.2)], [], am_SH, (s4.2, g)) (none, am_SH, (r, g))) (Z := fun (e9 : Int32) => am_Ev sc (d + 2) 63 (35, [(0, .ref 143), (1, .int a0), (2, .int s2.1), (3, .int s4.1), (4, .int e9)], [], am_SH, (s4.2, g)) (none, am_SH, (r, g))) ?_ am_F (1000000, s4.1) e9 he9 hK5) (am_sub_cons rfl (am_sub_cons rfl (am_sub_cons rfl (am_sub_cons rfl (am_sub_cons rfl (am_sub_cons rfl am_sub_nil)))))) rfl
        intro s5 q5 h hI5 hZ5
        show am_Ev sc (d + 2) 63 (22, [(0, .ref 143), (1, .int a0), (2, .int s2.1), (3, .int s4.1), (4, .int s5.1), (5, .int s5.2)], [], am_SH, (s4.2, g)) (none, am_SH, (r, g))
        refine am_Ev.go hcd 2 (s' := (24, [(0, .ref 143), (1, .int a0), (2, .int s2.1), (3, .int s4.1), (4, .int s5.1), (5, .int s5.2)], [.int s2.1, .int s5.2], am_SH, (s4.2, g))) rfl ?_
        rcases am_ite h with ⟨c51, h⟩ | ⟨c51, h⟩
        · refine am_Ev.t hcd (c := s2.1 < s5.2) (s1 := (35, [(0, .ref 143), (1, .int a0), (2, .int s2.1), (3, .int s4.1), (4, .int s5.1), (5, .int s5.2)], [], am_SH, (s4.2, g))) rfl c51 ?_
          exact am_Ev.weak' (hZ5 s5.1 (Option.some.inj h).symm) (am_sub_cons rfl (am_sub_cons rfl (am_sub_cons rfl (am_sub_cons rfl (am_sub_cons rfl am_sub_nil))))) rfl
        · refine am_Ev.f hcd (c := s2.1 < s5.2) (s1 := (25, [(0, .ref 143), (1, .int a0), (2, .int s2.1), (3, .int s4.1), (4, .int s5.1), (5, .int s5.2)], [], am_SH, (s4.2, g))) rfl c51 ?_
          refine am_Ev.go hcd 5 (s' := (30, [(0, .ref 143), (1, .int a0), (2, .int s2.1), (3, .int s4.1), (4, .int s5.1), (5, .int s5.2)], [.int s5.2, .int s2.1, .int s4.1, .ref 143, .int s5.1], am_SH, (s4.2, g))) rfl ?_
          obtain ⟨p6, hp6, h⟩ := am_bind_some h
          refine am_Ev.call hcd (a := 65) (s0 := (0, [(0, .ref 143), (1, .int s4.1), (2, .int s2.1), (3, .int s5.2)], [], am_SH, (s4.2, g))) (q := ((some (.int p6)), am_SH, (s4.2, g))) (s1 := (31, [(0, .ref 143), (1, .int a0), (2, .int s2.1), (3, .int s4.1), (4, .int s5.1), (5, .int s5.2)], [.int p6, .int s5.1], am_SH, (s4.2, g))) rfl rfl (xm_priceBy_ok (d) s4.1 s2.1 s5.2 s4.2 g p6 hp6) ?_
          refine am_Ev.jdk hcd (s1 := (32, [(0, .ref 143), (1, .int a0), (2, .int s2.1), (3, .int s4.1), (4, .int s5.1), (5, .int s5.2)], [.int (am_min s5.1 p6)], am_SH, (s4.2, g))) rfl ?_
          obtain ⟨t7, Et7, h⟩ := am_let_eq h
          refine am_Ev.go hcd 1 (s' := (33, [(0, .ref 143), (1, .int a0), (2, .int s2.1), (3, .int s4.1), (4, .int t7), (5, .int s5.2)], [], am_SH, (s4.2, g))) (by subst Et7; exact rfl) ?_
          obtain ⟨t8, Et8, h⟩ := am_let_eq h
          refine am_Ev.go hcd 1 (s' := (34, [(0, .ref 143), (1, .int a0), (2, .int s2.1), (3, .int s4.1), (4, .int t7), (5, .int t8)], [], am_SH, (s4.2, g))) (by subst Et8; exact rfl) ?_
          refine am_Ev.go hcd 1 (s' := (22, [(0, .ref 143), (1, .int a0), (2, .int s2.1), (3, .int s4.1), (4, .int t7), (5, .int t8)], [], am_SH, (s4.2, g))) rfl ?_
          exact am_Ev.weak' (hI5 (t7, t8) (Option.some.inj h).symm) (am_sub_cons rfl (am_sub_cons rfl (am_sub_cons rfl (am_sub_cons rfl (am_sub_cons rfl (am_sub_cons rfl am_sub_nil)))))) rfl
set_option maxRecDepth 100000 in
set_option maxHeartbeats 4000000 in
theorem xm_dearest_ok {sc : Nat × (Nat → Int32)} (d : Nat) (a0 : Int32) (a1 : Int32) (f g : (Nat → Nat → Int32)) (r : Int32 × (Nat → Nat → Int32)) (h : xm_dearest a0 a1 f = some r) : am_Ev sc (d + 3) 62 (0, [(0, .ref 143), (1, .int a0), (2, .int a1)], [], am_SH, (f, g)) ((some (.int r.1)), am_SH, (r.2, g)) := by
  have hcd : am_code 62 = am_c62 := rfl
  unfold xm_dearest at h
  refine am_Ev.go hcd 2 (s' := (2, [(0, .ref 143), (1, .int a0), (2, .int a1)], [.int a0, .ref 143], am_SH, (f, g))) rfl ?_
  obtain ⟨p1, hp1, h⟩ := am_bind_some h
  refine am_Ev.call hcd (a := 63) (s0 := (0, [(0, .ref 143), (1, .int a0)], [], am_SH, (f, g))) (q := (none, am_SH, (p1, g))) (s1 := (3, [(0, .ref 143), (1, .int a0), (2, .int a1)], [], am_SH, (p1, g))) rfl rfl (xm_learnPrices_ok (d) a0 f g p1 hp1) ?_
  refine am_Ev.go hcd 1 (s' := (4, [(0, .ref 143), (1, .int a0), (2, .int a1)], [.int a1], am_SH, (p1, g))) rfl ?_
  rcases am_ite h with ⟨c5, h⟩ | ⟨c5, h⟩
  · refine am_Ev.t hcd (c := a1 = 0) (s1 := (5, [(0, .ref 143), (1, .int a0), (2, .int a1)], [], am_SH, (p1, g))) rfl c5 ?_
    refine am_Ev.go hcd 3 (s' := (8, [(0, .ref 143), (1, .int a0), (2, .int a1)], [.int a0, .int 1, .ref 143], am_SH, (p1, g))) rfl ?_
    obtain ⟨p2, hp2, h⟩ := am_bind_some h
    refine am_Ev.call hcd (a := 64) (s0 := (0, [(0, .ref 143), (1, .int 1), (2, .int a0)], [], am_SH, (p1, g))) (q := ((some (.int p2)), am_SH, (p1, g))) (s1 := (9, [(0, .ref 143), (1, .int a0), (2, .int a1)], [.int p2], am_SH, (p1, g))) rfl rfl (xm_priceOf_ok (d + 2) 1 a0 p1 g p2 hp2) ?_
    exact am_Ev.cast (a := ((some (.int (p2, p1).1)), am_SH, ((p2, p1).2, g))) (by cases h; rfl) (am_Ev.ret hcd rfl)
  · refine am_Ev.f hcd (c := a1 = 0) (s1 := (10, [(0, .ref 143), (1, .int a0), (2, .int a1)], [], am_SH, (p1, g))) rfl c5 ?_
    refine am_Ev.go hcd 2 (s' := (12, [(0, .ref 143), (1, .int a0), (2, .int a1), (3, .int 1)], [], am_SH, (p1, g))) rfl ?_
    refine am_Ev.weak' (am_loop_ok (G := fun (s3 : Int32) => am_Ev sc (d + 3) 62 (12, [(0, .ref 143), (1, .int a0), (3, .int s3)], [], am_SH, (p1, g)) ((some (.int r.1)), am_SH, (r.2, g))) (Z := fun (v : Int32 × (Nat → Nat → Int32)) => (((some (.int v.1)), am_SH, (v.2, g)) : am_R) = ((some (.int r.1)), am_SH, (r.2, g))) ?_ am_F 1 r h rfl) (am_sub_cons rfl (am_sub_cons rfl (am_sub_cons rfl am_sub_nil))) rfl
    intro s3 q3 h hI3 hZ3
    show am_Ev sc (d + 3) 62 (12, [(0, .ref 143), (1, .int a0), (3, .int s3)], [], am_SH, (p1, g)) ((some (.int r.1)), am_SH, (r.2, g))
    refine am_Ev.go hcd 2 (s' := (14, [(0, .ref 143), (1, .int a0), (3, .int s3)], [.int a0, .int s3], am_SH, (p1, g))) rfl ?_
    rcases am_ite h with ⟨c17, h⟩ | ⟨c17, h⟩
    · refine am_Ev.t hcd (c := a0 < s3) (s1 := (32, [(0, .ref 143), (1, .int a0), (3, .int s3)], [], am_SH, (p1, g))) rfl c17 ?_
      refine am_Ev.go hcd 1 (s' := (33, [(0, .ref 143), (1, .int a0), (3, .int s3)], [.int (-1)], am_SH, (p1, g))) rfl ?_
      exact am_Ev.cast (a := ((some (.int ((-1), p1).1)), am_SH, (((-1), p1).2, g))) (hZ3 _ (Option.some.inj h).symm) (am_Ev.ret hcd rfl)
    · refine am_Ev.f hcd (c := a0 < s3) (s1 := (15, [(0, .ref 143), (1, .int a0), (3, .int s3)], [], am_SH, (p1, g))) rfl c17 ?_
      refine am_Ev.go hcd 2 (s' := (17, [(0, .ref 143), (1, .int a0), (3, .int s3)], [.int 1, .int a0], am_SH, (p1, g))) rfl ?_
      rcases am_ite h with ⟨c23, h⟩ | ⟨c23, h⟩
      · refine am_Ev.t hcd (c := 1 < a0) (s1 := (18, [(0, .ref 143), (1, .int a0), (3, .int s3)], [], am_SH, (p1, g))) rfl c23 ?_
        refine am_Ev.go hcd 4 (s' := (22, [(0, .ref 143), (1, .int a0), (3, .int s3)], [.int s3, .int a0, .int 1, .ref 143], am_SH, (p1, g))) rfl ?_
        obtain ⟨p4, hp4, h⟩ := am_bind_some h
        refine am_Ev.call hcd (a := 65) (s0 := (0, [(0, .ref 143), (1, .int 1), (2, .int a0), (3, .int s3)], [], am_SH, (p1, g))) (q := ((some (.int p4)), am_SH, (p1, g))) (s1 := (23, [(0, .ref 143), (1, .int a0), (3, .int s3)], [.int p4], am_SH, (p1, g))) rfl rfl (xm_priceBy_ok (d + 1) 1 a0 s3 p1 g p4 hp4) ?_
        refine am_Ev.go hcd 3 (s' := (26, [(0, .ref 143), (1, .int a0), (3, .int s3)], [.int a0, .int 1, .ref 143, .int p4], am_SH, (p1, g))) rfl ?_
        obtain ⟨p5, hp5, h⟩ := am_bind_some h
        refine am_Ev.call hcd (a := 64) (s0 := (0, [(0, .ref 143), (1, .int 1), (2, .int a0)], [], am_SH, (p1, g))) (q := ((some (.int p5)), am_SH, (p1, g))) (s1 := (27, [(0, .ref 143), (1, .int a0), (3, .int s3)], [.int p5, .int p4], am_SH, (p1, g))) rfl rfl (xm_priceOf_ok (d + 2) 1 a0 p1 g p5 hp5) ?_
        rcases am_ite h with ⟨c32, h⟩ | ⟨c32, h⟩
        · refine am_Ev.t hcd (c := p4 = p5) (s1 := (28, [(0, .ref 143), (1, .int a0), (3, .int s3)], [], am_SH, (p1, g))) rfl c32 ?_
          refine am_Ev.go hcd 1 (s' := (29, [(0, .ref 143), (1, .int a0), (3, .int s3)], [.int s3], am_SH, (p1, g))) rfl ?_
          exact am_Ev.cast (a := ((some (.int (s3, p1).1)), am_SH, ((s3, p1).2, g))) (hZ3 _ (Option.some.inj h).symm) (am_Ev.ret hcd rfl)
        · refine am_Ev.f hcd (c := p4 = p5) (s1 := (30, [(0, .ref 143), (1, .int a0), (3, .int s3)], [], am_SH, (p1, g))) rfl c32 ?_
          obtain ⟨t6, Et6, h⟩ := am_let_eq h
          refine am_Ev.go hcd 1 (s' := (31, [(0, .ref 143), (1, .int a0), (3, .int t6)], [], am_SH, (p1, g))) (by subst Et6; exact rfl) ?_
          refine am_Ev.go hcd 1 (s' := (12, [(0, .ref 143), (1, .int a0), (3, .int t6)], [], am_SH, (p1, g))) rfl ?_
          exact am_Ev.weak' (hI3 t6 (Option.some.inj h).symm) (am_sub_cons rfl (am_sub_cons rfl (am_sub_cons rfl am_sub_nil))) rfl
      · refine am_Ev.f hcd (c := 1 < a0) (s1 := (32, [(0, .ref 143), (1, .int a0), (3, .int s3)], [], am_SH, (p1, g))) rfl c23 ?_
        refine am_Ev.go hcd 1 (s' := (33, [(0, .ref 143), (1, .int a0), (3, .int s3)], [.int (-1)], am_SH, (p1, g))) rfl ?_
        exact am_Ev.cast (a := ((some (.int ((-1), p1).1)), am_SH, (((-1), p1).2, g))) (hZ3 _ (Option.some.inj h).symm) (am_Ev.ret hcd rfl)
set_option maxRecDepth 100000 in
set_option maxHeartbeats 4000000 in
theorem x_dear_ok {sc : Nat × (Nat → Int32)} (d : Nat) (a0 : Int32) (a1 : Int32) (f g : (Nat → Nat → Int32)) (r : Int32 × (Nat → Nat → Int32)) (h : x_dear a0 a1 f = some r) : am_Ev sc (d + 4) 159 (0, [(0, .ref 0), (1, .int a0), (2, .int a1)], [], am_SH, (f, g)) ((some (.int r.1)), am_SH, (r.2, g)) := by
  have hcd : am_code 159 = am_c159 := rfl
  unfold x_dear at h
  refine am_Ev.go hcd 3 (s' := (3, [(0, .ref 0), (1, .int a0), (2, .int a1)], [.int 40, .int 1, .int a0], am_SH, (f, g))) rfl ?_
  refine am_Ev.call hcd (a := 170) (s0 := (0, [(0, .int a0), (1, .int 1), (2, .int 40)], [], am_SH, (f, g))) (q := ((some (.int (am_b (x_within a0 1 40)))), am_SH, (f, g))) (s1 := (4, [(0, .ref 0), (1, .int a0), (2, .int a1)], [.int (am_b (x_within a0 1 40))], am_SH, (f, g))) rfl rfl (x_within_ok (d + 3) a0 1 40 (f, g)) ?_
  rcases am_ite h with ⟨c4, h⟩ | ⟨c4, h⟩
  · refine am_Ev.f hcd (c := am_b (x_within a0 1 40) = 0) (s1 := (5, [(0, .ref 0), (1, .int a0), (2, .int a1)], [], am_SH, (f, g))) rfl (am_b_t c4) ?_
    refine am_Ev.go hcd 3 (s' := (8, [(0, .ref 0), (1, .int a0), (2, .int a1)], [.int 1, .int 0, .int a1], am_SH, (f, g))) rfl ?_
    refine am_Ev.call hcd (a := 170) (s0 := (0, [(0, .int a1), (1, .int 0), (2, .int 1)], [], am_SH, (f, g))) (q := ((some (.int (am_b (x_within a1 0 1)))), am_SH, (f, g))) (s1 := (9, [(0, .ref 0), (1, .int a0), (2, .int a1)], [.int (am_b (x_within a1 0 1))], am_SH, (f, g))) rfl rfl (x_within_ok (d + 3) a1 0 1 (f, g)) ?_
    rcases am_ite h with ⟨c8, h⟩ | ⟨c8, h⟩
    · refine am_Ev.f hcd (c := am_b (x_within a1 0 1) = 0) (s1 := (12, [(0, .ref 0), (1, .int a0), (2, .int a1)], [], am_SH, (f, g))) rfl (am_b_t c8) ?_
      refine am_Ev.go hcd 4 (s' := (16, [(0, .ref 0), (1, .int a0), (2, .int a1)], [.int a1, .int a0, .ref 143], am_SH, (f, g))) rfl ?_
      obtain ⟨p3, hp3, h⟩ := am_bind_some h
      refine am_Ev.call hcd (a := 62) (s0 := (0, [(0, .ref 143), (1, .int a0), (2, .int a1)], [], am_SH, (f, g))) (q := ((some (.int p3.1)), am_SH, (p3.2, g))) (s1 := (17, [(0, .ref 0), (1, .int a0), (2, .int a1)], [.int p3.1], am_SH, (p3.2, g))) rfl rfl (xm_dearest_ok (d) a0 a1 f g p3 hp3) ?_
      exact am_Ev.cast (a := ((some (.int (p3.1, p3.2).1)), am_SH, ((p3.1, p3.2).2, g))) (by cases h; rfl) (am_Ev.ret hcd rfl)
    · refine am_Ev.t hcd (c := am_b (x_within a1 0 1) = 0) (s1 := (10, [(0, .ref 0), (1, .int a0), (2, .int a1)], [], am_SH, (f, g))) rfl (am_b_f c8) ?_
      refine am_Ev.go hcd 1 (s' := (11, [(0, .ref 0), (1, .int a0), (2, .int a1)], [.int (-1)], am_SH, (f, g))) rfl ?_
      exact am_Ev.cast (a := ((some (.int ((-1), f).1)), am_SH, (((-1), f).2, g))) (by cases h; rfl) (am_Ev.ret hcd rfl)
  · refine am_Ev.t hcd (c := am_b (x_within a0 1 40) = 0) (s1 := (10, [(0, .ref 0), (1, .int a0), (2, .int a1)], [], am_SH, (f, g))) rfl (am_b_f c4) ?_
    refine am_Ev.go hcd 1 (s' := (11, [(0, .ref 0), (1, .int a0), (2, .int a1)], [.int (-1)], am_SH, (f, g))) rfl ?_
    exact am_Ev.cast (a := ((some (.int ((-1), f).1)), am_SH, (((-1), f).2, g))) (by cases h; rfl) (am_Ev.ret hcd rfl)
set_option maxRecDepth 100000 in
set_option maxHeartbeats 4000000 in
theorem xr_clearAll_45_ok {sc : Nat × (Nat → Int32)} (d : Nat)  (f g : (Nat → Nat → Int32)) : am_Ev sc (d) 86 (0, [(0, .ref 45)], [], am_SH, (f, g)) ((some (.int (xr_clearAll_45  f).1)), am_SH, ((xr_clearAll_45  f).2, g)) := by
  have hcd : am_code 86 = am_c86 := rfl
  obtain ⟨r, h⟩ : ∃ r, r = xr_clearAll_45  f := ⟨_, rfl⟩
  rw [← h]
  unfold xr_clearAll_45 at h
  obtain ⟨f1, Ef1, h⟩ := am_let_eq' h
  refine am_Ev.go hcd 3 (s' := (3, [(0, .ref 45)], [], am_SH, (f1, g))) (by subst Ef1; exact rfl) ?_
  refine am_Ev.go hcd 2 (s' := (5, [(0, .ref 45)], [.int (f1 45 0)], am_SH, (f1, g))) rfl ?_
  exact am_Ev.cast (a := ((some (.int (f1 45 0, f1).1)), am_SH, ((f1 45 0, f1).2, g))) (by subst h; rfl) (am_Ev.ret hcd rfl)
