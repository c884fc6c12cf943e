set_option maxRecDepth 100000 in
set_option maxHeartbeats 4000000 in
theorem xm_turns_51_ok {sc : Nat × (Nat → Int32)} (d : Nat) (a0 : Int32) (a1 : Int32) (f g : (Nat → Nat → Int32)) (r : Int32) (h : xm_turns_51 a0 a1 f = some r) : am_Ev sc (d + 1) 76 (0, [(0, .ref 143), (1, .ref 51), (2, .int a0), (3, .int a1)], [], am_SH, (f, g)) ((some (.int r)), am_SH, (f, g)) := by
  have hcd : am_code 76 = am_c76 := rfl
  unfold xm_turns_51 at h
  refine am_Ev.go hcd 4 (s' := (4, [(0, .ref 143), (1, .ref 51), (2, .int a0), (3, .int a1), (4, .int 0), (5, .int 0)], [], am_SH, (f, g))) rfl ?_
  refine am_Ev.weak' (am_loop_ok (G := fun (s1 : Int32 × Int32) => am_Ev sc (d + 1) 76 (4, [(1, .ref 51), (2, .int a0), (3, .int a1), (4, .int s1.1), (5, .int s1.2)], [], am_SH, (f, g)) ((some (.int r)), am_SH, (f, g))) (Z := fun (v : Int32) => (((some (.int v)), am_SH, (f, g)) : am_R) = ((some (.int r)), am_SH, (f, g))) ?_ am_F (0, 0) r h rfl) (am_sub_cons rfl (am_sub_cons rfl (am_sub_cons rfl (am_sub_cons rfl (am_sub_cons rfl am_sub_nil))))) rfl
  intro s1 q1 h hI1 hZ1
  show am_Ev sc (d + 1) 76 (4, [(1, .ref 51), (2, .int a0), (3, .int a1), (4, .int s1.1), (5, .int s1.2)], [], am_SH, (f, g)) ((some (.int r)), am_SH, (f, g))
  refine am_Ev.go hcd 5 (s' := (9, [(1, .ref 51), (2, .int a0), (3, .int a1), (4, .int s1.1), (5, .int s1.2)], [.int (1 <<< ((f 51 0) &&& 31)), .int s1.2], am_SH, (f, g))) rfl ?_
  rcases am_ite h with ⟨c6, h⟩ | ⟨c6, h⟩
  · refine am_Ev.t hcd (c := s1.2 < (1 <<< ((f 51 0) &&& 31))) (s1 := (10, [(1, .ref 51), (2, .int a0), (3, .int a1), (4, .int s1.1), (5, .int s1.2)], [], am_SH, (f, g))) rfl c6 ?_
    obtain ⟨t4, ht4, kt4⟩ := am_bind_some h
    have hKt4 : am_Ev sc (d + 1) 76 (34, [(1, .ref 51), (2, .int a0), (3, .int a1), (4, .int t4), (5, .int s1.2)], [], am_SH, (f, g)) ((some (.int r)), am_SH, (f, g)) := by
      have h := kt4
      obtain ⟨t5, Et5, h⟩ := am_let_eq h
      refine am_Ev.go hcd 1 (s' := (35, [(1, .ref 51), (2, .int a0), (3, .int a1), (4, .int t4), (5, .int t5)], [], am_SH, (f, g))) (by subst Et5; exact rfl) ?_
      refine am_Ev.go hcd 1 (s' := (4, [(1, .ref 51), (2, .int a0), (3, .int a1), (4, .int t4), (5, .int t5)], [], am_SH, (f, g))) rfl ?_
      exact am_Ev.weak' (hI1 (t4, t5) (Option.some.inj h).symm) (am_sub_cons rfl (am_sub_cons rfl (am_sub_cons rfl (am_sub_cons rfl (am_sub_cons rfl am_sub_nil))))) rfl
    have hLt4 : ∀ tt, tt = t4 → am_Ev sc (d + 1) 76 (34, [(1, .ref 51), (2, .int a0), (3, .int a1), (4, .int tt), (5, .int s1.2)], [], am_SH, (f, g)) ((some (.int r)), am_SH, (f, g)) := fun tt htt => by subst htt; exact hKt4
    have h := ht4
    refine am_Ev.go hcd 6 (s' := (16, [(1, .ref 51), (2, .int a0), (3, .int a1), (4, .int s1.1), (5, .int s1.2)], [.int 1, .int ((s1.2 >>> (a1 &&& 31)) &&& 1)], am_SH, (f, g))) rfl ?_
    rcases am_ite h with ⟨c18, h⟩ | ⟨c18, h⟩
    · refine am_Ev.t hcd (c := ((s1.2 >>> (a1 &&& 31)) &&& 1) = 1) (s1 := (17, [(1, .ref 51), (2, .int a0), (3, .int a1), (4, .int s1.1), (5, .int s1.2)], [], am_SH, (f, g))) rfl c18 ?_
      refine am_Ev.go hcd 1 (s' := (34, [(1, .ref 51), (2, .int a0), (3, .int a1), (4, .int s1.1), (5, .int s1.2)], [], am_SH, (f, g))) rfl ?_
      exact am_Ev.weak' (hLt4 s1.1 (Option.some.inj h)) (am_sub_cons rfl (am_sub_cons rfl (am_sub_cons rfl (am_sub_cons rfl (am_sub_cons rfl am_sub_nil))))) rfl
    · refine am_Ev.f hcd (c := ((s1.2 >>> (a1 &&& 31)) &&& 1) = 1) (s1 := (18, [(1, .ref 51), (2, .int a0), (3, .int a1), (4, .int s1.1), (5, .int s1.2)], [], am_SH, (f, g))) rfl c18 ?_
      refine am_Ev.go hcd 2 (s' := (20, [(1, .ref 51), (2, .int a0), (3, .int a1), (4, .int s1.1), (5, .int s1.2)], [.int s1.2, .ref 51], am_SH, (f, g))) rfl ?_
      obtain ⟨p2, hp2, h⟩ := am_bind_some h
      refine am_Ev.call hcd (a := 75) (s0 := (0, [(0, .ref 51), (1, .int s1.2)], [], am_SH, (f, g))) (q := ((some (.int p2)), am_SH, (f, g))) (s1 := (21, [(1, .ref 51), (2, .int a0), (3, .int a1), (4, .int s1.1), (5, .int s1.2)], [.int p2], am_SH, (f, g))) rfl rfl (xm_weightOf_51_ok (d) s1.2 f g p2 hp2) ?_
      refine am_Ev.go hcd 3 (s' := (24, [(1, .ref 51), (2, .int a0), (3, .int a1), (4, .int s1.1), (5, .int s1.2), (6, .int p2)], [.int a0, .int p2], am_SH, (f, g))) rfl ?_
      rcases am_ite h with ⟨c27, h⟩ | ⟨c27, h⟩
      · refine am_Ev.t hcd (c := p2 < a0) (s1 := (25, [(1, .ref 51), (2, .int a0), (3, .int a1), (4, .int s1.1), (5, .int s1.2), (6, .int p2)], [], am_SH, (f, g))) rfl c27 ?_
        refine am_Ev.go hcd 4 (s' := (29, [(1, .ref 51), (2, .int a0), (3, .int a1), (4, .int s1.1), (5, .int s1.2), (6, .int p2)], [.int a1, .ref 52, .int p2], am_SH, (f, g))) rfl ?_
        obtain ⟨c30, h⟩ := am_grd h
        refine am_Ev.t hcd (o := none) (c := am_in a1 8 = true) (s1 := (30, [(1, .ref 51), (2, .int a0), (3, .int a1), (4, .int s1.1), (5, .int s1.2), (6, .int p2)], [.int (f 52 a1.toNatClampNeg), .int p2], am_SH, (f, g))) rfl c30 ?_
        refine am_Ev.go hcd 2 (s' := (32, [(1, .ref 51), (2, .int a0), (3, .int a1), (4, .int s1.1), (5, .int s1.2), (6, .int p2)], [.int a0, .int (p2 + (f 52 a1.toNatClampNeg))], am_SH, (f, g))) rfl ?_
        rcases am_ite h with ⟨c33, h⟩ | ⟨c33, h⟩
        · refine am_Ev.t hcd (c := (p2 + (f 52 a1.toNatClampNeg)) < a0) (s1 := (34, [(1, .ref 51), (2, .int a0), (3, .int a1), (4, .int s1.1), (5, .int s1.2), (6, .int p2)], [], am_SH, (f, g))) rfl c33 ?_
          exact am_Ev.weak' (hLt4 s1.1 (Option.some.inj h)) (am_sub_cons rfl (am_sub_cons rfl (am_sub_cons rfl (am_sub_cons rfl (am_sub_cons rfl am_sub_nil))))) rfl
        · refine am_Ev.f hcd (c := (p2 + (f 52 a1.toNatClampNeg)) < a0) (s1 := (33, [(1, .ref 51), (2, .int a0), (3, .int a1), (4, .int s1.1), (5, .int s1.2), (6, .int p2)], [], am_SH, (f, g))) rfl c33 ?_
          obtain ⟨t3, Et3, h⟩ := am_let_eq h
          refine am_Ev.go hcd 1 (s' := (34, [(1, .ref 51), (2, .int a0), (3, .int a1), (4, .int t3), (5, .int s1.2), (6, .int p2)], [], am_SH, (f, g))) (by subst Et3; exact rfl) ?_
          exact am_Ev.weak' (hLt4 t3 (Option.some.inj h)) (am_sub_cons rfl (am_sub_cons rfl (am_sub_cons rfl (am_sub_cons rfl (am_sub_cons rfl am_sub_nil))))) rfl
      · refine am_Ev.f hcd (c := p2 < a0) (s1 := (34, [(1, .ref 51), (2, .int a0), (3, .int a1), (4, .int s1.1), (5, .int s1.2), (6, .int p2)], [], am_SH, (f, g))) rfl c27 ?_
        exact am_Ev.weak' (hLt4 s1.1 (Option.some.inj h)) (am_sub_cons rfl (am_sub_cons rfl (am_sub_cons rfl (am_sub_cons rfl (am_sub_cons rfl am_sub_nil))))) rfl
  · refine am_Ev.f hcd (c := s1.2 < (1 <<< ((f 51 0) &&& 31))) (s1 := (36, [(1, .ref 51), (2, .int a0), (3, .int a1), (4, .int s1.1), (5, .int s1.2)], [], am_SH, (f, g))) rfl c6 ?_
    refine am_Ev.go hcd 1 (s' := (37, [(1, .ref 51), (2, .int a0), (3, .int a1), (4, .int s1.1), (5, .int s1.2)], [.int s1.1], am_SH, (f, g))) rfl ?_
    exact am_Ev.cast (a := ((some (.int s1.1)), am_SH, (f, g))) (hZ1 _ (Option.some.inj h).symm) (am_Ev.ret hcd rfl)
set_option maxRecDepth 100000 in
set_option maxHeartbeats 4000000 in
theorem x_jury_ok {sc : Nat × (Nat → Int32)} (d : Nat) (a0 : Int32) (a1 : Int32) (f g : (Nat → Nat → Int32)) (r : Int32) (h : x_jury a0 a1 f = some r) : am_Ev sc (d + 2) 166 (0, [(0, .ref 0), (1, .int a0), (2, .int a1)], [], am_SH, (f, g)) ((some (.int r)), am_SH, (f, g)) := by
  have hcd : am_code 166 = am_c166 := rfl
  unfold x_jury at h
  refine am_Ev.go hcd 3 (s' := (3, [(0, .ref 0), (1, .int a0), (2, .int a1)], [.int 160, .int 1, .int a0], am_SH, (f, g))) rfl ?_
  refine am_Ev.call hcd (a := 170) (s0 := (0, [(0, .int a0), (1, .int 1), (2, .int 160)], [], am_SH, (f, g))) (q := ((some (.int (am_b (x_within a0 1 160)))), am_SH, (f, g))) (s1 := (4, [(0, .ref 0), (1, .int a0), (2, .int a1)], [.int (am_b (x_within a0 1 160))], am_SH, (f, g))) rfl rfl (x_within_ok (d + 1) a0 1 160 (f, g)) ?_
  rcases am_ite h with ⟨c4, h⟩ | ⟨c4, h⟩
  · refine am_Ev.f hcd (c := am_b (x_within a0 1 160) = 0) (s1 := (7, [(0, .ref 0), (1, .int a0), (2, .int a1)], [], am_SH, (f, g))) rfl (am_b_t c4) ?_
    refine am_Ev.go hcd 2 (s' := (9, [(0, .ref 0), (1, .int a0), (2, .int a1)], [.int (-1), .int a1], am_SH, (f, g))) rfl ?_
    rcases am_ite h with ⟨c6, h⟩ | ⟨c6, h⟩
    · refine am_Ev.t hcd (c := a1 = (-1)) (s1 := (10, [(0, .ref 0), (1, .int a0), (2, .int a1)], [], am_SH, (f, g))) rfl c6 ?_
      refine am_Ev.go hcd 6 (s' := (16, [(0, .ref 0), (1, .int a0), (2, .int a1)], [.int a0, .ref 51, .ref 143], am_SH, (f, g))) rfl ?_
      obtain ⟨p2, hp2, h⟩ := am_bind_some h
      refine am_Ev.call hcd (a := 77) (s0 := (0, [(0, .ref 143), (1, .ref 51), (2, .int a0)], [], am_SH, (f, g))) (q := ((some (.int p2)), am_SH, (f, g))) (s1 := (17, [(0, .ref 0), (1, .int a0), (2, .int a1)], [.int p2], am_SH, (f, g))) rfl rfl (xm_fewestEnough_51_ok (d) a0 f g p2 hp2) ?_
      exact am_Ev.cast (a := ((some (.int p2)), am_SH, (f, g))) (by cases h; rfl) (am_Ev.ret hcd rfl)
    · refine am_Ev.f hcd (c := a1 = (-1)) (s1 := (18, [(0, .ref 0), (1, .int a0), (2, .int a1)], [], am_SH, (f, g))) rfl c6 ?_
      refine am_Ev.go hcd 4 (s' := (22, [(0, .ref 0), (1, .int a0), (2, .int a1)], [.int a1, .ref 51], am_SH, (f, g))) rfl ?_
      refine am_Ev.call hcd (a := 87) (s0 := (0, [(0, .ref 51), (1, .int a1)], [], am_SH, (f, g))) (q := ((some (.int (am_b (xr_has_51 a1 f)))), am_SH, (f, g))) (s1 := (23, [(0, .ref 0), (1, .int a0), (2, .int a1)], [.int (am_b (xr_has_51 a1 f))], am_SH, (f, g))) rfl rfl (xr_has_51_ok (d + 1) a1 f g) ?_
      rcases am_ite h with ⟨c16, h⟩ | ⟨c16, h⟩
      · refine am_Ev.f hcd (c := am_b (xr_has_51 a1 f) = 0) (s1 := (24, [(0, .ref 0), (1, .int a0), (2, .int a1)], [], am_SH, (f, g))) rfl (am_b_t c16) ?_
        refine am_Ev.go hcd 7 (s' := (31, [(0, .ref 0), (1, .int a0), (2, .int a1)], [.int a1, .int a0, .ref 51, .ref 143], am_SH, (f, g))) rfl ?_
        obtain ⟨p4, hp4, h⟩ := am_bind_some h
        refine am_Ev.call hcd (a := 76) (s0 := (0, [(0, .ref 143), (1, .ref 51), (2, .int a0), (3, .int a1)], [], am_SH, (f, g))) (q := ((some (.int p4)), am_SH, (f, g))) (s1 := (32, [(0, .ref 0), (1, .int a0), (2, .int a1)], [.int p4], am_SH, (f, g))) rfl rfl (xm_turns_51_ok (d) a0 a1 f g p4 hp4) ?_
        refine am_Ev.go hcd 1 (s' := (34, [(0, .ref 0), (1, .int a0), (2, .int a1)], [.int p4], am_SH, (f, g))) rfl ?_
        exact am_Ev.cast (a := ((some (.int p4)), am_SH, (f, g))) (by cases h; rfl) (am_Ev.ret hcd rfl)
      · refine am_Ev.t hcd (c := am_b (xr_has_51 a1 f) = 0) (s1 := (33, [(0, .ref 0), (1, .int a0), (2, .int a1)], [], am_SH, (f, g))) rfl (am_b_f c16) ?_
        refine am_Ev.go hcd 1 (s' := (34, [(0, .ref 0), (1, .int a0), (2, .int a1)], [.int (-1)], am_SH, (f, g))) rfl ?_
        exact am_Ev.cast (a := ((some (.int (-1))), am_SH, (f, g))) (by cases h; rfl) (am_Ev.ret hcd rfl)
  · refine am_Ev.t hcd (c := am_b (x_within a0 1 160) = 0) (s1 := (5, [(0, .ref 0), (1, .int a0), (2, .int a1)], [], am_SH, (f, g))) rfl (am_b_f c4) ?_
    refine am_Ev.go hcd 1 (s' := (6, [(0, .ref 0), (1, .int a0), (2, .int a1)], [.int (-1)], am_SH, (f, g))) rfl ?_
    exact am_Ev.cast (a := ((some (.int (-1))), am_SH, (f, g))) (by cases h; rfl) (am_Ev.ret hcd rfl)
set_option maxRecDepth 100000 in
set_option maxHeartbeats 4000000 in
theorem xc_takeFrom_56_2_ok {sc : Nat × (Nat → Int32)} (d : Nat)  (f g : (Nat → Nat → Int32)) : am_Ev sc (d + 1) 30 (0, [(0, .ref 56), (1, .ref 2)], [], am_SH, (f, g)) (none, am_SH, ((xc_takeFrom_56_2  f), g)) := by
  have hcd : am_code 30 = am_c30 := rfl
  obtain ⟨r, h⟩ : ∃ r, r = xc_takeFrom_56_2  f := ⟨_, rfl⟩
  rw [← h]
  unfold xc_takeFrom_56_2 at h
  obtain ⟨f1, Ef1, h⟩ := am_let_eq' h
  refine am_Ev.go hcd 4 (s' := (4, [(0, .ref 56), (1, .ref 2)], [], am_SH, (f1, g))) (by subst Ef1; exact rfl) ?_
  obtain ⟨f2, Ef2, h⟩ := am_let_eq' h
  refine am_Ev.go hcd 4 (s' := (8, [(0, .ref 56), (1, .ref 2)], [], am_SH, (f2, g))) (by subst Ef2; exact rfl) ?_
  obtain ⟨f3, Ef3, h⟩ := am_let_eq' h
  refine am_Ev.go hcd 4 (s' := (12, [(0, .ref 56), (1, .ref 2)], [], am_SH, (f3, g))) (by subst Ef3; exact rfl) ?_
  obtain ⟨f4, Ef4, h⟩ := am_let_eq' h
  refine am_Ev.go hcd 4 (s' := (16, [(0, .ref 56), (1, .ref 2)], [], am_SH, (f4, g))) (by subst Ef4; exact rfl) ?_
  obtain ⟨f5, Ef5, h⟩ := am_let_eq' h
  refine am_Ev.go hcd 4 (s' := (20, [(0, .ref 56), (1, .ref 2)], [], am_SH, (f5, g))) (by subst Ef5; exact rfl) ?_
  obtain ⟨f6, Ef6, h⟩ := am_let_eq' h
  refine am_Ev.go hcd 4 (s' := (24, [(0, .ref 56), (1, .ref 2)], [], am_SH, (f6, g))) (by subst Ef6; exact rfl) ?_
  refine am_Ev.go hcd 7 (s' := (31, [(0, .ref 56), (1, .ref 2)], [.int 6, .int 0, .ref 57, .int 0, .ref 3], am_SH, (f6, g))) rfl ?_
  obtain ⟨f7, Ef7, h⟩ := am_let_eq' h
  refine am_Ev.jdk hcd (s1 := (32, [(0, .ref 56), (1, .ref 2)], [], am_SH, (f7, g))) (by subst Ef7; exact rfl) ?_
  refine am_Ev.go hcd 7 (s' := (39, [(0, .ref 56), (1, .ref 2)], [.int 6, .int 0, .ref 58, .int 0, .ref 4], am_SH, (f7, g))) rfl ?_
  obtain ⟨f8, Ef8, h⟩ := am_let_eq' h
  refine am_Ev.jdk hcd (s1 := (40, [(0, .ref 56), (1, .ref 2)], [], am_SH, (f8, g))) (by subst Ef8; exact rfl) ?_
  refine am_Ev.go hcd 7 (s' := (47, [(0, .ref 56), (1, .ref 2)], [.int 6, .int 0, .ref 59, .int 0, .ref 5], am_SH, (f8, g))) rfl ?_
  obtain ⟨f9, Ef9, h⟩ := am_let_eq' h
  refine am_Ev.jdk hcd (s1 := (48, [(0, .ref 56), (1, .ref 2)], [], am_SH, (f9, g))) (by subst Ef9; exact rfl) ?_
  refine am_Ev.go hcd 7 (s' := (55, [(0, .ref 56), (1, .ref 2)], [.int 6, .int 0, .ref 60, .int 0, .ref 6], am_SH, (f9, g))) rfl ?_
  obtain ⟨f10, Ef10, h⟩ := am_let_eq' h
  refine am_Ev.jdk hcd (s1 := (56, [(0, .ref 56), (1, .ref 2)], [], am_SH, (f10, g))) (by subst Ef10; exact rfl) ?_
  refine am_Ev.go hcd 7 (s' := (63, [(0, .ref 56), (1, .ref 2)], [.int 6, .int 0, .ref 61, .int 0, .ref 7], am_SH, (f10, g))) rfl ?_
  obtain ⟨f11, Ef11, h⟩ := am_let_eq' h
  refine am_Ev.jdk hcd (s1 := (64, [(0, .ref 56), (1, .ref 2)], [], am_SH, (f11, g))) (by subst Ef11; exact rfl) ?_
  refine am_Ev.go hcd 7 (s' := (71, [(0, .ref 56), (1, .ref 2)], [.int 12, .int 0, .ref 62, .int 0, .ref 8], am_SH, (f11, g))) rfl ?_
  obtain ⟨f12, Ef12, h⟩ := am_let_eq' h
  refine am_Ev.jdk hcd (s1 := (72, [(0, .ref 56), (1, .ref 2)], [], am_SH, (f12, g))) (by subst Ef12; exact rfl) ?_
  refine am_Ev.go hcd 7 (s' := (79, [(0, .ref 56), (1, .ref 2)], [.int 12, .int 0, .ref 63, .int 0, .ref 9], am_SH, (f12, g))) rfl ?_
  obtain ⟨f13, Ef13, h⟩ := am_let_eq' h
  refine am_Ev.jdk hcd (s1 := (80, [(0, .ref 56), (1, .ref 2)], [], am_SH, (f13, g))) (by subst Ef13; exact rfl) ?_
  refine am_Ev.go hcd 7 (s' := (87, [(0, .ref 56), (1, .ref 2)], [.int 12, .int 0, .ref 64, .int 0, .ref 10], am_SH, (f13, g))) rfl ?_
  obtain ⟨f14, Ef14, h⟩ := am_let_eq' h
  refine am_Ev.jdk hcd (s1 := (88, [(0, .ref 56), (1, .ref 2)], [], am_SH, (f14, g))) (by subst Ef14; exact rfl) ?_
  refine am_Ev.go hcd 7 (s' := (95, [(0, .ref 56), (1, .ref 2)], [.int 12, .int 0, .ref 65, .int 0, .ref 11], am_SH, (f14, g))) rfl ?_
  obtain ⟨f15, Ef15, h⟩ := am_let_eq' h
  refine am_Ev.jdk hcd (s1 := (96, [(0, .ref 56), (1, .ref 2)], [], am_SH, (f15, g))) (by subst Ef15; exact rfl) ?_
  exact am_Ev.cast (a := (none, am_SH, (f15, g))) (by subst h; rfl) (am_Ev.ret hcd rfl)
set_option maxRecDepth 100000 in
set_option maxHeartbeats 4000000 in
theorem xk_takeFrom_66_12_ok {sc : Nat × (Nat → Int32)} (d : Nat)  (f g : (Nat → Nat → Int32)) : am_Ev sc (d + 1) 20 (0, [(0, .ref 66), (1, .ref 12)], [], am_SH, (f, g)) (none, am_SH, ((xk_takeFrom_66_12  f), g)) := by
  have hcd : am_code 20 = am_c20 := rfl
  obtain ⟨r, h⟩ : ∃ r, r = xk_takeFrom_66_12  f := ⟨_, rfl⟩
  rw [← h]
  unfold xk_takeFrom_66_12 at h
  refine am_Ev.go hcd 9 (s' := (9, [(0, .ref 66), (1, .ref 12)], [.int (nI 600), .int 0, .ref 67, .int 0, .ref 13], am_SH, (f, g))) rfl ?_
  obtain ⟨f1, Ef1, h⟩ := am_let_eq' h
  refine am_Ev.jdk hcd (s1 := (10, [(0, .ref 66), (1, .ref 12)], [], am_SH, (f1, g))) (by subst Ef1; exact rfl) ?_
  exact am_Ev.cast (a := (none, am_SH, (f1, g))) (by subst h; rfl) (am_Ev.ret hcd rfl)
set_option maxRecDepth 100000 in
set_option maxHeartbeats 4000000 in
theorem xl_takeFrom_68_14_ok {sc : Nat × (Nat → Int32)} (d : Nat)  (f g : (Nat → Nat → Int32)) : am_Ev sc (d + 1) 33 (0, [(0, .ref 68), (1, .ref 14)], [], am_SH, (f, g)) (none, am_SH, ((xl_takeFrom_68_14  f), g)) := by
  have hcd : am_code 33 = am_c33 := rfl
  obtain ⟨r, h⟩ : ∃ r, r = xl_takeFrom_68_14  f := ⟨_, rfl⟩
  rw [← h]
  unfold xl_takeFrom_68_14 at h
  obtain ⟨f1, Ef1, h⟩ := am_let_eq' h
  refine am_Ev.go hcd 4 (s' := (4, [(0, .ref 68), (1, .ref 14)], [], am_SH, (f1, g))) (by subst Ef1; exact rfl) ?_
  obtain ⟨f2, Ef2, h⟩ := am_let_eq' h
  refine am_Ev.go hcd 4 (s' := (8, [(0, .ref 68), (1, .ref 14)], [], am_SH, (f2, g))) (by subst Ef2; exact rfl) ?_
  refine am_Ev.go hcd 9 (s' := (17, [(0, .ref 68), (1, .ref 14)], [.int (nI 400), .int 0, .ref 69, .int 0, .ref 15], am_SH, (f2, g))) rfl ?_
  obtain ⟨f3, Ef3, h⟩ := am_let_eq' h
  refine am_Ev.jdk hcd (s1 := (18, [(0, .ref 68), (1, .ref 14)], [], am_SH, (f3, g))) (by subst Ef3; exact rfl) ?_
  refine am_Ev.go hcd 7 (s' := (25, [(0, .ref 68), (1, .ref 14)], [.int 16, .int 0, .ref 70, .int 0, .ref 16], am_SH, (f3, g))) rfl ?_
  obtain ⟨f4, Ef4, h⟩ := am_let_eq' h
  refine am_Ev.jdk hcd (s1 := (26, [(0, .ref 68), (1, .ref 14)], [], am_SH, (f4, g))) (by subst Ef4; exact rfl) ?_
  refine am_Ev.go hcd 7 (s' := (33, [(0, .ref 68), (1, .ref 14)], [.int 16, .int 0, .ref 71, .int 0, .ref 17], am_SH, (f4, g))) rfl ?_
  obtain ⟨f5, Ef5, h⟩ := am_let_eq' h
  refine am_Ev.jdk hcd (s1 := (34, [(0, .ref 68), (1, .ref 14)], [], am_SH, (f5, g))) (by subst Ef5; exact rfl) ?_
  refine am_Ev.go hcd 7 (s' := (41, [(0, .ref 68), (1, .ref 14)], [.int 16, .int 0, .ref 72, .int 0, .ref 18], am_SH, (f5, g))) rfl ?_
  obtain ⟨f6, Ef6, h⟩ := am_let_eq' h
  refine am_Ev.jdk hcd (s1 := (42, [(0, .ref 68), (1, .ref 14)], [], am_SH, (f6, g))) (by subst Ef6; exact rfl) ?_
  refine am_Ev.go hcd 7 (s' := (49, [(0, .ref 68), (1, .ref 14)], [.int 16, .int 0, .ref 73, .int 0, .ref 19], am_SH, (f6, g))) rfl ?_
  obtain ⟨f7, Ef7, h⟩ := am_let_eq' h
  refine am_Ev.jdk hcd (s1 := (50, [(0, .ref 68), (1, .ref 14)], [], am_SH, (f7, g))) (by subst Ef7; exact rfl) ?_
  exact am_Ev.cast (a := (none, am_SH, (f7, g))) (by subst h; rfl) (am_Ev.ret hcd rfl)
set_option maxRecDepth 100000 in
set_option maxHeartbeats 4000000 in
theorem xw_takeFrom_74_20_ok {sc : Nat × (Nat → Int32)} (d : Nat)  (f g : (Nat → Nat → Int32)) : am_Ev sc (d + 1) 123 (0, [(0, .ref 74), (1, .ref 20)], [], am_SH, (f, g)) (none, am_SH, ((xw_takeFrom_74_20  f), g)) := by
  have hcd : am_code 123 = am_c123 := rfl
  obtain ⟨r, h⟩ : ∃ r, r = xw_takeFrom_74_20  f := ⟨_, rfl⟩
  rw [← h]
  unfold xw_takeFrom_74_20 at h
  obtain ⟨f1, Ef1, h⟩ := am_let_eq' h
  refine am_Ev.go hcd 4 (s' := (4, [(0, .ref 74), (1, .ref 20)], [], am_SH, (f1, g))) (by subst Ef1; exact rfl) ?_
  refine am_Ev.go hcd 7 (s' := (11, [(0, .ref 74), (1, .ref 20)], [.int 16, .int 0, .ref 75, .int 0, .ref 21], am_SH, (f1, g))) rfl ?_
  obtain ⟨f2, Ef2, h⟩ := am_let_eq' h
  refine am_Ev.jdk hcd (s1 := (12, [(0, .ref 74), (1, .ref 20)], [], am_SH, (f2, g))) (by subst Ef2; exact rfl) ?_
  refine am_Ev.go hcd 7 (s' := (19, [(0, .ref 74), (1, .ref 20)], [.int 16, .int 0, .ref 76, .int 0, .ref 22], am_SH, (f2, g))) rfl ?_
  obtain ⟨f3, Ef3, h⟩ := am_let_eq' h
  refine am_Ev.jdk hcd (s1 := (20, [(0, .ref 74), (1, .ref 20)], [], am_SH, (f3, g))) (by subst Ef3; exact rfl) ?_
  refine am_Ev.go hcd 7 (s' := (27, [(0, .ref 74), (1, .ref 20)], [.int 16, .int 0, .ref 77, .int 0, .ref 23], am_SH, (f3, g))) rfl ?_
  obtain ⟨f4, Ef4, h⟩ := am_let_eq' h
  refine am_Ev.jdk hcd (s1 := (28, [(0, .ref 74), (1, .ref 20)], [], am_SH, (f4, g))) (by subst Ef4; exact rfl) ?_
  refine am_Ev.go hcd 7 (s' := (35, [(0, .ref 74), (1, .ref 20)], [.int 16, .int 0, .ref 78, .int 0, .ref 24], am_SH, (f4, g))) rfl ?_
  obtain ⟨f5, Ef5, h⟩ := am_let_eq' h
  refine am_Ev.jdk hcd (s1 := (36, [(0, .ref 74), (1, .ref 20)], [], am_SH, (f5, g))) (by subst Ef5; exact rfl) ?_
  exact am_Ev.cast (a := (none, am_SH, (f5, g))) (by subst h; rfl) (am_Ev.ret hcd rfl)
set_option maxRecDepth 100000 in
set_option maxHeartbeats 4000000 in
theorem xn_takeFrom_79_25_ok {sc : Nat × (Nat → Int32)} (d : Nat)  (f g : (Nat → Nat → Int32)) : am_Ev sc (d + 1) 83 (0, [(0, .ref 79), (1, .ref 25)], [], am_SH, (f, g)) (none, am_SH, ((xn_takeFrom_79_25  f), g)) := by
  have hcd : am_code 83 = am_c83 := rfl
  obtain ⟨r, h⟩ : ∃ r, r = xn_takeFrom_79_25  f := ⟨_, rfl⟩
  rw [← h]
  unfold xn_takeFrom_79_25 at h
  obtain ⟨f1, Ef1, h⟩ := am_let_eq' h
  refine am_Ev.go hcd 4 (s' := (4, [(0, .ref 79), (1, .ref 25)], [], am_SH, (f1, g))) (by subst Ef1; exact rfl) ?_
  refine am_Ev.go hcd 9 (s' := (13, [(0, .ref 79), (1, .ref 25)], [.int (nI 256), .int 0, .ref 80, .int 0, .ref 26], am_SH, (f1, g))) rfl ?_
  obtain ⟨f2, Ef2, h⟩ := am_let_eq' h
  refine am_Ev.jdk hcd (s1 := (14, [(0, .ref 79), (1, .ref 25)], [], am_SH, (f2, g))) (by subst Ef2; exact rfl) ?_
  exact am_Ev.cast (a := (none, am_SH, (f2, g))) (by subst h; rfl) (am_Ev.ret hcd rfl)
set_option maxRecDepth 100000 in
set_option maxHeartbeats 4000000 in
theorem xr_takeFrom_81_27_ok {sc : Nat × (Nat → Int32)} (d : Nat)  (f g : (Nat → Nat → Int32)) : am_Ev sc (d + 1) 88 (0, [(0, .ref 81), (1, .ref 27)], [], am_SH, (f, g)) (none, am_SH, ((xr_takeFrom_81_27  f), g)) := by
  have hcd : am_code 88 = am_c88 := rfl
  obtain ⟨r, h⟩ : ∃ r, r = xr_takeFrom_81_27  f := ⟨_, rfl⟩
  rw [← h]
  unfold xr_takeFrom_81_27 at h
  obtain ⟨f1, Ef1, h⟩ := am_let_eq' h
  refine am_Ev.go hcd 4 (s' := (4, [(0, .ref 81), (1, .ref 27)], [], am_SH, (f1, g))) (by subst Ef1; exact rfl) ?_
  refine am_Ev.go hcd 9 (s' := (13, [(0, .ref 81), (1, .ref 27)], [.int (nI 8), .int 0, .ref 82, .int 0, .ref 28], am_SH, (f1, g))) rfl ?_
  obtain ⟨f2, Ef2, h⟩ := am_let_eq' h
  refine am_Ev.jdk hcd (s1 := (14, [(0, .ref 81), (1, .ref 27)], [], am_SH, (f2, g))) (by subst Ef2; exact rfl) ?_
  refine am_Ev.go hcd 9 (s' := (23, [(0, .ref 81), (1, .ref 27)], [.int (nI 8), .int 0, .ref 83, .int 0, .ref 29], am_SH, (f2, g))) rfl ?_
  obtain ⟨f3, Ef3, h⟩ := am_let_eq' h
  refine am_Ev.jdk hcd (s1 := (24, [(0, .ref 81), (1, .ref 27)], [], am_SH, (f3, g))) (by subst Ef3; exact rfl) ?_
  exact am_Ev.cast (a := (none, am_SH, (f3, g))) (by subst h; rfl) (am_Ev.ret hcd rfl)
set_option maxRecDepth 100000 in
set_option maxHeartbeats 4000000 in
theorem xr_takeFrom_84_30_ok {sc : Nat × (Nat → Int32)} (d : Nat)  (f g : (Nat → Nat → Int32)) : am_Ev sc (d + 1) 88 (0, [(0, .ref 84), (1, .ref 30)], [], am_SH, (f, g)) (none, am_SH, ((xr_takeFrom_84_30  f), g)) := by
  have hcd : am_code 88 = am_c88 := rfl
  obtain ⟨r, h⟩ : ∃ r, r = xr_takeFrom_84_30  f := ⟨_, rfl⟩
  rw [← h]
  unfold xr_takeFrom_84_30 at h
  obtain ⟨f1, Ef1, h⟩ := am_let_eq' h
  refine am_Ev.go hcd 4 (s' := (4, [(0, .ref 84), (1, .ref 30)], [], am_SH, (f1, g))) (by subst Ef1; exact rfl) ?_
  refine am_Ev.go hcd 9 (s' := (13, [(0, .ref 84), (1, .ref 30)], [.int (nI 6), .int 0, .ref 85, .int 0, .ref 31], am_SH, (f1, g))) rfl ?_
  obtain ⟨f2, Ef2, h⟩ := am_let_eq' h
  refine am_Ev.jdk hcd (s1 := (14, [(0, .ref 84), (1, .ref 30)], [], am_SH, (f2, g))) (by subst Ef2; exact rfl) ?_
  refine am_Ev.go hcd 9 (s' := (23, [(0, .ref 84), (1, .ref 30)], [.int (nI 6), .int 0, .ref 86, .int 0, .ref 32], am_SH, (f2, g))) rfl ?_
  obtain ⟨f3, Ef3, h⟩ := am_let_eq' h
  refine am_Ev.jdk hcd (s1 := (24, [(0, .ref 84), (1, .ref 30)], [], am_SH, (f3, g))) (by subst Ef3; exact rfl) ?_
  exact am_Ev.cast (a := (none, am_SH, (f3, g))) (by subst h; rfl) (am_Ev.ret hcd rfl)
set_option maxRecDepth 100000 in
set_option maxHeartbeats 4000000 in
theorem xr_takeFrom_87_33_ok {sc : Nat × (Nat → Int32)} (d : Nat)  (f g : (Nat → Nat → Int32)) : am_Ev sc (d + 1) 88 (0, [(0, .ref 87), (1, .ref 33)], [], am_SH, (f, g)) (none, am_SH, ((xr_takeFrom_87_33  f), g)) := by
  have hcd : am_code 88 = am_c88 := rfl
  obtain ⟨r, h⟩ : ∃ r, r = xr_takeFrom_87_33  f := ⟨_, rfl⟩
  rw [← h]
  unfold xr_takeFrom_87_33 at h
  obtain ⟨f1, Ef1, h⟩ := am_let_eq' h
  refine am_Ev.go hcd 4 (s' := (4, [(0, .ref 87), (1, .ref 33)], [], am_SH, (f1, g))) (by subst Ef1; exact rfl) ?_
  refine am_Ev.go hcd 9 (s' := (13, [(0, .ref 87), (1, .ref 33)], [.int (nI 4), .int 0, .ref 88, .int 0, .ref 34], am_SH, (f1, g))) rfl ?_
  obtain ⟨f2, Ef2, h⟩ := am_let_eq' h
  refine am_Ev.jdk hcd (s1 := (14, [(0, .ref 87), (1, .ref 33)], [], am_SH, (f2, g))) (by subst Ef2; exact rfl) ?_
  refine am_Ev.go hcd 9 (s' := (23, [(0, .ref 87), (1, .ref 33)], [.int (nI 4), .int 0, .ref 89, .int 0, .ref 35], am_SH, (f2, g))) rfl ?_
  obtain ⟨f3, Ef3, h⟩ := am_let_eq' h
  refine am_Ev.jdk hcd (s1 := (24, [(0, .ref 87), (1, .ref 33)], [], am_SH, (f3, g))) (by subst Ef3; exact rfl) ?_
  exact am_Ev.cast (a := (none, am_SH, (f3, g))) (by subst h; rfl) (am_Ev.ret hcd rfl)
set_option maxRecDepth 100000 in
set_option maxHeartbeats 4000000 in
theorem xr_takeFrom_90_36_ok {sc : Nat × (Nat → Int32)} (d : Nat)  (f g : (Nat → Nat → Int32)) : am_Ev sc (d + 1) 88 (0, [(0, .ref 90), (1, .ref 36)], [], am_SH, (f, g)) (none, am_SH, ((xr_takeFrom_90_36  f), g)) := by
  have hcd : am_code 88 = am_c88 := rfl
  obtain ⟨r, h⟩ : ∃ r, r = xr_takeFrom_90_36  f := ⟨_, rfl⟩
  rw [← h]
  unfold xr_takeFrom_90_36 at h
  obtain ⟨f1, Ef1, h⟩ := am_let_eq' h
  refine am_Ev.go hcd 4 (s' := (4, [(0, .ref 90), (1, .ref 36)], [], am_SH, (f1, g))) (by subst Ef1; exact rfl) ?_
  refine am_Ev.go hcd 9 (s' := (13, [(0, .ref 90), (1, .ref 36)], [.int (nI 6), .int 0, .ref 91, .int 0, .ref 37], am_SH, (f1, g))) rfl ?_
  obtain ⟨f2, Ef2, h⟩ := am_let_eq' h
  refine am_Ev.jdk hcd (s1 := (14, [(0, .ref 90), (1, .ref 36)], [], am_SH, (f2, g))) (by subst Ef2; exact rfl) ?_
  refine am_Ev.go hcd 9 (s' := (23, [(0, .ref 90), (1, .ref 36)], [.int (nI 6), .int 0, .ref 92, .int 0, .ref 38], am_SH, (f2, g))) rfl ?_
  obtain ⟨f3, Ef3, h⟩ := am_let_eq' h
  refine am_Ev.jdk hcd (s1 := (24, [(0, .ref 90), (1, .ref 36)], [], am_SH, (f3, g))) (by subst Ef3; exact rfl) ?_
  exact am_Ev.cast (a := (none, am_SH, (f3, g))) (by subst h; rfl) (am_Ev.ret hcd rfl)
set_option maxRecDepth 100000 in
set_option maxHeartbeats 4000000 in
theorem xr_takeFrom_93_39_ok {sc : Nat × (Nat → Int32)} (d : Nat)  (f g : (Nat → Nat → Int32)) : am_Ev sc (d + 1) 88 (0, [(0, .ref 93), (1, .ref 39)], [], am_SH, (f, g)) (none, am_SH, ((xr_takeFrom_93_39  f), g)) := by
  have hcd : am_code 88 = am_c88 := rfl
  obtain ⟨r, h⟩ : ∃ r, r = xr_takeFrom_93_39  f := ⟨_, rfl⟩
  rw [← h]
  unfold xr_takeFrom_93_39 at h
  obtain ⟨f1, Ef1, h⟩ := am_let_eq' h
  refine am_Ev.go hcd 4 (s' := (4, [(0, .ref 93), (1, .ref 39)], [], am_SH, (f1, g))) (by subst Ef1; exact rfl) ?_
  refine am_Ev.go hcd 9 (s' := (13, [(0, .ref 93), (1, .ref 39)], [.int (nI 4), .int 0, .ref 94, .int 0, .ref 40], am_SH, (f1, g))) rfl ?_
  obtain ⟨f2, Ef2, h⟩ := am_let_eq' h
  refine am_Ev.jdk hcd (s1 := (14, [(0, .ref 93), (1, .ref 39)], [], am_SH, (f2, g))) (by subst Ef2; exact rfl) ?_
  refine am_Ev.go hcd 9 (s' := (23, [(0, .ref 93), (1, .ref 39)], [.int (nI 4), .int 0, .ref 95, .int 0, .ref 41], am_SH, (f2, g))) rfl ?_
  obtain ⟨f3, Ef3, h⟩ := am_let_eq' h
  refine am_Ev.jdk hcd (s1 := (24, [(0, .ref 93), (1, .ref 39)], [], am_SH, (f3, g))) (by subst Ef3; exact rfl) ?_
  exact am_Ev.cast (a := (none, am_SH, (f3, g))) (by subst h; rfl) (am_Ev.ret hcd rfl)
set_option maxRecDepth 100000 in
set_option maxHeartbeats 4000000 in
theorem xr_takeFrom_96_42_ok {sc : Nat × (Nat → Int32)} (d : Nat)  (f g : (Nat → Nat → Int32)) : am_Ev sc (d + 1) 88 (0, [(0, .ref 96), (1, .ref 42)], [], am_SH, (f, g)) (none, am_SH, ((xr_takeFrom_96_42  f), g)) := by
  have hcd : am_code 88 = am_c88 := rfl
  obtain ⟨r, h⟩ : ∃ r, r = xr_takeFrom_96_42  f := ⟨_, rfl⟩
  rw [← h]
  unfold xr_takeFrom_96_42 at h
  obtain ⟨f1, Ef1, h⟩ := am_let_eq' h
  refine am_Ev.go hcd 4 (s' := (4, [(0, .ref 96), (1, .ref 42)], [], am_SH, (f1, g))) (by subst Ef1; exact rfl) ?_
  refine am_Ev.go hcd 9 (s' := (13, [(0, .ref 96), (1, .ref 42)], [.int (nI 8), .int 0, .ref 97, .int 0, .ref 43], am_SH, (f1, g))) rfl ?_
  obtain ⟨f2, Ef2, h⟩ := am_let_eq' h
  refine am_Ev.jdk hcd (s1 := (14, [(0, .ref 96), (1, .ref 42)], [], am_SH, (f2, g))) (by subst Ef2; exact rfl) ?_
  refine am_Ev.go hcd 9 (s' := (23, [(0, .ref 96), (1, .ref 42)], [.int (nI 8), .int 0, .ref 98, .int 0, .ref 44], am_SH, (f2, g))) rfl ?_
  obtain ⟨f3, Ef3, h⟩ := am_let_eq' h
  refine am_Ev.jdk hcd (s1 := (24, [(0, .ref 96), (1, .ref 42)], [], am_SH, (f3, g))) (by subst Ef3; exact rfl) ?_
  exact am_Ev.cast (a := (none, am_SH, (f3, g))) (by subst h; rfl) (am_Ev.ret hcd rfl)
set_option maxRecDepth 100000 in
set_option maxHeartbeats 4000000 in
theorem xr_takeFrom_99_45_ok {sc : Nat × (Nat → Int32)} (d : Nat)  (f g : (Nat → Nat → Int32)) : am_Ev sc (d + 1) 88 (0, [(0, .ref 99), (1, .ref 45)], [], am_SH, (f, g)) (none, am_SH, ((xr_takeFrom_99_45  f), g)) := by
  have hcd : am_code 88 = am_c88 := rfl
  obtain ⟨r, h⟩ : ∃ r, r = xr_takeFrom_99_45  f := ⟨_, rfl⟩
  rw [← h]
  unfold xr_takeFrom_99_45 at h
  obtain ⟨f1, Ef1, h⟩ := am_let_eq' h
  refine am_Ev.go hcd 4 (s' := (4, [(0, .ref 99), (1, .ref 45)], [], am_SH, (f1, g))) (by subst Ef1; exact rfl) ?_
  refine am_Ev.go hcd 9 (s' := (13, [(0, .ref 99), (1, .ref 45)], [.int (nI 24), .int 0, .ref 100, .int 0, .ref 46], am_SH, (f1, g))) rfl ?_
  obtain ⟨f2, Ef2, h⟩ := am_let_eq' h
  refine am_Ev.jdk hcd (s1 := (14, [(0, .ref 99), (1, .ref 45)], [], am_SH, (f2, g))) (by subst Ef2; exact rfl) ?_
  refine am_Ev.go hcd 9 (s' := (23, [(0, .ref 99), (1, .ref 45)], [.int (nI 24), .int 0, .ref 101, .int 0, .ref 47], am_SH, (f2, g))) rfl ?_
  obtain ⟨f3, Ef3, h⟩ := am_let_eq' h
  refine am_Ev.jdk hcd (s1 := (24, [(0, .ref 99), (1, .ref 45)], [], am_SH, (f3, g))) (by subst Ef3; exact rfl) ?_
  exact am_Ev.cast (a := (none, am_SH, (f3, g))) (by subst h; rfl) (am_Ev.ret hcd rfl)
set_option maxRecDepth 100000 in
set_option maxHeartbeats 4000000 in
theorem xr_takeFrom_102_48_ok {sc : Nat × (Nat → Int32)} (d : Nat)  (f g : (Nat → Nat → Int32)) : am_Ev sc (d + 1) 88 (0, [(0, .ref 102), (1, .ref 48)], [], am_SH, (f, g)) (none, am_SH, ((xr_takeFrom_102_48  f), g)) := by
  have hcd : am_code 88 = am_c88 := rfl
  obtain ⟨r, h⟩ : ∃ r, r = xr_takeFrom_102_48  f := ⟨_, rfl⟩
  rw [← h]
  unfold xr_takeFrom_102_48 at h
  obtain ⟨f1, Ef1, h⟩ := am_let_eq' h
  refine am_Ev.go hcd 4 (s' := (4, [(0, .ref 102), (1, .ref 48)], [], am_SH, (f1, g))) (by subst Ef1; exact rfl) ?_
  refine am_Ev.go hcd 9 (s' := (13, [(0, .ref 102), (1, .ref 48)], [.int (nI 8), .int 0, .ref 103, .int 0, .ref 49], am_SH, (f1, g))) rfl ?_
  obtain ⟨f2, Ef2, h⟩ := am_let_eq' h
  refine am_Ev.jdk hcd (s1 := (14, [(0, .ref 102), (1, .ref 48)], [], am_SH, (f2, g))) (by subst Ef2; exact rfl) ?_
  refine am_Ev.go hcd 9 (s' := (23, [(0, .ref 102), (1, .ref 48)], [.int (nI 8), .int 0, .ref 104, .int 0, .ref 50], am_SH, (f2, g))) rfl ?_
  obtain ⟨f3, Ef3, h⟩ := am_let_eq' h
  refine am_Ev.jdk hcd (s1 := (24, [(0, .ref 102), (1, .ref 48)], [], am_SH, (f3, g))) (by subst Ef3; exact rfl) ?_
  exact am_Ev.cast (a := (none, am_SH, (f3, g))) (by subst h; rfl) (am_Ev.ret hcd rfl)
set_option maxRecDepth 100000 in
set_option maxHeartbeats 4000000 in
theorem xr_takeFrom_105_51_ok {sc : Nat × (Nat → Int32)} (d : Nat)  (f g : (Nat → Nat → Int32)) : am_Ev sc (d + 1) 88 (0, [(0, .ref 105), (1, .ref 51)], [], am_SH, (f, g)) (none, am_SH, ((xr_takeFrom_105_51  f), g)) := by
  have hcd : am_code 88 = am_c88 := rfl
  obtain ⟨r, h⟩ : ∃ r, r = xr_takeFrom_105_51  f := ⟨_, rfl⟩
  rw [← h]
  unfold xr_takeFrom_105_51 at h
  obtain ⟨f1, Ef1, h⟩ := am_let_eq' h
  refine am_Ev.go hcd 4 (s' := (4, [(0, .ref 105), (1, .ref 51)], [], am_SH, (f1, g))) (by subst Ef1; exact rfl) ?_
  refine am_Ev.go hcd 9 (s' := (13, [(0, .ref 105), (1, .ref 51)], [.int (nI 8), .int 0, .ref 106, .int 0, .ref 52], am_SH, (f1, g))) rfl ?_
  obtain ⟨f2, Ef2, h⟩ := am_let_eq' h
  refine am_Ev.jdk hcd (s1 := (14, [(0, .ref 105), (1, .ref 51)], [], am_SH, (f2, g))) (by subst Ef2; exact rfl) ?_
  refine am_Ev.go hcd 9 (s' := (23, [(0, .ref 105), (1, .ref 51)], [.int (nI 8), .int 0, .ref 107, .int 0, .ref 53], am_SH, (f2, g))) rfl ?_
  obtain ⟨f3, Ef3, h⟩ := am_let_eq' h
  refine am_Ev.jdk hcd (s1 := (24, [(0, .ref 105), (1, .ref 51)], [], am_SH, (f3, g))) (by subst Ef3; exact rfl) ?_
  exact am_Ev.cast (a := (none, am_SH, (f3, g))) (by subst h; rfl) (am_Ev.ret hcd rfl)
set_option maxRecDepth 100000 in
set_option maxHeartbeats 4000000 in
theorem xo_takeFrom_55_1_ok {sc : Nat × (Nat → Int32)} (d : Nat)  (f g : (Nat → Nat → Int32)) : am_Ev sc (d + 2) 125 (0, [(0, .ref 55), (1, .ref 1)], [], am_SH, (f, g)) (none, am_SH, ((xo_takeFrom_55_1  f), g)) := by
  have hcd : am_code 125 = am_c125 := rfl
  obtain ⟨r, h⟩ : ∃ r, r = xo_takeFrom_55_1  f := ⟨_, rfl⟩
  rw [← h]
  unfold xo_takeFrom_55_1 at h
  refine am_Ev.go hcd 4 (s' := (4, [(0, .ref 55), (1, .ref 1)], [.ref 2, .ref 56], am_SH, (f, g))) rfl ?_
  obtain ⟨p1, Ep1, h⟩ := am_let_eq' h
  refine am_Ev.call hcd (a := 30) (s0 := (0, [(0, .ref 56), (1, .ref 2)], [], am_SH, (f, g))) (q := (none, am_SH, (p1, g))) (s1 := (5, [(0, .ref 55), (1, .ref 1)], [], am_SH, (p1, g))) rfl rfl (by subst Ep1; exact xc_takeFrom_56_2_ok (d)  f g) ?_
  refine am_Ev.go hcd 4 (s' := (9, [(0, .ref 55), (1, .ref 1)], [.ref 12, .ref 66], am_SH, (p1, g))) rfl ?_
  obtain ⟨p2, Ep2, h⟩ := am_let_eq' h
  refine am_Ev.call hcd (a := 20) (s0 := (0, [(0, .ref 66), (1, .ref 12)], [], am_SH, (p1, g))) (q := (none, am_SH, (p2, g))) (s1 := (10, [(0, .ref 55), (1, .ref 1)], [], am_SH, (p2, g))) rfl rfl (by subst Ep2; exact xk_takeFrom_66_12_ok (d)  p1 g) ?_
  refine am_Ev.go hcd 4 (s' := (14, [(0, .ref 55), (1, .ref 1)], [.ref 14, .ref 68], am_SH, (p2, g))) rfl ?_
  obtain ⟨p3, Ep3, h⟩ := am_let_eq' h
  refine am_Ev.call hcd (a := 33) (s0 := (0, [(0, .ref 68), (1, .ref 14)], [], am_SH, (p2, g))) (q := (none, am_SH, (p3, g))) (s1 := (15, [(0, .ref 55), (1, .ref 1)], [], am_SH, (p3, g))) rfl rfl (by subst Ep3; exact xl_takeFrom_68_14_ok (d)  p2 g) ?_
  refine am_Ev.go hcd 4 (s' := (19, [(0, .ref 55), (1, .ref 1)], [.ref 20, .ref 74], am_SH, (p3, g))) rfl ?_
  obtain ⟨p4, Ep4, h⟩ := am_let_eq' h
  refine am_Ev.call hcd (a := 123) (s0 := (0, [(0, .ref 74), (1, .ref 20)], [], am_SH, (p3, g))) (q := (none, am_SH, (p4, g))) (s1 := (20, [(0, .ref 55), (1, .ref 1)], [], am_SH, (p4, g))) rfl rfl (by subst Ep4; exact xw_takeFrom_74_20_ok (d)  p3 g) ?_
  refine am_Ev.go hcd 4 (s' := (24, [(0, .ref 55), (1, .ref 1)], [.ref 25, .ref 79], am_SH, (p4, g))) rfl ?_
  obtain ⟨p5, Ep5, h⟩ := am_let_eq' h
  refine am_Ev.call hcd (a := 83) (s0 := (0, [(0, .ref 79), (1, .ref 25)], [], am_SH, (p4, g))) (q := (none, am_SH, (p5, g))) (s1 := (25, [(0, .ref 55), (1, .ref 1)], [], am_SH, (p5, g))) rfl rfl (by subst Ep5; exact xn_takeFrom_79_25_ok (d)  p4 g) ?_
  refine am_Ev.go hcd 4 (s' := (29, [(0, .ref 55), (1, .ref 1)], [.ref 27, .ref 81], am_SH, (p5, g))) rfl ?_
  obtain ⟨p6, Ep6, h⟩ := am_let_eq' h
  refine am_Ev.call hcd (a := 88) (s0 := (0, [(0, .ref 81), (1, .ref 27)], [], am_SH, (p5, g))) (q := (none, am_SH, (p6, g))) (s1 := (30, [(0, .ref 55), (1, .ref 1)], [], am_SH, (p6, g))) rfl rfl (by subst Ep6; exact xr_takeFrom_81_27_ok (d)  p5 g) ?_
  refine am_Ev.go hcd 4 (s' := (34, [(0, .ref 55), (1, .ref 1)], [.ref 30, .ref 84], am_SH, (p6, g))) rfl ?_
  obtain ⟨p7, Ep7, h⟩ := am_let_eq' h
  refine am_Ev.call hcd (a := 88) (s0 := (0, [(0, .ref 84), (1, .ref 30)], [], am_SH, (p6, g))) (q := (none, am_SH, (p7, g))) (s1 := (35, [(0, .ref 55), (1, .ref 1)], [], am_SH, (p7, g))) rfl rfl (by subst Ep7; exact xr_takeFrom_84_30_ok (d)  p6 g) ?_
  refine am_Ev.go hcd 4 (s' := (39, [(0, .ref 55), (1, .ref 1)], [.ref 33, .ref 87], am_SH, (p7, g))) rfl ?_
  obtain ⟨p8, Ep8, h⟩ := am_let_eq' h
  refine am_Ev.call hcd (a := 88) (s0 := (0, [(0, .ref 87), (1, .ref 33)], [], am_SH, (p7, g))) (q := (none, am_SH, (p8, g))) (s1 := (40, [(0, .ref 55), (1, .ref 1)], [], am_SH, (p8, g))) rfl rfl (by subst Ep8; exact xr_takeFrom_87_33_ok (d)  p7 g) ?_
  refine am_Ev.go hcd 4 (s' := (44, [(0, .ref 55), (1, .ref 1)], [.ref 36, .ref 90], am_SH, (p8, g))) rfl ?_
  obtain ⟨p9, Ep9, h⟩ := am_let_eq' h
  refine am_Ev.call hcd (a := 88) (s0 := (0, [(0, .ref 90), (1, .ref 36)], [], am_SH, (p8, g))) (q := (none, am_SH, (p9, g))) (s1 := (45, [(0, .ref 55), (1, .ref 1)], [], am_SH, (p9, g))) rfl rfl (by subst Ep9; exact xr_takeFrom_90_36_ok (d)  p8 g) ?_
  refine am_Ev.go hcd 4 (s' := (49, [(0, .ref 55), (1, .ref 1)], [.ref 39, .ref 93], am_SH, (p9, g))) rfl ?_
  obtain ⟨p10, Ep10, h⟩ := am_let_eq' h
  refine am_Ev.call hcd (a := 88) (s0 := (0, [(0, .ref 93), (1, .ref 39)], [], am_SH, (p9, g))) (q := (none, am_SH, (p10, g))) (s1 := (50, [(0, .ref 55), (1, .ref 1)], [], am_SH, (p10, g))) rfl rfl (by subst Ep10; exact xr_takeFrom_93_39_ok (d)  p9 g) ?_
  refine am_Ev.go hcd 4 (s' := (54, [(0, .ref 55), (1, .ref 1)], [.ref 42, .ref 96], am_SH, (p10, g))) rfl ?_
  obtain ⟨p11, Ep11, h⟩ := am_let_eq' h
  refine am_Ev.call hcd (a := 88) (s0 := (0, [(0, .ref 96), (1, .ref 42)], [], am_SH, (p10, g))) (q := (none, am_SH, (p11, g))) (s1 := (55, [(0, .ref 55), (1, .ref 1)], [], am_SH, (p11, g))) rfl rfl (by subst Ep11; exact xr_takeFrom_96_42_ok (d)  p10 g) ?_
  refine am_Ev.go hcd 4 (s' := (59, [(0, .ref 55), (1, .ref 1)], [.ref 45, .ref 99], am_SH, (p11, g))) rfl ?_
  obtain ⟨p12, Ep12, h⟩ := am_let_eq' h
  refine am_Ev.call hcd (a := 88) (s0 := (0, [(0, .ref 99), (1, .ref 45)], [], am_SH, (p11, g))) (q := (none, am_SH, (p12, g))) (s1 := (60, [(0, .ref 55), (1, .ref 1)], [], am_SH, (p12, g))) rfl rfl (by subst Ep12; exact xr_takeFrom_99_45_ok (d)  p11 g) ?_
  refine am_Ev.go hcd 4 (s' := (64, [(0, .ref 55), (1, .ref 1)], [.ref 48, .ref 102], am_SH, (p12, g))) rfl ?_
  obtain ⟨p13, Ep13, h⟩ := am_let_eq' h
  refine am_Ev.call hcd (a := 88) (s0 := (0, [(0, .ref 102), (1, .ref 48)], [], am_SH, (p12, g))) (q := (none, am_SH, (p13, g))) (s1 := (65, [(0, .ref 55), (1, .ref 1)], [], am_SH, (p13, g))) rfl rfl (by subst Ep13; exact xr_takeFrom_102_48_ok (d)  p12 g) ?_
  refine am_Ev.go hcd 4 (s' := (69, [(0, .ref 55), (1, .ref 1)], [.ref 51, .ref 105], am_SH, (p13, g))) rfl ?_
  obtain ⟨p14, Ep14, h⟩ := am_let_eq' h
  refine am_Ev.call hcd (a := 88) (s0 := (0, [(0, .ref 105), (1, .ref 51)], [], am_SH, (p13, g))) (q := (none, am_SH, (p14, g))) (s1 := (70, [(0, .ref 55), (1, .ref 1)], [], am_SH, (p14, g))) rfl rfl (by subst Ep14; exact xr_takeFrom_105_51_ok (d)  p13 g) ?_
  refine am_Ev.go hcd 9 (s' := (79, [(0, .ref 55), (1, .ref 1)], [.int (nI 8), .int 0, .ref 108, .int 0, .ref 54], am_SH, (p14, g))) rfl ?_
  obtain ⟨f15, Ef15, h⟩ := am_let_eq' h
  refine am_Ev.jdk hcd (s1 := (80, [(0, .ref 55), (1, .ref 1)], [], am_SH, (f15, g))) (by subst Ef15; exact rfl) ?_
  exact am_Ev.cast (a := (none, am_SH, (f15, g))) (by subst h; rfl) (am_Ev.ret hcd rfl)
set_option maxRecDepth 100000 in
set_option maxHeartbeats 4000000 in
theorem xc_takeFrom_2_56_ok {sc : Nat × (Nat → Int32)} (d : Nat)  (f g : (Nat → Nat → Int32)) : am_Ev sc (d + 1) 30 (0, [(0, .ref 2), (1, .ref 56)], [], am_SH, (f, g)) (none, am_SH, ((xc_takeFrom_2_56  f), g)) := by
  have hcd : am_code 30 = am_c30 := rfl
  obtain ⟨r, h⟩ : ∃ r, r = xc_takeFrom_2_56  f := ⟨_, rfl⟩
  rw [← h]
  unfold xc_takeFrom_2_56 at h
  obtain ⟨f1, Ef1, h⟩ := am_let_eq' h
  refine am_Ev.go hcd 4 (s' := (4, [(0, .ref 2), (1, .ref 56)], [], am_SH, (f1, g))) (by subst Ef1; exact rfl) ?_
  obtain ⟨f2, Ef2, h⟩ := am_let_eq' h
  refine am_Ev.go hcd 4 (s' := (8, [(0, .ref 2), (1, .ref 56)], [], am_SH, (f2, g))) (by subst Ef2; exact rfl) ?_
  obtain ⟨f3, Ef3, h⟩ := am_let_eq' h
  refine am_Ev.go hcd 4 (s' := (12, [(0, .ref 2), (1, .ref 56)], [], am_SH, (f3, g))) (by subst Ef3; exact rfl) ?_
  obtain ⟨f4, Ef4, h⟩ := am_let_eq' h
  refine am_Ev.go hcd 4 (s' := (16, [(0, .ref 2), (1, .ref 56)], [], am_SH, (f4, g))) (by subst Ef4; exact rfl) ?_
  obtain ⟨f5, Ef5, h⟩ := am_let_eq' h
  refine am_Ev.go hcd 4 (s' := (20, [(0, .ref 2), (1, .ref 56)], [], am_SH, (f5, g))) (by subst Ef5; exact rfl) ?_
  obtain ⟨f6, Ef6, h⟩ := am_let_eq' h
  refine am_Ev.go hcd 4 (s' := (24, [(0, .ref 2), (1, .ref 56)], [], am_SH, (f6, g))) (by subst Ef6; exact rfl) ?_
  refine am_Ev.go hcd 7 (s' := (31, [(0, .ref 2), (1, .ref 56)], [.int 6, .int 0, .ref 3, .int 0, .ref 57], am_SH, (f6, g))) rfl ?_
  obtain ⟨f7, Ef7, h⟩ := am_let_eq' h
  refine am_Ev.jdk hcd (s1 := (32, [(0, .ref 2), (1, .ref 56)], [], am_SH, (f7, g))) (by subst Ef7; exact rfl) ?_
  refine am_Ev.go hcd 7 (s' := (39, [(0, .ref 2), (1, .ref 56)], [.int 6, .int 0, .ref 4, .int 0, .ref 58], am_SH, (f7, g))) rfl ?_
  obtain ⟨f8, Ef8, h⟩ := am_let_eq' h
  refine am_Ev.jdk hcd (s1 := (40, [(0, .ref 2), (1, .ref 56)], [], am_SH, (f8, g))) (by subst Ef8; exact rfl) ?_
  refine am_Ev.go hcd 7 (s' := (47, [(0, .ref 2), (1, .ref 56)], [.int 6, .int 0, .ref 5, .int 0, .ref 59], am_SH, (f8, g))) rfl ?_
  obtain ⟨f9, Ef9, h⟩ := am_let_eq' h
  refine am_Ev.jdk hcd (s1 := (48, [(0, .ref 2), (1, .ref 56)], [], am_SH, (f9, g))) (by subst Ef9; exact rfl) ?_
  refine am_Ev.go hcd 7 (s' := (55, [(0, .ref 2), (1, .ref 56)], [.int 6, .int 0, .ref 6, .int 0, .ref 60], am_SH, (f9, g))) rfl ?_
  obtain ⟨f10, Ef10, h⟩ := am_let_eq' h
  refine am_Ev.jdk hcd (s1 := (56, [(0, .ref 2), (1, .ref 56)], [], am_SH, (f10, g))) (by subst Ef10; exact rfl) ?_
  refine am_Ev.go hcd 7 (s' := (63, [(0, .ref 2), (1, .ref 56)], [.int 6, .int 0, .ref 7, .int 0, .ref 61], am_SH, (f10, g))) rfl ?_
  obtain ⟨f11, Ef11, h⟩ := am_let_eq' h
  refine am_Ev.jdk hcd (s1 := (64, [(0, .ref 2), (1, .ref 56)], [], am_SH, (f11, g))) (by subst Ef11; exact rfl) ?_
  refine am_Ev.go hcd 7 (s' := (71, [(0, .ref 2), (1, .ref 56)], [.int 12, .int 0, .ref 8, .int 0, .ref 62], am_SH, (f11, g))) rfl ?_
  obtain ⟨f12, Ef12, h⟩ := am_let_eq' h
  refine am_Ev.jdk hcd (s1 := (72, [(0, .ref 2), (1, .ref 56)], [], am_SH, (f12, g))) (by subst Ef12; exact rfl) ?_
  refine am_Ev.go hcd 7 (s' := (79, [(0, .ref 2), (1, .ref 56)], [.int 12, .int 0, .ref 9, .int 0, .ref 63], am_SH, (f12, g))) rfl ?_
  obtain ⟨f13, Ef13, h⟩ := am_let_eq' h
  refine am_Ev.jdk hcd (s1 := (80, [(0, .ref 2), (1, .ref 56)], [], am_SH, (f13, g))) (by subst Ef13; exact rfl) ?_
  refine am_Ev.go hcd 7 (s' := (87, [(0, .ref 2), (1, .ref 56)], [.int 12, .int 0, .ref 10, .int 0, .ref 64], am_SH, (f13, g))) rfl ?_
  obtain ⟨f14, Ef14, h⟩ := am_let_eq' h
  refine am_Ev.jdk hcd (s1 := (88, [(0, .ref 2), (1, .ref 56)], [], am_SH, (f14, g))) (by subst Ef14; exact rfl) ?_
  refine am_Ev.go hcd 7 (s' := (95, [(0, .ref 2), (1, .ref 56)], [.int 12, .int 0, .ref 11, .int 0, .ref 65], am_SH, (f14, g))) rfl ?_
  obtain ⟨f15, Ef15, h⟩ := am_let_eq' h
  refine am_Ev.jdk hcd (s1 := (96, [(0, .ref 2), (1, .ref 56)], [], am_SH, (f15, g))) (by subst Ef15; exact rfl) ?_
  exact am_Ev.cast (a := (none, am_SH, (f15, g))) (by subst h; rfl) (am_Ev.ret hcd rfl)
set_option maxRecDepth 100000 in
set_option maxHeartbeats 4000000 in
theorem xk_takeFrom_12_66_ok {sc : Nat × (Nat → Int32)} (d : Nat)  (f g : (Nat → Nat → Int32)) : am_Ev sc (d + 1) 20 (0, [(0, .ref 12), (1, .ref 66)], [], am_SH, (f, g)) (none, am_SH, ((xk_takeFrom_12_66  f), g)) := by
  have hcd : am_code 20 = am_c20 := rfl
  obtain ⟨r, h⟩ : ∃ r, r = xk_takeFrom_12_66  f := ⟨_, rfl⟩
  rw [← h]
  unfold xk_takeFrom_12_66 at h
  refine am_Ev.go hcd 9 (s' := (9, [(0, .ref 12), (1, .ref 66)], [.int (nI 600), .int 0, .ref 13, .int 0, .ref 67], am_SH, (f, g))) rfl ?_
  obtain ⟨f1, Ef1, h⟩ := am_let_eq' h
  refine am_Ev.jdk hcd (s1 := (10, [(0, .ref 12), (1, .ref 66)], [], am_SH, (f1, g))) (by subst Ef1; exact rfl) ?_
  exact am_Ev.cast (a := (none, am_SH, (f1, g))) (by subst h; rfl) (am_Ev.ret hcd rfl)
set_option maxRecDepth 100000 in
set_option maxHeartbeats 4000000 in
theorem xl_takeFrom_14_68_ok {sc : Nat × (Nat → Int32)} (d : Nat)  (f g : (Nat → Nat → Int32)) : am_Ev sc (d + 1) 33 (0, [(0, .ref 14), (1, .ref 68)], [], am_SH, (f, g)) (none, am_SH, ((xl_takeFrom_14_68  f), g)) := by
  have hcd : am_code 33 = am_c33 := rfl
  obtain ⟨r, h⟩ : ∃ r, r = xl_takeFrom_14_68  f := ⟨_, rfl⟩
  rw [← h]
  unfold xl_takeFrom_14_68 at h
  obtain ⟨f1, Ef1, h⟩ := am_let_eq' h
  refine am_Ev.go hcd 4 (s' := (4, [(0, .ref 14), (1, .ref 68)], [], am_SH, (f1, g))) (by subst Ef1; exact rfl) ?_
  obtain ⟨f2, Ef2, h⟩ := am_let_eq' h
  refine am_Ev.go hcd 4 (s' := (8, [(0, .ref 14), (1, .ref 68)], [], am_SH, (f2, g))) (by subst Ef2; exact rfl) ?_
  refine am_Ev.go hcd 9 (s' := (17, [(0, .ref 14), (1, .ref 68)], [.int (nI 400), .int 0, .ref 15, .int 0, .ref 69], am_SH, (f2, g))) rfl ?_
  obtain ⟨f3, Ef3, h⟩ := am_let_eq' h
  refine am_Ev.jdk hcd (s1 := (18, [(0, .ref 14), (1, .ref 68)], [], am_SH, (f3, g))) (by subst Ef3; exact rfl) ?_
  refine am_Ev.go hcd 7 (s' := (25, [(0, .ref 14), (1, .ref 68)], [.int 16, .int 0, .ref 16, .int 0, .ref 70], am_SH, (f3, g))) rfl ?_
  obtain ⟨f4, Ef4, h⟩ := am_let_eq' h
  refine am_Ev.jdk hcd (s1 := (26, [(0, .ref 14), (1, .ref 68)], [], am_SH, (f4, g))) (by subst Ef4; exact rfl) ?_
  refine am_Ev.go hcd 7 (s' := (33, [(0, .ref 14), (1, .ref 68)], [.int 16, .int 0, .ref 17, .int 0, .ref 71], am_SH, (f4, g))) rfl ?_
  obtain ⟨f5, Ef5, h⟩ := am_let_eq' h
  refine am_Ev.jdk hcd (s1 := (34, [(0, .ref 14), (1, .ref 68)], [], am_SH, (f5, g))) (by subst Ef5; exact rfl) ?_
  refine am_Ev.go hcd 7 (s' := (41, [(0, .ref 14), (1, .ref 68)], [.int 16, .int 0, .ref 18, .int 0, .ref 72], am_SH, (f5, g))) rfl ?_
  obtain ⟨f6, Ef6, h⟩ := am_let_eq' h
  refine am_Ev.jdk hcd (s1 := (42, [(0, .ref 14), (1, .ref 68)], [], am_SH, (f6, g))) (by subst Ef6; exact rfl) ?_
  refine am_Ev.go hcd 7 (s' := (49, [(0, .ref 14), (1, .ref 68)], [.int 16, .int 0, .ref 19, .int 0, .ref 73], am_SH, (f6, g))) rfl ?_
  obtain ⟨f7, Ef7, h⟩ := am_let_eq' h
  refine am_Ev.jdk hcd (s1 := (50, [(0, .ref 14), (1, .ref 68)], [], am_SH, (f7, g))) (by subst Ef7; exact rfl) ?_
  exact am_Ev.cast (a := (none, am_SH, (f7, g))) (by subst h; rfl) (am_Ev.ret hcd rfl)
set_option maxRecDepth 100000 in
set_option maxHeartbeats 4000000 in
theorem xw_takeFrom_20_74_ok {sc : Nat × (Nat → Int32)} (d : Nat)  (f g : (Nat → Nat → Int32)) : am_Ev sc (d + 1) 123 (0, [(0, .ref 20), (1, .ref 74)], [], am_SH, (f, g)) (none, am_SH, ((xw_takeFrom_20_74  f), g)) := by
  have hcd : am_code 123 = am_c123 := rfl
  obtain ⟨r, h⟩ : ∃ r, r = xw_takeFrom_20_74  f := ⟨_, rfl⟩
  rw [← h]
  unfold xw_takeFrom_20_74 at h
  obtain ⟨f1, Ef1, h⟩ := am_let_eq' h
  refine am_Ev.go hcd 4 (s' := (4, [(0, .ref 20), (1, .ref 74)], [], am_SH, (f1, g))) (by subst Ef1; exact rfl) ?_
  refine am_Ev.go hcd 7 (s' := (11, [(0, .ref 20), (1, .ref 74)], [.int 16, .int 0, .ref 21, .int 0, .ref 75], am_SH, (f1, g))) rfl ?_
  obtain ⟨f2, Ef2, h⟩ := am_let_eq' h
  refine am_Ev.jdk hcd (s1 := (12, [(0, .ref 20), (1, .ref 74)], [], am_SH, (f2, g))) (by subst Ef2; exact rfl) ?_
  refine am_Ev.go hcd 7 (s' := (19, [(0, .ref 20), (1, .ref 74)], [.int 16, .int 0, .ref 22, .int 0, .ref 76], am_SH, (f2, g))) rfl ?_
  obtain ⟨f3, Ef3, h⟩ := am_let_eq' h
  refine am_Ev.jdk hcd (s1 := (20, [(0, .ref 20), (1, .ref 74)], [], am_SH, (f3, g))) (by subst Ef3; exact rfl) ?_
  refine am_Ev.go hcd 7 (s' := (27, [(0, .ref 20), (1, .ref 74)], [.int 16, .int 0, .ref 23, .int 0, .ref 77], am_SH, (f3, g))) rfl ?_
  obtain ⟨f4, Ef4, h⟩ := am_let_eq' h
  refine am_Ev.jdk hcd (s1 := (28, [(0, .ref 20), (1, .ref 74)], [], am_SH, (f4, g))) (by subst Ef4; exact rfl) ?_
  refine am_Ev.go hcd 7 (s' := (35, [(0, .ref 20), (1, .ref 74)], [.int 16, .int 0, .ref 24, .int 0, .ref 78], am_SH, (f4, g))) rfl ?_
  obtain ⟨f5, Ef5, h⟩ := am_let_eq' h
  refine am_Ev.jdk hcd (s1 := (36, [(0, .ref 20), (1, .ref 74)], [], am_SH, (f5, g))) (by subst Ef5; exact rfl) ?_
  exact am_Ev.cast (a := (none, am_SH, (f5, g))) (by subst h; rfl) (am_Ev.ret hcd rfl)
set_option maxRecDepth 100000 in
set_option maxHeartbeats 4000000 in
theorem xn_takeFrom_25_79_ok {sc : Nat × (Nat → Int32)} (d : Nat)  (f g : (Nat → Nat → Int32)) : am_Ev sc (d + 1) 83 (0, [(0, .ref 25), (1, .ref 79)], [], am_SH, (f, g)) (none, am_SH, ((xn_takeFrom_25_79  f), g)) := by
  have hcd : am_code 83 = am_c83 := rfl
  obtain ⟨r, h⟩ : ∃ r, r = xn_takeFrom_25_79  f := ⟨_, rfl⟩
  rw [← h]
  unfold xn_takeFrom_25_79 at h
  obtain ⟨f1, Ef1, h⟩ := am_let_eq' h
  refine am_Ev.go hcd 4 (s' := (4, [(0, .ref 25), (1, .ref 79)], [], am_SH, (f1, g))) (by subst Ef1; exact rfl) ?_
  refine am_Ev.go hcd 9 (s' := (13, [(0, .ref 25), (1, .ref 79)], [.int (nI 256), .int 0, .ref 26, .int 0, .ref 80], am_SH, (f1, g))) rfl ?_
  obtain ⟨f2, Ef2, h⟩ := am_let_eq' h
  refine am_Ev.jdk hcd (s1 := (14, [(0, .ref 25), (1, .ref 79)], [], am_SH, (f2, g))) (by subst Ef2; exact rfl) ?_
  exact am_Ev.cast (a := (none, am_SH, (f2, g))) (by subst h; rfl) (am_Ev.ret hcd rfl)
set_option maxRecDepth 100000 in
set_option maxHeartbeats 4000000 in
theorem xr_takeFrom_27_81_ok {sc : Nat × (Nat → Int32)} (d : Nat)  (f g : (Nat → Nat → Int32)) : am_Ev sc (d + 1) 88 (0, [(0, .ref 27), (1, .ref 81)], [], am_SH, (f, g)) (none, am_SH, ((xr_takeFrom_27_81  f), g)) := by
  have hcd : am_code 88 = am_c88 := rfl
  obtain ⟨r, h⟩ : ∃ r, r = xr_takeFrom_27_81  f := ⟨_, rfl⟩
  rw [← h]
  unfold xr_takeFrom_27_81 at h
  obtain ⟨f1, Ef1, h⟩ := am_let_eq' h
  refine am_Ev.go hcd 4 (s' := (4, [(0, .ref 27), (1, .ref 81)], [], am_SH, (f1, g))) (by subst Ef1; exact rfl) ?_
  refine am_Ev.go hcd 9 (s' := (13, [(0, .ref 27), (1, .ref 81)], [.int (nI 8), .int 0, .ref 28, .int 0, .ref 82], am_SH, (f1, g))) rfl ?_
  obtain ⟨f2, Ef2, h⟩ := am_let_eq' h
  refine am_Ev.jdk hcd (s1 := (14, [(0, .ref 27), (1, .ref 81)], [], am_SH, (f2, g))) (by subst Ef2; exact rfl) ?_
  refine am_Ev.go hcd 9 (s' := (23, [(0, .ref 27), (1, .ref 81)], [.int (nI 8), .int 0, .ref 29, .int 0, .ref 83], am_SH, (f2, g))) rfl ?_
  obtain ⟨f3, Ef3, h⟩ := am_let_eq' h
  refine am_Ev.jdk hcd (s1 := (24, [(0, .ref 27), (1, .ref 81)], [], am_SH, (f3, g))) (by subst Ef3; exact rfl) ?_
  exact am_Ev.cast (a := (none, am_SH, (f3, g))) (by subst h; rfl) (am_Ev.ret hcd rfl)
