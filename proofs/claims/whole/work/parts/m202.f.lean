set_option maxRecDepth 100000 in
set_option maxHeartbeats 4000000 in
theorem xc_glassOf_2_ok {sc : Nat × (Nat → Int32)} (d : Nat) (a0 : Int32) (f g : (Nat → Nat → Int32)) (r : Int32) (h : xc_glassOf_2 a0 f = some r) : am_Ev sc (d) 26 (0, [(0, .ref 2), (1, .int a0)], [], am_SH, (f, g)) ((some (.int r)), am_SH, (f, g)) := by
  have hcd : am_code 26 = am_c26 := rfl
  unfold xc_glassOf_2 at h
  refine am_Ev.go hcd 2 (s' := (2, [(0, .ref 2), (1, .int a0), (2, .int 0)], [], am_SH, (f, g))) rfl ?_
  refine am_Ev.weak' (am_loop_ok (G := fun (s1 : Int32) => am_Ev sc (d) 26 (2, [(0, .ref 2), (1, .int a0), (2, .int s1)], [], am_SH, (f, g)) ((some (.int r)), am_SH, (f, g))) (Z := fun (v : Int32) => (((some (.int v)), am_SH, (f, g)) : am_R) = ((some (.int r)), am_SH, (f, g))) ?_ am_F 0 r h rfl) (am_sub_cons rfl (am_sub_cons rfl (am_sub_cons rfl am_sub_nil))) rfl
  intro s1 q1 h hI1 hZ1
  show am_Ev sc (d) 26 (2, [(0, .ref 2), (1, .int a0), (2, .int s1)], [], am_SH, (f, g)) ((some (.int r)), am_SH, (f, g))
  refine am_Ev.go hcd 3 (s' := (5, [(0, .ref 2), (1, .int a0), (2, .int s1)], [.int (f 2 0), .int s1], am_SH, (f, g))) rfl ?_
  rcases am_ite h with ⟨c6, h⟩ | ⟨c6, h⟩
  · refine am_Ev.t hcd (c := s1 < f 2 0) (s1 := (6, [(0, .ref 2), (1, .int a0), (2, .int s1)], [], am_SH, (f, g))) rfl c6 ?_
    refine am_Ev.go hcd 3 (s' := (9, [(0, .ref 2), (1, .int a0), (2, .int s1)], [.int s1, .ref 5], am_SH, (f, g))) rfl ?_
    obtain ⟨c9, h⟩ := am_grd h
    refine am_Ev.t hcd (o := none) (c := am_in s1 6 = true) (s1 := (10, [(0, .ref 2), (1, .int a0), (2, .int s1)], [.int (f 5 s1.toNatClampNeg)], am_SH, (f, g))) rfl c9 ?_
    refine am_Ev.go hcd 1 (s' := (11, [(0, .ref 2), (1, .int a0), (2, .int s1)], [.int a0, .int (f 5 s1.toNatClampNeg)], am_SH, (f, g))) rfl ?_
    rcases am_ite h with ⟨c12, h⟩ | ⟨c12, h⟩
    · refine am_Ev.t hcd (c := f 5 s1.toNatClampNeg = a0) (s1 := (12, [(0, .ref 2), (1, .int a0), (2, .int s1)], [], am_SH, (f, g))) rfl c12 ?_
      refine am_Ev.go hcd 1 (s' := (13, [(0, .ref 2), (1, .int a0), (2, .int s1)], [.int s1], am_SH, (f, g))) rfl ?_
      exact am_Ev.cast (a := ((some (.int s1)), am_SH, (f, g))) (hZ1 _ (Option.some.inj h).symm) (am_Ev.ret hcd rfl)
    · refine am_Ev.f hcd (c := f 5 s1.toNatClampNeg = a0) (s1 := (14, [(0, .ref 2), (1, .int a0), (2, .int s1)], [], am_SH, (f, g))) rfl c12 ?_
      obtain ⟨t2, Et2, h⟩ := am_let_eq h
      refine am_Ev.go hcd 1 (s' := (15, [(0, .ref 2), (1, .int a0), (2, .int t2)], [], am_SH, (f, g))) (by subst Et2; exact rfl) ?_
      refine am_Ev.go hcd 1 (s' := (2, [(0, .ref 2), (1, .int a0), (2, .int t2)], [], am_SH, (f, g))) rfl ?_
      exact am_Ev.weak' (hI1 t2 (Option.some.inj h).symm) (am_sub_cons rfl (am_sub_cons rfl (am_sub_cons rfl am_sub_nil))) rfl
  · refine am_Ev.f hcd (c := s1 < f 2 0) (s1 := (16, [(0, .ref 2), (1, .int a0), (2, .int s1)], [], am_SH, (f, g))) rfl c6 ?_
    refine am_Ev.go hcd 1 (s' := (17, [(0, .ref 2), (1, .int a0), (2, .int s1)], [.int (-1)], am_SH, (f, g))) rfl ?_
    exact am_Ev.cast (a := ((some (.int (-1))), am_SH, (f, g))) (hZ1 _ (Option.some.inj h).symm) (am_Ev.ret hcd rfl)
set_option maxRecDepth 100000 in
set_option maxHeartbeats 4000000 in
theorem xc_canGoUnder_2_ok {sc : Nat × (Nat → Int32)} (d : Nat) (a0 : Int32) (a1 : Int32) (f g : (Nat → Nat → Int32)) (r : Bool) (h : xc_canGoUnder_2 a0 a1 f = some r) : am_Ev sc (d + 1) 27 (0, [(0, .ref 2), (1, .int a0), (2, .int a1)], [], am_SH, (f, g)) ((some (.int (am_b r))), am_SH, (f, g)) := by
  have hcd : am_code 27 = am_c27 := rfl
  unfold xc_canGoUnder_2 at h
  refine am_Ev.go hcd 2 (s' := (2, [(0, .ref 2), (1, .int a0), (2, .int a1)], [.int a1, .ref 2], am_SH, (f, g))) rfl ?_
  refine am_Ev.call hcd (a := 23) (s0 := (0, [(0, .ref 2), (1, .int a1)], [], am_SH, (f, g))) (q := ((some (.int (am_b (xc_hasWitness_2 a1 f)))), am_SH, (f, g))) (s1 := (3, [(0, .ref 2), (1, .int a0), (2, .int a1)], [.int (am_b (xc_hasWitness_2 a1 f))], am_SH, (f, g))) rfl rfl (xc_hasWitness_2_ok (d) a1 f g) ?_
  rcases am_ite h with ⟨c4, h⟩ | ⟨c4, h⟩
  · refine am_Ev.f hcd (c := am_b (xc_hasWitness_2 a1 f) = 0) (s1 := (4, [(0, .ref 2), (1, .int a0), (2, .int a1)], [], am_SH, (f, g))) rfl (am_b_t c4) ?_
    refine am_Ev.go hcd 3 (s' := (7, [(0, .ref 2), (1, .int a0), (2, .int a1)], [.int a0, .ref 5], am_SH, (f, g))) rfl ?_
    obtain ⟨c6, h⟩ := am_grd h
    refine am_Ev.t hcd (o := none) (c := am_in a0 6 = true) (s1 := (8, [(0, .ref 2), (1, .int a0), (2, .int a1)], [.int (f 5 a0.toNatClampNeg)], am_SH, (f, g))) rfl c6 ?_
    refine am_Ev.go hcd 1 (s' := (9, [(0, .ref 2), (1, .int a0), (2, .int a1)], [.int (-1), .int (f 5 a0.toNatClampNeg)], am_SH, (f, g))) rfl ?_
    rcases am_ite h with ⟨c9, h⟩ | ⟨c9, h⟩
    · refine am_Ev.t hcd (c := f 5 a0.toNatClampNeg = (-1)) (s1 := (10, [(0, .ref 2), (1, .int a0), (2, .int a1)], [], am_SH, (f, g))) rfl c9 ?_
      refine am_Ev.go hcd 2 (s' := (12, [(0, .ref 2), (1, .int a0), (2, .int a1)], [.int a1, .ref 2], am_SH, (f, g))) rfl ?_
      obtain ⟨p2, hp2, h⟩ := am_bind_some h
      refine am_Ev.call hcd (a := 26) (s0 := (0, [(0, .ref 2), (1, .int a1)], [], am_SH, (f, g))) (q := ((some (.int p2)), am_SH, (f, g))) (s1 := (13, [(0, .ref 2), (1, .int a0), (2, .int a1)], [.int p2], am_SH, (f, g))) rfl rfl (xc_glassOf_2_ok (d) a1 f g p2 hp2) ?_
      refine am_Ev.go hcd 1 (s' := (14, [(0, .ref 2), (1, .int a0), (2, .int a1)], [.int (-1), .int p2], am_SH, (f, g))) rfl ?_
      rcases am_ite h with ⟨c15, h⟩ | ⟨c15, h⟩
      · refine am_Ev.t hcd (c := p2 = (-1)) (s1 := (15, [(0, .ref 2), (1, .int a0), (2, .int a1)], [], am_SH, (f, g))) rfl c15 ?_
        refine am_Ev.go hcd 2 (s' := (18, [(0, .ref 2), (1, .int a0), (2, .int a1)], [.int 1], am_SH, (f, g))) rfl ?_
        exact am_Ev.cast (a := ((some (.int (am_b true))), am_SH, (f, g))) (by cases h; rfl) (am_Ev.ret hcd rfl)
      · refine am_Ev.f hcd (c := p2 = (-1)) (s1 := (17, [(0, .ref 2), (1, .int a0), (2, .int a1)], [], am_SH, (f, g))) rfl c15 ?_
        refine am_Ev.go hcd 1 (s' := (18, [(0, .ref 2), (1, .int a0), (2, .int a1)], [.int 0], am_SH, (f, g))) rfl ?_
        exact am_Ev.cast (a := ((some (.int (am_b false))), am_SH, (f, g))) (by cases h; rfl) (am_Ev.ret hcd rfl)
    · refine am_Ev.f hcd (c := f 5 a0.toNatClampNeg = (-1)) (s1 := (17, [(0, .ref 2), (1, .int a0), (2, .int a1)], [], am_SH, (f, g))) rfl c9 ?_
      refine am_Ev.go hcd 1 (s' := (18, [(0, .ref 2), (1, .int a0), (2, .int a1)], [.int 0], am_SH, (f, g))) rfl ?_
      exact am_Ev.cast (a := ((some (.int (am_b false))), am_SH, (f, g))) (by cases h; rfl) (am_Ev.ret hcd rfl)
  · refine am_Ev.t hcd (c := am_b (xc_hasWitness_2 a1 f) = 0) (s1 := (17, [(0, .ref 2), (1, .int a0), (2, .int a1)], [], am_SH, (f, g))) rfl (am_b_f c4) ?_
    refine am_Ev.go hcd 1 (s' := (18, [(0, .ref 2), (1, .int a0), (2, .int a1)], [.int 0], am_SH, (f, g))) rfl ?_
    exact am_Ev.cast (a := ((some (.int (am_b false))), am_SH, (f, g))) (by cases h; rfl) (am_Ev.ret hcd rfl)
set_option maxRecDepth 100000 in
set_option maxHeartbeats 4000000 in
theorem x_isTopic_ok {sc : Nat × (Nat → Int32)} (d : Nat) (a0 : Int32) (hp : am_H) : am_Ev sc (d + 1) 171 (0, [(0, .int a0)], [], am_SH, hp) ((some (.int (am_b (x_isTopic a0)))), am_SH, hp) := by
  have hcd : am_code 171 = am_c171 := rfl
  obtain ⟨r, h⟩ : ∃ r, r = x_isTopic a0 := ⟨_, rfl⟩
  rw [← h]
  unfold x_isTopic at h
  refine am_Ev.go hcd 3 (s' := (3, [(0, .int a0)], [.int 15, .int 0, .int a0], am_SH, hp)) rfl ?_
  refine am_Ev.call hcd (a := 170) (s0 := (0, [(0, .int a0), (1, .int 0), (2, .int 15)], [], am_SH, hp)) (q := ((some (.int (am_b (x_within a0 0 15)))), am_SH, hp)) (s1 := (4, [(0, .int a0)], [.int (am_b (x_within a0 0 15))], am_SH, hp)) rfl rfl (x_within_ok (d) a0 0 15 hp) ?_
  exact am_Ev.cast (a := ((some (.int (am_b (x_within a0 0 15)))), am_SH, hp)) (by subst h; rfl) (am_Ev.retb hcd rfl)
set_option maxRecDepth 100000 in
set_option maxHeartbeats 4000000 in
theorem x_canAct_ok {sc : Nat × (Nat → Int32)} (d : Nat) (a0 : Int32) (a1 : Int32) (a2 : Int32) (f g : (Nat → Nat → Int32)) (r : Bool) (h : x_canAct a0 a1 a2 f = some r) : am_Ev sc (d + 2) 172 (0, [(0, .ref 0), (1, .int a0), (2, .int a1), (3, .int a2)], [], am_SH, (f, g)) ((some (.int (am_b r))), am_SH, (f, g)) := by
  have hcd : am_code 172 = am_c172 := rfl
  unfold x_canAct at h
  refine am_Ev.go hcd 5 (s' := (5, [(0, .ref 0), (1, .int a0), (2, .int a1), (3, .int a2), (4, .ref 2)], [.int a0], am_SH, (f, g))) rfl ?_
  refine am_Ev.one hcd (s' := (am_swt a0 [(0, 6), (1, 11), (2, 21), (3, 34), (4, 44)] 53, [(0, .ref 0), (1, .int a0), (2, .int a1), (3, .int a2), (4, .ref 2)], [], am_SH, (f, g))) rfl ?_
  rcases am_ite h with ⟨c4, h⟩ | ⟨c4, h⟩
  · rw [am_swt_t c4]
    refine am_Ev.go hcd 3 (s' := (9, [(0, .ref 0), (1, .int a0), (2, .int a1), (3, .int a2), (4, .ref 2)], [.int a2, .int a1, .ref 2], am_SH, (f, g))) rfl ?_
    obtain ⟨p1, hp1, h⟩ := am_bind_some h
    refine am_Ev.call hcd (a := 27) (s0 := (0, [(0, .ref 2), (1, .int a1), (2, .int a2)], [], am_SH, (f, g))) (q := ((some (.int (am_b p1))), am_SH, (f, g))) (s1 := (10, [(0, .ref 0), (1, .int a0), (2, .int a1), (3, .int a2), (4, .ref 2)], [.int (am_b p1)], am_SH, (f, g))) rfl rfl (xc_canGoUnder_2_ok (d) a1 a2 f g p1 hp1) ?_
    exact am_Ev.cast (a := ((some (.int (am_b p1))), am_SH, (f, g))) (by cases h; rfl) (am_Ev.retb hcd rfl)
  rw [am_swt_f c4]
  rcases am_ite h with ⟨c11, h⟩ | ⟨c11, h⟩
  · rw [am_swt_t c11]
    refine am_Ev.go hcd 3 (s' := (14, [(0, .ref 0), (1, .int a0), (2, .int a1), (3, .int a2), (4, .ref 2)], [.int a1, .ref 5], am_SH, (f, g))) rfl ?_
    obtain ⟨c13, h⟩ := am_grd h
    refine am_Ev.t hcd (o := none) (c := am_in a1 6 = true) (s1 := (15, [(0, .ref 0), (1, .int a0), (2, .int a1), (3, .int a2), (4, .ref 2)], [.int (f 5 a1.toNatClampNeg)], am_SH, (f, g))) rfl c13 ?_
    refine am_Ev.go hcd 1 (s' := (16, [(0, .ref 0), (1, .int a0), (2, .int a1), (3, .int a2), (4, .ref 2)], [.int (-1), .int (f 5 a1.toNatClampNeg)], am_SH, (f, g))) rfl ?_
    rcases am_ite h with ⟨c16, h⟩ | ⟨c16, h⟩
    · refine am_Ev.t hcd (c := f 5 a1.toNatClampNeg = (-1)) (s1 := (19, [(0, .ref 0), (1, .int a0), (2, .int a1), (3, .int a2), (4, .ref 2)], [], am_SH, (f, g))) rfl c16 ?_
      refine am_Ev.go hcd 1 (s' := (20, [(0, .ref 0), (1, .int a0), (2, .int a1), (3, .int a2), (4, .ref 2)], [.int 0], am_SH, (f, g))) rfl ?_
      exact am_Ev.cast (a := ((some (.int (am_b false))), am_SH, (f, g))) (by cases h; rfl) (am_Ev.ret hcd rfl)
    · refine am_Ev.f hcd (c := f 5 a1.toNatClampNeg = (-1)) (s1 := (17, [(0, .ref 0), (1, .int a0), (2, .int a1), (3, .int a2), (4, .ref 2)], [], am_SH, (f, g))) rfl c16 ?_
      refine am_Ev.go hcd 2 (s' := (20, [(0, .ref 0), (1, .int a0), (2, .int a1), (3, .int a2), (4, .ref 2)], [.int 1], am_SH, (f, g))) rfl ?_
      exact am_Ev.cast (a := ((some (.int (am_b true))), am_SH, (f, g))) (by cases h; rfl) (am_Ev.ret hcd rfl)
  rw [am_swt_f c11]
  rcases am_ite h with ⟨c25, h⟩ | ⟨c25, h⟩
  · rw [am_swt_t c25]
    refine am_Ev.go hcd 1 (s' := (22, [(0, .ref 0), (1, .int a0), (2, .int a1), (3, .int a2), (4, .ref 2)], [.int a2], am_SH, (f, g))) rfl ?_
    refine am_Ev.call hcd (a := 171) (s0 := (0, [(0, .int a2)], [], am_SH, (f, g))) (q := ((some (.int (am_b (x_isTopic a2)))), am_SH, (f, g))) (s1 := (23, [(0, .ref 0), (1, .int a0), (2, .int a1), (3, .int a2), (4, .ref 2)], [.int (am_b (x_isTopic a2))], am_SH, (f, g))) rfl rfl (x_isTopic_ok (d) a2 (f, g)) ?_
    rcases am_ite h with ⟨c29, h⟩ | ⟨c29, h⟩
    · refine am_Ev.f hcd (c := am_b (x_isTopic a2) = 0) (s1 := (24, [(0, .ref 0), (1, .int a0), (2, .int a1), (3, .int a2), (4, .ref 2)], [], am_SH, (f, g))) rfl (am_b_t c29) ?_
      refine am_Ev.go hcd 3 (s' := (27, [(0, .ref 0), (1, .int a0), (2, .int a1), (3, .int a2), (4, .ref 2)], [.int a1, .ref 6], am_SH, (f, g))) rfl ?_
      obtain ⟨c31, h⟩ := am_grd h
      refine am_Ev.t hcd (o := none) (c := am_in a1 6 = true) (s1 := (28, [(0, .ref 0), (1, .int a0), (2, .int a1), (3, .int a2), (4, .ref 2)], [.int (f 6 a1.toNatClampNeg)], am_SH, (f, g))) rfl c31 ?_
      refine am_Ev.go hcd 1 (s' := (29, [(0, .ref 0), (1, .int a0), (2, .int a1), (3, .int a2), (4, .ref 2)], [.int a2, .int (f 6 a1.toNatClampNeg)], am_SH, (f, g))) rfl ?_
      rcases am_ite h with ⟨c34, h⟩ | ⟨c34, h⟩
      · refine am_Ev.t hcd (c := f 6 a1.toNatClampNeg = a2) (s1 := (32, [(0, .ref 0), (1, .int a0), (2, .int a1), (3, .int a2), (4, .ref 2)], [], am_SH, (f, g))) rfl c34 ?_
        refine am_Ev.go hcd 1 (s' := (33, [(0, .ref 0), (1, .int a0), (2, .int a1), (3, .int a2), (4, .ref 2)], [.int 0], am_SH, (f, g))) rfl ?_
        exact am_Ev.cast (a := ((some (.int (am_b false))), am_SH, (f, g))) (by cases h; rfl) (am_Ev.ret hcd rfl)
      · refine am_Ev.f hcd (c := f 6 a1.toNatClampNeg = a2) (s1 := (30, [(0, .ref 0), (1, .int a0), (2, .int a1), (3, .int a2), (4, .ref 2)], [], am_SH, (f, g))) rfl c34 ?_
        refine am_Ev.go hcd 2 (s' := (33, [(0, .ref 0), (1, .int a0), (2, .int a1), (3, .int a2), (4, .ref 2)], [.int 1], am_SH, (f, g))) rfl ?_
        exact am_Ev.cast (a := ((some (.int (am_b true))), am_SH, (f, g))) (by cases h; rfl) (am_Ev.ret hcd rfl)
    · refine am_Ev.t hcd (c := am_b (x_isTopic a2) = 0) (s1 := (32, [(0, .ref 0), (1, .int a0), (2, .int a1), (3, .int a2), (4, .ref 2)], [], am_SH, (f, g))) rfl (am_b_f c29) ?_
      refine am_Ev.go hcd 1 (s' := (33, [(0, .ref 0), (1, .int a0), (2, .int a1), (3, .int a2), (4, .ref 2)], [.int 0], am_SH, (f, g))) rfl ?_
      exact am_Ev.cast (a := ((some (.int (am_b false))), am_SH, (f, g))) (by cases h; rfl) (am_Ev.ret hcd rfl)
  rw [am_swt_f c25]
  rcases am_ite h with ⟨c46, h⟩ | ⟨c46, h⟩
  · rw [am_swt_t c46]
    refine am_Ev.go hcd 3 (s' := (37, [(0, .ref 0), (1, .int a0), (2, .int a1), (3, .int a2), (4, .ref 2)], [.int a1, .ref 4], am_SH, (f, g))) rfl ?_
    obtain ⟨c48, h⟩ := am_grd h
    refine am_Ev.t hcd (o := none) (c := am_in a1 6 = true) (s1 := (38, [(0, .ref 0), (1, .int a0), (2, .int a1), (3, .int a2), (4, .ref 2)], [.int (f 4 a1.toNatClampNeg)], am_SH, (f, g))) rfl c48 ?_
    refine am_Ev.go hcd 1 (s' := (39, [(0, .ref 0), (1, .int a0), (2, .int a1), (3, .int a2), (4, .ref 2)], [.int 300, .int (f 4 a1.toNatClampNeg)], am_SH, (f, g))) rfl ?_
    rcases am_ite h with ⟨c51, h⟩ | ⟨c51, h⟩
    · refine am_Ev.t hcd (c := 300 < f 4 a1.toNatClampNeg) (s1 := (40, [(0, .ref 0), (1, .int a0), (2, .int a1), (3, .int a2), (4, .ref 2)], [], am_SH, (f, g))) rfl c51 ?_
      refine am_Ev.go hcd 2 (s' := (43, [(0, .ref 0), (1, .int a0), (2, .int a1), (3, .int a2), (4, .ref 2)], [.int 1], am_SH, (f, g))) rfl ?_
      exact am_Ev.cast (a := ((some (.int (am_b true))), am_SH, (f, g))) (by cases h; rfl) (am_Ev.ret hcd rfl)
    · refine am_Ev.f hcd (c := 300 < f 4 a1.toNatClampNeg) (s1 := (42, [(0, .ref 0), (1, .int a0), (2, .int a1), (3, .int a2), (4, .ref 2)], [], am_SH, (f, g))) rfl c51 ?_
      refine am_Ev.go hcd 1 (s' := (43, [(0, .ref 0), (1, .int a0), (2, .int a1), (3, .int a2), (4, .ref 2)], [.int 0], am_SH, (f, g))) rfl ?_
      exact am_Ev.cast (a := ((some (.int (am_b false))), am_SH, (f, g))) (by cases h; rfl) (am_Ev.ret hcd rfl)
  rw [am_swt_f c46]
  rcases am_ite h with ⟨c60, h⟩ | ⟨c60, h⟩
  · rw [am_swt_t c60]
    refine am_Ev.go hcd 3 (s' := (47, [(0, .ref 0), (1, .int a0), (2, .int a1), (3, .int a2), (4, .ref 2)], [.int a1, .ref 3], am_SH, (f, g))) rfl ?_
    obtain ⟨c62, h⟩ := am_grd h
    refine am_Ev.t hcd (o := none) (c := am_in a1 6 = true) (s1 := (48, [(0, .ref 0), (1, .int a0), (2, .int a1), (3, .int a2), (4, .ref 2)], [.int (f 3 a1.toNatClampNeg)], am_SH, (f, g))) rfl c62 ?_
    rcases am_ite h with ⟨c65, h⟩ | ⟨c65, h⟩
    · refine am_Ev.t hcd (c := 0 < f 3 a1.toNatClampNeg) (s1 := (49, [(0, .ref 0), (1, .int a0), (2, .int a1), (3, .int a2), (4, .ref 2)], [], am_SH, (f, g))) rfl c65 ?_
      refine am_Ev.go hcd 2 (s' := (52, [(0, .ref 0), (1, .int a0), (2, .int a1), (3, .int a2), (4, .ref 2)], [.int 1], am_SH, (f, g))) rfl ?_
      exact am_Ev.cast (a := ((some (.int (am_b true))), am_SH, (f, g))) (by cases h; rfl) (am_Ev.ret hcd rfl)
    · refine am_Ev.f hcd (c := 0 < f 3 a1.toNatClampNeg) (s1 := (51, [(0, .ref 0), (1, .int a0), (2, .int a1), (3, .int a2), (4, .ref 2)], [], am_SH, (f, g))) rfl c65 ?_
      refine am_Ev.go hcd 1 (s' := (52, [(0, .ref 0), (1, .int a0), (2, .int a1), (3, .int a2), (4, .ref 2)], [.int 0], am_SH, (f, g))) rfl ?_
      exact am_Ev.cast (a := ((some (.int (am_b false))), am_SH, (f, g))) (by cases h; rfl) (am_Ev.ret hcd rfl)
  rw [am_swt_f c60]
  rw [am_swt_n]
  refine am_Ev.go hcd 1 (s' := (54, [(0, .ref 0), (1, .int a0), (2, .int a1), (3, .int a2), (4, .ref 2)], [.int 0], am_SH, (f, g))) rfl ?_
  exact am_Ev.cast (a := ((some (.int (am_b false))), am_SH, (f, g))) (by cases h; rfl) (am_Ev.ret hcd rfl)
set_option maxRecDepth 100000 in
set_option maxHeartbeats 4000000 in
theorem xk_write_12_2_ok {sc : Nat × (Nat → Int32)} (d : Nat) (a0 : Int32) (a1 : Int32) (a2 : Int32) (f g : (Nat → Nat → Int32)) (r : (Nat → Nat → Int32)) (h : xk_write_12_2 a0 a1 a2 f = some r) : am_Ev sc (d) 19 (0, [(0, .ref 12), (1, .ref 2), (2, .int a0), (3, .int a1), (4, .int a2)], [], am_SH, (f, g)) (none, am_SH, (r, g)) := by
  have hcd : am_code 19 = am_c19 := rfl
  unfold xk_write_12_2 at h
  refine am_Ev.go hcd 3 (s' := (3, [(0, .ref 12), (1, .ref 2), (2, .int a0), (3, .int a1), (4, .int a2)], [.int 150, .int (f 2 4)], am_SH, (f, g))) rfl ?_
  rcases am_ite h with ⟨c2, h⟩ | ⟨c2, h⟩
  · refine am_Ev.t hcd (c := f 2 4 < 150) (s1 := (5, [(0, .ref 12), (1, .ref 2), (2, .int a0), (3, .int a1), (4, .int a2)], [], am_SH, (f, g))) rfl c2 ?_
    obtain ⟨t1, Et1, h⟩ := am_let_eq h
    refine am_Ev.go hcd 5 (s' := (10, [(0, .ref 12), (1, .ref 2), (2, .int a0), (3, .int a1), (4, .int a2), (5, .int t1)], [], am_SH, (f, g))) (by subst Et1; exact rfl) ?_
    refine am_Ev.go hcd 5 (s' := (15, [(0, .ref 12), (1, .ref 2), (2, .int a0), (3, .int a1), (4, .int a2), (5, .int t1)], [.int (f 2 2), .int t1, .ref 13], am_SH, (f, g))) rfl ?_
    obtain ⟨c7, h⟩ := am_grd h
    obtain ⟨f2, Ef2, h⟩ := am_let_eq h
    refine am_Ev.t hcd (o := none) (c := am_in t1 600 = true) (s1 := (16, [(0, .ref 12), (1, .ref 2), (2, .int a0), (3, .int a1), (4, .int a2), (5, .int t1)], [], am_SH, (f2, g))) (by subst Ef2; exact rfl) c7 ?_
    refine am_Ev.go hcd 6 (s' := (22, [(0, .ref 12), (1, .ref 2), (2, .int a0), (3, .int a1), (4, .int a2), (5, .int t1)], [.int a0, .int (t1 + 1), .ref 13], am_SH, (f2, g))) rfl ?_
    obtain ⟨c11, h⟩ := am_grd h
    obtain ⟨f3, Ef3, h⟩ := am_let_eq h
    refine am_Ev.t hcd (o := none) (c := am_in (t1 + 1) 600 = true) (s1 := (23, [(0, .ref 12), (1, .ref 2), (2, .int a0), (3, .int a1), (4, .int a2), (5, .int t1)], [], am_SH, (f3, g))) (by subst Ef3; exact rfl) c11 ?_
    refine am_Ev.go hcd 6 (s' := (29, [(0, .ref 12), (1, .ref 2), (2, .int a0), (3, .int a1), (4, .int a2), (5, .int t1)], [.int a1, .int (t1 + 2), .ref 13], am_SH, (f3, g))) rfl ?_
    obtain ⟨c15, h⟩ := am_grd h
    obtain ⟨f4, Ef4, h⟩ := am_let_eq h
    refine am_Ev.t hcd (o := none) (c := am_in (t1 + 2) 600 = true) (s1 := (30, [(0, .ref 12), (1, .ref 2), (2, .int a0), (3, .int a1), (4, .int a2), (5, .int t1)], [], am_SH, (f4, g))) (by subst Ef4; exact rfl) c15 ?_
    refine am_Ev.go hcd 6 (s' := (36, [(0, .ref 12), (1, .ref 2), (2, .int a0), (3, .int a1), (4, .int a2), (5, .int t1)], [.int a2, .int (t1 + 3), .ref 13], am_SH, (f4, g))) rfl ?_
    obtain ⟨c19, h⟩ := am_grd h
    obtain ⟨f5, Ef5, h⟩ := am_let_eq h
    refine am_Ev.t hcd (o := none) (c := am_in (t1 + 3) 600 = true) (s1 := (37, [(0, .ref 12), (1, .ref 2), (2, .int a0), (3, .int a1), (4, .int a2), (5, .int t1)], [], am_SH, (f5, g))) (by subst Ef5; exact rfl) c19 ?_
    obtain ⟨f6, Ef6, h⟩ := am_let_eq h
    refine am_Ev.go hcd 6 (s' := (43, [(0, .ref 12), (1, .ref 2), (2, .int a0), (3, .int a1), (4, .int a2), (5, .int t1)], [], am_SH, (f6, g))) (by subst Ef6; exact rfl) ?_
    exact am_Ev.cast (a := (none, am_SH, (f6, g))) (by cases h; rfl) (am_Ev.ret hcd rfl)
  · refine am_Ev.f hcd (c := f 2 4 < 150) (s1 := (4, [(0, .ref 12), (1, .ref 2), (2, .int a0), (3, .int a1), (4, .int a2)], [], am_SH, (f, g))) rfl c2 ?_
    exact am_Ev.cast (a := (none, am_SH, (f, g))) (by cases h; rfl) (am_Ev.ret hcd rfl)
set_option maxRecDepth 100000 in
set_option maxHeartbeats 4000000 in
theorem xb_note_2_ok {sc : Nat × (Nat → Int32)} (d : Nat) (a0 : Int32) (a1 : Int32) (a2 : Int32) (a3 : Bool) (f g : (Nat → Nat → Int32)) (r : (Nat → Nat → Int32)) (h : xb_note_2 a0 a1 a2 a3 f = some r) : am_Ev sc (d + 1) 5 (0, [(0, .ref 120), (1, .ref 2), (2, .int a0), (3, .int a1), (4, .int a2), (5, .int (am_b a3))], [], am_SH, (f, g)) (none, am_SH, (r, g)) := by
  have hcd : am_code 5 = am_c5 := rfl
  unfold xb_note_2 at h
  refine am_Ev.go hcd 1 (s' := (1, [(0, .ref 120), (1, .ref 2), (2, .int a0), (3, .int a1), (4, .int a2), (5, .int (am_b a3))], [.int (am_b a3)], am_SH, (f, g))) rfl ?_
  rcases am_ite h with ⟨c2, h⟩ | ⟨c2, h⟩
  · refine am_Ev.f hcd (c := am_b a3 = 0) (s1 := (2, [(0, .ref 120), (1, .ref 2), (2, .int a0), (3, .int a1), (4, .int a2), (5, .int (am_b a3))], [], am_SH, (f, g))) rfl (am_b_t c2) ?_
    refine am_Ev.go hcd 7 (s' := (9, [(0, .ref 120), (1, .ref 2), (2, .int a0), (3, .int a1), (4, .int a2), (5, .int (am_b a3))], [.int a2, .int a1, .int a0, .ref 2, .ref 12], am_SH, (f, g))) rfl ?_
    obtain ⟨p1, hp1, h⟩ := am_bind_some h
    refine am_Ev.call hcd (a := 19) (s0 := (0, [(0, .ref 12), (1, .ref 2), (2, .int a0), (3, .int a1), (4, .int a2)], [], am_SH, (f, g))) (q := (none, am_SH, (p1, g))) (s1 := (10, [(0, .ref 120), (1, .ref 2), (2, .int a0), (3, .int a1), (4, .int a2), (5, .int (am_b a3))], [], am_SH, (p1, g))) rfl rfl (xk_write_12_2_ok (d) a0 a1 a2 f g p1 hp1) ?_
    exact am_Ev.cast (a := (none, am_SH, (p1, g))) (by cases h; rfl) (am_Ev.ret hcd rfl)
  · refine am_Ev.t hcd (c := am_b a3 = 0) (s1 := (10, [(0, .ref 120), (1, .ref 2), (2, .int a0), (3, .int a1), (4, .int a2), (5, .int (am_b a3))], [], am_SH, (f, g))) rfl (am_b_f c2) ?_
    exact am_Ev.cast (a := (none, am_SH, (f, g))) (by cases h; rfl) (am_Ev.ret hcd rfl)
set_option maxRecDepth 100000 in
set_option maxHeartbeats 4000000 in
theorem xb_putUnder_2_ok {sc : Nat × (Nat → Int32)} (d : Nat) (a0 : Int32) (a1 : Int32) (a2 : Bool) (f g : (Nat → Nat → Int32)) (r : (Nat → Nat → Int32)) (h : xb_putUnder_2 a0 a1 a2 f = some r) : am_Ev sc (d + 2) 3 (0, [(0, .ref 120), (1, .ref 2), (2, .int a0), (3, .int a1), (4, .int (am_b a2))], [], am_SH, (f, g)) (none, am_SH, (r, g)) := by
  have hcd : am_code 3 = am_c3 := rfl
  unfold xb_putUnder_2 at h
  refine am_Ev.go hcd 3 (s' := (3, [(0, .ref 120), (1, .ref 2), (2, .int a0), (3, .int a1), (4, .int (am_b a2))], [.int a1, .int a0, .ref 2], am_SH, (f, g))) rfl ?_
  obtain ⟨p1, hp1, h⟩ := am_bind_some h
  refine am_Ev.call hcd (a := 27) (s0 := (0, [(0, .ref 2), (1, .int a0), (2, .int a1)], [], am_SH, (f, g))) (q := ((some (.int (am_b p1))), am_SH, (f, g))) (s1 := (4, [(0, .ref 120), (1, .ref 2), (2, .int a0), (3, .int a1), (4, .int (am_b a2))], [.int (am_b p1)], am_SH, (f, g))) rfl rfl (xc_canGoUnder_2_ok (d) a0 a1 f g p1 hp1) ?_
  rcases am_ite h with ⟨c5, h⟩ | ⟨c5, h⟩
  · refine am_Ev.f hcd (c := am_b p1 = 0) (s1 := (6, [(0, .ref 120), (1, .ref 2), (2, .int a0), (3, .int a1), (4, .int (am_b a2))], [], am_SH, (f, g))) rfl (am_b_t c5) ?_
    refine am_Ev.go hcd 4 (s' := (10, [(0, .ref 120), (1, .ref 2), (2, .int a0), (3, .int a1), (4, .int (am_b a2))], [.int a1, .int a0, .ref 5], am_SH, (f, g))) rfl ?_
    obtain ⟨c7, h⟩ := am_grd h
    obtain ⟨f2, Ef2, h⟩ := am_let_eq h
    refine am_Ev.t hcd (o := none) (c := am_in a0 6 = true) (s1 := (11, [(0, .ref 120), (1, .ref 2), (2, .int a0), (3, .int a1), (4, .int (am_b a2))], [], am_SH, (f2, g))) (by subst Ef2; exact rfl) c7 ?_
    refine am_Ev.go hcd 4 (s' := (15, [(0, .ref 120), (1, .ref 2), (2, .int a0), (3, .int a1), (4, .int (am_b a2))], [.int a1, .ref 10, .int a1, .ref 10], am_SH, (f2, g))) rfl ?_
    obtain ⟨c11, h⟩ := am_grd h
    refine am_Ev.t hcd (o := none) (c := am_in a1 12 = true) (s1 := (16, [(0, .ref 120), (1, .ref 2), (2, .int a0), (3, .int a1), (4, .int (am_b a2))], [.int (f2 10 a1.toNatClampNeg), .int a1, .ref 10], am_SH, (f2, g))) rfl c11 ?_
    refine am_Ev.go hcd 2 (s' := (18, [(0, .ref 120), (1, .ref 2), (2, .int a0), (3, .int a1), (4, .int (am_b a2))], [.int ((f2 10 a1.toNatClampNeg) + 1), .int a1, .ref 10], am_SH, (f2, g))) rfl ?_
    obtain ⟨c14, h⟩ := am_grd h
    obtain ⟨f3, Ef3, h⟩ := am_let_eq h
    refine am_Ev.t hcd (o := none) (c := am_in a1 12 = true) (s1 := (19, [(0, .ref 120), (1, .ref 2), (2, .int a0), (3, .int a1), (4, .int (am_b a2))], [], am_SH, (f3, g))) (by subst Ef3; exact rfl) c14 ?_
    refine am_Ev.go hcd 6 (s' := (25, [(0, .ref 120), (1, .ref 2), (2, .int a0), (3, .int a1), (4, .int (am_b a2))], [.int (am_b a2), .int a1, .int a0, .int 0, .ref 2, .ref 120], am_SH, (f3, g))) rfl ?_
    obtain ⟨p4, hp4, h⟩ := am_bind_some h
    refine am_Ev.call hcd (a := 5) (s0 := (0, [(0, .ref 120), (1, .ref 2), (2, .int 0), (3, .int a0), (4, .int a1), (5, .int (am_b a2))], [], am_SH, (f3, g))) (q := (none, am_SH, (p4, g))) (s1 := (26, [(0, .ref 120), (1, .ref 2), (2, .int a0), (3, .int a1), (4, .int (am_b a2))], [], am_SH, (p4, g))) rfl rfl (xb_note_2_ok (d) 0 a0 a1 a2 f3 g p4 hp4) ?_
    exact am_Ev.cast (a := (none, am_SH, (p4, g))) (by cases h; rfl) (am_Ev.ret hcd rfl)
  · refine am_Ev.t hcd (c := am_b p1 = 0) (s1 := (5, [(0, .ref 120), (1, .ref 2), (2, .int a0), (3, .int a1), (4, .int (am_b a2))], [], am_SH, (f, g))) rfl (am_b_f c5) ?_
    exact am_Ev.cast (a := (none, am_SH, (f, g))) (by cases h; rfl) (am_Ev.ret hcd rfl)
set_option maxRecDepth 100000 in
set_option maxHeartbeats 4000000 in
theorem xb_takeOut_2_ok {sc : Nat × (Nat → Int32)} (d : Nat) (a0 : Int32) (a1 : Bool) (f g : (Nat → Nat → Int32)) (r : (Nat → Nat → Int32)) (h : xb_takeOut_2 a0 a1 f = some r) : am_Ev sc (d + 2) 4 (0, [(0, .ref 120), (1, .ref 2), (2, .int a0), (3, .int (am_b a1))], [], am_SH, (f, g)) (none, am_SH, (r, g)) := by
  have hcd : am_code 4 = am_c4 := rfl
  unfold xb_takeOut_2 at h
  refine am_Ev.go hcd 3 (s' := (3, [(0, .ref 120), (1, .ref 2), (2, .int a0), (3, .int (am_b a1))], [.int a0, .ref 5], am_SH, (f, g))) rfl ?_
  obtain ⟨c2, h⟩ := am_grd h
  refine am_Ev.t hcd (o := none) (c := am_in a0 6 = true) (s1 := (4, [(0, .ref 120), (1, .ref 2), (2, .int a0), (3, .int (am_b a1))], [.int (f 5 a0.toNatClampNeg)], am_SH, (f, g))) rfl c2 ?_
  obtain ⟨t1, Et1, h⟩ := am_let_eq h
  refine am_Ev.go hcd 1 (s' := (5, [(0, .ref 120), (1, .ref 2), (2, .int a0), (3, .int (am_b a1)), (4, .int t1)], [], am_SH, (f, g))) (by subst Et1; exact rfl) ?_
  refine am_Ev.go hcd 2 (s' := (7, [(0, .ref 120), (1, .ref 2), (2, .int a0), (3, .int (am_b a1)), (4, .int t1)], [.int (-1), .int t1], am_SH, (f, g))) rfl ?_
  rcases am_ite h with ⟨c7, h⟩ | ⟨c7, h⟩
  · refine am_Ev.t hcd (c := t1 = (-1)) (s1 := (8, [(0, .ref 120), (1, .ref 2), (2, .int a0), (3, .int (am_b a1)), (4, .int t1)], [], am_SH, (f, g))) rfl c7 ?_
    exact am_Ev.cast (a := (none, am_SH, (f, g))) (by cases h; rfl) (am_Ev.ret hcd rfl)
  · refine am_Ev.f hcd (c := t1 = (-1)) (s1 := (9, [(0, .ref 120), (1, .ref 2), (2, .int a0), (3, .int (am_b a1)), (4, .int t1)], [], am_SH, (f, g))) rfl c7 ?_
    refine am_Ev.go hcd 4 (s' := (13, [(0, .ref 120), (1, .ref 2), (2, .int a0), (3, .int (am_b a1)), (4, .int t1)], [.int (-1), .int a0, .ref 5], am_SH, (f, g))) rfl ?_
    obtain ⟨c12, h⟩ := am_grd h
    obtain ⟨f2, Ef2, h⟩ := am_let_eq h
    refine am_Ev.t hcd (o := none) (c := am_in a0 6 = true) (s1 := (14, [(0, .ref 120), (1, .ref 2), (2, .int a0), (3, .int (am_b a1)), (4, .int t1)], [], am_SH, (f2, g))) (by subst Ef2; exact rfl) c12 ?_
    refine am_Ev.go hcd 6 (s' := (20, [(0, .ref 120), (1, .ref 2), (2, .int a0), (3, .int (am_b a1)), (4, .int t1)], [.int (am_b a1), .int t1, .int a0, .int 1, .ref 2, .ref 120], am_SH, (f2, g))) rfl ?_
    obtain ⟨p3, hp3, h⟩ := am_bind_some h
    refine am_Ev.call hcd (a := 5) (s0 := (0, [(0, .ref 120), (1, .ref 2), (2, .int 1), (3, .int a0), (4, .int t1), (5, .int (am_b a1))], [], am_SH, (f2, g))) (q := (none, am_SH, (p3, g))) (s1 := (21, [(0, .ref 120), (1, .ref 2), (2, .int a0), (3, .int (am_b a1)), (4, .int t1)], [], am_SH, (p3, g))) rfl rfl (xb_note_2_ok (d) 1 a0 t1 a1 f2 g p3 hp3) ?_
    exact am_Ev.cast (a := (none, am_SH, (p3, g))) (by cases h; rfl) (am_Ev.ret hcd rfl)
set_option maxRecDepth 100000 in
set_option maxHeartbeats 4000000 in
theorem x_act_ok {sc : Nat × (Nat → Int32)} (d : Nat) (a0 : Int32) (a1 : Int32) (a2 : Int32) (f g : (Nat → Nat → Int32)) (r : Bool × (Nat → Nat → Int32)) (h : x_act a0 a1 a2 f = some r) : am_Ev sc (d + 4) 131 (0, [(0, .ref 0), (1, .int a0), (2, .int a1), (3, .int a2)], [], am_SH, (f, g)) ((some (.int (am_b r.1))), am_SH, (r.2, g)) := by
  have hcd : am_code 131 = am_c131 := rfl
  unfold x_act at h
  refine am_Ev.go hcd 6 (s' := (6, [(0, .ref 0), (1, .int a0), (2, .int a1), (3, .int a2), (4, .ref 2)], [.int a1, .ref 2], am_SH, (f, g))) rfl ?_
  refine am_Ev.call hcd (a := 22) (s0 := (0, [(0, .ref 2), (1, .int a1)], [], am_SH, (f, g))) (q := ((some (.int (am_b (xc_hasGlass_2 a1 f)))), am_SH, (f, g))) (s1 := (7, [(0, .ref 0), (1, .int a0), (2, .int a1), (3, .int a2), (4, .ref 2)], [.int (am_b (xc_hasGlass_2 a1 f))], am_SH, (f, g))) rfl rfl (xc_hasGlass_2_ok (d + 3) a1 f g) ?_
  rcases am_ite h with ⟨c4, h⟩ | ⟨c4, h⟩
  · refine am_Ev.f hcd (c := am_b (xc_hasGlass_2 a1 f) = 0) (s1 := (8, [(0, .ref 0), (1, .int a0), (2, .int a1), (3, .int a2), (4, .ref 2)], [], am_SH, (f, g))) rfl (am_b_t c4) ?_
    refine am_Ev.go hcd 4 (s' := (12, [(0, .ref 0), (1, .int a0), (2, .int a1), (3, .int a2), (4, .ref 2)], [.int a2, .int a1, .int a0, .ref 0], am_SH, (f, g))) rfl ?_
    obtain ⟨p2, hp2, h⟩ := am_bind_some h
    refine am_Ev.call hcd (a := 172) (s0 := (0, [(0, .ref 0), (1, .int a0), (2, .int a1), (3, .int a2)], [], am_SH, (f, g))) (q := ((some (.int (am_b p2))), am_SH, (f, g))) (s1 := (13, [(0, .ref 0), (1, .int a0), (2, .int a1), (3, .int a2), (4, .ref 2)], [.int (am_b p2)], am_SH, (f, g))) rfl rfl (x_canAct_ok (d + 1) a0 a1 a2 f g p2 hp2) ?_
    rcases am_ite h with ⟨c9, h⟩ | ⟨c9, h⟩
    · refine am_Ev.f hcd (c := am_b p2 = 0) (s1 := (16, [(0, .ref 0), (1, .int a0), (2, .int a1), (3, .int a2), (4, .ref 2)], [], am_SH, (f, g))) rfl (am_b_t c9) ?_
      refine am_Ev.go hcd 1 (s' := (17, [(0, .ref 0), (1, .int a0), (2, .int a1), (3, .int a2), (4, .ref 2)], [.ref 0], am_SH, (f, g))) rfl ?_
      obtain ⟨p3, hp3, h⟩ := am_bind_some h
      refine am_Ev.call hcd (a := 174) (s0 := (0, [(0, .ref 0)], [], am_SH, (f, g))) (q := (none, am_SH, (p3, g))) (s1 := (18, [(0, .ref 0), (1, .int a0), (2, .int a1), (3, .int a2), (4, .ref 2)], [], am_SH, (p3, g))) rfl rfl (x_keepPast_ok (d)  f g p3 hp3) ?_
      refine am_Ev.go hcd 1 (s' := (19, [(0, .ref 0), (1, .int a0), (2, .int a1), (3, .int a2), (4, .ref 2)], [.int a0], am_SH, (p3, g))) rfl ?_
      refine am_Ev.one hcd (s' := (am_swt a0 [(0, 20), (1, 28), (2, 35), (3, 41)] 47, [(0, .ref 0), (1, .int a0), (2, .int a1), (3, .int a2), (4, .ref 2)], [], am_SH, (p3, g))) rfl ?_
      rcases am_ite h with ⟨c16, h⟩ | ⟨c16, h⟩
      · rw [am_swt_t c16]
        refine am_Ev.go hcd 6 (s' := (26, [(0, .ref 0), (1, .int a0), (2, .int a1), (3, .int a2), (4, .ref 2)], [.int 1, .int a2, .int a1, .ref 2, .ref 120], am_SH, (p3, g))) rfl ?_
        obtain ⟨p4, hp4, h⟩ := am_bind_some h
        refine am_Ev.call hcd (a := 3) (s0 := (0, [(0, .ref 120), (1, .ref 2), (2, .int a1), (3, .int a2), (4, .int (am_b true))], [], am_SH, (p3, g))) (q := (none, am_SH, (p4, g))) (s1 := (27, [(0, .ref 0), (1, .int a0), (2, .int a1), (3, .int a2), (4, .ref 2)], [], am_SH, (p4, g))) rfl rfl (xb_putUnder_2_ok (d + 1) a1 a2 true p3 g p4 hp4) ?_
        refine am_Ev.go hcd 2 (s' := (53, [(0, .ref 0), (1, .int a0), (2, .int a1), (3, .int a2), (4, .ref 2)], [.int 1], am_SH, (p4, g))) rfl ?_
        exact am_Ev.cast (a := ((some (.int (am_b (true, p4).1))), am_SH, ((true, p4).2, g))) (by cases h; rfl) (am_Ev.ret hcd rfl)
      rw [am_swt_f c16]
      rcases am_ite h with ⟨c24, h⟩ | ⟨c24, h⟩
      · rw [am_swt_t c24]
        refine am_Ev.go hcd 5 (s' := (33, [(0, .ref 0), (1, .int a0), (2, .int a1), (3, .int a2), (4, .ref 2)], [.int 1, .int a1, .ref 2, .ref 120], am_SH, (p3, g))) rfl ?_
        obtain ⟨p5, hp5, h⟩ := am_bind_some h
        refine am_Ev.call hcd (a := 4) (s0 := (0, [(0, .ref 120), (1, .ref 2), (2, .int a1), (3, .int (am_b true))], [], am_SH, (p3, g))) (q := (none, am_SH, (p5, g))) (s1 := (34, [(0, .ref 0), (1, .int a0), (2, .int a1), (3, .int a2), (4, .ref 2)], [], am_SH, (p5, g))) rfl rfl (xb_takeOut_2_ok (d + 1) a1 true p3 g p5 hp5) ?_
        refine am_Ev.go hcd 2 (s' := (53, [(0, .ref 0), (1, .int a0), (2, .int a1), (3, .int a2), (4, .ref 2)], [.int 1], am_SH, (p5, g))) rfl ?_
        exact am_Ev.cast (a := ((some (.int (am_b (true, p5).1))), am_SH, ((true, p5).2, g))) (by cases h; rfl) (am_Ev.ret hcd rfl)
      rw [am_swt_f c24]
      rcases am_ite h with ⟨c32, h⟩ | ⟨c32, h⟩
      · rw [am_swt_t c32]
        refine am_Ev.go hcd 4 (s' := (39, [(0, .ref 0), (1, .int a0), (2, .int a1), (3, .int a2), (4, .ref 2)], [.int a2, .int a1, .ref 6], am_SH, (p3, g))) rfl ?_
        obtain ⟨c34, h⟩ := am_grd h
        obtain ⟨f6, Ef6, h⟩ := am_let_eq h
        refine am_Ev.t hcd (o := none) (c := am_in a1 6 = true) (s1 := (40, [(0, .ref 0), (1, .int a0), (2, .int a1), (3, .int a2), (4, .ref 2)], [], am_SH, (f6, g))) (by subst Ef6; exact rfl) c34 ?_
        refine am_Ev.go hcd 2 (s' := (53, [(0, .ref 0), (1, .int a0), (2, .int a1), (3, .int a2), (4, .ref 2)], [.int 1], am_SH, (f6, g))) rfl ?_
        exact am_Ev.cast (a := ((some (.int (am_b (true, f6).1))), am_SH, ((true, f6).2, g))) (by cases h; rfl) (am_Ev.ret hcd rfl)
      rw [am_swt_f c32]
      rcases am_ite h with ⟨c41, h⟩ | ⟨c41, h⟩
      · rw [am_swt_t c41]
        refine am_Ev.go hcd 4 (s' := (45, [(0, .ref 0), (1, .int a0), (2, .int a1), (3, .int a2), (4, .ref 2)], [.int 300, .int a1, .ref 4], am_SH, (p3, g))) rfl ?_
        obtain ⟨c43, h⟩ := am_grd h
        obtain ⟨f7, Ef7, h⟩ := am_let_eq h
        refine am_Ev.t hcd (o := none) (c := am_in a1 6 = true) (s1 := (46, [(0, .ref 0), (1, .int a0), (2, .int a1), (3, .int a2), (4, .ref 2)], [], am_SH, (f7, g))) (by subst Ef7; exact rfl) c43 ?_
        refine am_Ev.go hcd 2 (s' := (53, [(0, .ref 0), (1, .int a0), (2, .int a1), (3, .int a2), (4, .ref 2)], [.int 1], am_SH, (f7, g))) rfl ?_
        exact am_Ev.cast (a := ((some (.int (am_b (true, f7).1))), am_SH, ((true, f7).2, g))) (by cases h; rfl) (am_Ev.ret hcd rfl)
      rw [am_swt_f c41]
      rw [am_swt_n]
      refine am_Ev.go hcd 4 (s' := (51, [(0, .ref 0), (1, .int a0), (2, .int a1), (3, .int a2), (4, .ref 2)], [.int 0, .int a1, .ref 3], am_SH, (p3, g))) rfl ?_
      obtain ⟨c51, h⟩ := am_grd h
      obtain ⟨f8, Ef8, h⟩ := am_let_eq h
      refine am_Ev.t hcd (o := none) (c := am_in a1 6 = true) (s1 := (52, [(0, .ref 0), (1, .int a0), (2, .int a1), (3, .int a2), (4, .ref 2)], [], am_SH, (f8, g))) (by subst Ef8; exact rfl) c51 ?_
      refine am_Ev.go hcd 1 (s' := (53, [(0, .ref 0), (1, .int a0), (2, .int a1), (3, .int a2), (4, .ref 2)], [.int 1], am_SH, (f8, g))) rfl ?_
      exact am_Ev.cast (a := ((some (.int (am_b (true, f8).1))), am_SH, ((true, f8).2, g))) (by cases h; rfl) (am_Ev.ret hcd rfl)
    · refine am_Ev.t hcd (c := am_b p2 = 0) (s1 := (14, [(0, .ref 0), (1, .int a0), (2, .int a1), (3, .int a2), (4, .ref 2)], [], am_SH, (f, g))) rfl (am_b_f c9) ?_
      refine am_Ev.go hcd 1 (s' := (15, [(0, .ref 0), (1, .int a0), (2, .int a1), (3, .int a2), (4, .ref 2)], [.int 0], am_SH, (f, g))) rfl ?_
      exact am_Ev.cast (a := ((some (.int (am_b (false, f).1))), am_SH, ((false, f).2, g))) (by cases h; rfl) (am_Ev.ret hcd rfl)
  · refine am_Ev.t hcd (c := am_b (xc_hasGlass_2 a1 f) = 0) (s1 := (14, [(0, .ref 0), (1, .int a0), (2, .int a1), (3, .int a2), (4, .ref 2)], [], am_SH, (f, g))) rfl (am_b_f c4) ?_
    refine am_Ev.go hcd 1 (s' := (15, [(0, .ref 0), (1, .int a0), (2, .int a1), (3, .int a2), (4, .ref 2)], [.int 0], am_SH, (f, g))) rfl ?_
    exact am_Ev.cast (a := ((some (.int (am_b (false, f).1))), am_SH, ((false, f).2, g))) (by cases h; rfl) (am_Ev.ret hcd rfl)
set_option maxRecDepth 100000 in
set_option maxHeartbeats 4000000 in
theorem xb_walkLine_2_ok {sc : Nat × (Nat → Int32)} (d : Nat) (a0 : Int32) (a1 : Bool) (f g : (Nat → Nat → Int32)) (r : (Nat → Nat → Int32)) (h : xb_walkLine_2 a0 a1 f = some r) : am_Ev sc (d + 3) 2 (0, [(0, .ref 120), (1, .ref 2), (2, .int a0), (3, .int (am_b a1))], [], am_SH, (f, g)) (none, am_SH, (r, g)) := by
  have hcd : am_code 2 = am_c2 := rfl
  unfold xb_walkLine_2 at h
  refine am_Ev.go hcd 5 (s' := (5, [(0, .ref 120), (1, .ref 2), (2, .int a0), (3, .int (am_b a1))], [.int a0, .ref 22], am_SH, (f, g))) rfl ?_
  obtain ⟨c2, h⟩ := am_grd h
  refine am_Ev.t hcd (o := none) (c := am_in a0 16 = true) (s1 := (6, [(0, .ref 120), (1, .ref 2), (2, .int a0), (3, .int (am_b a1))], [.int (f 22 a0.toNatClampNeg)], am_SH, (f, g))) rfl c2 ?_
  obtain ⟨t1, Et1, h⟩ := am_let_eq h
  refine am_Ev.go hcd 1 (s' := (7, [(0, .ref 120), (1, .ref 2), (2, .int a0), (3, .int (am_b a1)), (4, .int t1)], [], am_SH, (f, g))) (by subst Et1; exact rfl) ?_
  refine am_Ev.go hcd 5 (s' := (12, [(0, .ref 120), (1, .ref 2), (2, .int a0), (3, .int (am_b a1)), (4, .int t1)], [.int a0, .ref 24], am_SH, (f, g))) rfl ?_
  obtain ⟨c7, h⟩ := am_grd h
  refine am_Ev.t hcd (o := none) (c := am_in a0 16 = true) (s1 := (13, [(0, .ref 120), (1, .ref 2), (2, .int a0), (3, .int (am_b a1)), (4, .int t1)], [.int (f 24 a0.toNatClampNeg)], am_SH, (f, g))) rfl c7 ?_
  obtain ⟨t2, Et2, h⟩ := am_let_eq h
  refine am_Ev.go hcd 1 (s' := (14, [(0, .ref 120), (1, .ref 2), (2, .int a0), (3, .int (am_b a1)), (4, .int t1), (5, .int t2)], [], am_SH, (f, g))) (by subst Et2; exact rfl) ?_
  refine am_Ev.go hcd 5 (s' := (19, [(0, .ref 120), (1, .ref 2), (2, .int a0), (3, .int (am_b a1)), (4, .int t1), (5, .int t2)], [.int a0, .ref 23], am_SH, (f, g))) rfl ?_
  obtain ⟨c12, h⟩ := am_grd h
  refine am_Ev.t hcd (o := none) (c := am_in a0 16 = true) (s1 := (20, [(0, .ref 120), (1, .ref 2), (2, .int a0), (3, .int (am_b a1)), (4, .int t1), (5, .int t2)], [.int (f 23 a0.toNatClampNeg)], am_SH, (f, g))) rfl c12 ?_
  refine am_Ev.one hcd (s' := (am_swt (f 23 a0.toNatClampNeg) [(2, 21), (3, 27), (4, 33), (5, 39), (6, 45)] 52, [(0, .ref 120), (1, .ref 2), (2, .int a0), (3, .int (am_b a1)), (4, .int t1), (5, .int t2)], [], am_SH, (f, g))) rfl ?_
  rcases am_ite h with ⟨c16, h⟩ | ⟨c16, h⟩
  · rw [am_swt_t c16]
    refine am_Ev.go hcd 4 (s' := (25, [(0, .ref 120), (1, .ref 2), (2, .int a0), (3, .int (am_b a1)), (4, .int t1), (5, .int t2)], [.int t2, .int t1, .ref 6], am_SH, (f, g))) rfl ?_
    obtain ⟨c18, h⟩ := am_grd h
    obtain ⟨f3, Ef3, h⟩ := am_let_eq h
    refine am_Ev.t hcd (o := none) (c := am_in t1 6 = true) (s1 := (26, [(0, .ref 120), (1, .ref 2), (2, .int a0), (3, .int (am_b a1)), (4, .int t1), (5, .int t2)], [], am_SH, (f3, g))) (by subst Ef3; exact rfl) c18 ?_
    refine am_Ev.go hcd 1 (s' := (57, [(0, .ref 120), (1, .ref 2), (2, .int a0), (3, .int (am_b a1)), (4, .int t1), (5, .int t2)], [], am_SH, (f3, g))) rfl ?_
    exact am_Ev.cast (a := (none, am_SH, (f3, g))) (by cases h; rfl) (am_Ev.ret hcd rfl)
  rw [am_swt_f c16]
  rcases am_ite h with ⟨c25, h⟩ | ⟨c25, h⟩
  · rw [am_swt_t c25]
    refine am_Ev.go hcd 4 (s' := (31, [(0, .ref 120), (1, .ref 2), (2, .int a0), (3, .int (am_b a1)), (4, .int t1), (5, .int t2)], [.int (-1), .int t1, .ref 6], am_SH, (f, g))) rfl ?_
    obtain ⟨c27, h⟩ := am_grd h
    obtain ⟨f4, Ef4, h⟩ := am_let_eq h
    refine am_Ev.t hcd (o := none) (c := am_in t1 6 = true) (s1 := (32, [(0, .ref 120), (1, .ref 2), (2, .int a0), (3, .int (am_b a1)), (4, .int t1), (5, .int t2)], [], am_SH, (f4, g))) (by subst Ef4; exact rfl) c27 ?_
    refine am_Ev.go hcd 1 (s' := (57, [(0, .ref 120), (1, .ref 2), (2, .int a0), (3, .int (am_b a1)), (4, .int t1), (5, .int t2)], [], am_SH, (f4, g))) rfl ?_
    exact am_Ev.cast (a := (none, am_SH, (f4, g))) (by cases h; rfl) (am_Ev.ret hcd rfl)
  rw [am_swt_f c25]
  rcases am_ite h with ⟨c34, h⟩ | ⟨c34, h⟩
  · rw [am_swt_t c34]
    refine am_Ev.go hcd 4 (s' := (37, [(0, .ref 120), (1, .ref 2), (2, .int a0), (3, .int (am_b a1)), (4, .int t1), (5, .int t2)], [.int 300, .int t1, .ref 4], am_SH, (f, g))) rfl ?_
    obtain ⟨c36, h⟩ := am_grd h
    obtain ⟨f5, Ef5, h⟩ := am_let_eq h
    refine am_Ev.t hcd (o := none) (c := am_in t1 6 = true) (s1 := (38, [(0, .ref 120), (1, .ref 2), (2, .int a0), (3, .int (am_b a1)), (4, .int t1), (5, .int t2)], [], am_SH, (f5, g))) (by subst Ef5; exact rfl) c36 ?_
    refine am_Ev.go hcd 1 (s' := (57, [(0, .ref 120), (1, .ref 2), (2, .int a0), (3, .int (am_b a1)), (4, .int t1), (5, .int t2)], [], am_SH, (f5, g))) rfl ?_
    exact am_Ev.cast (a := (none, am_SH, (f5, g))) (by cases h; rfl) (am_Ev.ret hcd rfl)
  rw [am_swt_f c34]
  rcases am_ite h with ⟨c43, h⟩ | ⟨c43, h⟩
  · rw [am_swt_t c43]
    refine am_Ev.go hcd 4 (s' := (43, [(0, .ref 120), (1, .ref 2), (2, .int a0), (3, .int (am_b a1)), (4, .int t1), (5, .int t2)], [.int 0, .int t1, .ref 3], am_SH, (f, g))) rfl ?_
    obtain ⟨c45, h⟩ := am_grd h
    obtain ⟨f6, Ef6, h⟩ := am_let_eq h
    refine am_Ev.t hcd (o := none) (c := am_in t1 6 = true) (s1 := (44, [(0, .ref 120), (1, .ref 2), (2, .int a0), (3, .int (am_b a1)), (4, .int t1), (5, .int t2)], [], am_SH, (f6, g))) (by subst Ef6; exact rfl) c45 ?_
    refine am_Ev.go hcd 1 (s' := (57, [(0, .ref 120), (1, .ref 2), (2, .int a0), (3, .int (am_b a1)), (4, .int t1), (5, .int t2)], [], am_SH, (f6, g))) rfl ?_
    exact am_Ev.cast (a := (none, am_SH, (f6, g))) (by cases h; rfl) (am_Ev.ret hcd rfl)
  rw [am_swt_f c43]
  rcases am_ite h with ⟨c52, h⟩ | ⟨c52, h⟩
  · rw [am_swt_t c52]
    refine am_Ev.go hcd 5 (s' := (50, [(0, .ref 120), (1, .ref 2), (2, .int a0), (3, .int (am_b a1)), (4, .int t1), (5, .int t2)], [.int (am_b a1), .int t2, .int t1, .ref 2, .ref 120], am_SH, (f, g))) rfl ?_
    obtain ⟨p7, hp7, h⟩ := am_bind_some h
    refine am_Ev.call hcd (a := 3) (s0 := (0, [(0, .ref 120), (1, .ref 2), (2, .int t1), (3, .int t2), (4, .int (am_b a1))], [], am_SH, (f, g))) (q := (none, am_SH, (p7, g))) (s1 := (51, [(0, .ref 120), (1, .ref 2), (2, .int a0), (3, .int (am_b a1)), (4, .int t1), (5, .int t2)], [], am_SH, (p7, g))) rfl rfl (xb_putUnder_2_ok (d) t1 t2 a1 f g p7 hp7) ?_
    refine am_Ev.go hcd 1 (s' := (57, [(0, .ref 120), (1, .ref 2), (2, .int a0), (3, .int (am_b a1)), (4, .int t1), (5, .int t2)], [], am_SH, (p7, g))) rfl ?_
    exact am_Ev.cast (a := (none, am_SH, (p7, g))) (by cases h; rfl) (am_Ev.ret hcd rfl)
  rw [am_swt_f c52]
  rw [am_swt_n]
  refine am_Ev.go hcd 4 (s' := (56, [(0, .ref 120), (1, .ref 2), (2, .int a0), (3, .int (am_b a1)), (4, .int t1), (5, .int t2)], [.int (am_b a1), .int t1, .ref 2, .ref 120], am_SH, (f, g))) rfl ?_
  obtain ⟨p8, hp8, h⟩ := am_bind_some h
  refine am_Ev.call hcd (a := 4) (s0 := (0, [(0, .ref 120), (1, .ref 2), (2, .int t1), (3, .int (am_b a1))], [], am_SH, (f, g))) (q := (none, am_SH, (p8, g))) (s1 := (57, [(0, .ref 120), (1, .ref 2), (2, .int a0), (3, .int (am_b a1)), (4, .int t1), (5, .int t2)], [], am_SH, (p8, g))) rfl rfl (xb_takeOut_2_ok (d) t1 a1 f g p8 hp8) ?_
  exact am_Ev.cast (a := (none, am_SH, (p8, g))) (by cases h; rfl) (am_Ev.ret hcd rfl)
set_option maxRecDepth 100000 in
set_option maxHeartbeats 4000000 in
theorem xn_between_25_ok {sc : Nat × (Nat → Int32)} (d : Nat) (a0 : Int32) (a1 : Int32) (f g : (Nat → Nat → Int32)) (r : Int32) (h : xn_between_25 a0 a1 f = some r) : am_Ev sc (d) 79 (0, [(0, .ref 25), (1, .int a0), (2, .int a1)], [], am_SH, (f, g)) ((some (.int r)), am_SH, (f, g)) := by
  have hcd : am_code 79 = am_c79 := rfl
  unfold xn_between_25 at h
  refine am_Ev.go hcd 7 (s' := (7, [(0, .ref 25), (1, .int a0), (2, .int a1)], [.int ((16 * a0) + a1), .ref 26], am_SH, (f, g))) rfl ?_
  obtain ⟨c2, h⟩ := am_grd h
  refine am_Ev.t hcd (o := none) (c := am_in ((16 * a0) + a1) 256 = true) (s1 := (8, [(0, .ref 25), (1, .int a0), (2, .int a1)], [.int (f 26 ((16 * a0) + a1).toNatClampNeg)], am_SH, (f, g))) rfl c2 ?_
  exact am_Ev.cast (a := ((some (.int (f 26 ((16 * a0) + a1).toNatClampNeg : Int32))), am_SH, (f, g))) (by cases h; rfl) (am_Ev.ret hcd rfl)
set_option maxRecDepth 100000 in
set_option maxHeartbeats 4000000 in
theorem xn_nearness_25_ok {sc : Nat × (Nat → Int32)} (d : Nat) (a0 : Int32) (a1 : Int32) (f g : (Nat → Nat → Int32)) (r : Int32) (h : xn_nearness_25 a0 a1 f = some r) : am_Ev sc (d + 1) 81 (0, [(0, .ref 25), (1, .int a0), (2, .int a1)], [], am_SH, (f, g)) ((some (.int r)), am_SH, (f, g)) := by
  have hcd : am_code 81 = am_c81 := rfl
  unfold xn_nearness_25 at h
  refine am_Ev.go hcd 1 (s' := (1, [(0, .ref 25), (1, .int a0), (2, .int a1)], [.int a1], am_SH, (f, g))) rfl ?_
  rcases am_ite h with ⟨c2, h⟩ | ⟨c2, h⟩
  · refine am_Ev.t hcd (c := a1 < 0) (s1 := (5, [(0, .ref 25), (1, .int a0), (2, .int a1)], [], am_SH, (f, g))) rfl c2 ?_
    refine am_Ev.go hcd 1 (s' := (6, [(0, .ref 25), (1, .int a0), (2, .int a1)], [.int 0], am_SH, (f, g))) rfl ?_
    exact am_Ev.cast (a := ((some (.int 0)), am_SH, (f, g))) (by cases h; rfl) (am_Ev.ret hcd rfl)
  · refine am_Ev.f hcd (c := a1 < 0) (s1 := (2, [(0, .ref 25), (1, .int a0), (2, .int a1)], [], am_SH, (f, g))) rfl c2 ?_
    refine am_Ev.go hcd 2 (s' := (4, [(0, .ref 25), (1, .int a0), (2, .int a1)], [.int 16, .int a1], am_SH, (f, g))) rfl ?_
    rcases am_ite h with ⟨c8, h⟩ | ⟨c8, h⟩
    · refine am_Ev.t hcd (c := a1 < 16) (s1 := (7, [(0, .ref 25), (1, .int a0), (2, .int a1)], [], am_SH, (f, g))) rfl c8 ?_
      refine am_Ev.go hcd 6 (s' := (13, [(0, .ref 25), (1, .int a0), (2, .int a1)], [.int 1, .int ((a0 >>> (a1 &&& 31)) &&& 1)], am_SH, (f, g))) rfl ?_
      rcases am_ite h with ⟨c11, h⟩ | ⟨c11, h⟩
      · refine am_Ev.t hcd (c := ((a0 >>> (a1 &&& 31)) &&& 1) = 1) (s1 := (14, [(0, .ref 25), (1, .int a0), (2, .int a1)], [], am_SH, (f, g))) rfl c11 ?_
        refine am_Ev.go hcd 1 (s' := (15, [(0, .ref 25), (1, .int a0), (2, .int a1)], [.int 10], am_SH, (f, g))) rfl ?_
        exact am_Ev.cast (a := ((some (.int 10)), am_SH, (f, g))) (by cases h; rfl) (am_Ev.ret hcd rfl)
      · refine am_Ev.f hcd (c := ((a0 >>> (a1 &&& 31)) &&& 1) = 1) (s1 := (16, [(0, .ref 25), (1, .int a0), (2, .int a1)], [], am_SH, (f, g))) rfl c11 ?_
        refine am_Ev.go hcd 4 (s' := (20, [(0, .ref 25), (1, .int a0), (2, .int a1), (3, .int 0), (4, .int 0)], [], am_SH, (f, g))) rfl ?_
        refine am_Ev.weak' (am_loop_ok (G := fun (s1 : Int32 × Int32) => am_Ev sc (d + 1) 81 (20, [(0, .ref 25), (1, .int a0), (2, .int a1), (3, .int s1.1), (4, .int s1.2)], [], am_SH, (f, g)) ((some (.int r)), am_SH, (f, g))) (Z := fun (v : Int32) => (((some (.int v)), am_SH, (f, g)) : am_R) = ((some (.int r)), am_SH, (f, g))) ?_ am_F (0, 0) r h rfl) (am_sub_cons rfl (am_sub_cons rfl (am_sub_cons rfl (am_sub_cons rfl (am_sub_cons rfl am_sub_nil))))) rfl
        intro s1 q1 h hI1 hZ1
        show am_Ev sc (d + 1) 81 (20, [(0, .ref 25), (1, .int a0), (2, .int a1), (3, .int s1.1), (4, .int s1.2)], [], am_SH, (f, g)) ((some (.int r)), am_SH, (f, g))
        refine am_Ev.go hcd 2 (s' := (22, [(0, .ref 25), (1, .int a0), (2, .int a1), (3, .int s1.1), (4, .int s1.2)], [.int 16, .int s1.2], am_SH, (f, g))) rfl ?_
        rcases am_ite h with ⟨c21, h⟩ | ⟨c21, h⟩
        · refine am_Ev.t hcd (c := s1.2 < 16) (s1 := (23, [(0, .ref 25), (1, .int a0), (2, .int a1), (3, .int s1.1), (4, .int s1.2)], [], am_SH, (f, g))) rfl c21 ?_
          obtain ⟨t4, ht4, kt4⟩ := am_bind_some h
          have hKt4 : am_Ev sc (d + 1) 81 (41, [(0, .ref 25), (1, .int a0), (2, .int a1), (3, .int t4), (4, .int s1.2)], [], am_SH, (f, g)) ((some (.int r)), am_SH, (f, g)) := by
            have h := kt4
            obtain ⟨t5, Et5, h⟩ := am_let_eq h
            refine am_Ev.go hcd 1 (s' := (42, [(0, .ref 25), (1, .int a0), (2, .int a1), (3, .int t4), (4, .int t5)], [], am_SH, (f, g))) (by subst Et5; exact rfl) ?_
            refine am_Ev.go hcd 1 (s' := (20, [(0, .ref 25), (1, .int a0), (2, .int a1), (3, .int t4), (4, .int t5)], [], am_SH, (f, g))) rfl ?_
            exact am_Ev.weak' (hI1 (t4, t5) (Option.some.inj h).symm) (am_sub_cons rfl (am_sub_cons rfl (am_sub_cons rfl (am_sub_cons rfl (am_sub_cons rfl am_sub_nil))))) rfl
          have hLt4 : ∀ tt, tt = t4 → am_Ev sc (d + 1) 81 (41, [(0, .ref 25), (1, .int a0), (2, .int a1), (3, .int tt), (4, .int s1.2)], [], am_SH, (f, g)) ((some (.int r)), am_SH, (f, g)) := fun tt htt => by subst htt; exact hKt4
          have h := ht4
          refine am_Ev.go hcd 6 (s' := (29, [(0, .ref 25), (1, .int a0), (2, .int a1), (3, .int s1.1), (4, .int s1.2)], [.int 1, .int ((a0 >>> (s1.2 &&& 31)) &&& 1)], am_SH, (f, g))) rfl ?_
          rcases am_ite h with ⟨c33, h⟩ | ⟨c33, h⟩
          · refine am_Ev.t hcd (c := ((a0 >>> (s1.2 &&& 31)) &&& 1) = 1) (s1 := (30, [(0, .ref 25), (1, .int a0), (2, .int a1), (3, .int s1.1), (4, .int s1.2)], [], am_SH, (f, g))) rfl c33 ?_
            refine am_Ev.go hcd 3 (s' := (33, [(0, .ref 25), (1, .int a0), (2, .int a1), (3, .int s1.1), (4, .int s1.2)], [.int s1.2, .int a1, .ref 25], am_SH, (f, g))) rfl ?_
            obtain ⟨p2, hp2, h⟩ := am_bind_some h
            refine am_Ev.call hcd (a := 79) (s0 := (0, [(0, .ref 25), (1, .int a1), (2, .int s1.2)], [], am_SH, (f, g))) (q := ((some (.int p2)), am_SH, (f, g))) (s1 := (34, [(0, .ref 25), (1, .int a0), (2, .int a1), (3, .int s1.1), (4, .int s1.2)], [.int p2], am_SH, (f, g))) rfl rfl (xn_between_25_ok (d) a1 s1.2 f g p2 hp2) ?_
            refine am_Ev.go hcd 1 (s' := (35, [(0, .ref 25), (1, .int a0), (2, .int a1), (3, .int s1.1), (4, .int s1.2)], [.int s1.1, .int p2], am_SH, (f, g))) rfl ?_
            rcases am_ite h with ⟨c39, h⟩ | ⟨c39, h⟩
            · refine am_Ev.t hcd (c := s1.1 < p2) (s1 := (36, [(0, .ref 25), (1, .int a0), (2, .int a1), (3, .int s1.1), (4, .int s1.2)], [], am_SH, (f, g))) rfl c39 ?_
              refine am_Ev.go hcd 3 (s' := (39, [(0, .ref 25), (1, .int a0), (2, .int a1), (3, .int s1.1), (4, .int s1.2)], [.int s1.2, .int a1, .ref 25], am_SH, (f, g))) rfl ?_
              obtain ⟨p3, hp3, h⟩ := am_bind_some h
              refine am_Ev.call hcd (a := 79) (s0 := (0, [(0, .ref 25), (1, .int a1), (2, .int s1.2)], [], am_SH, (f, g))) (q := ((some (.int p3)), am_SH, (f, g))) (s1 := (40, [(0, .ref 25), (1, .int a0), (2, .int a1), (3, .int s1.1), (4, .int s1.2)], [.int p3], am_SH, (f, g))) rfl rfl (xn_between_25_ok (d) a1 s1.2 f g p3 hp3) ?_
              refine am_Ev.go hcd 1 (s' := (41, [(0, .ref 25), (1, .int a0), (2, .int a1), (3, .int p3), (4, .int s1.2)], [], am_SH, (f, g))) rfl ?_
              exact am_Ev.weak' (hLt4 p3 (Option.some.inj h)) (am_sub_cons rfl (am_sub_cons rfl (am_sub_cons rfl (am_sub_cons rfl (am_sub_cons rfl am_sub_nil))))) rfl
            · refine am_Ev.f hcd (c := s1.1 < p2) (s1 := (41, [(0, .ref 25), (1, .int a0), (2, .int a1), (3, .int s1.1), (4, .int s1.2)], [], am_SH, (f, g))) rfl c39 ?_
              exact am_Ev.weak' (hLt4 s1.1 (Option.some.inj h)) (am_sub_cons rfl (am_sub_cons rfl (am_sub_cons rfl (am_sub_cons rfl (am_sub_cons rfl am_sub_nil))))) rfl
          · refine am_Ev.f hcd (c := ((a0 >>> (s1.2 &&& 31)) &&& 1) = 1) (s1 := (41, [(0, .ref 25), (1, .int a0), (2, .int a1), (3, .int s1.1), (4, .int s1.2)], [], am_SH, (f, g))) rfl c33 ?_
            exact am_Ev.weak' (hLt4 s1.1 (Option.some.inj h)) (am_sub_cons rfl (am_sub_cons rfl (am_sub_cons rfl (am_sub_cons rfl (am_sub_cons rfl am_sub_nil))))) rfl
        · refine am_Ev.f hcd (c := s1.2 < 16) (s1 := (43, [(0, .ref 25), (1, .int a0), (2, .int a1), (3, .int s1.1), (4, .int s1.2)], [], am_SH, (f, g))) rfl c21 ?_
          refine am_Ev.go hcd 1 (s' := (44, [(0, .ref 25), (1, .int a0), (2, .int a1), (3, .int s1.1), (4, .int s1.2)], [.int s1.1], am_SH, (f, g))) rfl ?_
          exact am_Ev.cast (a := ((some (.int s1.1)), am_SH, (f, g))) (hZ1 _ (Option.some.inj h).symm) (am_Ev.ret hcd rfl)
    · refine am_Ev.f hcd (c := a1 < 16) (s1 := (5, [(0, .ref 25), (1, .int a0), (2, .int a1)], [], am_SH, (f, g))) rfl c8 ?_
      refine am_Ev.go hcd 1 (s' := (6, [(0, .ref 25), (1, .int a0), (2, .int a1)], [.int 0], am_SH, (f, g))) rfl ?_
      exact am_Ev.cast (a := ((some (.int 0)), am_SH, (f, g))) (by cases h; rfl) (am_Ev.ret hcd rfl)
