set_option maxRecDepth 100000 in
set_option maxHeartbeats 4000000 in
theorem x_point_ok {sc : Nat × (Nat → Int32)} (d : Nat) (a0 : Int32) (a1 : Int32) (f g : (Nat → Nat → Int32)) (r : Int32 × (Nat → Nat → Int32)) (h : x_point a0 a1 f = some r) : am_Ev sc (d + 1) 149 (0, [(0, .ref 0), (1, .int a0), (2, .int a1)], [], am_SH, (f, g)) ((some (.int r.1)), am_SH, (r.2, g)) := by
  have hcd : am_code 149 = am_c149 := rfl
  unfold x_point at h
  refine am_Ev.go hcd 2 (s' := (2, [(0, .ref 0), (1, .int a0), (2, .int a1)], [.int (-1), .int a0], am_SH, (f, g))) rfl ?_
  rcases am_ite h with ⟨c2, h⟩ | ⟨c2, h⟩
  · refine am_Ev.t hcd (c := a0 = (-1)) (s1 := (3, [(0, .ref 0), (1, .int a0), (2, .int a1)], [], am_SH, (f, g))) rfl c2 ?_
    refine am_Ev.go hcd 3 (s' := (6, [(0, .ref 0), (1, .int a0), (2, .int a1)], [.ref 33], am_SH, (f, g))) rfl ?_
    obtain ⟨p1, Ep1, h⟩ := am_let_eq h
    refine am_Ev.call hcd (a := 86) (s0 := (0, [(0, .ref 33)], [], am_SH, (f, g))) (q := ((some (.int p1.1)), am_SH, (p1.2, g))) (s1 := (7, [(0, .ref 0), (1, .int a0), (2, .int a1)], [.int p1.1], am_SH, (p1.2, g))) rfl rfl (by subst Ep1; exact xr_clearAll_33_ok (d)  f g) ?_
    exact am_Ev.cast (a := ((some (.int (p1.1, p1.2).1)), am_SH, ((p1.1, p1.2).2, g))) (by cases h; rfl) (am_Ev.ret hcd rfl)
  · refine am_Ev.f hcd (c := a0 = (-1)) (s1 := (8, [(0, .ref 0), (1, .int a0), (2, .int a1)], [], am_SH, (f, g))) rfl c2 ?_
    refine am_Ev.go hcd 3 (s' := (11, [(0, .ref 0), (1, .int a0), (2, .int a1)], [.int 9, .int 0, .int a0], am_SH, (f, g))) rfl ?_
    refine am_Ev.call hcd (a := 170) (s0 := (0, [(0, .int a0), (1, .int 0), (2, .int 9)], [], am_SH, (f, g))) (q := ((some (.int (am_b (x_within a0 0 9)))), am_SH, (f, g))) (s1 := (12, [(0, .ref 0), (1, .int a0), (2, .int a1)], [.int (am_b (x_within a0 0 9))], am_SH, (f, g))) rfl rfl (x_within_ok (d) a0 0 9 (f, g)) ?_
    rcases am_ite h with ⟨c12, h⟩ | ⟨c12, h⟩
    · refine am_Ev.f hcd (c := am_b (x_within a0 0 9) = 0) (s1 := (13, [(0, .ref 0), (1, .int a0), (2, .int a1)], [], am_SH, (f, g))) rfl (am_b_t c12) ?_
      refine am_Ev.go hcd 3 (s' := (16, [(0, .ref 0), (1, .int a0), (2, .int a1)], [.int 99, .int (-99), .int a1], am_SH, (f, g))) rfl ?_
      refine am_Ev.call hcd (a := 170) (s0 := (0, [(0, .int a1), (1, .int (-99)), (2, .int 99)], [], am_SH, (f, g))) (q := ((some (.int (am_b (x_within a1 (-99) 99)))), am_SH, (f, g))) (s1 := (17, [(0, .ref 0), (1, .int a0), (2, .int a1)], [.int (am_b (x_within a1 (-99) 99))], am_SH, (f, g))) rfl rfl (x_within_ok (d) a1 (-99) 99 (f, g)) ?_
      rcases am_ite h with ⟨c16, h⟩ | ⟨c16, h⟩
      · refine am_Ev.f hcd (c := am_b (x_within a1 (-99) 99) = 0) (s1 := (20, [(0, .ref 0), (1, .int a0), (2, .int a1)], [], am_SH, (f, g))) rfl (am_b_t c16) ?_
        refine am_Ev.go hcd 5 (s' := (25, [(0, .ref 0), (1, .int a0), (2, .int a1)], [.int a1, .int a0, .ref 33], am_SH, (f, g))) rfl ?_
        obtain ⟨p4, hp4, h⟩ := am_bind_some h
        refine am_Ev.call hcd (a := 85) (s0 := (0, [(0, .ref 33), (1, .int a0), (2, .int a1)], [], am_SH, (f, g))) (q := ((some (.int p4.1)), am_SH, (p4.2, g))) (s1 := (26, [(0, .ref 0), (1, .int a0), (2, .int a1)], [.int p4.1], am_SH, (p4.2, g))) rfl rfl (xr_append_33_ok (d) a0 a1 f g p4 hp4) ?_
        exact am_Ev.cast (a := ((some (.int (p4.1, p4.2).1)), am_SH, ((p4.1, p4.2).2, g))) (by cases h; rfl) (am_Ev.ret hcd rfl)
      · refine am_Ev.t hcd (c := am_b (x_within a1 (-99) 99) = 0) (s1 := (18, [(0, .ref 0), (1, .int a0), (2, .int a1)], [], am_SH, (f, g))) rfl (am_b_f c16) ?_
        refine am_Ev.go hcd 1 (s' := (19, [(0, .ref 0), (1, .int a0), (2, .int a1)], [.int (-1)], am_SH, (f, g))) rfl ?_
        exact am_Ev.cast (a := ((some (.int ((-1), f).1)), am_SH, (((-1), f).2, g))) (by cases h; rfl) (am_Ev.ret hcd rfl)
    · refine am_Ev.t hcd (c := am_b (x_within a0 0 9) = 0) (s1 := (18, [(0, .ref 0), (1, .int a0), (2, .int a1)], [], am_SH, (f, g))) rfl (am_b_f c12) ?_
      refine am_Ev.go hcd 1 (s' := (19, [(0, .ref 0), (1, .int a0), (2, .int a1)], [.int (-1)], am_SH, (f, g))) rfl ?_
      exact am_Ev.cast (a := ((some (.int ((-1), f).1)), am_SH, (((-1), f).2, g))) (by cases h; rfl) (am_Ev.ret hcd rfl)
set_option maxRecDepth 100000 in
set_option maxHeartbeats 4000000 in
theorem xm_unitAt_33_ok {sc : Nat × (Nat → Int32)} (d : Nat) (a0 : Int32) (a1 : Int32) (f g : (Nat → Nat → Int32)) (r : Int32) (h : xm_unitAt_33 a0 a1 f = some r) : am_Ev sc (d) 47 (0, [(0, .ref 33), (1, .int a0), (2, .int a1)], [], am_SH, (f, g)) ((some (.int r)), am_SH, (f, g)) := by
  have hcd : am_code 47 = am_c47 := rfl
  unfold xm_unitAt_33 at h
  refine am_Ev.go hcd 1 (s' := (1, [(0, .ref 33), (1, .int a0), (2, .int a1)], [.int a0], am_SH, (f, g))) rfl ?_
  rcases am_ite h with ⟨c2, h⟩ | ⟨c2, h⟩
  · refine am_Ev.t hcd (c := a0 = 0) (s1 := (2, [(0, .ref 33), (1, .int a0), (2, .int a1)], [], am_SH, (f, g))) rfl c2 ?_
    refine am_Ev.go hcd 3 (s' := (5, [(0, .ref 33), (1, .int a0), (2, .int a1)], [.int a1, .ref 34], am_SH, (f, g))) rfl ?_
    obtain ⟨c5, h⟩ := am_grd h
    refine am_Ev.t hcd (o := none) (c := am_in a1 4 = true) (s1 := (6, [(0, .ref 33), (1, .int a0), (2, .int a1)], [.int (f 34 a1.toNatClampNeg)], am_SH, (f, g))) rfl c5 ?_
    refine am_Ev.go hcd 1 (s' := (8, [(0, .ref 33), (1, .int a0), (2, .int a1)], [.int (f 34 a1.toNatClampNeg)], am_SH, (f, g))) rfl ?_
    exact am_Ev.cast (a := ((some (.int (f 34 a1.toNatClampNeg : Int32))), am_SH, (f, g))) (by cases h; rfl) (am_Ev.ret hcd rfl)
  · refine am_Ev.f hcd (c := a0 = 0) (s1 := (7, [(0, .ref 33), (1, .int a0), (2, .int a1)], [], am_SH, (f, g))) rfl c2 ?_
    refine am_Ev.go hcd 1 (s' := (8, [(0, .ref 33), (1, .int a0), (2, .int a1)], [.int a0], am_SH, (f, g))) rfl ?_
    exact am_Ev.cast (a := ((some (.int a0)), am_SH, (f, g))) (by cases h; rfl) (am_Ev.ret hcd rfl)
set_option maxRecDepth 100000 in
set_option maxHeartbeats 4000000 in
theorem xm_isUnit_33_ok {sc : Nat × (Nat → Int32)} (d : Nat) (a0 : Int32) (f g : (Nat → Nat → Int32)) (r : Bool) (h : xm_isUnit_33 a0 f = some r) : am_Ev sc (d + 1) 48 (0, [(0, .ref 33), (1, .int a0)], [], am_SH, (f, g)) ((some (.int (am_b r))), am_SH, (f, g)) := by
  have hcd : am_code 48 = am_c48 := rfl
  unfold xm_isUnit_33 at h
  refine am_Ev.go hcd 2 (s' := (2, [(0, .ref 33), (1, .int a0), (2, .int 0)], [], am_SH, (f, g))) rfl ?_
  refine am_Ev.weak' (am_loop_ok (G := fun (s1 : Int32) => am_Ev sc (d + 1) 48 (2, [(0, .ref 33), (1, .int a0), (2, .int s1)], [], am_SH, (f, g)) ((some (.int (am_b r))), am_SH, (f, g))) (Z := fun (v : Bool) => (((some (.int (am_b v))), am_SH, (f, g)) : am_R) = ((some (.int (am_b r))), am_SH, (f, g))) ?_ am_F 0 r h rfl) (am_sub_cons rfl (am_sub_cons rfl (am_sub_cons rfl am_sub_nil))) rfl
  intro s1 q1 h hI1 hZ1
  show am_Ev sc (d + 1) 48 (2, [(0, .ref 33), (1, .int a0), (2, .int s1)], [], am_SH, (f, g)) ((some (.int (am_b r))), am_SH, (f, g))
  refine am_Ev.go hcd 3 (s' := (5, [(0, .ref 33), (1, .int a0), (2, .int s1)], [.int (f 33 0), .int s1], am_SH, (f, g))) rfl ?_
  rcases am_ite h with ⟨c6, h⟩ | ⟨c6, h⟩
  · refine am_Ev.t hcd (c := s1 < f 33 0) (s1 := (6, [(0, .ref 33), (1, .int a0), (2, .int s1)], [], am_SH, (f, g))) rfl c6 ?_
    refine am_Ev.go hcd 3 (s' := (9, [(0, .ref 33), (1, .int a0), (2, .int s1)], [.int s1, .int a0, .ref 33], am_SH, (f, g))) rfl ?_
    obtain ⟨p2, hp2, h⟩ := am_bind_some h
    refine am_Ev.call hcd (a := 47) (s0 := (0, [(0, .ref 33), (1, .int a0), (2, .int s1)], [], am_SH, (f, g))) (q := ((some (.int p2)), am_SH, (f, g))) (s1 := (10, [(0, .ref 33), (1, .int a0), (2, .int s1)], [.int p2], am_SH, (f, g))) rfl rfl (xm_unitAt_33_ok (d) a0 s1 f g p2 hp2) ?_
    refine am_Ev.go hcd 3 (s' := (13, [(0, .ref 33), (1, .int a0), (2, .int s1)], [.int s1, .ref 35, .int p2], am_SH, (f, g))) rfl ?_
    obtain ⟨c12, h⟩ := am_grd h
    refine am_Ev.t hcd (o := none) (c := am_in s1 4 = true) (s1 := (14, [(0, .ref 33), (1, .int a0), (2, .int s1)], [.int (f 35 s1.toNatClampNeg), .int p2], am_SH, (f, g))) rfl c12 ?_
    rcases am_ite h with ⟨c15, h⟩ | ⟨c15, h⟩
    · refine am_Ev.t hcd (c := p2 = f 35 s1.toNatClampNeg) (s1 := (17, [(0, .ref 33), (1, .int a0), (2, .int s1)], [], am_SH, (f, g))) rfl c15 ?_
      obtain ⟨t3, Et3, h⟩ := am_let_eq h
      refine am_Ev.go hcd 1 (s' := (18, [(0, .ref 33), (1, .int a0), (2, .int t3)], [], am_SH, (f, g))) (by subst Et3; exact rfl) ?_
      refine am_Ev.go hcd 1 (s' := (2, [(0, .ref 33), (1, .int a0), (2, .int t3)], [], am_SH, (f, g))) rfl ?_
      exact am_Ev.weak' (hI1 t3 (Option.some.inj h).symm) (am_sub_cons rfl (am_sub_cons rfl (am_sub_cons rfl am_sub_nil))) rfl
    · refine am_Ev.f hcd (c := p2 = f 35 s1.toNatClampNeg) (s1 := (15, [(0, .ref 33), (1, .int a0), (2, .int s1)], [], am_SH, (f, g))) rfl c15 ?_
      refine am_Ev.go hcd 1 (s' := (16, [(0, .ref 33), (1, .int a0), (2, .int s1)], [.int 0], am_SH, (f, g))) rfl ?_
      exact am_Ev.cast (a := ((some (.int (am_b false))), am_SH, (f, g))) (hZ1 _ (Option.some.inj h).symm) (am_Ev.ret hcd rfl)
  · refine am_Ev.f hcd (c := s1 < f 33 0) (s1 := (19, [(0, .ref 33), (1, .int a0), (2, .int s1)], [], am_SH, (f, g))) rfl c6 ?_
    refine am_Ev.go hcd 1 (s' := (20, [(0, .ref 33), (1, .int a0), (2, .int s1)], [.int 1], am_SH, (f, g))) rfl ?_
    exact am_Ev.cast (a := ((some (.int (am_b true))), am_SH, (f, g))) (hZ1 _ (Option.some.inj h).symm) (am_Ev.ret hcd rfl)
set_option maxRecDepth 100000 in
set_option maxHeartbeats 4000000 in
theorem xm_combined_ok {sc : Nat × (Nat → Int32)} (d : Nat) (a0 : Int32) (a1 : Int32) (a2 : Int32) (hp : am_H) : am_Ev sc (d) 51 (0, [(0, .int a0), (1, .int a1), (2, .int a2)], [], am_SH, hp) ((some (.int (xm_combined a0 a1 a2))), am_SH, hp) := by
  have hcd : am_code 51 = am_c51 := rfl
  obtain ⟨r, h⟩ : ∃ r, r = xm_combined a0 a1 a2 := ⟨_, rfl⟩
  rw [← h]
  unfold xm_combined at h
  refine am_Ev.go hcd 1 (s' := (1, [(0, .int a0), (1, .int a1), (2, .int a2)], [.int a2], am_SH, hp)) rfl ?_
  refine am_Ev.one hcd (s' := (am_swt a2 [(0, 2), (1, 6), (2, 10)] 14, [(0, .int a0), (1, .int a1), (2, .int a2)], [], am_SH, hp)) rfl ?_
  rcases am_itv h with ⟨c6, h⟩ | ⟨c6, h⟩
  · rw [am_swt_t c6]
    refine am_Ev.go hcd 3 (s' := (5, [(0, .int a0), (1, .int a1), (2, .int a2)], [.int (a0 + a1)], am_SH, hp)) rfl ?_
    exact am_Ev.cast (a := ((some (.int (a0 + a1))), am_SH, hp)) (by subst h; rfl) (am_Ev.ret hcd rfl)
  rw [am_swt_f c6]
  rcases am_itv h with ⟨c11, h⟩ | ⟨c11, h⟩
  · rw [am_swt_t c11]
    refine am_Ev.go hcd 3 (s' := (9, [(0, .int a0), (1, .int a1), (2, .int a2)], [.int (a0 - a1)], am_SH, hp)) rfl ?_
    exact am_Ev.cast (a := ((some (.int (a0 - a1))), am_SH, hp)) (by subst h; rfl) (am_Ev.ret hcd rfl)
  rw [am_swt_f c11]
  rcases am_itv h with ⟨c16, h⟩ | ⟨c16, h⟩
  · rw [am_swt_t c16]
    refine am_Ev.go hcd 3 (s' := (13, [(0, .int a0), (1, .int a1), (2, .int a2)], [.int (a0 * a1)], am_SH, hp)) rfl ?_
    exact am_Ev.cast (a := ((some (.int (a0 * a1))), am_SH, hp)) (by subst h; rfl) (am_Ev.ret hcd rfl)
  rw [am_swt_f c16]
  rw [am_swt_n]
  refine am_Ev.go hcd 3 (s' := (17, [(0, .int a0), (1, .int a1), (2, .int a2)], [.int (a1 - a0)], am_SH, hp)) rfl ?_
  exact am_Ev.cast (a := ((some (.int (a1 - a0))), am_SH, hp)) (by subst h; rfl) (am_Ev.ret hcd rfl)
set_option maxRecDepth 100000 in
set_option maxHeartbeats 4000000 in
theorem xm_joinUnits_33_ok {sc : Nat × (Nat → Int32)} (d : Nat) (a0 : Int32) (a1 : Int32) (a2 : Int32) (f g : (Nat → Nat → Int32)) (r : (Nat → Nat → Int32)) (h : xm_joinUnits_33 a0 a1 a2 f = some r) : am_Ev sc (d + 1) 50 (0, [(0, .ref 143), (1, .ref 33), (2, .int a0), (3, .int a1), (4, .int a2)], [], am_SH, (f, g)) (none, am_SH, (r, g)) := by
  have hcd : am_code 50 = am_c50 := rfl
  unfold xm_joinUnits_33 at h
  refine am_Ev.go hcd 2 (s' := (2, [(0, .ref 143), (1, .ref 33), (2, .int a0), (3, .int a1), (4, .int a2), (5, .int 0)], [], am_SH, (f, g))) rfl ?_
  refine am_Ev.weak' (am_loop_ok (G := fun (s1 : Int32 × (Nat → Nat → Int32)) => am_Ev sc (d + 1) 50 (2, [(0, .ref 143), (1, .ref 33), (2, .int a0), (3, .int a1), (4, .int a2), (5, .int s1.1)], [], am_SH, (s1.2, g)) (none, am_SH, (r, g))) (Z := fun (v : (Nat → Nat → Int32)) => ((none, am_SH, (v, g)) : am_R) = (none, am_SH, (r, g))) ?_ am_F (0, f) r h rfl) (am_sub_cons rfl (am_sub_cons rfl (am_sub_cons rfl (am_sub_cons rfl (am_sub_cons rfl (am_sub_cons rfl am_sub_nil)))))) rfl
  intro s1 q1 h hI1 hZ1
  show am_Ev sc (d + 1) 50 (2, [(0, .ref 143), (1, .ref 33), (2, .int a0), (3, .int a1), (4, .int a2), (5, .int s1.1)], [], am_SH, (s1.2, g)) (none, am_SH, (r, g))
  refine am_Ev.go hcd 3 (s' := (5, [(0, .ref 143), (1, .ref 33), (2, .int a0), (3, .int a1), (4, .int a2), (5, .int s1.1)], [.int (s1.2 33 0), .int s1.1], am_SH, (s1.2, g))) rfl ?_
  rcases am_ite h with ⟨c6, h⟩ | ⟨c6, h⟩
  · refine am_Ev.t hcd (c := s1.1 < s1.2 33 0) (s1 := (6, [(0, .ref 143), (1, .ref 33), (2, .int a0), (3, .int a1), (4, .int a2), (5, .int s1.1)], [], am_SH, (s1.2, g))) rfl c6 ?_
    refine am_Ev.go hcd 6 (s' := (12, [(0, .ref 143), (1, .ref 33), (2, .int a0), (3, .int a1), (4, .int a2), (5, .int s1.1)], [.int s1.1, .int a0, .ref 33, .int s1.1, .ref 147], am_SH, (s1.2, g))) rfl ?_
    obtain ⟨p2, hp2, h⟩ := am_bind_some h
    refine am_Ev.call hcd (a := 47) (s0 := (0, [(0, .ref 33), (1, .int a0), (2, .int s1.1)], [], am_SH, (s1.2, g))) (q := ((some (.int p2)), am_SH, (s1.2, g))) (s1 := (13, [(0, .ref 143), (1, .ref 33), (2, .int a0), (3, .int a1), (4, .int a2), (5, .int s1.1)], [.int p2, .int s1.1, .ref 147], am_SH, (s1.2, g))) rfl rfl (xm_unitAt_33_ok (d) a0 s1.1 s1.2 g p2 hp2) ?_
    refine am_Ev.go hcd 3 (s' := (16, [(0, .ref 143), (1, .ref 33), (2, .int a0), (3, .int a1), (4, .int a2), (5, .int s1.1)], [.int s1.1, .int a1, .ref 33, .int p2, .int s1.1, .ref 147], am_SH, (s1.2, g))) rfl ?_
    obtain ⟨p3, hp3, h⟩ := am_bind_some h
    refine am_Ev.call hcd (a := 47) (s0 := (0, [(0, .ref 33), (1, .int a1), (2, .int s1.1)], [], am_SH, (s1.2, g))) (q := ((some (.int p3)), am_SH, (s1.2, g))) (s1 := (17, [(0, .ref 143), (1, .ref 33), (2, .int a0), (3, .int a1), (4, .int a2), (5, .int s1.1)], [.int p3, .int p2, .int s1.1, .ref 147], am_SH, (s1.2, g))) rfl rfl (xm_unitAt_33_ok (d) a1 s1.1 s1.2 g p3 hp3) ?_
    refine am_Ev.go hcd 1 (s' := (18, [(0, .ref 143), (1, .ref 33), (2, .int a0), (3, .int a1), (4, .int a2), (5, .int s1.1)], [.int a2, .int p3, .int p2, .int s1.1, .ref 147], am_SH, (s1.2, g))) rfl ?_
    refine am_Ev.call hcd (a := 51) (s0 := (0, [(0, .int p2), (1, .int p3), (2, .int a2)], [], am_SH, (s1.2, g))) (q := ((some (.int (xm_combined p2 p3 a2))), am_SH, (s1.2, g))) (s1 := (19, [(0, .ref 143), (1, .ref 33), (2, .int a0), (3, .int a1), (4, .int a2), (5, .int s1.1)], [.int (xm_combined p2 p3 a2), .int s1.1, .ref 147], am_SH, (s1.2, g))) rfl rfl (xm_combined_ok (d) p2 p3 a2 (s1.2, g)) ?_
    obtain ⟨c17, h⟩ := am_grd h
    obtain ⟨f5, Ef5, h⟩ := am_let_eq h
    refine am_Ev.t hcd (o := none) (c := am_in s1.1 4 = true) (s1 := (20, [(0, .ref 143), (1, .ref 33), (2, .int a0), (3, .int a1), (4, .int a2), (5, .int s1.1)], [], am_SH, (f5, g))) (by subst Ef5; exact rfl) c17 ?_
    obtain ⟨t6, Et6, h⟩ := am_let_eq h
    refine am_Ev.go hcd 1 (s' := (21, [(0, .ref 143), (1, .ref 33), (2, .int a0), (3, .int a1), (4, .int a2), (5, .int t6)], [], am_SH, (f5, g))) (by subst Et6; exact rfl) ?_
    refine am_Ev.go hcd 1 (s' := (2, [(0, .ref 143), (1, .ref 33), (2, .int a0), (3, .int a1), (4, .int a2), (5, .int t6)], [], am_SH, (f5, g))) rfl ?_
    exact am_Ev.weak' (hI1 (t6, f5) (Option.some.inj h).symm) (am_sub_cons rfl (am_sub_cons rfl (am_sub_cons rfl (am_sub_cons rfl (am_sub_cons rfl (am_sub_cons rfl am_sub_nil)))))) rfl
  · refine am_Ev.f hcd (c := s1.1 < s1.2 33 0) (s1 := (22, [(0, .ref 143), (1, .ref 33), (2, .int a0), (3, .int a1), (4, .int a2), (5, .int s1.1)], [], am_SH, (s1.2, g))) rfl c6 ?_
    exact am_Ev.cast (a := (none, am_SH, (s1.2, g))) (hZ1 _ (Option.some.inj h).symm) (am_Ev.ret hcd rfl)
set_option maxRecDepth 100000 in
set_option maxHeartbeats 4000000 in
theorem xm_isThird_33_ok {sc : Nat × (Nat → Int32)} (d : Nat) (a0 : Int32) (a1 : Int32) (f g : (Nat → Nat → Int32)) (r : Bool) (h : xm_isThird_33 a0 a1 f = some r) : am_Ev sc (d + 1) 54 (0, [(0, .ref 143), (1, .ref 33), (2, .int a0), (3, .int a1)], [], am_SH, (f, g)) ((some (.int (am_b r))), am_SH, (f, g)) := by
  have hcd : am_code 54 = am_c54 := rfl
  unfold xm_isThird_33 at h
  refine am_Ev.go hcd 2 (s' := (2, [(0, .ref 143), (1, .ref 33), (2, .int a0), (3, .int a1), (4, .int 0)], [], am_SH, (f, g))) rfl ?_
  refine am_Ev.weak' (am_loop_ok (G := fun (s1 : Int32) => am_Ev sc (d + 1) 54 (2, [(0, .ref 143), (1, .ref 33), (2, .int a0), (3, .int a1), (4, .int s1)], [], am_SH, (f, g)) ((some (.int (am_b r))), am_SH, (f, g))) (Z := fun (v : Bool) => (((some (.int (am_b v))), am_SH, (f, g)) : am_R) = ((some (.int (am_b r))), am_SH, (f, g))) ?_ am_F 0 r h rfl) (am_sub_cons rfl (am_sub_cons rfl (am_sub_cons rfl (am_sub_cons rfl (am_sub_cons rfl am_sub_nil))))) rfl
  intro s1 q1 h hI1 hZ1
  show am_Ev sc (d + 1) 54 (2, [(0, .ref 143), (1, .ref 33), (2, .int a0), (3, .int a1), (4, .int s1)], [], am_SH, (f, g)) ((some (.int (am_b r))), am_SH, (f, g))
  refine am_Ev.go hcd 3 (s' := (5, [(0, .ref 143), (1, .ref 33), (2, .int a0), (3, .int a1), (4, .int s1)], [.int (f 33 0), .int s1], am_SH, (f, g))) rfl ?_
  rcases am_ite h with ⟨c6, h⟩ | ⟨c6, h⟩
  · refine am_Ev.t hcd (c := s1 < f 33 0) (s1 := (6, [(0, .ref 143), (1, .ref 33), (2, .int a0), (3, .int a1), (4, .int s1)], [], am_SH, (f, g))) rfl c6 ?_
    refine am_Ev.go hcd 3 (s' := (9, [(0, .ref 143), (1, .ref 33), (2, .int a0), (3, .int a1), (4, .int s1)], [.int s1, .ref 147], am_SH, (f, g))) rfl ?_
    obtain ⟨c9, h⟩ := am_grd h
    refine am_Ev.t hcd (o := none) (c := am_in s1 4 = true) (s1 := (10, [(0, .ref 143), (1, .ref 33), (2, .int a0), (3, .int a1), (4, .int s1)], [.int (f 147 s1.toNatClampNeg)], am_SH, (f, g))) rfl c9 ?_
    refine am_Ev.go hcd 3 (s' := (13, [(0, .ref 143), (1, .ref 33), (2, .int a0), (3, .int a1), (4, .int s1)], [.int s1, .int a0, .ref 33, .int (f 147 s1.toNatClampNeg)], am_SH, (f, g))) rfl ?_
    obtain ⟨p2, hp2, h⟩ := am_bind_some h
    refine am_Ev.call hcd (a := 47) (s0 := (0, [(0, .ref 33), (1, .int a0), (2, .int s1)], [], am_SH, (f, g))) (q := ((some (.int p2)), am_SH, (f, g))) (s1 := (14, [(0, .ref 143), (1, .ref 33), (2, .int a0), (3, .int a1), (4, .int s1)], [.int p2, .int (f 147 s1.toNatClampNeg)], am_SH, (f, g))) rfl rfl (xm_unitAt_33_ok (d) a0 s1 f g p2 hp2) ?_
    refine am_Ev.go hcd 1 (s' := (15, [(0, .ref 143), (1, .ref 33), (2, .int a0), (3, .int a1), (4, .int s1)], [.int a1, .int p2, .int (f 147 s1.toNatClampNeg)], am_SH, (f, g))) rfl ?_
    refine am_Ev.call hcd (a := 51) (s0 := (0, [(0, .int (f 147 s1.toNatClampNeg)), (1, .int p2), (2, .int a1)], [], am_SH, (f, g))) (q := ((some (.int (xm_combined (f 147 s1.toNatClampNeg) p2 a1))), am_SH, (f, g))) (s1 := (16, [(0, .ref 143), (1, .ref 33), (2, .int a0), (3, .int a1), (4, .int s1)], [.int (xm_combined (f 147 s1.toNatClampNeg) p2 a1)], am_SH, (f, g))) rfl rfl (xm_combined_ok (d) (f 147 s1.toNatClampNeg) p2 a1 (f, g)) ?_
    refine am_Ev.go hcd 3 (s' := (19, [(0, .ref 143), (1, .ref 33), (2, .int a0), (3, .int a1), (4, .int s1)], [.int s1, .ref 35, .int (xm_combined (f 147 s1.toNatClampNeg) p2 a1)], am_SH, (f, g))) rfl ?_
    obtain ⟨c17, h⟩ := am_grd h
    refine am_Ev.t hcd (o := none) (c := am_in s1 4 = true) (s1 := (20, [(0, .ref 143), (1, .ref 33), (2, .int a0), (3, .int a1), (4, .int s1)], [.int (f 35 s1.toNatClampNeg), .int (xm_combined (f 147 s1.toNatClampNeg) p2 a1)], am_SH, (f, g))) rfl c17 ?_
    rcases am_ite h with ⟨c20, h⟩ | ⟨c20, h⟩
    · refine am_Ev.t hcd (c := (xm_combined (f 147 s1.toNatClampNeg) p2 a1) = f 35 s1.toNatClampNeg) (s1 := (23, [(0, .ref 143), (1, .ref 33), (2, .int a0), (3, .int a1), (4, .int s1)], [], am_SH, (f, g))) rfl c20 ?_
      obtain ⟨t4, Et4, h⟩ := am_let_eq h
      refine am_Ev.go hcd 1 (s' := (24, [(0, .ref 143), (1, .ref 33), (2, .int a0), (3, .int a1), (4, .int t4)], [], am_SH, (f, g))) (by subst Et4; exact rfl) ?_
      refine am_Ev.go hcd 1 (s' := (2, [(0, .ref 143), (1, .ref 33), (2, .int a0), (3, .int a1), (4, .int t4)], [], am_SH, (f, g))) rfl ?_
      exact am_Ev.weak' (hI1 t4 (Option.some.inj h).symm) (am_sub_cons rfl (am_sub_cons rfl (am_sub_cons rfl (am_sub_cons rfl (am_sub_cons rfl am_sub_nil))))) rfl
    · refine am_Ev.f hcd (c := (xm_combined (f 147 s1.toNatClampNeg) p2 a1) = f 35 s1.toNatClampNeg) (s1 := (21, [(0, .ref 143), (1, .ref 33), (2, .int a0), (3, .int a1), (4, .int s1)], [], am_SH, (f, g))) rfl c20 ?_
      refine am_Ev.go hcd 1 (s' := (22, [(0, .ref 143), (1, .ref 33), (2, .int a0), (3, .int a1), (4, .int s1)], [.int 0], am_SH, (f, g))) rfl ?_
      exact am_Ev.cast (a := ((some (.int (am_b false))), am_SH, (f, g))) (hZ1 _ (Option.some.inj h).symm) (am_Ev.ret hcd rfl)
  · refine am_Ev.f hcd (c := s1 < f 33 0) (s1 := (25, [(0, .ref 143), (1, .ref 33), (2, .int a0), (3, .int a1), (4, .int s1)], [], am_SH, (f, g))) rfl c6 ?_
    refine am_Ev.go hcd 1 (s' := (26, [(0, .ref 143), (1, .ref 33), (2, .int a0), (3, .int a1), (4, .int s1)], [.int 1], am_SH, (f, g))) rfl ?_
    exact am_Ev.cast (a := ((some (.int (am_b true))), am_SH, (f, g))) (hZ1 _ (Option.some.inj h).symm) (am_Ev.ret hcd rfl)
set_option maxRecDepth 100000 in
set_option maxHeartbeats 4000000 in
theorem xm_isWithThird_33_ok {sc : Nat × (Nat → Int32)} (d : Nat)  (f g : (Nat → Nat → Int32)) (r : Bool) (h : xm_isWithThird_33  f = some r) : am_Ev sc (d + 2) 53 (0, [(0, .ref 143), (1, .ref 33)], [], am_SH, (f, g)) ((some (.int (am_b r))), am_SH, (f, g)) := by
  have hcd : am_code 53 = am_c53 := rfl
  unfold xm_isWithThird_33 at h
  refine am_Ev.go hcd 2 (s' := (2, [(0, .ref 143), (1, .ref 33), (2, .int 0)], [], am_SH, (f, g))) rfl ?_
  refine am_Ev.weak' (am_loop_ok (G := fun (s1 : Int32) => am_Ev sc (d + 2) 53 (2, [(0, .ref 143), (1, .ref 33), (2, .int s1)], [], am_SH, (f, g)) ((some (.int (am_b r))), am_SH, (f, g))) (Z := fun (v : Bool) => (((some (.int (am_b v))), am_SH, (f, g)) : am_R) = ((some (.int (am_b r))), am_SH, (f, g))) ?_ am_F 0 r h rfl) (am_sub_cons rfl (am_sub_cons rfl (am_sub_cons rfl am_sub_nil))) rfl
  intro s1 q1 h hI1 hZ1
  show am_Ev sc (d + 2) 53 (2, [(0, .ref 143), (1, .ref 33), (2, .int s1)], [], am_SH, (f, g)) ((some (.int (am_b r))), am_SH, (f, g))
  refine am_Ev.go hcd 2 (s' := (4, [(0, .ref 143), (1, .ref 33), (2, .int s1)], [.int 9, .int s1], am_SH, (f, g))) rfl ?_
  rcases am_ite h with ⟨c6, h⟩ | ⟨c6, h⟩
  · refine am_Ev.t hcd (c := 9 < s1) (s1 := (22, [(0, .ref 143), (1, .ref 33), (2, .int s1)], [], am_SH, (f, g))) rfl c6 ?_
    refine am_Ev.go hcd 1 (s' := (23, [(0, .ref 143), (1, .ref 33), (2, .int s1)], [.int 0], am_SH, (f, g))) rfl ?_
    exact am_Ev.cast (a := ((some (.int (am_b false))), am_SH, (f, g))) (hZ1 _ (Option.some.inj h).symm) (am_Ev.ret hcd rfl)
  · refine am_Ev.f hcd (c := 9 < s1) (s1 := (5, [(0, .ref 143), (1, .ref 33), (2, .int s1)], [], am_SH, (f, g))) rfl c6 ?_
    refine am_Ev.go hcd 2 (s' := (7, [(0, .ref 143), (1, .ref 33), (2, .int s1), (3, .int 0)], [], am_SH, (f, g))) rfl ?_
    obtain ⟨e5, he5, h⟩ := am_bind_some h
    have hK2 : (fun (v : (Bool) ⊕ (Unit)) => v.elim (fun (v : Bool) => (((some (.int (am_b v))), am_SH, (f, g)) : am_R) = ((some (.int (am_b r))), am_SH, (f, g))) (fun (e6 : Unit) => am_Ev sc (d + 2) 53 (20, [(0, .ref 143), (1, .ref 33), (2, .int s1)], [], am_SH, (f, g)) ((some (.int (am_b r))), am_SH, (f, g)))) e5 := by
      cases e5 with
      | inl v => exact (hZ1 _ (Option.some.inj h).symm)
      | inr e6 =>
        have h := am_elim_r h
        show am_Ev sc (d + 2) 53 (20, [(0, .ref 143), (1, .ref 33), (2, .int s1)], [], am_SH, (f, g)) ((some (.int (am_b r))), am_SH, (f, g))
        obtain ⟨t7, Et7, h⟩ := am_let_eq h
        refine am_Ev.go hcd 1 (s' := (21, [(0, .ref 143), (1, .ref 33), (2, .int t7)], [], am_SH, (f, g))) (by subst Et7; exact rfl) ?_
        refine am_Ev.go hcd 1 (s' := (2, [(0, .ref 143), (1, .ref 33), (2, .int t7)], [], am_SH, (f, g))) rfl ?_
        exact am_Ev.weak' (hI1 t7 (Option.some.inj h).symm) (am_sub_cons rfl (am_sub_cons rfl (am_sub_cons rfl am_sub_nil))) rfl
    refine am_Ev.weak' (am_loop_ok (G := fun (s2 : Int32) => am_Ev sc (d + 2) 53 (7, [(0, .ref 143), (1, .ref 33), (2, .int s1), (3, .int s2)], [], am_SH, (f, g)) ((some (.int (am_b r))), am_SH, (f, g))) (Z := fun (v : (Bool) ⊕ (Unit)) => v.elim (fun (v : Bool) => (((some (.int (am_b v))), am_SH, (f, g)) : am_R) = ((some (.int (am_b r))), am_SH, (f, g))) (fun (e6 : Unit) => am_Ev sc (d + 2) 53 (20, [(0, .ref 143), (1, .ref 33), (2, .int s1)], [], am_SH, (f, g)) ((some (.int (am_b r))), am_SH, (f, g)))) ?_ am_F 0 e5 he5 hK2) (am_sub_cons rfl (am_sub_cons rfl (am_sub_cons rfl (am_sub_cons rfl am_sub_nil)))) rfl
    intro s2 q2 h hI2 hZ2
    show am_Ev sc (d + 2) 53 (7, [(0, .ref 143), (1, .ref 33), (2, .int s1), (3, .int s2)], [], am_SH, (f, g)) ((some (.int (am_b r))), am_SH, (f, g))
    refine am_Ev.go hcd 2 (s' := (9, [(0, .ref 143), (1, .ref 33), (2, .int s1), (3, .int s2)], [.int 4, .int s2], am_SH, (f, g))) rfl ?_
    rcases am_ite h with ⟨c27, h⟩ | ⟨c27, h⟩
    · refine am_Ev.t hcd (c := s2 < 4) (s1 := (10, [(0, .ref 143), (1, .ref 33), (2, .int s1), (3, .int s2)], [], am_SH, (f, g))) rfl c27 ?_
      refine am_Ev.go hcd 4 (s' := (14, [(0, .ref 143), (1, .ref 33), (2, .int s1), (3, .int s2)], [.int s2, .int s1, .ref 33, .ref 143], am_SH, (f, g))) rfl ?_
      obtain ⟨p3, hp3, h⟩ := am_bind_some h
      refine am_Ev.call hcd (a := 54) (s0 := (0, [(0, .ref 143), (1, .ref 33), (2, .int s1), (3, .int s2)], [], am_SH, (f, g))) (q := ((some (.int (am_b p3))), am_SH, (f, g))) (s1 := (15, [(0, .ref 143), (1, .ref 33), (2, .int s1), (3, .int s2)], [.int (am_b p3)], am_SH, (f, g))) rfl rfl (xm_isThird_33_ok (d) s1 s2 f g p3 hp3) ?_
      rcases am_ite h with ⟨c33, h⟩ | ⟨c33, h⟩
      · refine am_Ev.f hcd (c := am_b p3 = 0) (s1 := (16, [(0, .ref 143), (1, .ref 33), (2, .int s1), (3, .int s2)], [], am_SH, (f, g))) rfl (am_b_t c33) ?_
        refine am_Ev.go hcd 1 (s' := (17, [(0, .ref 143), (1, .ref 33), (2, .int s1), (3, .int s2)], [.int 1], am_SH, (f, g))) rfl ?_
        exact am_Ev.cast (a := ((some (.int (am_b true))), am_SH, (f, g))) (hZ2 _ (Option.some.inj h).symm) (am_Ev.ret hcd rfl)
      · refine am_Ev.t hcd (c := am_b p3 = 0) (s1 := (18, [(0, .ref 143), (1, .ref 33), (2, .int s1), (3, .int s2)], [], am_SH, (f, g))) rfl (am_b_f c33) ?_
        obtain ⟨t4, Et4, h⟩ := am_let_eq h
        refine am_Ev.go hcd 1 (s' := (19, [(0, .ref 143), (1, .ref 33), (2, .int s1), (3, .int t4)], [], am_SH, (f, g))) (by subst Et4; exact rfl) ?_
        refine am_Ev.go hcd 1 (s' := (7, [(0, .ref 143), (1, .ref 33), (2, .int s1), (3, .int t4)], [], am_SH, (f, g))) rfl ?_
        exact am_Ev.weak' (hI2 t4 (Option.some.inj h).symm) (am_sub_cons rfl (am_sub_cons rfl (am_sub_cons rfl (am_sub_cons rfl am_sub_nil)))) rfl
    · refine am_Ev.f hcd (c := s2 < 4) (s1 := (20, [(0, .ref 143), (1, .ref 33), (2, .int s1), (3, .int s2)], [], am_SH, (f, g))) rfl c27 ?_
      exact am_Ev.weak' (hZ2 (.inr ()) (Option.some.inj h).symm) (am_sub_cons rfl (am_sub_cons rfl (am_sub_cons rfl am_sub_nil))) rfl
set_option maxRecDepth 100000 in
set_option maxHeartbeats 4000000 in
theorem xm_isReached_33_ok {sc : Nat × (Nat → Int32)} (d : Nat)  (f g : (Nat → Nat → Int32)) (r : Bool) (h : xm_isReached_33  f = some r) : am_Ev sc (d) 52 (0, [(0, .ref 143), (1, .ref 33)], [], am_SH, (f, g)) ((some (.int (am_b r))), am_SH, (f, g)) := by
  have hcd : am_code 52 = am_c52 := rfl
  unfold xm_isReached_33 at h
  refine am_Ev.go hcd 2 (s' := (2, [(0, .ref 143), (1, .ref 33), (2, .int 0)], [], am_SH, (f, g))) rfl ?_
  refine am_Ev.weak' (am_loop_ok (G := fun (s1 : Int32) => am_Ev sc (d) 52 (2, [(0, .ref 143), (1, .ref 33), (2, .int s1)], [], am_SH, (f, g)) ((some (.int (am_b r))), am_SH, (f, g))) (Z := fun (v : Bool) => (((some (.int (am_b v))), am_SH, (f, g)) : am_R) = ((some (.int (am_b r))), am_SH, (f, g))) ?_ am_F 0 r h rfl) (am_sub_cons rfl (am_sub_cons rfl (am_sub_cons rfl am_sub_nil))) rfl
  intro s1 q1 h hI1 hZ1
  show am_Ev sc (d) 52 (2, [(0, .ref 143), (1, .ref 33), (2, .int s1)], [], am_SH, (f, g)) ((some (.int (am_b r))), am_SH, (f, g))
  refine am_Ev.go hcd 3 (s' := (5, [(0, .ref 143), (1, .ref 33), (2, .int s1)], [.int (f 33 0), .int s1], am_SH, (f, g))) rfl ?_
  rcases am_ite h with ⟨c6, h⟩ | ⟨c6, h⟩
  · refine am_Ev.t hcd (c := s1 < f 33 0) (s1 := (6, [(0, .ref 143), (1, .ref 33), (2, .int s1)], [], am_SH, (f, g))) rfl c6 ?_
    refine am_Ev.go hcd 3 (s' := (9, [(0, .ref 143), (1, .ref 33), (2, .int s1)], [.int s1, .ref 147], am_SH, (f, g))) rfl ?_
    obtain ⟨c9, h⟩ := am_grd h
    refine am_Ev.t hcd (o := none) (c := am_in s1 4 = true) (s1 := (10, [(0, .ref 143), (1, .ref 33), (2, .int s1)], [.int (f 147 s1.toNatClampNeg)], am_SH, (f, g))) rfl c9 ?_
    refine am_Ev.go hcd 3 (s' := (13, [(0, .ref 143), (1, .ref 33), (2, .int s1)], [.int s1, .ref 35, .int (f 147 s1.toNatClampNeg)], am_SH, (f, g))) rfl ?_
    obtain ⟨c12, h⟩ := am_grd h
    refine am_Ev.t hcd (o := none) (c := am_in s1 4 = true) (s1 := (14, [(0, .ref 143), (1, .ref 33), (2, .int s1)], [.int (f 35 s1.toNatClampNeg), .int (f 147 s1.toNatClampNeg)], am_SH, (f, g))) rfl c12 ?_
    rcases am_ite h with ⟨c15, h⟩ | ⟨c15, h⟩
    · refine am_Ev.t hcd (c := f 147 s1.toNatClampNeg = f 35 s1.toNatClampNeg) (s1 := (17, [(0, .ref 143), (1, .ref 33), (2, .int s1)], [], am_SH, (f, g))) rfl c15 ?_
      obtain ⟨t2, Et2, h⟩ := am_let_eq h
      refine am_Ev.go hcd 1 (s' := (18, [(0, .ref 143), (1, .ref 33), (2, .int t2)], [], am_SH, (f, g))) (by subst Et2; exact rfl) ?_
      refine am_Ev.go hcd 1 (s' := (2, [(0, .ref 143), (1, .ref 33), (2, .int t2)], [], am_SH, (f, g))) rfl ?_
      exact am_Ev.weak' (hI1 t2 (Option.some.inj h).symm) (am_sub_cons rfl (am_sub_cons rfl (am_sub_cons rfl am_sub_nil))) rfl
    · refine am_Ev.f hcd (c := f 147 s1.toNatClampNeg = f 35 s1.toNatClampNeg) (s1 := (15, [(0, .ref 143), (1, .ref 33), (2, .int s1)], [], am_SH, (f, g))) rfl c15 ?_
      refine am_Ev.go hcd 1 (s' := (16, [(0, .ref 143), (1, .ref 33), (2, .int s1)], [.int 0], am_SH, (f, g))) rfl ?_
      exact am_Ev.cast (a := ((some (.int (am_b false))), am_SH, (f, g))) (hZ1 _ (Option.some.inj h).symm) (am_Ev.ret hcd rfl)
  · refine am_Ev.f hcd (c := s1 < f 33 0) (s1 := (19, [(0, .ref 143), (1, .ref 33), (2, .int s1)], [], am_SH, (f, g))) rfl c6 ?_
    refine am_Ev.go hcd 1 (s' := (20, [(0, .ref 143), (1, .ref 33), (2, .int s1)], [.int 1], am_SH, (f, g))) rfl ?_
    exact am_Ev.cast (a := ((some (.int (am_b true))), am_SH, (f, g))) (hZ1 _ (Option.some.inj h).symm) (am_Ev.ret hcd rfl)
set_option maxRecDepth 100000 in
set_option maxHeartbeats 4000000 in
theorem xm_isLonger_33_ok {sc : Nat × (Nat → Int32)} (d : Nat) (a0 : Bool) (f g : (Nat → Nat → Int32)) (r : Bool × (Nat → Nat → Int32)) (h : xm_isLonger_33 a0 f = some r) : am_Ev sc (d + 3) 49 (0, [(0, .ref 143), (1, .ref 33), (2, .int (am_b a0))], [], am_SH, (f, g)) ((some (.int (am_b r.1))), am_SH, (r.2, g)) := by
  have hcd : am_code 49 = am_c49 := rfl
  unfold xm_isLonger_33 at h
  refine am_Ev.go hcd 2 (s' := (2, [(0, .ref 143), (1, .ref 33), (2, .int (am_b a0)), (3, .int 0)], [], am_SH, (f, g))) rfl ?_
  obtain ⟨e15, he15, h⟩ := am_bind_some h
  have hK1 : (fun (v : (Bool × (Nat → Nat → Int32)) ⊕ ((Nat → Nat → Int32))) => v.elim (fun (v : Bool × (Nat → Nat → Int32)) => (((some (.int (am_b v.1))), am_SH, (v.2, g)) : am_R) = ((some (.int (am_b r.1))), am_SH, (r.2, g))) (fun (e16 : (Nat → Nat → Int32)) => am_Ev sc (d + 3) 49 (40, [], [], am_SH, (e16, g)) ((some (.int (am_b r.1))), am_SH, (r.2, g)))) e15 := by
    cases e15 with
    | inl v => exact (by cases h; rfl)
    | inr e16 =>
      have h := am_elim_r h
      show am_Ev sc (d + 3) 49 (40, [], [], am_SH, (e16, g)) ((some (.int (am_b r.1))), am_SH, (r.2, g))
      refine am_Ev.go hcd 1 (s' := (41, [], [.int 0], am_SH, (e16, g))) rfl ?_
      exact am_Ev.cast (a := ((some (.int (am_b (false, e16).1))), am_SH, ((false, e16).2, g))) (by cases h; rfl) (am_Ev.ret hcd rfl)
  refine am_Ev.weak' (am_loop_ok (G := fun (s1 : Int32 × (Nat → Nat → Int32)) => am_Ev sc (d + 3) 49 (2, [(0, .ref 143), (1, .ref 33), (2, .int (am_b a0)), (3, .int s1.1)], [], am_SH, (s1.2, g)) ((some (.int (am_b r.1))), am_SH, (r.2, g))) (Z := fun (v : (Bool × (Nat → Nat → Int32)) ⊕ ((Nat → Nat → Int32))) => v.elim (fun (v : Bool × (Nat → Nat → Int32)) => (((some (.int (am_b v.1))), am_SH, (v.2, g)) : am_R) = ((some (.int (am_b r.1))), am_SH, (r.2, g))) (fun (e16 : (Nat → Nat → Int32)) => am_Ev sc (d + 3) 49 (40, [], [], am_SH, (e16, g)) ((some (.int (am_b r.1))), am_SH, (r.2, g)))) ?_ am_F (0, f) e15 he15 hK1) (am_sub_cons rfl (am_sub_cons rfl (am_sub_cons rfl (am_sub_cons rfl am_sub_nil)))) rfl
  intro s1 q1 h hI1 hZ1
  show am_Ev sc (d + 3) 49 (2, [(0, .ref 143), (1, .ref 33), (2, .int (am_b a0)), (3, .int s1.1)], [], am_SH, (s1.2, g)) ((some (.int (am_b r.1))), am_SH, (r.2, g))
  refine am_Ev.go hcd 2 (s' := (4, [(0, .ref 143), (1, .ref 33), (2, .int (am_b a0)), (3, .int s1.1)], [.int 9, .int s1.1], am_SH, (s1.2, g))) rfl ?_
  rcases am_ite h with ⟨c15, h⟩ | ⟨c15, h⟩
  · refine am_Ev.t hcd (c := 9 < s1.1) (s1 := (40, [(0, .ref 143), (1, .ref 33), (2, .int (am_b a0)), (3, .int s1.1)], [], am_SH, (s1.2, g))) rfl c15 ?_
    exact am_Ev.weak' (hZ1 (.inr s1.2) (Option.some.inj h).symm) am_sub_nil rfl
  · refine am_Ev.f hcd (c := 9 < s1.1) (s1 := (5, [(0, .ref 143), (1, .ref 33), (2, .int (am_b a0)), (3, .int s1.1)], [], am_SH, (s1.2, g))) rfl c15 ?_
    refine am_Ev.go hcd 2 (s' := (7, [(0, .ref 143), (1, .ref 33), (2, .int (am_b a0)), (3, .int s1.1), (4, .int 0)], [], am_SH, (s1.2, g))) rfl ?_
    obtain ⟨e12, he12, h⟩ := am_bind_some h
    have hK2 : (fun (v : (Bool × (Nat → Nat → Int32)) ⊕ ((Nat → Nat → Int32))) => v.elim (fun (v : Bool × (Nat → Nat → Int32)) => (((some (.int (am_b v.1))), am_SH, (v.2, g)) : am_R) = ((some (.int (am_b r.1))), am_SH, (r.2, g))) (fun (e13 : (Nat → Nat → Int32)) => am_Ev sc (d + 3) 49 (38, [(0, .ref 143), (1, .ref 33), (2, .int (am_b a0)), (3, .int s1.1)], [], am_SH, (e13, g)) ((some (.int (am_b r.1))), am_SH, (r.2, g)))) e12 := by
      cases e12 with
      | inl v => exact (hZ1 _ (Option.some.inj h).symm)
      | inr e13 =>
        have h := am_elim_r h
        show am_Ev sc (d + 3) 49 (38, [(0, .ref 143), (1, .ref 33), (2, .int (am_b a0)), (3, .int s1.1)], [], am_SH, (e13, g)) ((some (.int (am_b r.1))), am_SH, (r.2, g))
        obtain ⟨t14, Et14, h⟩ := am_let_eq h
        refine am_Ev.go hcd 1 (s' := (39, [(0, .ref 143), (1, .ref 33), (2, .int (am_b a0)), (3, .int t14)], [], am_SH, (e13, g))) (by subst Et14; exact rfl) ?_
        refine am_Ev.go hcd 1 (s' := (2, [(0, .ref 143), (1, .ref 33), (2, .int (am_b a0)), (3, .int t14)], [], am_SH, (e13, g))) rfl ?_
        exact am_Ev.weak' (hI1 (t14, e13) (Option.some.inj h).symm) (am_sub_cons rfl (am_sub_cons rfl (am_sub_cons rfl (am_sub_cons rfl am_sub_nil)))) rfl
    refine am_Ev.weak' (am_loop_ok (G := fun (s2 : Int32 × (Nat → Nat → Int32)) => am_Ev sc (d + 3) 49 (7, [(0, .ref 143), (1, .ref 33), (2, .int (am_b a0)), (3, .int s1.1), (4, .int s2.1)], [], am_SH, (s2.2, g)) ((some (.int (am_b r.1))), am_SH, (r.2, g))) (Z := fun (v : (Bool × (Nat → Nat → Int32)) ⊕ ((Nat → Nat → Int32))) => v.elim (fun (v : Bool × (Nat → Nat → Int32)) => (((some (.int (am_b v.1))), am_SH, (v.2, g)) : am_R) = ((some (.int (am_b r.1))), am_SH, (r.2, g))) (fun (e13 : (Nat → Nat → Int32)) => am_Ev sc (d + 3) 49 (38, [(0, .ref 143), (1, .ref 33), (2, .int (am_b a0)), (3, .int s1.1)], [], am_SH, (e13, g)) ((some (.int (am_b r.1))), am_SH, (r.2, g)))) ?_ am_F (0, s1.2) e12 he12 hK2) (am_sub_cons rfl (am_sub_cons rfl (am_sub_cons rfl (am_sub_cons rfl (am_sub_cons rfl am_sub_nil))))) rfl
    intro s2 q2 h hI2 hZ2
    show am_Ev sc (d + 3) 49 (7, [(0, .ref 143), (1, .ref 33), (2, .int (am_b a0)), (3, .int s1.1), (4, .int s2.1)], [], am_SH, (s2.2, g)) ((some (.int (am_b r.1))), am_SH, (r.2, g))
    refine am_Ev.go hcd 2 (s' := (9, [(0, .ref 143), (1, .ref 33), (2, .int (am_b a0)), (3, .int s1.1), (4, .int s2.1)], [.int 9, .int s2.1], am_SH, (s2.2, g))) rfl ?_
    rcases am_ite h with ⟨c35, h⟩ | ⟨c35, h⟩
    · refine am_Ev.t hcd (c := 9 < s2.1) (s1 := (38, [(0, .ref 143), (1, .ref 33), (2, .int (am_b a0)), (3, .int s1.1), (4, .int s2.1)], [], am_SH, (s2.2, g))) rfl c35 ?_
      exact am_Ev.weak' (hZ2 (.inr s2.2) (Option.some.inj h).symm) (am_sub_cons rfl (am_sub_cons rfl (am_sub_cons rfl (am_sub_cons rfl am_sub_nil)))) rfl
    · refine am_Ev.f hcd (c := 9 < s2.1) (s1 := (10, [(0, .ref 143), (1, .ref 33), (2, .int (am_b a0)), (3, .int s1.1), (4, .int s2.1)], [], am_SH, (s2.2, g))) rfl c35 ?_
      refine am_Ev.go hcd 2 (s' := (12, [(0, .ref 143), (1, .ref 33), (2, .int (am_b a0)), (3, .int s1.1), (4, .int s2.1), (5, .int 0)], [], am_SH, (s2.2, g))) rfl ?_
      obtain ⟨e9, he9, h⟩ := am_bind_some h
      have hK3 : (fun (v : (Bool × (Nat → Nat → Int32)) ⊕ ((Nat → Nat → Int32))) => v.elim (fun (v : Bool × (Nat → Nat → Int32)) => (((some (.int (am_b v.1))), am_SH, (v.2, g)) : am_R) = ((some (.int (am_b r.1))), am_SH, (r.2, g))) (fun (e10 : (Nat → Nat → Int32)) => am_Ev sc (d + 3) 49 (36, [(0, .ref 143), (1, .ref 33), (2, .int (am_b a0)), (3, .int s1.1), (4, .int s2.1)], [], am_SH, (e10, g)) ((some (.int (am_b r.1))), am_SH, (r.2, g)))) e9 := by
        cases e9 with
        | inl v => exact (hZ2 _ (Option.some.inj h).symm)
        | inr e10 =>
          have h := am_elim_r h
          show am_Ev sc (d + 3) 49 (36, [(0, .ref 143), (1, .ref 33), (2, .int (am_b a0)), (3, .int s1.1), (4, .int s2.1)], [], am_SH, (e10, g)) ((some (.int (am_b r.1))), am_SH, (r.2, g))
          obtain ⟨t11, Et11, h⟩ := am_let_eq h
          refine am_Ev.go hcd 1 (s' := (37, [(0, .ref 143), (1, .ref 33), (2, .int (am_b a0)), (3, .int s1.1), (4, .int t11)], [], am_SH, (e10, g))) (by subst Et11; exact rfl) ?_
          refine am_Ev.go hcd 1 (s' := (7, [(0, .ref 143), (1, .ref 33), (2, .int (am_b a0)), (3, .int s1.1), (4, .int t11)], [], am_SH, (e10, g))) rfl ?_
          exact am_Ev.weak' (hI2 (t11, e10) (Option.some.inj h).symm) (am_sub_cons rfl (am_sub_cons rfl (am_sub_cons rfl (am_sub_cons rfl (am_sub_cons rfl am_sub_nil))))) rfl
      refine am_Ev.weak' (am_loop_ok (G := fun (s3 : Int32 × (Nat → Nat → Int32)) => am_Ev sc (d + 3) 49 (12, [(0, .ref 143), (1, .ref 33), (2, .int (am_b a0)), (3, .int s1.1), (4, .int s2.1), (5, .int s3.1)], [], am_SH, (s3.2, g)) ((some (.int (am_b r.1))), am_SH, (r.2, g))) (Z := fun (v : (Bool × (Nat → Nat → Int32)) ⊕ ((Nat → Nat → Int32))) => v.elim (fun (v : Bool × (Nat → Nat → Int32)) => (((some (.int (am_b v.1))), am_SH, (v.2, g)) : am_R) = ((some (.int (am_b r.1))), am_SH, (r.2, g))) (fun (e10 : (Nat → Nat → Int32)) => am_Ev sc (d + 3) 49 (36, [(0, .ref 143), (1, .ref 33), (2, .int (am_b a0)), (3, .int s1.1), (4, .int s2.1)], [], am_SH, (e10, g)) ((some (.int (am_b r.1))), am_SH, (r.2, g)))) ?_ am_F (0, s2.2) e9 he9 hK3) (am_sub_cons rfl (am_sub_cons rfl (am_sub_cons rfl (am_sub_cons rfl (am_sub_cons rfl (am_sub_cons rfl am_sub_nil)))))) rfl
      intro s3 q3 h hI3 hZ3
      show am_Ev sc (d + 3) 49 (12, [(0, .ref 143), (1, .ref 33), (2, .int (am_b a0)), (3, .int s1.1), (4, .int s2.1), (5, .int s3.1)], [], am_SH, (s3.2, g)) ((some (.int (am_b r.1))), am_SH, (r.2, g))
      refine am_Ev.go hcd 2 (s' := (14, [(0, .ref 143), (1, .ref 33), (2, .int (am_b a0)), (3, .int s1.1), (4, .int s2.1), (5, .int s3.1)], [.int 3, .int s3.1], am_SH, (s3.2, g))) rfl ?_
      rcases am_ite h with ⟨c55, h⟩ | ⟨c55, h⟩
      · refine am_Ev.t hcd (c := s3.1 < 3) (s1 := (15, [(0, .ref 143), (1, .ref 33), (2, .int (am_b a0)), (3, .int s1.1), (4, .int s2.1), (5, .int s3.1)], [], am_SH, (s3.2, g))) rfl c55 ?_
        refine am_Ev.go hcd 5 (s' := (20, [(0, .ref 143), (1, .ref 33), (2, .int (am_b a0)), (3, .int s1.1), (4, .int s2.1), (5, .int s3.1)], [.int s3.1, .int s2.1, .int s1.1, .ref 33, .ref 143], am_SH, (s3.2, g))) rfl ?_
        obtain ⟨p4, hp4, h⟩ := am_bind_some h
        refine am_Ev.call hcd (a := 50) (s0 := (0, [(0, .ref 143), (1, .ref 33), (2, .int s1.1), (3, .int s2.1), (4, .int s3.1)], [], am_SH, (s3.2, g))) (q := (none, am_SH, (p4, g))) (s1 := (21, [(0, .ref 143), (1, .ref 33), (2, .int (am_b a0)), (3, .int s1.1), (4, .int s2.1), (5, .int s3.1)], [], am_SH, (p4, g))) rfl rfl (xm_joinUnits_33_ok (d + 1) s1.1 s2.1 s3.1 s3.2 g p4 hp4) ?_
        refine am_Ev.go hcd 1 (s' := (22, [(0, .ref 143), (1, .ref 33), (2, .int (am_b a0)), (3, .int s1.1), (4, .int s2.1), (5, .int s3.1)], [.int (am_b a0)], am_SH, (p4, g))) rfl ?_
        rcases am_ite h with ⟨c61, h⟩ | ⟨c61, h⟩
        · refine am_Ev.f hcd (c := am_b a0 = 0) (s1 := (23, [(0, .ref 143), (1, .ref 33), (2, .int (am_b a0)), (3, .int s1.1), (4, .int s2.1), (5, .int s3.1)], [], am_SH, (p4, g))) rfl (am_b_t c61) ?_
          refine am_Ev.go hcd 2 (s' := (25, [(0, .ref 143), (1, .ref 33), (2, .int (am_b a0)), (3, .int s1.1), (4, .int s2.1), (5, .int s3.1)], [.ref 33, .ref 143], am_SH, (p4, g))) rfl ?_
          obtain ⟨p5, hp5, h⟩ := am_bind_some h
          refine am_Ev.call hcd (a := 53) (s0 := (0, [(0, .ref 143), (1, .ref 33)], [], am_SH, (p4, g))) (q := ((some (.int (am_b p5))), am_SH, (p4, g))) (s1 := (26, [(0, .ref 143), (1, .ref 33), (2, .int (am_b a0)), (3, .int s1.1), (4, .int s2.1), (5, .int s3.1)], [.int (am_b p5)], am_SH, (p4, g))) rfl rfl (xm_isWithThird_33_ok (d)  p4 g p5 hp5) ?_
          rcases am_ite h with ⟨c67, h⟩ | ⟨c67, h⟩
          · refine am_Ev.f hcd (c := am_b p5 = 0) (s1 := (27, [(0, .ref 143), (1, .ref 33), (2, .int (am_b a0)), (3, .int s1.1), (4, .int s2.1), (5, .int s3.1)], [], am_SH, (p4, g))) rfl (am_b_t c67) ?_
            refine am_Ev.go hcd 2 (s' := (33, [(0, .ref 143), (1, .ref 33), (2, .int (am_b a0)), (3, .int s1.1), (4, .int s2.1), (5, .int s3.1)], [.int 1], am_SH, (p4, g))) rfl ?_
            exact am_Ev.cast (a := ((some (.int (am_b (true, p4).1))), am_SH, ((true, p4).2, g))) (hZ3 _ (Option.some.inj h).symm) (am_Ev.ret hcd rfl)
          · refine am_Ev.t hcd (c := am_b p5 = 0) (s1 := (34, [(0, .ref 143), (1, .ref 33), (2, .int (am_b a0)), (3, .int s1.1), (4, .int s2.1), (5, .int s3.1)], [], am_SH, (p4, g))) rfl (am_b_f c67) ?_
            obtain ⟨t6, Et6, h⟩ := am_let_eq h
            refine am_Ev.go hcd 1 (s' := (35, [(0, .ref 143), (1, .ref 33), (2, .int (am_b a0)), (3, .int s1.1), (4, .int s2.1), (5, .int t6)], [], am_SH, (p4, g))) (by subst Et6; exact rfl) ?_
            refine am_Ev.go hcd 1 (s' := (12, [(0, .ref 143), (1, .ref 33), (2, .int (am_b a0)), (3, .int s1.1), (4, .int s2.1), (5, .int t6)], [], am_SH, (p4, g))) rfl ?_
            exact am_Ev.weak' (hI3 (t6, p4) (Option.some.inj h).symm) (am_sub_cons rfl (am_sub_cons rfl (am_sub_cons rfl (am_sub_cons rfl (am_sub_cons rfl (am_sub_cons rfl am_sub_nil)))))) rfl
        · refine am_Ev.t hcd (c := am_b a0 = 0) (s1 := (28, [(0, .ref 143), (1, .ref 33), (2, .int (am_b a0)), (3, .int s1.1), (4, .int s2.1), (5, .int s3.1)], [], am_SH, (p4, g))) rfl (am_b_f c61) ?_
          refine am_Ev.go hcd 2 (s' := (30, [(0, .ref 143), (1, .ref 33), (2, .int (am_b a0)), (3, .int s1.1), (4, .int s2.1), (5, .int s3.1)], [.ref 33, .ref 143], am_SH, (p4, g))) rfl ?_
          obtain ⟨p7, hp7, h⟩ := am_bind_some h
          refine am_Ev.call hcd (a := 52) (s0 := (0, [(0, .ref 143), (1, .ref 33)], [], am_SH, (p4, g))) (q := ((some (.int (am_b p7))), am_SH, (p4, g))) (s1 := (31, [(0, .ref 143), (1, .ref 33), (2, .int (am_b a0)), (3, .int s1.1), (4, .int s2.1), (5, .int s3.1)], [.int (am_b p7)], am_SH, (p4, g))) rfl rfl (xm_isReached_33_ok (d + 2)  p4 g p7 hp7) ?_
          rcases am_ite h with ⟨c80, h⟩ | ⟨c80, h⟩
          · refine am_Ev.f hcd (c := am_b p7 = 0) (s1 := (32, [(0, .ref 143), (1, .ref 33), (2, .int (am_b a0)), (3, .int s1.1), (4, .int s2.1), (5, .int s3.1)], [], am_SH, (p4, g))) rfl (am_b_t c80) ?_
            refine am_Ev.go hcd 1 (s' := (33, [(0, .ref 143), (1, .ref 33), (2, .int (am_b a0)), (3, .int s1.1), (4, .int s2.1), (5, .int s3.1)], [.int 1], am_SH, (p4, g))) rfl ?_
            exact am_Ev.cast (a := ((some (.int (am_b (true, p4).1))), am_SH, ((true, p4).2, g))) (hZ3 _ (Option.some.inj h).symm) (am_Ev.ret hcd rfl)
          · refine am_Ev.t hcd (c := am_b p7 = 0) (s1 := (34, [(0, .ref 143), (1, .ref 33), (2, .int (am_b a0)), (3, .int s1.1), (4, .int s2.1), (5, .int s3.1)], [], am_SH, (p4, g))) rfl (am_b_f c80) ?_
            obtain ⟨t8, Et8, h⟩ := am_let_eq h
            refine am_Ev.go hcd 1 (s' := (35, [(0, .ref 143), (1, .ref 33), (2, .int (am_b a0)), (3, .int s1.1), (4, .int s2.1), (5, .int t8)], [], am_SH, (p4, g))) (by subst Et8; exact rfl) ?_
            refine am_Ev.go hcd 1 (s' := (12, [(0, .ref 143), (1, .ref 33), (2, .int (am_b a0)), (3, .int s1.1), (4, .int s2.1), (5, .int t8)], [], am_SH, (p4, g))) rfl ?_
            exact am_Ev.weak' (hI3 (t8, p4) (Option.some.inj h).symm) (am_sub_cons rfl (am_sub_cons rfl (am_sub_cons rfl (am_sub_cons rfl (am_sub_cons rfl (am_sub_cons rfl am_sub_nil)))))) rfl
      · refine am_Ev.f hcd (c := s3.1 < 3) (s1 := (36, [(0, .ref 143), (1, .ref 33), (2, .int (am_b a0)), (3, .int s1.1), (4, .int s2.1), (5, .int s3.1)], [], am_SH, (s3.2, g))) rfl c55 ?_
        exact am_Ev.weak' (hZ3 (.inr s3.2) (Option.some.inj h).symm) (am_sub_cons rfl (am_sub_cons rfl (am_sub_cons rfl (am_sub_cons rfl (am_sub_cons rfl am_sub_nil))))) rfl
set_option maxRecDepth 100000 in
set_option maxHeartbeats 4000000 in
theorem xm_leastTerm_33_ok {sc : Nat × (Nat → Int32)} (d : Nat)  (f g : (Nat → Nat → Int32)) (r : Int32 × (Nat → Nat → Int32)) (h : xm_leastTerm_33  f = some r) : am_Ev sc (d + 4) 46 (0, [(0, .ref 143), (1, .ref 33)], [], am_SH, (f, g)) ((some (.int r.1)), am_SH, (r.2, g)) := by
  have hcd : am_code 46 = am_c46 := rfl
  unfold xm_leastTerm_33 at h
  refine am_Ev.go hcd 2 (s' := (2, [(0, .ref 143), (1, .ref 33), (2, .int 0)], [], am_SH, (f, g))) rfl ?_
  obtain ⟨e4, he4, h⟩ := am_bind_some h
  have hK1 : (fun (v : (Int32 × (Nat → Nat → Int32)) ⊕ (Unit)) => v.elim (fun (v : Int32 × (Nat → Nat → Int32)) => (((some (.int v.1)), am_SH, (v.2, g)) : am_R) = ((some (.int r.1)), am_SH, (r.2, g))) (fun (e5 : Unit) => am_Ev sc (d + 4) 46 (13, [(0, .ref 143), (1, .ref 33)], [], am_SH, (f, g)) ((some (.int r.1)), am_SH, (r.2, g)))) e4 := by
    cases e4 with
    | inl v => exact (by cases h; rfl)
    | inr e5 =>
      have h := am_elim_r h
      show am_Ev sc (d + 4) 46 (13, [(0, .ref 143), (1, .ref 33)], [], am_SH, (f, g)) ((some (.int r.1)), am_SH, (r.2, g))
      refine am_Ev.go hcd 3 (s' := (16, [(0, .ref 143), (1, .ref 33)], [.int 0, .ref 33, .ref 143], am_SH, (f, g))) rfl ?_
      obtain ⟨p6, hp6, h⟩ := am_bind_some h
      refine am_Ev.call hcd (a := 49) (s0 := (0, [(0, .ref 143), (1, .ref 33), (2, .int (am_b false))], [], am_SH, (f, g))) (q := ((some (.int (am_b p6.1))), am_SH, (p6.2, g))) (s1 := (17, [(0, .ref 143), (1, .ref 33)], [.int (am_b p6.1)], am_SH, (p6.2, g))) rfl rfl (xm_isLonger_33_ok (d) false f g p6 hp6) ?_
      rcases am_ite h with ⟨c13, h⟩ | ⟨c13, h⟩
      · refine am_Ev.f hcd (c := am_b p6.1 = 0) (s1 := (18, [(0, .ref 143), (1, .ref 33)], [], am_SH, (p6.2, g))) rfl (am_b_t c13) ?_
        refine am_Ev.go hcd 2 (s' := (28, [(0, .ref 143), (1, .ref 33)], [.int 2], am_SH, (p6.2, g))) rfl ?_
        exact am_Ev.cast (a := ((some (.int (2, p6.2).1)), am_SH, ((2, p6.2).2, g))) (by cases h; rfl) (am_Ev.ret hcd rfl)
      · refine am_Ev.t hcd (c := am_b p6.1 = 0) (s1 := (20, [(0, .ref 143), (1, .ref 33)], [], am_SH, (p6.2, g))) rfl (am_b_f c13) ?_
        refine am_Ev.go hcd 3 (s' := (23, [(0, .ref 143), (1, .ref 33)], [.int 1, .ref 33, .ref 143], am_SH, (p6.2, g))) rfl ?_
        obtain ⟨p7, hp7, h⟩ := am_bind_some h
        refine am_Ev.call hcd (a := 49) (s0 := (0, [(0, .ref 143), (1, .ref 33), (2, .int (am_b true))], [], am_SH, (p6.2, g))) (q := ((some (.int (am_b p7.1))), am_SH, (p7.2, g))) (s1 := (24, [(0, .ref 143), (1, .ref 33)], [.int (am_b p7.1)], am_SH, (p7.2, g))) rfl rfl (xm_isLonger_33_ok (d) true p6.2 g p7 hp7) ?_
        rcases am_ite h with ⟨c21, h⟩ | ⟨c21, h⟩
        · refine am_Ev.f hcd (c := am_b p7.1 = 0) (s1 := (25, [(0, .ref 143), (1, .ref 33)], [], am_SH, (p7.2, g))) rfl (am_b_t c21) ?_
          refine am_Ev.go hcd 2 (s' := (28, [(0, .ref 143), (1, .ref 33)], [.int 3], am_SH, (p7.2, g))) rfl ?_
          exact am_Ev.cast (a := ((some (.int (3, p7.2).1)), am_SH, ((3, p7.2).2, g))) (by cases h; rfl) (am_Ev.ret hcd rfl)
        · refine am_Ev.t hcd (c := am_b p7.1 = 0) (s1 := (27, [(0, .ref 143), (1, .ref 33)], [], am_SH, (p7.2, g))) rfl (am_b_f c21) ?_
          refine am_Ev.go hcd 1 (s' := (28, [(0, .ref 143), (1, .ref 33)], [.int (-1)], am_SH, (p7.2, g))) rfl ?_
          exact am_Ev.cast (a := ((some (.int ((-1), p7.2).1)), am_SH, (((-1), p7.2).2, g))) (by cases h; rfl) (am_Ev.ret hcd rfl)
  refine am_Ev.weak' (am_loop_ok (G := fun (s1 : Int32) => am_Ev sc (d + 4) 46 (2, [(0, .ref 143), (1, .ref 33), (2, .int s1)], [], am_SH, (f, g)) ((some (.int r.1)), am_SH, (r.2, g))) (Z := fun (v : (Int32 × (Nat → Nat → Int32)) ⊕ (Unit)) => v.elim (fun (v : Int32 × (Nat → Nat → Int32)) => (((some (.int v.1)), am_SH, (v.2, g)) : am_R) = ((some (.int r.1)), am_SH, (r.2, g))) (fun (e5 : Unit) => am_Ev sc (d + 4) 46 (13, [(0, .ref 143), (1, .ref 33)], [], am_SH, (f, g)) ((some (.int r.1)), am_SH, (r.2, g)))) ?_ am_F 0 e4 he4 hK1) (am_sub_cons rfl (am_sub_cons rfl (am_sub_cons rfl am_sub_nil))) rfl
  intro s1 q1 h hI1 hZ1
  show am_Ev sc (d + 4) 46 (2, [(0, .ref 143), (1, .ref 33), (2, .int s1)], [], am_SH, (f, g)) ((some (.int r.1)), am_SH, (r.2, g))
  refine am_Ev.go hcd 2 (s' := (4, [(0, .ref 143), (1, .ref 33), (2, .int s1)], [.int 9, .int s1], am_SH, (f, g))) rfl ?_
  rcases am_ite h with ⟨c31, h⟩ | ⟨c31, h⟩
  · refine am_Ev.t hcd (c := 9 < s1) (s1 := (13, [(0, .ref 143), (1, .ref 33), (2, .int s1)], [], am_SH, (f, g))) rfl c31 ?_
    exact am_Ev.weak' (hZ1 (.inr ()) (Option.some.inj h).symm) (am_sub_cons rfl (am_sub_cons rfl am_sub_nil)) rfl
  · refine am_Ev.f hcd (c := 9 < s1) (s1 := (5, [(0, .ref 143), (1, .ref 33), (2, .int s1)], [], am_SH, (f, g))) rfl c31 ?_
    refine am_Ev.go hcd 2 (s' := (7, [(0, .ref 143), (1, .ref 33), (2, .int s1)], [.int s1, .ref 33], am_SH, (f, g))) rfl ?_
    obtain ⟨p2, hp2, h⟩ := am_bind_some h
    refine am_Ev.call hcd (a := 48) (s0 := (0, [(0, .ref 33), (1, .int s1)], [], am_SH, (f, g))) (q := ((some (.int (am_b p2))), am_SH, (f, g))) (s1 := (8, [(0, .ref 143), (1, .ref 33), (2, .int s1)], [.int (am_b p2)], am_SH, (f, g))) rfl rfl (xm_isUnit_33_ok (d + 2) s1 f g p2 hp2) ?_
    rcases am_ite h with ⟨c39, h⟩ | ⟨c39, h⟩
    · refine am_Ev.f hcd (c := am_b p2 = 0) (s1 := (9, [(0, .ref 143), (1, .ref 33), (2, .int s1)], [], am_SH, (f, g))) rfl (am_b_t c39) ?_
      refine am_Ev.go hcd 1 (s' := (10, [(0, .ref 143), (1, .ref 33), (2, .int s1)], [.int 1], am_SH, (f, g))) rfl ?_
      exact am_Ev.cast (a := ((some (.int (1, f).1)), am_SH, ((1, f).2, g))) (hZ1 _ (Option.some.inj h).symm) (am_Ev.ret hcd rfl)
    · refine am_Ev.t hcd (c := am_b p2 = 0) (s1 := (11, [(0, .ref 143), (1, .ref 33), (2, .int s1)], [], am_SH, (f, g))) rfl (am_b_f c39) ?_
      obtain ⟨t3, Et3, h⟩ := am_let_eq h
      refine am_Ev.go hcd 1 (s' := (12, [(0, .ref 143), (1, .ref 33), (2, .int t3)], [], am_SH, (f, g))) (by subst Et3; exact rfl) ?_
      refine am_Ev.go hcd 1 (s' := (2, [(0, .ref 143), (1, .ref 33), (2, .int t3)], [], am_SH, (f, g))) rfl ?_
      exact am_Ev.weak' (hI1 t3 (Option.some.inj h).symm) (am_sub_cons rfl (am_sub_cons rfl (am_sub_cons rfl am_sub_nil))) rfl
set_option maxRecDepth 100000 in
set_option maxHeartbeats 4000000 in
theorem x_term_ok {sc : Nat × (Nat → Int32)} (d : Nat)  (f g : (Nat → Nat → Int32)) (r : Int32 × (Nat → Nat → Int32)) (h : x_term  f = some r) : am_Ev sc (d + 5) 150 (0, [(0, .ref 0)], [], am_SH, (f, g)) ((some (.int r.1)), am_SH, (r.2, g)) := by
  have hcd : am_code 150 = am_c150 := rfl
  unfold x_term at h
  refine am_Ev.go hcd 5 (s' := (5, [(0, .ref 0)], [.ref 33, .ref 143], am_SH, (f, g))) rfl ?_
  obtain ⟨p1, hp1, h⟩ := am_bind_some h
  refine am_Ev.call hcd (a := 46) (s0 := (0, [(0, .ref 143), (1, .ref 33)], [], am_SH, (f, g))) (q := ((some (.int p1.1)), am_SH, (p1.2, g))) (s1 := (6, [(0, .ref 0)], [.int p1.1], am_SH, (p1.2, g))) rfl rfl (xm_leastTerm_33_ok (d)  f g p1 hp1) ?_
  exact am_Ev.cast (a := ((some (.int (p1.1, p1.2).1)), am_SH, ((p1.1, p1.2).2, g))) (by cases h; rfl) (am_Ev.ret hcd rfl)
set_option maxRecDepth 100000 in
set_option maxHeartbeats 4000000 in
theorem xr_clearAll_36_ok {sc : Nat × (Nat → Int32)} (d : Nat)  (f g : (Nat → Nat → Int32)) : am_Ev sc (d) 86 (0, [(0, .ref 36)], [], am_SH, (f, g)) ((some (.int (xr_clearAll_36  f).1)), am_SH, ((xr_clearAll_36  f).2, g)) := by
  have hcd : am_code 86 = am_c86 := rfl
  obtain ⟨r, h⟩ : ∃ r, r = xr_clearAll_36  f := ⟨_, rfl⟩
  rw [← h]
  unfold xr_clearAll_36 at h
  obtain ⟨f1, Ef1, h⟩ := am_let_eq' h
  refine am_Ev.go hcd 3 (s' := (3, [(0, .ref 36)], [], am_SH, (f1, g))) (by subst Ef1; exact rfl) ?_
  refine am_Ev.go hcd 2 (s' := (5, [(0, .ref 36)], [.int (f1 36 0)], am_SH, (f1, g))) rfl ?_
  exact am_Ev.cast (a := ((some (.int (f1 36 0, f1).1)), am_SH, ((f1 36 0, f1).2, g))) (by subst h; rfl) (am_Ev.ret hcd rfl)
