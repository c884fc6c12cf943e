set_option maxRecDepth 100000 in
set_option maxHeartbeats 4000000 in
theorem x_near_ok {sc : Nat × (Nat → Int32)} (d : Nat) (a0 : Int32) (a1 : Int32) (f g : (Nat → Nat → Int32)) (r : Int32) (h : x_near a0 a1 f = some r) : am_Ev sc (d + 2) 139 (0, [(0, .ref 0), (1, .int a0), (2, .int a1)], [], am_SH, (f, g)) ((some (.int r)), am_SH, (f, g)) := by
  have hcd : am_code 139 = am_c139 := rfl
  unfold x_near at h
  refine am_Ev.go hcd 1 (s' := (1, [(0, .ref 0), (1, .int a0), (2, .int a1)], [.int a0], am_SH, (f, g))) rfl ?_
  refine am_Ev.call hcd (a := 171) (s0 := (0, [(0, .int a0)], [], am_SH, (f, g))) (q := ((some (.int (am_b (x_isTopic a0)))), am_SH, (f, g))) (s1 := (2, [(0, .ref 0), (1, .int a0), (2, .int a1)], [.int (am_b (x_isTopic a0))], am_SH, (f, g))) rfl rfl (x_isTopic_ok (d) a0 (f, g)) ?_
  rcases am_ite h with ⟨c4, h⟩ | ⟨c4, h⟩
  · refine am_Ev.f hcd (c := am_b (x_isTopic a0) = 0) (s1 := (3, [(0, .ref 0), (1, .int a0), (2, .int a1)], [], am_SH, (f, g))) rfl (am_b_t c4) ?_
    refine am_Ev.go hcd 1 (s' := (4, [(0, .ref 0), (1, .int a0), (2, .int a1)], [.int a1], am_SH, (f, g))) rfl ?_
    refine am_Ev.call hcd (a := 171) (s0 := (0, [(0, .int a1)], [], am_SH, (f, g))) (q := ((some (.int (am_b (x_isTopic a1)))), am_SH, (f, g))) (s1 := (5, [(0, .ref 0), (1, .int a0), (2, .int a1)], [.int (am_b (x_isTopic a1))], am_SH, (f, g))) rfl rfl (x_isTopic_ok (d) a1 (f, g)) ?_
    rcases am_ite h with ⟨c8, h⟩ | ⟨c8, h⟩
    · refine am_Ev.f hcd (c := am_b (x_isTopic a1) = 0) (s1 := (8, [(0, .ref 0), (1, .int a0), (2, .int a1)], [], am_SH, (f, g))) rfl (am_b_t c8) ?_
      refine am_Ev.go hcd 5 (s' := (13, [(0, .ref 0), (1, .int a0), (2, .int a1)], [.int a1, .int a0, .ref 25], am_SH, (f, g))) rfl ?_
      obtain ⟨p3, hp3, h⟩ := am_bind_some h
      refine am_Ev.call hcd (a := 79) (s0 := (0, [(0, .ref 25), (1, .int a0), (2, .int a1)], [], am_SH, (f, g))) (q := ((some (.int p3)), am_SH, (f, g))) (s1 := (14, [(0, .ref 0), (1, .int a0), (2, .int a1)], [.int p3], am_SH, (f, g))) rfl rfl (xn_between_25_ok (d + 1) a0 a1 f g p3 hp3) ?_
      exact am_Ev.cast (a := ((some (.int p3)), am_SH, (f, g))) (by cases h; rfl) (am_Ev.ret hcd rfl)
    · refine am_Ev.t hcd (c := am_b (x_isTopic a1) = 0) (s1 := (6, [(0, .ref 0), (1, .int a0), (2, .int a1)], [], am_SH, (f, g))) rfl (am_b_f c8) ?_
      refine am_Ev.go hcd 1 (s' := (7, [(0, .ref 0), (1, .int a0), (2, .int a1)], [.int (-1)], am_SH, (f, g))) rfl ?_
      exact am_Ev.cast (a := ((some (.int (-1))), am_SH, (f, g))) (by cases h; rfl) (am_Ev.ret hcd rfl)
  · refine am_Ev.t hcd (c := am_b (x_isTopic a0) = 0) (s1 := (6, [(0, .ref 0), (1, .int a0), (2, .int a1)], [], am_SH, (f, g))) rfl (am_b_f c4) ?_
    refine am_Ev.go hcd 1 (s' := (7, [(0, .ref 0), (1, .int a0), (2, .int a1)], [.int (-1)], am_SH, (f, g))) rfl ?_
    exact am_Ev.cast (a := ((some (.int (-1))), am_SH, (f, g))) (by cases h; rfl) (am_Ev.ret hcd rfl)
set_option maxRecDepth 100000 in
set_option maxHeartbeats 4000000 in
theorem xk_cell_12_ok {sc : Nat × (Nat → Int32)} (d : Nat) (a0 : Int32) (a1 : Int32) (f g : (Nat → Nat → Int32)) (r : Int32) (h : xk_cell_12 a0 a1 f = some r) : am_Ev sc (d) 18 (0, [(0, .ref 12), (1, .int a0), (2, .int a1)], [], am_SH, (f, g)) ((some (.int r)), am_SH, (f, g)) := by
  have hcd : am_code 18 = am_c18 := rfl
  unfold xk_cell_12 at h
  refine am_Ev.go hcd 7 (s' := (7, [(0, .ref 12), (1, .int a0), (2, .int a1)], [.int ((4 * a0) + a1), .ref 13], am_SH, (f, g))) rfl ?_
  obtain ⟨c2, h⟩ := am_grd h
  refine am_Ev.t hcd (o := none) (c := am_in ((4 * a0) + a1) 600 = true) (s1 := (8, [(0, .ref 12), (1, .int a0), (2, .int a1)], [.int (f 13 ((4 * a0) + a1).toNatClampNeg)], am_SH, (f, g))) rfl c2 ?_
  exact am_Ev.cast (a := ((some (.int (f 13 ((4 * a0) + a1).toNatClampNeg : Int32))), am_SH, (f, g))) (by cases h; rfl) (am_Ev.ret hcd rfl)
set_option maxRecDepth 100000 in
set_option maxHeartbeats 4000000 in
theorem x_book_ok {sc : Nat × (Nat → Int32)} (d : Nat) (a0 : Int32) (a1 : Int32) (f g : (Nat → Nat → Int32)) (r : Int32) (h : x_book a0 a1 f = some r) : am_Ev sc (d + 1) 140 (0, [(0, .ref 0), (1, .int a0), (2, .int a1)], [], am_SH, (f, g)) ((some (.int r)), am_SH, (f, g)) := by
  have hcd : am_code 140 = am_c140 := rfl
  unfold x_book at h
  refine am_Ev.go hcd 8 (s' := (8, [(0, .ref 0), (1, .int a0), (2, .int a1)], [.int ((f 2 4) - 1), .int 0, .int a0], am_SH, (f, g))) rfl ?_
  refine am_Ev.call hcd (a := 170) (s0 := (0, [(0, .int a0), (1, .int 0), (2, .int ((f 2 4) - 1))], [], am_SH, (f, g))) (q := ((some (.int (am_b (x_within a0 0 ((f 2 4) - 1))))), am_SH, (f, g))) (s1 := (9, [(0, .ref 0), (1, .int a0), (2, .int a1)], [.int (am_b (x_within a0 0 ((f 2 4) - 1)))], am_SH, (f, g))) rfl rfl (x_within_ok (d) a0 0 ((f 2 4) - 1) (f, g)) ?_
  rcases am_ite h with ⟨c4, h⟩ | ⟨c4, h⟩
  · refine am_Ev.f hcd (c := am_b (x_within a0 0 ((f 2 4) - 1)) = 0) (s1 := (10, [(0, .ref 0), (1, .int a0), (2, .int a1)], [], am_SH, (f, g))) rfl (am_b_t c4) ?_
    refine am_Ev.go hcd 3 (s' := (13, [(0, .ref 0), (1, .int a0), (2, .int a1)], [.int 3, .int 0, .int a1], am_SH, (f, g))) rfl ?_
    refine am_Ev.call hcd (a := 170) (s0 := (0, [(0, .int a1), (1, .int 0), (2, .int 3)], [], am_SH, (f, g))) (q := ((some (.int (am_b (x_within a1 0 3)))), am_SH, (f, g))) (s1 := (14, [(0, .ref 0), (1, .int a0), (2, .int a1)], [.int (am_b (x_within a1 0 3))], am_SH, (f, g))) rfl rfl (x_within_ok (d) a1 0 3 (f, g)) ?_
    rcases am_ite h with ⟨c8, h⟩ | ⟨c8, h⟩
    · refine am_Ev.f hcd (c := am_b (x_within a1 0 3) = 0) (s1 := (17, [(0, .ref 0), (1, .int a0), (2, .int a1)], [], am_SH, (f, g))) rfl (am_b_t c8) ?_
      refine am_Ev.go hcd 5 (s' := (22, [(0, .ref 0), (1, .int a0), (2, .int a1)], [.int a1, .int a0, .ref 12], am_SH, (f, g))) rfl ?_
      obtain ⟨p3, hp3, h⟩ := am_bind_some h
      refine am_Ev.call hcd (a := 18) (s0 := (0, [(0, .ref 12), (1, .int a0), (2, .int a1)], [], am_SH, (f, g))) (q := ((some (.int p3)), am_SH, (f, g))) (s1 := (23, [(0, .ref 0), (1, .int a0), (2, .int a1)], [.int p3], am_SH, (f, g))) rfl rfl (xk_cell_12_ok (d) a0 a1 f g p3 hp3) ?_
      exact am_Ev.cast (a := ((some (.int p3)), am_SH, (f, g))) (by cases h; rfl) (am_Ev.ret hcd rfl)
    · refine am_Ev.t hcd (c := am_b (x_within a1 0 3) = 0) (s1 := (15, [(0, .ref 0), (1, .int a0), (2, .int a1)], [], am_SH, (f, g))) rfl (am_b_f c8) ?_
      refine am_Ev.go hcd 1 (s' := (16, [(0, .ref 0), (1, .int a0), (2, .int a1)], [.int (-1)], am_SH, (f, g))) rfl ?_
      exact am_Ev.cast (a := ((some (.int (-1))), am_SH, (f, g))) (by cases h; rfl) (am_Ev.ret hcd rfl)
  · refine am_Ev.t hcd (c := am_b (x_within a0 0 ((f 2 4) - 1)) = 0) (s1 := (15, [(0, .ref 0), (1, .int a0), (2, .int a1)], [], am_SH, (f, g))) rfl (am_b_f c4) ?_
    refine am_Ev.go hcd 1 (s' := (16, [(0, .ref 0), (1, .int a0), (2, .int a1)], [.int (-1)], am_SH, (f, g))) rfl ?_
    exact am_Ev.cast (a := ((some (.int (-1))), am_SH, (f, g))) (by cases h; rfl) (am_Ev.ret hcd rfl)
set_option maxRecDepth 100000 in
set_option maxHeartbeats 4000000 in
theorem xc_takeFrom_110_2_ok {sc : Nat × (Nat → Int32)} (d : Nat)  (f g : (Nat → Nat → Int32)) : am_Ev sc (d + 1) 30 (0, [(0, .ref 110), (1, .ref 2)], [], am_SH, (f, g)) (none, am_SH, ((xc_takeFrom_110_2  f), g)) := by
  have hcd : am_code 30 = am_c30 := rfl
  obtain ⟨r, h⟩ : ∃ r, r = xc_takeFrom_110_2  f := ⟨_, rfl⟩
  rw [← h]
  unfold xc_takeFrom_110_2 at h
  obtain ⟨f1, Ef1, h⟩ := am_let_eq' h
  refine am_Ev.go hcd 4 (s' := (4, [(0, .ref 110), (1, .ref 2)], [], am_SH, (f1, g))) (by subst Ef1; exact rfl) ?_
  obtain ⟨f2, Ef2, h⟩ := am_let_eq' h
  refine am_Ev.go hcd 4 (s' := (8, [(0, .ref 110), (1, .ref 2)], [], am_SH, (f2, g))) (by subst Ef2; exact rfl) ?_
  obtain ⟨f3, Ef3, h⟩ := am_let_eq' h
  refine am_Ev.go hcd 4 (s' := (12, [(0, .ref 110), (1, .ref 2)], [], am_SH, (f3, g))) (by subst Ef3; exact rfl) ?_
  obtain ⟨f4, Ef4, h⟩ := am_let_eq' h
  refine am_Ev.go hcd 4 (s' := (16, [(0, .ref 110), (1, .ref 2)], [], am_SH, (f4, g))) (by subst Ef4; exact rfl) ?_
  obtain ⟨f5, Ef5, h⟩ := am_let_eq' h
  refine am_Ev.go hcd 4 (s' := (20, [(0, .ref 110), (1, .ref 2)], [], am_SH, (f5, g))) (by subst Ef5; exact rfl) ?_
  obtain ⟨f6, Ef6, h⟩ := am_let_eq' h
  refine am_Ev.go hcd 4 (s' := (24, [(0, .ref 110), (1, .ref 2)], [], am_SH, (f6, g))) (by subst Ef6; exact rfl) ?_
  refine am_Ev.go hcd 7 (s' := (31, [(0, .ref 110), (1, .ref 2)], [.int 6, .int 0, .ref 111, .int 0, .ref 3], am_SH, (f6, g))) rfl ?_
  obtain ⟨f7, Ef7, h⟩ := am_let_eq' h
  refine am_Ev.jdk hcd (s1 := (32, [(0, .ref 110), (1, .ref 2)], [], am_SH, (f7, g))) (by subst Ef7; exact rfl) ?_
  refine am_Ev.go hcd 7 (s' := (39, [(0, .ref 110), (1, .ref 2)], [.int 6, .int 0, .ref 112, .int 0, .ref 4], am_SH, (f7, g))) rfl ?_
  obtain ⟨f8, Ef8, h⟩ := am_let_eq' h
  refine am_Ev.jdk hcd (s1 := (40, [(0, .ref 110), (1, .ref 2)], [], am_SH, (f8, g))) (by subst Ef8; exact rfl) ?_
  refine am_Ev.go hcd 7 (s' := (47, [(0, .ref 110), (1, .ref 2)], [.int 6, .int 0, .ref 113, .int 0, .ref 5], am_SH, (f8, g))) rfl ?_
  obtain ⟨f9, Ef9, h⟩ := am_let_eq' h
  refine am_Ev.jdk hcd (s1 := (48, [(0, .ref 110), (1, .ref 2)], [], am_SH, (f9, g))) (by subst Ef9; exact rfl) ?_
  refine am_Ev.go hcd 7 (s' := (55, [(0, .ref 110), (1, .ref 2)], [.int 6, .int 0, .ref 114, .int 0, .ref 6], am_SH, (f9, g))) rfl ?_
  obtain ⟨f10, Ef10, h⟩ := am_let_eq' h
  refine am_Ev.jdk hcd (s1 := (56, [(0, .ref 110), (1, .ref 2)], [], am_SH, (f10, g))) (by subst Ef10; exact rfl) ?_
  refine am_Ev.go hcd 7 (s' := (63, [(0, .ref 110), (1, .ref 2)], [.int 6, .int 0, .ref 115, .int 0, .ref 7], am_SH, (f10, g))) rfl ?_
  obtain ⟨f11, Ef11, h⟩ := am_let_eq' h
  refine am_Ev.jdk hcd (s1 := (64, [(0, .ref 110), (1, .ref 2)], [], am_SH, (f11, g))) (by subst Ef11; exact rfl) ?_
  refine am_Ev.go hcd 7 (s' := (71, [(0, .ref 110), (1, .ref 2)], [.int 12, .int 0, .ref 116, .int 0, .ref 8], am_SH, (f11, g))) rfl ?_
  obtain ⟨f12, Ef12, h⟩ := am_let_eq' h
  refine am_Ev.jdk hcd (s1 := (72, [(0, .ref 110), (1, .ref 2)], [], am_SH, (f12, g))) (by subst Ef12; exact rfl) ?_
  refine am_Ev.go hcd 7 (s' := (79, [(0, .ref 110), (1, .ref 2)], [.int 12, .int 0, .ref 117, .int 0, .ref 9], am_SH, (f12, g))) rfl ?_
  obtain ⟨f13, Ef13, h⟩ := am_let_eq' h
  refine am_Ev.jdk hcd (s1 := (80, [(0, .ref 110), (1, .ref 2)], [], am_SH, (f13, g))) (by subst Ef13; exact rfl) ?_
  refine am_Ev.go hcd 7 (s' := (87, [(0, .ref 110), (1, .ref 2)], [.int 12, .int 0, .ref 118, .int 0, .ref 10], am_SH, (f13, g))) rfl ?_
  obtain ⟨f14, Ef14, h⟩ := am_let_eq' h
  refine am_Ev.jdk hcd (s1 := (88, [(0, .ref 110), (1, .ref 2)], [], am_SH, (f14, g))) (by subst Ef14; exact rfl) ?_
  refine am_Ev.go hcd 7 (s' := (95, [(0, .ref 110), (1, .ref 2)], [.int 12, .int 0, .ref 119, .int 0, .ref 11], am_SH, (f14, g))) rfl ?_
  obtain ⟨f15, Ef15, h⟩ := am_let_eq' h
  refine am_Ev.jdk hcd (s1 := (96, [(0, .ref 110), (1, .ref 2)], [], am_SH, (f15, g))) (by subst Ef15; exact rfl) ?_
  exact am_Ev.cast (a := (none, am_SH, (f15, g))) (by subst h; rfl) (am_Ev.ret hcd rfl)
set_option maxRecDepth 100000 in
set_option maxHeartbeats 4000000 in
theorem xc_hasGlass_110_ok {sc : Nat × (Nat → Int32)} (d : Nat) (a0 : Int32) (f g : (Nat → Nat → Int32)) : am_Ev sc (d) 22 (0, [(0, .ref 110), (1, .int a0)], [], am_SH, (f, g)) ((some (.int (am_b (xc_hasGlass_110 a0 f)))), am_SH, (f, g)) := by
  have hcd : am_code 22 = am_c22 := rfl
  obtain ⟨r, h⟩ : ∃ r, r = xc_hasGlass_110 a0 f := ⟨_, rfl⟩
  rw [← h]
  unfold xc_hasGlass_110 at h
  refine am_Ev.go hcd 1 (s' := (1, [(0, .ref 110), (1, .int a0)], [.int a0], am_SH, (f, g))) rfl ?_
  rcases am_itv h with ⟨c4, h⟩ | ⟨c4, h⟩
  · refine am_Ev.t hcd (c := a0 < 0) (s1 := (8, [(0, .ref 110), (1, .int a0)], [], am_SH, (f, g))) rfl c4 ?_
    refine am_Ev.go hcd 1 (s' := (9, [(0, .ref 110), (1, .int a0)], [.int 0], am_SH, (f, g))) rfl ?_
    exact am_Ev.cast (a := ((some (.int (am_b false))), am_SH, (f, g))) (by subst h; rfl) (am_Ev.ret hcd rfl)
  · refine am_Ev.f hcd (c := a0 < 0) (s1 := (2, [(0, .ref 110), (1, .int a0)], [], am_SH, (f, g))) rfl c4 ?_
    refine am_Ev.go hcd 3 (s' := (5, [(0, .ref 110), (1, .int a0)], [.int (f 110 0), .int a0], am_SH, (f, g))) rfl ?_
    rcases am_itv h with ⟨c10, h⟩ | ⟨c10, h⟩
    · refine am_Ev.t hcd (c := a0 < f 110 0) (s1 := (6, [(0, .ref 110), (1, .int a0)], [], am_SH, (f, g))) rfl c10 ?_
      refine am_Ev.go hcd 2 (s' := (9, [(0, .ref 110), (1, .int a0)], [.int 1], am_SH, (f, g))) rfl ?_
      exact am_Ev.cast (a := ((some (.int (am_b true))), am_SH, (f, g))) (by subst h; rfl) (am_Ev.ret hcd rfl)
    · refine am_Ev.f hcd (c := a0 < f 110 0) (s1 := (8, [(0, .ref 110), (1, .int a0)], [], am_SH, (f, g))) rfl c10 ?_
      refine am_Ev.go hcd 1 (s' := (9, [(0, .ref 110), (1, .int a0)], [.int 0], am_SH, (f, g))) rfl ?_
      exact am_Ev.cast (a := ((some (.int (am_b false))), am_SH, (f, g))) (by subst h; rfl) (am_Ev.ret hcd rfl)
set_option maxRecDepth 100000 in
set_option maxHeartbeats 4000000 in
theorem xc_hasWitness_110_ok {sc : Nat × (Nat → Int32)} (d : Nat) (a0 : Int32) (f g : (Nat → Nat → Int32)) : am_Ev sc (d) 23 (0, [(0, .ref 110), (1, .int a0)], [], am_SH, (f, g)) ((some (.int (am_b (xc_hasWitness_110 a0 f)))), am_SH, (f, g)) := by
  have hcd : am_code 23 = am_c23 := rfl
  obtain ⟨r, h⟩ : ∃ r, r = xc_hasWitness_110 a0 f := ⟨_, rfl⟩
  rw [← h]
  unfold xc_hasWitness_110 at h
  refine am_Ev.go hcd 1 (s' := (1, [(0, .ref 110), (1, .int a0)], [.int a0], am_SH, (f, g))) rfl ?_
  rcases am_itv h with ⟨c4, h⟩ | ⟨c4, h⟩
  · refine am_Ev.t hcd (c := a0 < 0) (s1 := (8, [(0, .ref 110), (1, .int a0)], [], am_SH, (f, g))) rfl c4 ?_
    refine am_Ev.go hcd 1 (s' := (9, [(0, .ref 110), (1, .int a0)], [.int 0], am_SH, (f, g))) rfl ?_
    exact am_Ev.cast (a := ((some (.int (am_b false))), am_SH, (f, g))) (by subst h; rfl) (am_Ev.ret hcd rfl)
  · refine am_Ev.f hcd (c := a0 < 0) (s1 := (2, [(0, .ref 110), (1, .int a0)], [], am_SH, (f, g))) rfl c4 ?_
    refine am_Ev.go hcd 3 (s' := (5, [(0, .ref 110), (1, .int a0)], [.int (f 110 1), .int a0], am_SH, (f, g))) rfl ?_
    rcases am_itv h with ⟨c10, h⟩ | ⟨c10, h⟩
    · refine am_Ev.t hcd (c := a0 < f 110 1) (s1 := (6, [(0, .ref 110), (1, .int a0)], [], am_SH, (f, g))) rfl c10 ?_
      refine am_Ev.go hcd 2 (s' := (9, [(0, .ref 110), (1, .int a0)], [.int 1], am_SH, (f, g))) rfl ?_
      exact am_Ev.cast (a := ((some (.int (am_b true))), am_SH, (f, g))) (by subst h; rfl) (am_Ev.ret hcd rfl)
    · refine am_Ev.f hcd (c := a0 < f 110 1) (s1 := (8, [(0, .ref 110), (1, .int a0)], [], am_SH, (f, g))) rfl c10 ?_
      refine am_Ev.go hcd 1 (s' := (9, [(0, .ref 110), (1, .int a0)], [.int 0], am_SH, (f, g))) rfl ?_
      exact am_Ev.cast (a := ((some (.int (am_b false))), am_SH, (f, g))) (by subst h; rfl) (am_Ev.ret hcd rfl)
set_option maxRecDepth 100000 in
set_option maxHeartbeats 4000000 in
theorem xc_glassOf_110_ok {sc : Nat × (Nat → Int32)} (d : Nat) (a0 : Int32) (f g : (Nat → Nat → Int32)) (r : Int32) (h : xc_glassOf_110 a0 f = some r) : am_Ev sc (d) 26 (0, [(0, .ref 110), (1, .int a0)], [], am_SH, (f, g)) ((some (.int r)), am_SH, (f, g)) := by
  have hcd : am_code 26 = am_c26 := rfl
  unfold xc_glassOf_110 at h
  refine am_Ev.go hcd 2 (s' := (2, [(0, .ref 110), (1, .int a0), (2, .int 0)], [], am_SH, (f, g))) rfl ?_
  refine am_Ev.weak' (am_loop_ok (G := fun (s1 : Int32) => am_Ev sc (d) 26 (2, [(0, .ref 110), (1, .int a0), (2, .int s1)], [], am_SH, (f, g)) ((some (.int r)), am_SH, (f, g))) (Z := fun (v : Int32) => (((some (.int v)), am_SH, (f, g)) : am_R) = ((some (.int r)), am_SH, (f, g))) ?_ am_F 0 r h rfl) (am_sub_cons rfl (am_sub_cons rfl (am_sub_cons rfl am_sub_nil))) rfl
  intro s1 q1 h hI1 hZ1
  show am_Ev sc (d) 26 (2, [(0, .ref 110), (1, .int a0), (2, .int s1)], [], am_SH, (f, g)) ((some (.int r)), am_SH, (f, g))
  refine am_Ev.go hcd 3 (s' := (5, [(0, .ref 110), (1, .int a0), (2, .int s1)], [.int (f 110 0), .int s1], am_SH, (f, g))) rfl ?_
  rcases am_ite h with ⟨c6, h⟩ | ⟨c6, h⟩
  · refine am_Ev.t hcd (c := s1 < f 110 0) (s1 := (6, [(0, .ref 110), (1, .int a0), (2, .int s1)], [], am_SH, (f, g))) rfl c6 ?_
    refine am_Ev.go hcd 3 (s' := (9, [(0, .ref 110), (1, .int a0), (2, .int s1)], [.int s1, .ref 113], am_SH, (f, g))) rfl ?_
    obtain ⟨c9, h⟩ := am_grd h
    refine am_Ev.t hcd (o := none) (c := am_in s1 6 = true) (s1 := (10, [(0, .ref 110), (1, .int a0), (2, .int s1)], [.int (f 113 s1.toNatClampNeg)], am_SH, (f, g))) rfl c9 ?_
    refine am_Ev.go hcd 1 (s' := (11, [(0, .ref 110), (1, .int a0), (2, .int s1)], [.int a0, .int (f 113 s1.toNatClampNeg)], am_SH, (f, g))) rfl ?_
    rcases am_ite h with ⟨c12, h⟩ | ⟨c12, h⟩
    · refine am_Ev.t hcd (c := f 113 s1.toNatClampNeg = a0) (s1 := (12, [(0, .ref 110), (1, .int a0), (2, .int s1)], [], am_SH, (f, g))) rfl c12 ?_
      refine am_Ev.go hcd 1 (s' := (13, [(0, .ref 110), (1, .int a0), (2, .int s1)], [.int s1], am_SH, (f, g))) rfl ?_
      exact am_Ev.cast (a := ((some (.int s1)), am_SH, (f, g))) (hZ1 _ (Option.some.inj h).symm) (am_Ev.ret hcd rfl)
    · refine am_Ev.f hcd (c := f 113 s1.toNatClampNeg = a0) (s1 := (14, [(0, .ref 110), (1, .int a0), (2, .int s1)], [], am_SH, (f, g))) rfl c12 ?_
      obtain ⟨t2, Et2, h⟩ := am_let_eq h
      refine am_Ev.go hcd 1 (s' := (15, [(0, .ref 110), (1, .int a0), (2, .int t2)], [], am_SH, (f, g))) (by subst Et2; exact rfl) ?_
      refine am_Ev.go hcd 1 (s' := (2, [(0, .ref 110), (1, .int a0), (2, .int t2)], [], am_SH, (f, g))) rfl ?_
      exact am_Ev.weak' (hI1 t2 (Option.some.inj h).symm) (am_sub_cons rfl (am_sub_cons rfl (am_sub_cons rfl am_sub_nil))) rfl
  · refine am_Ev.f hcd (c := s1 < f 110 0) (s1 := (16, [(0, .ref 110), (1, .int a0), (2, .int s1)], [], am_SH, (f, g))) rfl c6 ?_
    refine am_Ev.go hcd 1 (s' := (17, [(0, .ref 110), (1, .int a0), (2, .int s1)], [.int (-1)], am_SH, (f, g))) rfl ?_
    exact am_Ev.cast (a := ((some (.int (-1))), am_SH, (f, g))) (hZ1 _ (Option.some.inj h).symm) (am_Ev.ret hcd rfl)
set_option maxRecDepth 100000 in
set_option maxHeartbeats 4000000 in
theorem xc_canGoUnder_110_ok {sc : Nat × (Nat → Int32)} (d : Nat) (a0 : Int32) (a1 : Int32) (f g : (Nat → Nat → Int32)) (r : Bool) (h : xc_canGoUnder_110 a0 a1 f = some r) : am_Ev sc (d + 1) 27 (0, [(0, .ref 110), (1, .int a0), (2, .int a1)], [], am_SH, (f, g)) ((some (.int (am_b r))), am_SH, (f, g)) := by
  have hcd : am_code 27 = am_c27 := rfl
  unfold xc_canGoUnder_110 at h
  refine am_Ev.go hcd 2 (s' := (2, [(0, .ref 110), (1, .int a0), (2, .int a1)], [.int a1, .ref 110], am_SH, (f, g))) rfl ?_
  refine am_Ev.call hcd (a := 23) (s0 := (0, [(0, .ref 110), (1, .int a1)], [], am_SH, (f, g))) (q := ((some (.int (am_b (xc_hasWitness_110 a1 f)))), am_SH, (f, g))) (s1 := (3, [(0, .ref 110), (1, .int a0), (2, .int a1)], [.int (am_b (xc_hasWitness_110 a1 f))], am_SH, (f, g))) rfl rfl (xc_hasWitness_110_ok (d) a1 f g) ?_
  rcases am_ite h with ⟨c4, h⟩ | ⟨c4, h⟩
  · refine am_Ev.f hcd (c := am_b (xc_hasWitness_110 a1 f) = 0) (s1 := (4, [(0, .ref 110), (1, .int a0), (2, .int a1)], [], am_SH, (f, g))) rfl (am_b_t c4) ?_
    refine am_Ev.go hcd 3 (s' := (7, [(0, .ref 110), (1, .int a0), (2, .int a1)], [.int a0, .ref 113], am_SH, (f, g))) rfl ?_
    obtain ⟨c6, h⟩ := am_grd h
    refine am_Ev.t hcd (o := none) (c := am_in a0 6 = true) (s1 := (8, [(0, .ref 110), (1, .int a0), (2, .int a1)], [.int (f 113 a0.toNatClampNeg)], am_SH, (f, g))) rfl c6 ?_
    refine am_Ev.go hcd 1 (s' := (9, [(0, .ref 110), (1, .int a0), (2, .int a1)], [.int (-1), .int (f 113 a0.toNatClampNeg)], am_SH, (f, g))) rfl ?_
    rcases am_ite h with ⟨c9, h⟩ | ⟨c9, h⟩
    · refine am_Ev.t hcd (c := f 113 a0.toNatClampNeg = (-1)) (s1 := (10, [(0, .ref 110), (1, .int a0), (2, .int a1)], [], am_SH, (f, g))) rfl c9 ?_
      refine am_Ev.go hcd 2 (s' := (12, [(0, .ref 110), (1, .int a0), (2, .int a1)], [.int a1, .ref 110], am_SH, (f, g))) rfl ?_
      obtain ⟨p2, hp2, h⟩ := am_bind_some h
      refine am_Ev.call hcd (a := 26) (s0 := (0, [(0, .ref 110), (1, .int a1)], [], am_SH, (f, g))) (q := ((some (.int p2)), am_SH, (f, g))) (s1 := (13, [(0, .ref 110), (1, .int a0), (2, .int a1)], [.int p2], am_SH, (f, g))) rfl rfl (xc_glassOf_110_ok (d) a1 f g p2 hp2) ?_
      refine am_Ev.go hcd 1 (s' := (14, [(0, .ref 110), (1, .int a0), (2, .int a1)], [.int (-1), .int p2], am_SH, (f, g))) rfl ?_
      rcases am_ite h with ⟨c15, h⟩ | ⟨c15, h⟩
      · refine am_Ev.t hcd (c := p2 = (-1)) (s1 := (15, [(0, .ref 110), (1, .int a0), (2, .int a1)], [], am_SH, (f, g))) rfl c15 ?_
        refine am_Ev.go hcd 2 (s' := (18, [(0, .ref 110), (1, .int a0), (2, .int a1)], [.int 1], am_SH, (f, g))) rfl ?_
        exact am_Ev.cast (a := ((some (.int (am_b true))), am_SH, (f, g))) (by cases h; rfl) (am_Ev.ret hcd rfl)
      · refine am_Ev.f hcd (c := p2 = (-1)) (s1 := (17, [(0, .ref 110), (1, .int a0), (2, .int a1)], [], am_SH, (f, g))) rfl c15 ?_
        refine am_Ev.go hcd 1 (s' := (18, [(0, .ref 110), (1, .int a0), (2, .int a1)], [.int 0], am_SH, (f, g))) rfl ?_
        exact am_Ev.cast (a := ((some (.int (am_b false))), am_SH, (f, g))) (by cases h; rfl) (am_Ev.ret hcd rfl)
    · refine am_Ev.f hcd (c := f 113 a0.toNatClampNeg = (-1)) (s1 := (17, [(0, .ref 110), (1, .int a0), (2, .int a1)], [], am_SH, (f, g))) rfl c9 ?_
      refine am_Ev.go hcd 1 (s' := (18, [(0, .ref 110), (1, .int a0), (2, .int a1)], [.int 0], am_SH, (f, g))) rfl ?_
      exact am_Ev.cast (a := ((some (.int (am_b false))), am_SH, (f, g))) (by cases h; rfl) (am_Ev.ret hcd rfl)
  · refine am_Ev.t hcd (c := am_b (xc_hasWitness_110 a1 f) = 0) (s1 := (17, [(0, .ref 110), (1, .int a0), (2, .int a1)], [], am_SH, (f, g))) rfl (am_b_f c4) ?_
    refine am_Ev.go hcd 1 (s' := (18, [(0, .ref 110), (1, .int a0), (2, .int a1)], [.int 0], am_SH, (f, g))) rfl ?_
    exact am_Ev.cast (a := ((some (.int (am_b false))), am_SH, (f, g))) (by cases h; rfl) (am_Ev.ret hcd rfl)
set_option maxRecDepth 100000 in
set_option maxHeartbeats 4000000 in
theorem xk_write_12_110_ok {sc : Nat × (Nat → Int32)} (d : Nat) (a0 : Int32) (a1 : Int32) (a2 : Int32) (f g : (Nat → Nat → Int32)) (r : (Nat → Nat → Int32)) (h : xk_write_12_110 a0 a1 a2 f = some r) : am_Ev sc (d) 19 (0, [(0, .ref 12), (1, .ref 110), (2, .int a0), (3, .int a1), (4, .int a2)], [], am_SH, (f, g)) (none, am_SH, (r, g)) := by
  have hcd : am_code 19 = am_c19 := rfl
  unfold xk_write_12_110 at h
  refine am_Ev.go hcd 3 (s' := (3, [(0, .ref 12), (1, .ref 110), (2, .int a0), (3, .int a1), (4, .int a2)], [.int 150, .int (f 110 4)], am_SH, (f, g))) rfl ?_
  rcases am_ite h with ⟨c2, h⟩ | ⟨c2, h⟩
  · refine am_Ev.t hcd (c := f 110 4 < 150) (s1 := (5, [(0, .ref 12), (1, .ref 110), (2, .int a0), (3, .int a1), (4, .int a2)], [], am_SH, (f, g))) rfl c2 ?_
    obtain ⟨t1, Et1, h⟩ := am_let_eq h
    refine am_Ev.go hcd 5 (s' := (10, [(0, .ref 12), (1, .ref 110), (2, .int a0), (3, .int a1), (4, .int a2), (5, .int t1)], [], am_SH, (f, g))) (by subst Et1; exact rfl) ?_
    refine am_Ev.go hcd 5 (s' := (15, [(0, .ref 12), (1, .ref 110), (2, .int a0), (3, .int a1), (4, .int a2), (5, .int t1)], [.int (f 110 2), .int t1, .ref 13], am_SH, (f, g))) rfl ?_
    obtain ⟨c7, h⟩ := am_grd h
    obtain ⟨f2, Ef2, h⟩ := am_let_eq h
    refine am_Ev.t hcd (o := none) (c := am_in t1 600 = true) (s1 := (16, [(0, .ref 12), (1, .ref 110), (2, .int a0), (3, .int a1), (4, .int a2), (5, .int t1)], [], am_SH, (f2, g))) (by subst Ef2; exact rfl) c7 ?_
    refine am_Ev.go hcd 6 (s' := (22, [(0, .ref 12), (1, .ref 110), (2, .int a0), (3, .int a1), (4, .int a2), (5, .int t1)], [.int a0, .int (t1 + 1), .ref 13], am_SH, (f2, g))) rfl ?_
    obtain ⟨c11, h⟩ := am_grd h
    obtain ⟨f3, Ef3, h⟩ := am_let_eq h
    refine am_Ev.t hcd (o := none) (c := am_in (t1 + 1) 600 = true) (s1 := (23, [(0, .ref 12), (1, .ref 110), (2, .int a0), (3, .int a1), (4, .int a2), (5, .int t1)], [], am_SH, (f3, g))) (by subst Ef3; exact rfl) c11 ?_
    refine am_Ev.go hcd 6 (s' := (29, [(0, .ref 12), (1, .ref 110), (2, .int a0), (3, .int a1), (4, .int a2), (5, .int t1)], [.int a1, .int (t1 + 2), .ref 13], am_SH, (f3, g))) rfl ?_
    obtain ⟨c15, h⟩ := am_grd h
    obtain ⟨f4, Ef4, h⟩ := am_let_eq h
    refine am_Ev.t hcd (o := none) (c := am_in (t1 + 2) 600 = true) (s1 := (30, [(0, .ref 12), (1, .ref 110), (2, .int a0), (3, .int a1), (4, .int a2), (5, .int t1)], [], am_SH, (f4, g))) (by subst Ef4; exact rfl) c15 ?_
    refine am_Ev.go hcd 6 (s' := (36, [(0, .ref 12), (1, .ref 110), (2, .int a0), (3, .int a1), (4, .int a2), (5, .int t1)], [.int a2, .int (t1 + 3), .ref 13], am_SH, (f4, g))) rfl ?_
    obtain ⟨c19, h⟩ := am_grd h
    obtain ⟨f5, Ef5, h⟩ := am_let_eq h
    refine am_Ev.t hcd (o := none) (c := am_in (t1 + 3) 600 = true) (s1 := (37, [(0, .ref 12), (1, .ref 110), (2, .int a0), (3, .int a1), (4, .int a2), (5, .int t1)], [], am_SH, (f5, g))) (by subst Ef5; exact rfl) c19 ?_
    obtain ⟨f6, Ef6, h⟩ := am_let_eq h
    refine am_Ev.go hcd 6 (s' := (43, [(0, .ref 12), (1, .ref 110), (2, .int a0), (3, .int a1), (4, .int a2), (5, .int t1)], [], am_SH, (f6, g))) (by subst Ef6; exact rfl) ?_
    exact am_Ev.cast (a := (none, am_SH, (f6, g))) (by cases h; rfl) (am_Ev.ret hcd rfl)
  · refine am_Ev.f hcd (c := f 110 4 < 150) (s1 := (4, [(0, .ref 12), (1, .ref 110), (2, .int a0), (3, .int a1), (4, .int a2)], [], am_SH, (f, g))) rfl c2 ?_
    exact am_Ev.cast (a := (none, am_SH, (f, g))) (by cases h; rfl) (am_Ev.ret hcd rfl)
set_option maxRecDepth 100000 in
set_option maxHeartbeats 4000000 in
theorem xb_note_110_ok {sc : Nat × (Nat → Int32)} (d : Nat) (a0 : Int32) (a1 : Int32) (a2 : Int32) (a3 : Bool) (f g : (Nat → Nat → Int32)) (r : (Nat → Nat → Int32)) (h : xb_note_110 a0 a1 a2 a3 f = some r) : am_Ev sc (d + 1) 5 (0, [(0, .ref 120), (1, .ref 110), (2, .int a0), (3, .int a1), (4, .int a2), (5, .int (am_b a3))], [], am_SH, (f, g)) (none, am_SH, (r, g)) := by
  have hcd : am_code 5 = am_c5 := rfl
  unfold xb_note_110 at h
  refine am_Ev.go hcd 1 (s' := (1, [(0, .ref 120), (1, .ref 110), (2, .int a0), (3, .int a1), (4, .int a2), (5, .int (am_b a3))], [.int (am_b a3)], am_SH, (f, g))) rfl ?_
  rcases am_ite h with ⟨c2, h⟩ | ⟨c2, h⟩
  · refine am_Ev.f hcd (c := am_b a3 = 0) (s1 := (2, [(0, .ref 120), (1, .ref 110), (2, .int a0), (3, .int a1), (4, .int a2), (5, .int (am_b a3))], [], am_SH, (f, g))) rfl (am_b_t c2) ?_
    refine am_Ev.go hcd 7 (s' := (9, [(0, .ref 120), (1, .ref 110), (2, .int a0), (3, .int a1), (4, .int a2), (5, .int (am_b a3))], [.int a2, .int a1, .int a0, .ref 110, .ref 12], am_SH, (f, g))) rfl ?_
    obtain ⟨p1, hp1, h⟩ := am_bind_some h
    refine am_Ev.call hcd (a := 19) (s0 := (0, [(0, .ref 12), (1, .ref 110), (2, .int a0), (3, .int a1), (4, .int a2)], [], am_SH, (f, g))) (q := (none, am_SH, (p1, g))) (s1 := (10, [(0, .ref 120), (1, .ref 110), (2, .int a0), (3, .int a1), (4, .int a2), (5, .int (am_b a3))], [], am_SH, (p1, g))) rfl rfl (xk_write_12_110_ok (d) a0 a1 a2 f g p1 hp1) ?_
    exact am_Ev.cast (a := (none, am_SH, (p1, g))) (by cases h; rfl) (am_Ev.ret hcd rfl)
  · refine am_Ev.t hcd (c := am_b a3 = 0) (s1 := (10, [(0, .ref 120), (1, .ref 110), (2, .int a0), (3, .int a1), (4, .int a2), (5, .int (am_b a3))], [], am_SH, (f, g))) rfl (am_b_f c2) ?_
    exact am_Ev.cast (a := (none, am_SH, (f, g))) (by cases h; rfl) (am_Ev.ret hcd rfl)
set_option maxRecDepth 100000 in
set_option maxHeartbeats 4000000 in
theorem xb_putUnder_110_ok {sc : Nat × (Nat → Int32)} (d : Nat) (a0 : Int32) (a1 : Int32) (a2 : Bool) (f g : (Nat → Nat → Int32)) (r : (Nat → Nat → Int32)) (h : xb_putUnder_110 a0 a1 a2 f = some r) : am_Ev sc (d + 2) 3 (0, [(0, .ref 120), (1, .ref 110), (2, .int a0), (3, .int a1), (4, .int (am_b a2))], [], am_SH, (f, g)) (none, am_SH, (r, g)) := by
  have hcd : am_code 3 = am_c3 := rfl
  unfold xb_putUnder_110 at h
  refine am_Ev.go hcd 3 (s' := (3, [(0, .ref 120), (1, .ref 110), (2, .int a0), (3, .int a1), (4, .int (am_b a2))], [.int a1, .int a0, .ref 110], am_SH, (f, g))) rfl ?_
  obtain ⟨p1, hp1, h⟩ := am_bind_some h
  refine am_Ev.call hcd (a := 27) (s0 := (0, [(0, .ref 110), (1, .int a0), (2, .int a1)], [], am_SH, (f, g))) (q := ((some (.int (am_b p1))), am_SH, (f, g))) (s1 := (4, [(0, .ref 120), (1, .ref 110), (2, .int a0), (3, .int a1), (4, .int (am_b a2))], [.int (am_b p1)], am_SH, (f, g))) rfl rfl (xc_canGoUnder_110_ok (d) a0 a1 f g p1 hp1) ?_
  rcases am_ite h with ⟨c5, h⟩ | ⟨c5, h⟩
  · refine am_Ev.f hcd (c := am_b p1 = 0) (s1 := (6, [(0, .ref 120), (1, .ref 110), (2, .int a0), (3, .int a1), (4, .int (am_b a2))], [], am_SH, (f, g))) rfl (am_b_t c5) ?_
    refine am_Ev.go hcd 4 (s' := (10, [(0, .ref 120), (1, .ref 110), (2, .int a0), (3, .int a1), (4, .int (am_b a2))], [.int a1, .int a0, .ref 113], am_SH, (f, g))) rfl ?_
    obtain ⟨c7, h⟩ := am_grd h
    obtain ⟨f2, Ef2, h⟩ := am_let_eq h
    refine am_Ev.t hcd (o := none) (c := am_in a0 6 = true) (s1 := (11, [(0, .ref 120), (1, .ref 110), (2, .int a0), (3, .int a1), (4, .int (am_b a2))], [], am_SH, (f2, g))) (by subst Ef2; exact rfl) c7 ?_
    refine am_Ev.go hcd 4 (s' := (15, [(0, .ref 120), (1, .ref 110), (2, .int a0), (3, .int a1), (4, .int (am_b a2))], [.int a1, .ref 118, .int a1, .ref 118], am_SH, (f2, g))) rfl ?_
    obtain ⟨c11, h⟩ := am_grd h
    refine am_Ev.t hcd (o := none) (c := am_in a1 12 = true) (s1 := (16, [(0, .ref 120), (1, .ref 110), (2, .int a0), (3, .int a1), (4, .int (am_b a2))], [.int (f2 118 a1.toNatClampNeg), .int a1, .ref 118], am_SH, (f2, g))) rfl c11 ?_
    refine am_Ev.go hcd 2 (s' := (18, [(0, .ref 120), (1, .ref 110), (2, .int a0), (3, .int a1), (4, .int (am_b a2))], [.int ((f2 118 a1.toNatClampNeg) + 1), .int a1, .ref 118], am_SH, (f2, g))) rfl ?_
    obtain ⟨c14, h⟩ := am_grd h
    obtain ⟨f3, Ef3, h⟩ := am_let_eq h
    refine am_Ev.t hcd (o := none) (c := am_in a1 12 = true) (s1 := (19, [(0, .ref 120), (1, .ref 110), (2, .int a0), (3, .int a1), (4, .int (am_b a2))], [], am_SH, (f3, g))) (by subst Ef3; exact rfl) c14 ?_
    refine am_Ev.go hcd 6 (s' := (25, [(0, .ref 120), (1, .ref 110), (2, .int a0), (3, .int a1), (4, .int (am_b a2))], [.int (am_b a2), .int a1, .int a0, .int 0, .ref 110, .ref 120], am_SH, (f3, g))) rfl ?_
    obtain ⟨p4, hp4, h⟩ := am_bind_some h
    refine am_Ev.call hcd (a := 5) (s0 := (0, [(0, .ref 120), (1, .ref 110), (2, .int 0), (3, .int a0), (4, .int a1), (5, .int (am_b a2))], [], am_SH, (f3, g))) (q := (none, am_SH, (p4, g))) (s1 := (26, [(0, .ref 120), (1, .ref 110), (2, .int a0), (3, .int a1), (4, .int (am_b a2))], [], am_SH, (p4, g))) rfl rfl (xb_note_110_ok (d) 0 a0 a1 a2 f3 g p4 hp4) ?_
    exact am_Ev.cast (a := (none, am_SH, (p4, g))) (by cases h; rfl) (am_Ev.ret hcd rfl)
  · refine am_Ev.t hcd (c := am_b p1 = 0) (s1 := (5, [(0, .ref 120), (1, .ref 110), (2, .int a0), (3, .int a1), (4, .int (am_b a2))], [], am_SH, (f, g))) rfl (am_b_f c5) ?_
    exact am_Ev.cast (a := (none, am_SH, (f, g))) (by cases h; rfl) (am_Ev.ret hcd rfl)
set_option maxRecDepth 100000 in
set_option maxHeartbeats 4000000 in
theorem xb_takeOut_110_ok {sc : Nat × (Nat → Int32)} (d : Nat) (a0 : Int32) (a1 : Bool) (f g : (Nat → Nat → Int32)) (r : (Nat → Nat → Int32)) (h : xb_takeOut_110 a0 a1 f = some r) : am_Ev sc (d + 2) 4 (0, [(0, .ref 120), (1, .ref 110), (2, .int a0), (3, .int (am_b a1))], [], am_SH, (f, g)) (none, am_SH, (r, g)) := by
  have hcd : am_code 4 = am_c4 := rfl
  unfold xb_takeOut_110 at h
  refine am_Ev.go hcd 3 (s' := (3, [(0, .ref 120), (1, .ref 110), (2, .int a0), (3, .int (am_b a1))], [.int a0, .ref 113], am_SH, (f, g))) rfl ?_
  obtain ⟨c2, h⟩ := am_grd h
  refine am_Ev.t hcd (o := none) (c := am_in a0 6 = true) (s1 := (4, [(0, .ref 120), (1, .ref 110), (2, .int a0), (3, .int (am_b a1))], [.int (f 113 a0.toNatClampNeg)], am_SH, (f, g))) rfl c2 ?_
  obtain ⟨t1, Et1, h⟩ := am_let_eq h
  refine am_Ev.go hcd 1 (s' := (5, [(0, .ref 120), (1, .ref 110), (2, .int a0), (3, .int (am_b a1)), (4, .int t1)], [], am_SH, (f, g))) (by subst Et1; exact rfl) ?_
  refine am_Ev.go hcd 2 (s' := (7, [(0, .ref 120), (1, .ref 110), (2, .int a0), (3, .int (am_b a1)), (4, .int t1)], [.int (-1), .int t1], am_SH, (f, g))) rfl ?_
  rcases am_ite h with ⟨c7, h⟩ | ⟨c7, h⟩
  · refine am_Ev.t hcd (c := t1 = (-1)) (s1 := (8, [(0, .ref 120), (1, .ref 110), (2, .int a0), (3, .int (am_b a1)), (4, .int t1)], [], am_SH, (f, g))) rfl c7 ?_
    exact am_Ev.cast (a := (none, am_SH, (f, g))) (by cases h; rfl) (am_Ev.ret hcd rfl)
  · refine am_Ev.f hcd (c := t1 = (-1)) (s1 := (9, [(0, .ref 120), (1, .ref 110), (2, .int a0), (3, .int (am_b a1)), (4, .int t1)], [], am_SH, (f, g))) rfl c7 ?_
    refine am_Ev.go hcd 4 (s' := (13, [(0, .ref 120), (1, .ref 110), (2, .int a0), (3, .int (am_b a1)), (4, .int t1)], [.int (-1), .int a0, .ref 113], am_SH, (f, g))) rfl ?_
    obtain ⟨c12, h⟩ := am_grd h
    obtain ⟨f2, Ef2, h⟩ := am_let_eq h
    refine am_Ev.t hcd (o := none) (c := am_in a0 6 = true) (s1 := (14, [(0, .ref 120), (1, .ref 110), (2, .int a0), (3, .int (am_b a1)), (4, .int t1)], [], am_SH, (f2, g))) (by subst Ef2; exact rfl) c12 ?_
    refine am_Ev.go hcd 6 (s' := (20, [(0, .ref 120), (1, .ref 110), (2, .int a0), (3, .int (am_b a1)), (4, .int t1)], [.int (am_b a1), .int t1, .int a0, .int 1, .ref 110, .ref 120], am_SH, (f2, g))) rfl ?_
    obtain ⟨p3, hp3, h⟩ := am_bind_some h
    refine am_Ev.call hcd (a := 5) (s0 := (0, [(0, .ref 120), (1, .ref 110), (2, .int 1), (3, .int a0), (4, .int t1), (5, .int (am_b a1))], [], am_SH, (f2, g))) (q := (none, am_SH, (p3, g))) (s1 := (21, [(0, .ref 120), (1, .ref 110), (2, .int a0), (3, .int (am_b a1)), (4, .int t1)], [], am_SH, (p3, g))) rfl rfl (xb_note_110_ok (d) 1 a0 t1 a1 f2 g p3 hp3) ?_
    exact am_Ev.cast (a := (none, am_SH, (p3, g))) (by cases h; rfl) (am_Ev.ret hcd rfl)
set_option maxRecDepth 100000 in
set_option maxHeartbeats 4000000 in
theorem xb_walkLine_110_ok {sc : Nat × (Nat → Int32)} (d : Nat) (a0 : Int32) (a1 : Bool) (f g : (Nat → Nat → Int32)) (r : (Nat → Nat → Int32)) (h : xb_walkLine_110 a0 a1 f = some r) : am_Ev sc (d + 3) 2 (0, [(0, .ref 120), (1, .ref 110), (2, .int a0), (3, .int (am_b a1))], [], am_SH, (f, g)) (none, am_SH, (r, g)) := by
  have hcd : am_code 2 = am_c2 := rfl
  unfold xb_walkLine_110 at h
  refine am_Ev.go hcd 5 (s' := (5, [(0, .ref 120), (1, .ref 110), (2, .int a0), (3, .int (am_b a1))], [.int a0, .ref 22], am_SH, (f, g))) rfl ?_
  obtain ⟨c2, h⟩ := am_grd h
  refine am_Ev.t hcd (o := none) (c := am_in a0 16 = true) (s1 := (6, [(0, .ref 120), (1, .ref 110), (2, .int a0), (3, .int (am_b a1))], [.int (f 22 a0.toNatClampNeg)], am_SH, (f, g))) rfl c2 ?_
  obtain ⟨t1, Et1, h⟩ := am_let_eq h
  refine am_Ev.go hcd 1 (s' := (7, [(0, .ref 120), (1, .ref 110), (2, .int a0), (3, .int (am_b a1)), (4, .int t1)], [], am_SH, (f, g))) (by subst Et1; exact rfl) ?_
  refine am_Ev.go hcd 5 (s' := (12, [(0, .ref 120), (1, .ref 110), (2, .int a0), (3, .int (am_b a1)), (4, .int t1)], [.int a0, .ref 24], am_SH, (f, g))) rfl ?_
  obtain ⟨c7, h⟩ := am_grd h
  refine am_Ev.t hcd (o := none) (c := am_in a0 16 = true) (s1 := (13, [(0, .ref 120), (1, .ref 110), (2, .int a0), (3, .int (am_b a1)), (4, .int t1)], [.int (f 24 a0.toNatClampNeg)], am_SH, (f, g))) rfl c7 ?_
  obtain ⟨t2, Et2, h⟩ := am_let_eq h
  refine am_Ev.go hcd 1 (s' := (14, [(0, .ref 120), (1, .ref 110), (2, .int a0), (3, .int (am_b a1)), (4, .int t1), (5, .int t2)], [], am_SH, (f, g))) (by subst Et2; exact rfl) ?_
  refine am_Ev.go hcd 5 (s' := (19, [(0, .ref 120), (1, .ref 110), (2, .int a0), (3, .int (am_b a1)), (4, .int t1), (5, .int t2)], [.int a0, .ref 23], am_SH, (f, g))) rfl ?_
  obtain ⟨c12, h⟩ := am_grd h
  refine am_Ev.t hcd (o := none) (c := am_in a0 16 = true) (s1 := (20, [(0, .ref 120), (1, .ref 110), (2, .int a0), (3, .int (am_b a1)), (4, .int t1), (5, .int t2)], [.int (f 23 a0.toNatClampNeg)], am_SH, (f, g))) rfl c12 ?_
  refine am_Ev.one hcd (s' := (am_swt (f 23 a0.toNatClampNeg) [(2, 21), (3, 27), (4, 33), (5, 39), (6, 45)] 52, [(0, .ref 120), (1, .ref 110), (2, .int a0), (3, .int (am_b a1)), (4, .int t1), (5, .int t2)], [], am_SH, (f, g))) rfl ?_
  rcases am_ite h with ⟨c16, h⟩ | ⟨c16, h⟩
  · rw [am_swt_t c16]
    refine am_Ev.go hcd 4 (s' := (25, [(0, .ref 120), (1, .ref 110), (2, .int a0), (3, .int (am_b a1)), (4, .int t1), (5, .int t2)], [.int t2, .int t1, .ref 114], am_SH, (f, g))) rfl ?_
    obtain ⟨c18, h⟩ := am_grd h
    obtain ⟨f3, Ef3, h⟩ := am_let_eq h
    refine am_Ev.t hcd (o := none) (c := am_in t1 6 = true) (s1 := (26, [(0, .ref 120), (1, .ref 110), (2, .int a0), (3, .int (am_b a1)), (4, .int t1), (5, .int t2)], [], am_SH, (f3, g))) (by subst Ef3; exact rfl) c18 ?_
    refine am_Ev.go hcd 1 (s' := (57, [(0, .ref 120), (1, .ref 110), (2, .int a0), (3, .int (am_b a1)), (4, .int t1), (5, .int t2)], [], am_SH, (f3, g))) rfl ?_
    exact am_Ev.cast (a := (none, am_SH, (f3, g))) (by cases h; rfl) (am_Ev.ret hcd rfl)
  rw [am_swt_f c16]
  rcases am_ite h with ⟨c25, h⟩ | ⟨c25, h⟩
  · rw [am_swt_t c25]
    refine am_Ev.go hcd 4 (s' := (31, [(0, .ref 120), (1, .ref 110), (2, .int a0), (3, .int (am_b a1)), (4, .int t1), (5, .int t2)], [.int (-1), .int t1, .ref 114], am_SH, (f, g))) rfl ?_
    obtain ⟨c27, h⟩ := am_grd h
    obtain ⟨f4, Ef4, h⟩ := am_let_eq h
    refine am_Ev.t hcd (o := none) (c := am_in t1 6 = true) (s1 := (32, [(0, .ref 120), (1, .ref 110), (2, .int a0), (3, .int (am_b a1)), (4, .int t1), (5, .int t2)], [], am_SH, (f4, g))) (by subst Ef4; exact rfl) c27 ?_
    refine am_Ev.go hcd 1 (s' := (57, [(0, .ref 120), (1, .ref 110), (2, .int a0), (3, .int (am_b a1)), (4, .int t1), (5, .int t2)], [], am_SH, (f4, g))) rfl ?_
    exact am_Ev.cast (a := (none, am_SH, (f4, g))) (by cases h; rfl) (am_Ev.ret hcd rfl)
  rw [am_swt_f c25]
  rcases am_ite h with ⟨c34, h⟩ | ⟨c34, h⟩
  · rw [am_swt_t c34]
    refine am_Ev.go hcd 4 (s' := (37, [(0, .ref 120), (1, .ref 110), (2, .int a0), (3, .int (am_b a1)), (4, .int t1), (5, .int t2)], [.int 300, .int t1, .ref 112], am_SH, (f, g))) rfl ?_
    obtain ⟨c36, h⟩ := am_grd h
    obtain ⟨f5, Ef5, h⟩ := am_let_eq h
    refine am_Ev.t hcd (o := none) (c := am_in t1 6 = true) (s1 := (38, [(0, .ref 120), (1, .ref 110), (2, .int a0), (3, .int (am_b a1)), (4, .int t1), (5, .int t2)], [], am_SH, (f5, g))) (by subst Ef5; exact rfl) c36 ?_
    refine am_Ev.go hcd 1 (s' := (57, [(0, .ref 120), (1, .ref 110), (2, .int a0), (3, .int (am_b a1)), (4, .int t1), (5, .int t2)], [], am_SH, (f5, g))) rfl ?_
    exact am_Ev.cast (a := (none, am_SH, (f5, g))) (by cases h; rfl) (am_Ev.ret hcd rfl)
  rw [am_swt_f c34]
  rcases am_ite h with ⟨c43, h⟩ | ⟨c43, h⟩
  · rw [am_swt_t c43]
    refine am_Ev.go hcd 4 (s' := (43, [(0, .ref 120), (1, .ref 110), (2, .int a0), (3, .int (am_b a1)), (4, .int t1), (5, .int t2)], [.int 0, .int t1, .ref 111], am_SH, (f, g))) rfl ?_
    obtain ⟨c45, h⟩ := am_grd h
    obtain ⟨f6, Ef6, h⟩ := am_let_eq h
    refine am_Ev.t hcd (o := none) (c := am_in t1 6 = true) (s1 := (44, [(0, .ref 120), (1, .ref 110), (2, .int a0), (3, .int (am_b a1)), (4, .int t1), (5, .int t2)], [], am_SH, (f6, g))) (by subst Ef6; exact rfl) c45 ?_
    refine am_Ev.go hcd 1 (s' := (57, [(0, .ref 120), (1, .ref 110), (2, .int a0), (3, .int (am_b a1)), (4, .int t1), (5, .int t2)], [], am_SH, (f6, g))) rfl ?_
    exact am_Ev.cast (a := (none, am_SH, (f6, g))) (by cases h; rfl) (am_Ev.ret hcd rfl)
  rw [am_swt_f c43]
  rcases am_ite h with ⟨c52, h⟩ | ⟨c52, h⟩
  · rw [am_swt_t c52]
    refine am_Ev.go hcd 5 (s' := (50, [(0, .ref 120), (1, .ref 110), (2, .int a0), (3, .int (am_b a1)), (4, .int t1), (5, .int t2)], [.int (am_b a1), .int t2, .int t1, .ref 110, .ref 120], am_SH, (f, g))) rfl ?_
    obtain ⟨p7, hp7, h⟩ := am_bind_some h
    refine am_Ev.call hcd (a := 3) (s0 := (0, [(0, .ref 120), (1, .ref 110), (2, .int t1), (3, .int t2), (4, .int (am_b a1))], [], am_SH, (f, g))) (q := (none, am_SH, (p7, g))) (s1 := (51, [(0, .ref 120), (1, .ref 110), (2, .int a0), (3, .int (am_b a1)), (4, .int t1), (5, .int t2)], [], am_SH, (p7, g))) rfl rfl (xb_putUnder_110_ok (d) t1 t2 a1 f g p7 hp7) ?_
    refine am_Ev.go hcd 1 (s' := (57, [(0, .ref 120), (1, .ref 110), (2, .int a0), (3, .int (am_b a1)), (4, .int t1), (5, .int t2)], [], am_SH, (p7, g))) rfl ?_
    exact am_Ev.cast (a := (none, am_SH, (p7, g))) (by cases h; rfl) (am_Ev.ret hcd rfl)
  rw [am_swt_f c52]
  rw [am_swt_n]
  refine am_Ev.go hcd 4 (s' := (56, [(0, .ref 120), (1, .ref 110), (2, .int a0), (3, .int (am_b a1)), (4, .int t1), (5, .int t2)], [.int (am_b a1), .int t1, .ref 110, .ref 120], am_SH, (f, g))) rfl ?_
  obtain ⟨p8, hp8, h⟩ := am_bind_some h
  refine am_Ev.call hcd (a := 4) (s0 := (0, [(0, .ref 120), (1, .ref 110), (2, .int t1), (3, .int (am_b a1))], [], am_SH, (f, g))) (q := (none, am_SH, (p8, g))) (s1 := (57, [(0, .ref 120), (1, .ref 110), (2, .int a0), (3, .int (am_b a1)), (4, .int t1), (5, .int t2)], [], am_SH, (p8, g))) rfl rfl (xb_takeOut_110_ok (d) t1 a1 f g p8 hp8) ?_
  exact am_Ev.cast (a := (none, am_SH, (p8, g))) (by cases h; rfl) (am_Ev.ret hcd rfl)
