set_option maxRecDepth 100000 in
set_option maxHeartbeats 4000000 in
theorem x_forgetPasts_ok {sc : Nat × (Nat → Int32)} (d : Nat)  (f g : (Nat → Nat → Int32)) : am_Ev sc (d) 173 (0, [(0, .ref 0)], [], am_SH, (f, g)) (none, am_SH, ((x_forgetPasts  f), g)) := by
  have hcd : am_code 173 = am_c173 := rfl
  obtain ⟨r, h⟩ : ∃ r, r = x_forgetPasts  f := ⟨_, rfl⟩
  rw [← h]
  unfold x_forgetPasts at h
  obtain ⟨f1, Ef1, h⟩ := am_let_eq' h
  refine am_Ev.go hcd 3 (s' := (3, [(0, .ref 0)], [], am_SH, (f1, g))) (by subst Ef1; exact rfl) ?_
  exact am_Ev.cast (a := (none, am_SH, (f1, g))) (by subst h; rfl) (am_Ev.ret hcd rfl)
set_option maxRecDepth 100000 in
set_option maxHeartbeats 4000000 in
theorem x_state_ok {sc : Nat × (Nat → Int32)} (d : Nat) (a0 : Int32) (f g : (Nat → Nat → Int32)) : am_Ev sc (d + 1) 127 (0, [(0, .ref 0), (1, .int a0)], [], am_SH, (f, g)) ((some (.int (x_state a0 f).1)), am_SH, ((x_state a0 f).2, g)) := by
  have hcd : am_code 127 = am_c127 := rfl
  obtain ⟨r, h⟩ : ∃ r, r = x_state a0 f := ⟨_, rfl⟩
  rw [← h]
  unfold x_state at h
  obtain ⟨t1, Et1, h⟩ := am_let_eq' h
  refine am_Ev.go hcd 5 (s' := (5, [(0, .ref 0), (1, .int a0), (2, .int t1)], [], am_SH, (f, g))) (by subst Et1; exact rfl) ?_
  obtain ⟨f2, Ef2, h⟩ := am_let_eq' h
  refine am_Ev.go hcd 5 (s' := (10, [(0, .ref 0), (1, .int a0), (2, .int t1)], [], am_SH, (f2, g))) (by subst Ef2; exact rfl) ?_
  refine am_Ev.go hcd 1 (s' := (11, [(0, .ref 0), (1, .int a0), (2, .int t1)], [.ref 0], am_SH, (f2, g))) rfl ?_
  obtain ⟨p3, Ep3, h⟩ := am_let_eq' h
  refine am_Ev.call hcd (a := 173) (s0 := (0, [(0, .ref 0)], [], am_SH, (f2, g))) (q := (none, am_SH, (p3, g))) (s1 := (12, [(0, .ref 0), (1, .int a0), (2, .int t1)], [], am_SH, (p3, g))) rfl rfl (by subst Ep3; exact x_forgetPasts_ok (d)  f2 g) ?_
  refine am_Ev.go hcd 1 (s' := (13, [(0, .ref 0), (1, .int a0), (2, .int t1)], [.int t1], am_SH, (p3, g))) rfl ?_
  exact am_Ev.cast (a := ((some (.int (t1, p3).1)), am_SH, ((t1, p3).2, g))) (by subst h; rfl) (am_Ev.ret hcd rfl)
set_option maxRecDepth 100000 in
set_option maxHeartbeats 4000000 in
theorem x_within_ok {sc : Nat × (Nat → Int32)} (d : Nat) (a0 : Int32) (a1 : Int32) (a2 : Int32) (hp : am_H) : am_Ev sc (d) 170 (0, [(0, .int a0), (1, .int a1), (2, .int a2)], [], am_SH, hp) ((some (.int (am_b (x_within a0 a1 a2)))), am_SH, hp) := by
  have hcd : am_code 170 = am_c170 := rfl
  obtain ⟨r, h⟩ : ∃ r, r = x_within a0 a1 a2 := ⟨_, rfl⟩
  rw [← h]
  unfold x_within at h
  refine am_Ev.go hcd 2 (s' := (2, [(0, .int a0), (1, .int a1), (2, .int a2)], [.int a1, .int a0], am_SH, hp)) rfl ?_
  rcases am_itv h with ⟨c4, h⟩ | ⟨c4, h⟩
  · refine am_Ev.t hcd (c := a0 < a1) (s1 := (8, [(0, .int a0), (1, .int a1), (2, .int a2)], [], am_SH, hp)) rfl c4 ?_
    refine am_Ev.go hcd 1 (s' := (9, [(0, .int a0), (1, .int a1), (2, .int a2)], [.int 0], am_SH, hp)) rfl ?_
    exact am_Ev.cast (a := ((some (.int (am_b false))), am_SH, hp)) (by subst h; rfl) (am_Ev.ret hcd rfl)
  · refine am_Ev.f hcd (c := a0 < a1) (s1 := (3, [(0, .int a0), (1, .int a1), (2, .int a2)], [], am_SH, hp)) rfl c4 ?_
    refine am_Ev.go hcd 2 (s' := (5, [(0, .int a0), (1, .int a1), (2, .int a2)], [.int a2, .int a0], am_SH, hp)) rfl ?_
    rcases am_itv h with ⟨c10, h⟩ | ⟨c10, h⟩
    · refine am_Ev.t hcd (c := a2 < a0) (s1 := (8, [(0, .int a0), (1, .int a1), (2, .int a2)], [], am_SH, hp)) rfl c10 ?_
      refine am_Ev.go hcd 1 (s' := (9, [(0, .int a0), (1, .int a1), (2, .int a2)], [.int 0], am_SH, hp)) rfl ?_
      exact am_Ev.cast (a := ((some (.int (am_b false))), am_SH, hp)) (by subst h; rfl) (am_Ev.ret hcd rfl)
    · refine am_Ev.f hcd (c := a2 < a0) (s1 := (6, [(0, .int a0), (1, .int a1), (2, .int a2)], [], am_SH, hp)) rfl c10 ?_
      refine am_Ev.go hcd 2 (s' := (9, [(0, .int a0), (1, .int a1), (2, .int a2)], [.int 1], am_SH, hp)) rfl ?_
      exact am_Ev.cast (a := ((some (.int (am_b true))), am_SH, hp)) (by subst h; rfl) (am_Ev.ret hcd rfl)
set_option maxRecDepth 100000 in
set_option maxHeartbeats 4000000 in
theorem xc_addGlass_2_ok {sc : Nat × (Nat → Int32)} (d : Nat) (a0 : Int32) (f g : (Nat → Nat → Int32)) (r : Int32 × (Nat → Nat → Int32)) (h : xc_addGlass_2 a0 f = some r) : am_Ev sc (d) 24 (0, [(0, .ref 2), (1, .int a0)], [], am_SH, (f, g)) ((some (.int r.1)), am_SH, (r.2, g)) := by
  have hcd : am_code 24 = am_c24 := rfl
  unfold xc_addGlass_2 at h
  obtain ⟨t1, Et1, h⟩ := am_let_eq h
  refine am_Ev.go hcd 3 (s' := (3, [(0, .ref 2), (1, .int a0), (2, .int t1)], [], am_SH, (f, g))) (by subst Et1; exact rfl) ?_
  refine am_Ev.go hcd 4 (s' := (7, [(0, .ref 2), (1, .int a0), (2, .int t1)], [.int a0, .int t1, .ref 3], am_SH, (f, g))) rfl ?_
  obtain ⟨c4, h⟩ := am_grd h
  obtain ⟨f2, Ef2, h⟩ := am_let_eq h
  refine am_Ev.t hcd (o := none) (c := am_in t1 6 = true) (s1 := (8, [(0, .ref 2), (1, .int a0), (2, .int t1)], [], am_SH, (f2, g))) (by subst Ef2; exact rfl) c4 ?_
  refine am_Ev.go hcd 4 (s' := (12, [(0, .ref 2), (1, .int a0), (2, .int t1)], [.int 300, .int t1, .ref 4], am_SH, (f2, g))) rfl ?_
  obtain ⟨c8, h⟩ := am_grd h
  obtain ⟨f3, Ef3, h⟩ := am_let_eq h
  refine am_Ev.t hcd (o := none) (c := am_in t1 6 = true) (s1 := (13, [(0, .ref 2), (1, .int a0), (2, .int t1)], [], am_SH, (f3, g))) (by subst Ef3; exact rfl) c8 ?_
  refine am_Ev.go hcd 4 (s' := (17, [(0, .ref 2), (1, .int a0), (2, .int t1)], [.int (-1), .int t1, .ref 5], am_SH, (f3, g))) rfl ?_
  obtain ⟨c12, h⟩ := am_grd h
  obtain ⟨f4, Ef4, h⟩ := am_let_eq h
  refine am_Ev.t hcd (o := none) (c := am_in t1 6 = true) (s1 := (18, [(0, .ref 2), (1, .int a0), (2, .int t1)], [], am_SH, (f4, g))) (by subst Ef4; exact rfl) c12 ?_
  refine am_Ev.go hcd 4 (s' := (22, [(0, .ref 2), (1, .int a0), (2, .int t1)], [.int (-1), .int t1, .ref 6], am_SH, (f4, g))) rfl ?_
  obtain ⟨c16, h⟩ := am_grd h
  obtain ⟨f5, Ef5, h⟩ := am_let_eq h
  refine am_Ev.t hcd (o := none) (c := am_in t1 6 = true) (s1 := (23, [(0, .ref 2), (1, .int a0), (2, .int t1)], [], am_SH, (f5, g))) (by subst Ef5; exact rfl) c16 ?_
  refine am_Ev.go hcd 4 (s' := (27, [(0, .ref 2), (1, .int a0), (2, .int t1)], [.int 0, .int t1, .ref 7], am_SH, (f5, g))) rfl ?_
  obtain ⟨c20, h⟩ := am_grd h
  obtain ⟨f6, Ef6, h⟩ := am_let_eq h
  refine am_Ev.t hcd (o := none) (c := am_in t1 6 = true) (s1 := (28, [(0, .ref 2), (1, .int a0), (2, .int t1)], [], am_SH, (f6, g))) (by subst Ef6; exact rfl) c20 ?_
  obtain ⟨f7, Ef7, h⟩ := am_let_eq h
  refine am_Ev.go hcd 6 (s' := (34, [(0, .ref 2), (1, .int a0), (2, .int t1)], [], am_SH, (f7, g))) (by subst Ef7; exact rfl) ?_
  refine am_Ev.go hcd 1 (s' := (35, [(0, .ref 2), (1, .int a0), (2, .int t1)], [.int t1], am_SH, (f7, g))) rfl ?_
  exact am_Ev.cast (a := ((some (.int (t1, f7).1)), am_SH, ((t1, f7).2, g))) (by cases h; rfl) (am_Ev.ret hcd rfl)
set_option maxRecDepth 100000 in
set_option maxHeartbeats 4000000 in
theorem x_glass_ok {sc : Nat × (Nat → Int32)} (d : Nat) (a0 : Int32) (f g : (Nat → Nat → Int32)) (r : Int32 × (Nat → Nat → Int32)) (h : x_glass a0 f = some r) : am_Ev sc (d + 1) 128 (0, [(0, .ref 0), (1, .int a0)], [], am_SH, (f, g)) ((some (.int r.1)), am_SH, (r.2, g)) := by
  have hcd : am_code 128 = am_c128 := rfl
  unfold x_glass at h
  refine am_Ev.go hcd 7 (s' := (7, [(0, .ref 0), (1, .int a0), (2, .ref 2)], [.int 99, .int 0, .int a0], am_SH, (f, g))) rfl ?_
  refine am_Ev.call hcd (a := 170) (s0 := (0, [(0, .int a0), (1, .int 0), (2, .int 99)], [], am_SH, (f, g))) (q := ((some (.int (am_b (x_within a0 0 99)))), am_SH, (f, g))) (s1 := (8, [(0, .ref 0), (1, .int a0), (2, .ref 2)], [.int (am_b (x_within a0 0 99))], am_SH, (f, g))) rfl rfl (x_within_ok (d) a0 0 99 (f, g)) ?_
  rcases am_ite h with ⟨c4, h⟩ | ⟨c4, h⟩
  · refine am_Ev.f hcd (c := am_b (x_within a0 0 99) = 0) (s1 := (9, [(0, .ref 0), (1, .int a0), (2, .ref 2)], [], am_SH, (f, g))) rfl (am_b_t c4) ?_
    refine am_Ev.go hcd 3 (s' := (12, [(0, .ref 0), (1, .int a0), (2, .ref 2)], [.int 6, .int (f 2 0)], am_SH, (f, g))) rfl ?_
    rcases am_ite h with ⟨c6, h⟩ | ⟨c6, h⟩
    · refine am_Ev.t hcd (c := f 2 0 < 6) (s1 := (15, [(0, .ref 0), (1, .int a0), (2, .ref 2)], [], am_SH, (f, g))) rfl c6 ?_
      refine am_Ev.go hcd 1 (s' := (16, [(0, .ref 0), (1, .int a0), (2, .ref 2)], [.ref 0], am_SH, (f, g))) rfl ?_
      obtain ⟨p2, Ep2, h⟩ := am_let_eq h
      refine am_Ev.call hcd (a := 173) (s0 := (0, [(0, .ref 0)], [], am_SH, (f, g))) (q := (none, am_SH, (p2, g))) (s1 := (17, [(0, .ref 0), (1, .int a0), (2, .ref 2)], [], am_SH, (p2, g))) rfl rfl (by subst Ep2; exact x_forgetPasts_ok (d)  f g) ?_
      refine am_Ev.go hcd 2 (s' := (19, [(0, .ref 0), (1, .int a0), (2, .ref 2)], [.int a0, .ref 2], am_SH, (p2, g))) rfl ?_
      obtain ⟨p3, hp3, h⟩ := am_bind_some h
      refine am_Ev.call hcd (a := 24) (s0 := (0, [(0, .ref 2), (1, .int a0)], [], am_SH, (p2, g))) (q := ((some (.int p3.1)), am_SH, (p3.2, g))) (s1 := (20, [(0, .ref 0), (1, .int a0), (2, .ref 2)], [.int p3.1], am_SH, (p3.2, g))) rfl rfl (xc_addGlass_2_ok (d) a0 p2 g p3 hp3) ?_
      exact am_Ev.cast (a := ((some (.int (p3.1, p3.2).1)), am_SH, ((p3.1, p3.2).2, g))) (by cases h; rfl) (am_Ev.ret hcd rfl)
    · refine am_Ev.f hcd (c := f 2 0 < 6) (s1 := (13, [(0, .ref 0), (1, .int a0), (2, .ref 2)], [], am_SH, (f, g))) rfl c6 ?_
      refine am_Ev.go hcd 1 (s' := (14, [(0, .ref 0), (1, .int a0), (2, .ref 2)], [.int (-1)], am_SH, (f, g))) rfl ?_
      exact am_Ev.cast (a := ((some (.int ((-1), f).1)), am_SH, (((-1), f).2, g))) (by cases h; rfl) (am_Ev.ret hcd rfl)
  · refine am_Ev.t hcd (c := am_b (x_within a0 0 99) = 0) (s1 := (13, [(0, .ref 0), (1, .int a0), (2, .ref 2)], [], am_SH, (f, g))) rfl (am_b_f c4) ?_
    refine am_Ev.go hcd 1 (s' := (14, [(0, .ref 0), (1, .int a0), (2, .ref 2)], [.int (-1)], am_SH, (f, g))) rfl ?_
    exact am_Ev.cast (a := ((some (.int ((-1), f).1)), am_SH, (((-1), f).2, g))) (by cases h; rfl) (am_Ev.ret hcd rfl)
set_option maxRecDepth 100000 in
set_option maxHeartbeats 4000000 in
theorem xc_addWitness_2_ok {sc : Nat × (Nat → Int32)} (d : Nat) (a0 : Int32) (f g : (Nat → Nat → Int32)) (r : Int32 × (Nat → Nat → Int32)) (h : xc_addWitness_2 a0 f = some r) : am_Ev sc (d) 25 (0, [(0, .ref 2), (1, .int a0)], [], am_SH, (f, g)) ((some (.int r.1)), am_SH, (r.2, g)) := by
  have hcd : am_code 25 = am_c25 := rfl
  unfold xc_addWitness_2 at h
  obtain ⟨t1, Et1, h⟩ := am_let_eq h
  refine am_Ev.go hcd 3 (s' := (3, [(0, .ref 2), (1, .int a0), (2, .int t1)], [], am_SH, (f, g))) (by subst Et1; exact rfl) ?_
  refine am_Ev.go hcd 4 (s' := (7, [(0, .ref 2), (1, .int a0), (2, .int t1)], [.int a0, .int t1, .ref 8], am_SH, (f, g))) rfl ?_
  obtain ⟨c4, h⟩ := am_grd h
  obtain ⟨f2, Ef2, h⟩ := am_let_eq h
  refine am_Ev.t hcd (o := none) (c := am_in t1 12 = true) (s1 := (8, [(0, .ref 2), (1, .int a0), (2, .int t1)], [], am_SH, (f2, g))) (by subst Ef2; exact rfl) c4 ?_
  refine am_Ev.go hcd 4 (s' := (12, [(0, .ref 2), (1, .int a0), (2, .int t1)], [.int 0, .int t1, .ref 9], am_SH, (f2, g))) rfl ?_
  obtain ⟨c8, h⟩ := am_grd h
  obtain ⟨f3, Ef3, h⟩ := am_let_eq h
  refine am_Ev.t hcd (o := none) (c := am_in t1 12 = true) (s1 := (13, [(0, .ref 2), (1, .int a0), (2, .int t1)], [], am_SH, (f3, g))) (by subst Ef3; exact rfl) c8 ?_
  refine am_Ev.go hcd 4 (s' := (17, [(0, .ref 2), (1, .int a0), (2, .int t1)], [.int 0, .int t1, .ref 10], am_SH, (f3, g))) rfl ?_
  obtain ⟨c12, h⟩ := am_grd h
  obtain ⟨f4, Ef4, h⟩ := am_let_eq h
  refine am_Ev.t hcd (o := none) (c := am_in t1 12 = true) (s1 := (18, [(0, .ref 2), (1, .int a0), (2, .int t1)], [], am_SH, (f4, g))) (by subst Ef4; exact rfl) c12 ?_
  refine am_Ev.go hcd 4 (s' := (22, [(0, .ref 2), (1, .int a0), (2, .int t1)], [.int 0, .int t1, .ref 11], am_SH, (f4, g))) rfl ?_
  obtain ⟨c16, h⟩ := am_grd h
  obtain ⟨f5, Ef5, h⟩ := am_let_eq h
  refine am_Ev.t hcd (o := none) (c := am_in t1 12 = true) (s1 := (23, [(0, .ref 2), (1, .int a0), (2, .int t1)], [], am_SH, (f5, g))) (by subst Ef5; exact rfl) c16 ?_
  obtain ⟨f6, Ef6, h⟩ := am_let_eq h
  refine am_Ev.go hcd 6 (s' := (29, [(0, .ref 2), (1, .int a0), (2, .int t1)], [], am_SH, (f6, g))) (by subst Ef6; exact rfl) ?_
  refine am_Ev.go hcd 1 (s' := (30, [(0, .ref 2), (1, .int a0), (2, .int t1)], [.int t1], am_SH, (f6, g))) rfl ?_
  exact am_Ev.cast (a := ((some (.int (t1, f6).1)), am_SH, ((t1, f6).2, g))) (by cases h; rfl) (am_Ev.ret hcd rfl)
set_option maxRecDepth 100000 in
set_option maxHeartbeats 4000000 in
theorem x_witness_ok {sc : Nat × (Nat → Int32)} (d : Nat) (a0 : Int32) (f g : (Nat → Nat → Int32)) (r : Int32 × (Nat → Nat → Int32)) (h : x_witness a0 f = some r) : am_Ev sc (d + 1) 129 (0, [(0, .ref 0), (1, .int a0)], [], am_SH, (f, g)) ((some (.int r.1)), am_SH, (r.2, g)) := by
  have hcd : am_code 129 = am_c129 := rfl
  unfold x_witness at h
  refine am_Ev.go hcd 7 (s' := (7, [(0, .ref 0), (1, .int a0), (2, .ref 2)], [.int 9, .int 0, .int a0], am_SH, (f, g))) rfl ?_
  refine am_Ev.call hcd (a := 170) (s0 := (0, [(0, .int a0), (1, .int 0), (2, .int 9)], [], am_SH, (f, g))) (q := ((some (.int (am_b (x_within a0 0 9)))), am_SH, (f, g))) (s1 := (8, [(0, .ref 0), (1, .int a0), (2, .ref 2)], [.int (am_b (x_within a0 0 9))], am_SH, (f, g))) rfl rfl (x_within_ok (d) a0 0 9 (f, g)) ?_
  rcases am_ite h with ⟨c4, h⟩ | ⟨c4, h⟩
  · refine am_Ev.f hcd (c := am_b (x_within a0 0 9) = 0) (s1 := (9, [(0, .ref 0), (1, .int a0), (2, .ref 2)], [], am_SH, (f, g))) rfl (am_b_t c4) ?_
    refine am_Ev.go hcd 3 (s' := (12, [(0, .ref 0), (1, .int a0), (2, .ref 2)], [.int 12, .int (f 2 1)], am_SH, (f, g))) rfl ?_
    rcases am_ite h with ⟨c6, h⟩ | ⟨c6, h⟩
    · refine am_Ev.t hcd (c := f 2 1 < 12) (s1 := (15, [(0, .ref 0), (1, .int a0), (2, .ref 2)], [], am_SH, (f, g))) rfl c6 ?_
      refine am_Ev.go hcd 1 (s' := (16, [(0, .ref 0), (1, .int a0), (2, .ref 2)], [.ref 0], am_SH, (f, g))) rfl ?_
      obtain ⟨p2, Ep2, h⟩ := am_let_eq h
      refine am_Ev.call hcd (a := 173) (s0 := (0, [(0, .ref 0)], [], am_SH, (f, g))) (q := (none, am_SH, (p2, g))) (s1 := (17, [(0, .ref 0), (1, .int a0), (2, .ref 2)], [], am_SH, (p2, g))) rfl rfl (by subst Ep2; exact x_forgetPasts_ok (d)  f g) ?_
      refine am_Ev.go hcd 2 (s' := (19, [(0, .ref 0), (1, .int a0), (2, .ref 2)], [.int a0, .ref 2], am_SH, (p2, g))) rfl ?_
      obtain ⟨p3, hp3, h⟩ := am_bind_some h
      refine am_Ev.call hcd (a := 25) (s0 := (0, [(0, .ref 2), (1, .int a0)], [], am_SH, (p2, g))) (q := ((some (.int p3.1)), am_SH, (p3.2, g))) (s1 := (20, [(0, .ref 0), (1, .int a0), (2, .ref 2)], [.int p3.1], am_SH, (p3.2, g))) rfl rfl (xc_addWitness_2_ok (d) a0 p2 g p3 hp3) ?_
      exact am_Ev.cast (a := ((some (.int (p3.1, p3.2).1)), am_SH, ((p3.1, p3.2).2, g))) (by cases h; rfl) (am_Ev.ret hcd rfl)
    · refine am_Ev.f hcd (c := f 2 1 < 12) (s1 := (13, [(0, .ref 0), (1, .int a0), (2, .ref 2)], [], am_SH, (f, g))) rfl c6 ?_
      refine am_Ev.go hcd 1 (s' := (14, [(0, .ref 0), (1, .int a0), (2, .ref 2)], [.int (-1)], am_SH, (f, g))) rfl ?_
      exact am_Ev.cast (a := ((some (.int ((-1), f).1)), am_SH, (((-1), f).2, g))) (by cases h; rfl) (am_Ev.ret hcd rfl)
  · refine am_Ev.t hcd (c := am_b (x_within a0 0 9) = 0) (s1 := (13, [(0, .ref 0), (1, .int a0), (2, .ref 2)], [], am_SH, (f, g))) rfl (am_b_f c4) ?_
    refine am_Ev.go hcd 1 (s' := (14, [(0, .ref 0), (1, .int a0), (2, .ref 2)], [.int (-1)], am_SH, (f, g))) rfl ?_
    exact am_Ev.cast (a := ((some (.int ((-1), f).1)), am_SH, (((-1), f).2, g))) (by cases h; rfl) (am_Ev.ret hcd rfl)
set_option maxRecDepth 100000 in
set_option maxHeartbeats 4000000 in
theorem xc_hasGlass_2_ok {sc : Nat × (Nat → Int32)} (d : Nat) (a0 : Int32) (f g : (Nat → Nat → Int32)) : am_Ev sc (d) 22 (0, [(0, .ref 2), (1, .int a0)], [], am_SH, (f, g)) ((some (.int (am_b (xc_hasGlass_2 a0 f)))), am_SH, (f, g)) := by
  have hcd : am_code 22 = am_c22 := rfl
  obtain ⟨r, h⟩ : ∃ r, r = xc_hasGlass_2 a0 f := ⟨_, rfl⟩
  rw [← h]
  unfold xc_hasGlass_2 at h
  refine am_Ev.go hcd 1 (s' := (1, [(0, .ref 2), (1, .int a0)], [.int a0], am_SH, (f, g))) rfl ?_
  rcases am_itv h with ⟨c4, h⟩ | ⟨c4, h⟩
  · refine am_Ev.t hcd (c := a0 < 0) (s1 := (8, [(0, .ref 2), (1, .int a0)], [], am_SH, (f, g))) rfl c4 ?_
    refine am_Ev.go hcd 1 (s' := (9, [(0, .ref 2), (1, .int a0)], [.int 0], am_SH, (f, g))) rfl ?_
    exact am_Ev.cast (a := ((some (.int (am_b false))), am_SH, (f, g))) (by subst h; rfl) (am_Ev.ret hcd rfl)
  · refine am_Ev.f hcd (c := a0 < 0) (s1 := (2, [(0, .ref 2), (1, .int a0)], [], am_SH, (f, g))) rfl c4 ?_
    refine am_Ev.go hcd 3 (s' := (5, [(0, .ref 2), (1, .int a0)], [.int (f 2 0), .int a0], am_SH, (f, g))) rfl ?_
    rcases am_itv h with ⟨c10, h⟩ | ⟨c10, h⟩
    · refine am_Ev.t hcd (c := a0 < f 2 0) (s1 := (6, [(0, .ref 2), (1, .int a0)], [], am_SH, (f, g))) rfl c10 ?_
      refine am_Ev.go hcd 2 (s' := (9, [(0, .ref 2), (1, .int a0)], [.int 1], am_SH, (f, g))) rfl ?_
      exact am_Ev.cast (a := ((some (.int (am_b true))), am_SH, (f, g))) (by subst h; rfl) (am_Ev.ret hcd rfl)
    · refine am_Ev.f hcd (c := a0 < f 2 0) (s1 := (8, [(0, .ref 2), (1, .int a0)], [], am_SH, (f, g))) rfl c10 ?_
      refine am_Ev.go hcd 1 (s' := (9, [(0, .ref 2), (1, .int a0)], [.int 0], am_SH, (f, g))) rfl ?_
      exact am_Ev.cast (a := ((some (.int (am_b false))), am_SH, (f, g))) (by subst h; rfl) (am_Ev.ret hcd rfl)
set_option maxRecDepth 100000 in
set_option maxHeartbeats 4000000 in
theorem xc_hasWitness_2_ok {sc : Nat × (Nat → Int32)} (d : Nat) (a0 : Int32) (f g : (Nat → Nat → Int32)) : am_Ev sc (d) 23 (0, [(0, .ref 2), (1, .int a0)], [], am_SH, (f, g)) ((some (.int (am_b (xc_hasWitness_2 a0 f)))), am_SH, (f, g)) := by
  have hcd : am_code 23 = am_c23 := rfl
  obtain ⟨r, h⟩ : ∃ r, r = xc_hasWitness_2 a0 f := ⟨_, rfl⟩
  rw [← h]
  unfold xc_hasWitness_2 at h
  refine am_Ev.go hcd 1 (s' := (1, [(0, .ref 2), (1, .int a0)], [.int a0], am_SH, (f, g))) rfl ?_
  rcases am_itv h with ⟨c4, h⟩ | ⟨c4, h⟩
  · refine am_Ev.t hcd (c := a0 < 0) (s1 := (8, [(0, .ref 2), (1, .int a0)], [], am_SH, (f, g))) rfl c4 ?_
    refine am_Ev.go hcd 1 (s' := (9, [(0, .ref 2), (1, .int a0)], [.int 0], am_SH, (f, g))) rfl ?_
    exact am_Ev.cast (a := ((some (.int (am_b false))), am_SH, (f, g))) (by subst h; rfl) (am_Ev.ret hcd rfl)
  · refine am_Ev.f hcd (c := a0 < 0) (s1 := (2, [(0, .ref 2), (1, .int a0)], [], am_SH, (f, g))) rfl c4 ?_
    refine am_Ev.go hcd 3 (s' := (5, [(0, .ref 2), (1, .int a0)], [.int (f 2 1), .int a0], am_SH, (f, g))) rfl ?_
    rcases am_itv h with ⟨c10, h⟩ | ⟨c10, h⟩
    · refine am_Ev.t hcd (c := a0 < f 2 1) (s1 := (6, [(0, .ref 2), (1, .int a0)], [], am_SH, (f, g))) rfl c10 ?_
      refine am_Ev.go hcd 2 (s' := (9, [(0, .ref 2), (1, .int a0)], [.int 1], am_SH, (f, g))) rfl ?_
      exact am_Ev.cast (a := ((some (.int (am_b true))), am_SH, (f, g))) (by subst h; rfl) (am_Ev.ret hcd rfl)
    · refine am_Ev.f hcd (c := a0 < f 2 1) (s1 := (8, [(0, .ref 2), (1, .int a0)], [], am_SH, (f, g))) rfl c10 ?_
      refine am_Ev.go hcd 1 (s' := (9, [(0, .ref 2), (1, .int a0)], [.int 0], am_SH, (f, g))) rfl ?_
      exact am_Ev.cast (a := ((some (.int (am_b false))), am_SH, (f, g))) (by subst h; rfl) (am_Ev.ret hcd rfl)
