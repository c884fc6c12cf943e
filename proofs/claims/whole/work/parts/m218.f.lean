set_option maxRecDepth 100000 in
set_option maxHeartbeats 4000000 in
theorem xr_append_36_ok {sc : Nat × (Nat → Int32)} (d : Nat) (a0 : Int32) (a1 : Int32) (f g : (Nat → Nat → Int32)) (r : Int32 × (Nat → Nat → Int32)) (h : xr_append_36 a0 a1 f = some r) : am_Ev sc (d) 85 (0, [(0, .ref 36), (1, .int a0), (2, .int a1)], [], am_SH, (f, g)) ((some (.int r.1)), am_SH, (r.2, g)) := by
  have hcd : am_code 85 = am_c85 := rfl
  unfold xr_append_36 at h
  refine am_Ev.go hcd 5 (s' := (5, [(0, .ref 36), (1, .int a0), (2, .int a1)], [.int (nI 6), .int (f 36 0)], am_SH, (f, g))) rfl ?_
  rcases am_ite h with ⟨c2, h⟩ | ⟨c2, h⟩
  · refine am_Ev.t hcd (c := f 36 0 < (nI 6)) (s1 := (8, [(0, .ref 36), (1, .int a0), (2, .int a1)], [], am_SH, (f, g))) rfl c2 ?_
    refine am_Ev.go hcd 5 (s' := (13, [(0, .ref 36), (1, .int a0), (2, .int a1)], [.int a0, .int (f 36 0), .ref 37], am_SH, (f, g))) rfl ?_
    obtain ⟨c5, h⟩ := am_grd h
    obtain ⟨f1, Ef1, h⟩ := am_let_eq h
    refine am_Ev.t hcd (o := none) (c := am_in (f 36 0) 6 = true) (s1 := (14, [(0, .ref 36), (1, .int a0), (2, .int a1)], [], am_SH, (f1, g))) (by subst Ef1; exact rfl) c5 ?_
    refine am_Ev.go hcd 5 (s' := (19, [(0, .ref 36), (1, .int a0), (2, .int a1)], [.int a1, .int (f1 36 0), .ref 38], am_SH, (f1, g))) rfl ?_
    obtain ⟨c9, h⟩ := am_grd h
    obtain ⟨f2, Ef2, h⟩ := am_let_eq h
    refine am_Ev.t hcd (o := none) (c := am_in (f1 36 0) 6 = true) (s1 := (20, [(0, .ref 36), (1, .int a0), (2, .int a1)], [], am_SH, (f2, g))) (by subst Ef2; exact rfl) c9 ?_
    obtain ⟨f3, Ef3, h⟩ := am_let_eq h
    refine am_Ev.go hcd 6 (s' := (26, [(0, .ref 36), (1, .int a0), (2, .int a1)], [], am_SH, (f3, g))) (by subst Ef3; exact rfl) ?_
    refine am_Ev.go hcd 2 (s' := (28, [(0, .ref 36), (1, .int a0), (2, .int a1)], [.int (f3 36 0)], am_SH, (f3, g))) rfl ?_
    exact am_Ev.cast (a := ((some (.int (f3 36 0, f3).1)), am_SH, ((f3 36 0, f3).2, g))) (by cases h; rfl) (am_Ev.ret hcd rfl)
  · refine am_Ev.f hcd (c := f 36 0 < (nI 6)) (s1 := (6, [(0, .ref 36), (1, .int a0), (2, .int a1)], [], am_SH, (f, g))) rfl c2 ?_
    refine am_Ev.go hcd 1 (s' := (7, [(0, .ref 36), (1, .int a0), (2, .int a1)], [.int (-1)], am_SH, (f, g))) rfl ?_
    exact am_Ev.cast (a := ((some (.int ((-1), f).1)), am_SH, (((-1), f).2, g))) (by cases h; rfl) (am_Ev.ret hcd rfl)
set_option maxRecDepth 100000 in
set_option maxHeartbeats 4000000 in
theorem x_saying_ok {sc : Nat × (Nat → Int32)} (d : Nat) (a0 : Int32) (a1 : Int32) (f g : (Nat → Nat → Int32)) (r : Int32 × (Nat → Nat → Int32)) (h : x_saying a0 a1 f = some r) : am_Ev sc (d + 1) 151 (0, [(0, .ref 0), (1, .int a0), (2, .int a1)], [], am_SH, (f, g)) ((some (.int r.1)), am_SH, (r.2, g)) := by
  have hcd : am_code 151 = am_c151 := rfl
  unfold x_saying at h
  refine am_Ev.go hcd 2 (s' := (2, [(0, .ref 0), (1, .int a0), (2, .int a1)], [.int (-1), .int a0], am_SH, (f, g))) rfl ?_
  rcases am_ite h with ⟨c2, h⟩ | ⟨c2, h⟩
  · refine am_Ev.t hcd (c := a0 = (-1)) (s1 := (3, [(0, .ref 0), (1, .int a0), (2, .int a1)], [], am_SH, (f, g))) rfl c2 ?_
    refine am_Ev.go hcd 3 (s' := (6, [(0, .ref 0), (1, .int a0), (2, .int a1)], [.ref 36], am_SH, (f, g))) rfl ?_
    obtain ⟨p1, Ep1, h⟩ := am_let_eq h
    refine am_Ev.call hcd (a := 86) (s0 := (0, [(0, .ref 36)], [], am_SH, (f, g))) (q := ((some (.int p1.1)), am_SH, (p1.2, g))) (s1 := (7, [(0, .ref 0), (1, .int a0), (2, .int a1)], [.int p1.1], am_SH, (p1.2, g))) rfl rfl (by subst Ep1; exact xr_clearAll_36_ok (d)  f g) ?_
    exact am_Ev.cast (a := ((some (.int (p1.1, p1.2).1)), am_SH, ((p1.1, p1.2).2, g))) (by cases h; rfl) (am_Ev.ret hcd rfl)
  · refine am_Ev.f hcd (c := a0 = (-1)) (s1 := (8, [(0, .ref 0), (1, .int a0), (2, .int a1)], [], am_SH, (f, g))) rfl c2 ?_
    refine am_Ev.go hcd 3 (s' := (11, [(0, .ref 0), (1, .int a0), (2, .int a1)], [.int 3, .int 0, .int a0], am_SH, (f, g))) rfl ?_
    refine am_Ev.call hcd (a := 170) (s0 := (0, [(0, .int a0), (1, .int 0), (2, .int 3)], [], am_SH, (f, g))) (q := ((some (.int (am_b (x_within a0 0 3)))), am_SH, (f, g))) (s1 := (12, [(0, .ref 0), (1, .int a0), (2, .int a1)], [.int (am_b (x_within a0 0 3))], am_SH, (f, g))) rfl rfl (x_within_ok (d) a0 0 3 (f, g)) ?_
    rcases am_ite h with ⟨c12, h⟩ | ⟨c12, h⟩
    · refine am_Ev.f hcd (c := am_b (x_within a0 0 3) = 0) (s1 := (13, [(0, .ref 0), (1, .int a0), (2, .int a1)], [], am_SH, (f, g))) rfl (am_b_t c12) ?_
      refine am_Ev.go hcd 2 (s' := (15, [(0, .ref 0), (1, .int a0), (2, .int a1)], [.int 2, .int a0], am_SH, (f, g))) rfl ?_
      rcases am_ite h with ⟨c14, h⟩ | ⟨c14, h⟩
      · refine am_Ev.t hcd (c := a0 < 2) (s1 := (16, [(0, .ref 0), (1, .int a0), (2, .int a1)], [], am_SH, (f, g))) rfl c14 ?_
        refine am_Ev.go hcd 3 (s' := (19, [(0, .ref 0), (1, .int a0), (2, .int a1)], [.int 50, .int 1, .int a1], am_SH, (f, g))) rfl ?_
        refine am_Ev.call hcd (a := 170) (s0 := (0, [(0, .int a1), (1, .int 1), (2, .int 50)], [], am_SH, (f, g))) (q := ((some (.int (am_b (x_within a1 1 50)))), am_SH, (f, g))) (s1 := (20, [(0, .ref 0), (1, .int a0), (2, .int a1)], [.int (am_b (x_within a1 1 50))], am_SH, (f, g))) rfl rfl (x_within_ok (d) a1 1 50 (f, g)) ?_
        rcases am_ite h with ⟨c19, h⟩ | ⟨c19, h⟩
        · refine am_Ev.f hcd (c := am_b (x_within a1 1 50) = 0) (s1 := (23, [(0, .ref 0), (1, .int a0), (2, .int a1)], [], am_SH, (f, g))) rfl (am_b_t c19) ?_
          refine am_Ev.go hcd 5 (s' := (28, [(0, .ref 0), (1, .int a0), (2, .int a1)], [.int a1, .int a0, .ref 36], am_SH, (f, g))) rfl ?_
          obtain ⟨p4, hp4, h⟩ := am_bind_some h
          refine am_Ev.call hcd (a := 85) (s0 := (0, [(0, .ref 36), (1, .int a0), (2, .int a1)], [], am_SH, (f, g))) (q := ((some (.int p4.1)), am_SH, (p4.2, g))) (s1 := (29, [(0, .ref 0), (1, .int a0), (2, .int a1)], [.int p4.1], am_SH, (p4.2, g))) rfl rfl (xr_append_36_ok (d) a0 a1 f g p4 hp4) ?_
          exact am_Ev.cast (a := ((some (.int (p4.1, p4.2).1)), am_SH, ((p4.1, p4.2).2, g))) (by cases h; rfl) (am_Ev.ret hcd rfl)
        · refine am_Ev.t hcd (c := am_b (x_within a1 1 50) = 0) (s1 := (21, [(0, .ref 0), (1, .int a0), (2, .int a1)], [], am_SH, (f, g))) rfl (am_b_f c19) ?_
          refine am_Ev.go hcd 1 (s' := (22, [(0, .ref 0), (1, .int a0), (2, .int a1)], [.int (-1)], am_SH, (f, g))) rfl ?_
          exact am_Ev.cast (a := ((some (.int ((-1), f).1)), am_SH, (((-1), f).2, g))) (by cases h; rfl) (am_Ev.ret hcd rfl)
      · refine am_Ev.f hcd (c := a0 < 2) (s1 := (23, [(0, .ref 0), (1, .int a0), (2, .int a1)], [], am_SH, (f, g))) rfl c14 ?_
        refine am_Ev.go hcd 5 (s' := (28, [(0, .ref 0), (1, .int a0), (2, .int a1)], [.int a1, .int a0, .ref 36], am_SH, (f, g))) rfl ?_
        obtain ⟨p5, hp5, h⟩ := am_bind_some h
        refine am_Ev.call hcd (a := 85) (s0 := (0, [(0, .ref 36), (1, .int a0), (2, .int a1)], [], am_SH, (f, g))) (q := ((some (.int p5.1)), am_SH, (p5.2, g))) (s1 := (29, [(0, .ref 0), (1, .int a0), (2, .int a1)], [.int p5.1], am_SH, (p5.2, g))) rfl rfl (xr_append_36_ok (d) a0 a1 f g p5 hp5) ?_
        exact am_Ev.cast (a := ((some (.int (p5.1, p5.2).1)), am_SH, ((p5.1, p5.2).2, g))) (by cases h; rfl) (am_Ev.ret hcd rfl)
    · refine am_Ev.t hcd (c := am_b (x_within a0 0 3) = 0) (s1 := (21, [(0, .ref 0), (1, .int a0), (2, .int a1)], [], am_SH, (f, g))) rfl (am_b_f c12) ?_
      refine am_Ev.go hcd 1 (s' := (22, [(0, .ref 0), (1, .int a0), (2, .int a1)], [.int (-1)], am_SH, (f, g))) rfl ?_
      exact am_Ev.cast (a := ((some (.int ((-1), f).1)), am_SH, (((-1), f).2, g))) (by cases h; rfl) (am_Ev.ret hcd rfl)
set_option maxRecDepth 100000 in
set_option maxHeartbeats 4000000 in
theorem xm_afterSaying_ok {sc : Nat × (Nat → Int32)} (d : Nat) (a0 : Int32) (a1 : Int32) (a2 : Int32) (hp : am_H) : am_Ev sc (d) 56 (0, [(0, .int a0), (1, .int a1), (2, .int a2)], [], am_SH, hp) ((some (.int (xm_afterSaying a0 a1 a2))), am_SH, hp) := by
  have hcd : am_code 56 = am_c56 := rfl
  obtain ⟨r, h⟩ : ∃ r, r = xm_afterSaying a0 a1 a2 := ⟨_, rfl⟩
  rw [← h]
  unfold xm_afterSaying at h
  refine am_Ev.go hcd 1 (s' := (1, [(0, .int a0), (1, .int a1), (2, .int a2)], [.int a1], am_SH, hp)) rfl ?_
  refine am_Ev.one hcd (s' := (am_swt a1 [(0, 2), (1, 6), (2, 10)] 14, [(0, .int a0), (1, .int a1), (2, .int a2)], [], am_SH, hp)) rfl ?_
  rcases am_itv h with ⟨c6, h⟩ | ⟨c6, h⟩
  · rw [am_swt_t c6]
    refine am_Ev.go hcd 3 (s' := (5, [(0, .int a0), (1, .int a1), (2, .int a2)], [.int (a0 - a2)], am_SH, hp)) rfl ?_
    exact am_Ev.cast (a := ((some (.int (a0 - a2))), am_SH, hp)) (by subst h; rfl) (am_Ev.ret hcd rfl)
  rw [am_swt_f c6]
  rcases am_itv h with ⟨c11, h⟩ | ⟨c11, h⟩
  · rw [am_swt_t c11]
    refine am_Ev.go hcd 3 (s' := (9, [(0, .int a0), (1, .int a1), (2, .int a2)], [.int (a0 + a2)], am_SH, hp)) rfl ?_
    exact am_Ev.cast (a := ((some (.int (a0 + a2))), am_SH, hp)) (by subst h; rfl) (am_Ev.ret hcd rfl)
  rw [am_swt_f c11]
  rcases am_itv h with ⟨c16, h⟩ | ⟨c16, h⟩
  · rw [am_swt_t c16]
    refine am_Ev.go hcd 3 (s' := (13, [(0, .int a0), (1, .int a1), (2, .int a2)], [.int (a0 / 2)], am_SH, hp)) rfl ?_
    exact am_Ev.cast (a := ((some (.int (a0 / 2))), am_SH, hp)) (by subst h; rfl) (am_Ev.ret hcd rfl)
  rw [am_swt_f c16]
  rw [am_swt_n]
  refine am_Ev.go hcd 3 (s' := (17, [(0, .int a0), (1, .int a1), (2, .int a2)], [.int (2 * a0)], am_SH, hp)) rfl ?_
  exact am_Ev.cast (a := ((some (.int (2 * a0))), am_SH, hp)) (by subst h; rfl) (am_Ev.ret hcd rfl)
set_option maxRecDepth 100000 in
set_option maxHeartbeats 4000000 in
theorem xm_fewestSayings_36_ok {sc : Nat × (Nat → Int32)} (d : Nat) (a0 : Int32) (a1 : Int32) (f g : (Nat → Nat → Int32)) (r : Int32 × (Nat → Nat → Int32)) (h : xm_fewestSayings_36 a0 a1 f = some r) : am_Ev sc (d + 1) 55 (0, [(0, .ref 143), (1, .ref 36), (2, .int a0), (3, .int a1)], [], am_SH, (f, g)) ((some (.int r.1)), am_SH, (r.2, g)) := by
  have hcd : am_code 55 = am_c55 := rfl
  unfold xm_fewestSayings_36 at h
  refine am_Ev.go hcd 2 (s' := (2, [(0, .ref 143), (1, .ref 36), (2, .int a0), (3, .int a1), (4, .int 0)], [], am_SH, (f, g))) rfl ?_
  obtain ⟨e4, he4, h⟩ := am_bind_some h
  have hK1 : (fun (e4 : (Nat → Nat → Int32)) => am_Ev sc (d + 1) 55 (14, [(0, .ref 143), (1, .ref 36), (2, .int a0), (3, .int a1)], [], am_SH, (e4, g)) ((some (.int r.1)), am_SH, (r.2, g))) e4 := by
    show am_Ev sc (d + 1) 55 (14, [(0, .ref 143), (1, .ref 36), (2, .int a0), (3, .int a1)], [], am_SH, (e4, g)) ((some (.int r.1)), am_SH, (r.2, g))
    refine am_Ev.go hcd 4 (s' := (18, [(0, .ref 143), (1, .ref 36), (2, .int a0), (3, .int a1)], [.int 0, .int a0, .ref 148], am_SH, (e4, g))) rfl ?_
    obtain ⟨c6, h⟩ := am_grd h
    obtain ⟨f5, Ef5, h⟩ := am_let_eq h
    refine am_Ev.t hcd (o := none) (c := am_in a0 100 = true) (s1 := (19, [(0, .ref 143), (1, .ref 36), (2, .int a0), (3, .int a1)], [], am_SH, (f5, g))) (by subst Ef5; exact rfl) c6 ?_
    obtain ⟨f6, Ef6, h⟩ := am_let_eq h
    refine am_Ev.go hcd 5 (s' := (24, [(0, .ref 143), (1, .ref 36), (2, .int a0), (3, .int a1)], [], am_SH, (f6, g))) (by subst Ef6; exact rfl) ?_
    refine am_Ev.go hcd 4 (s' := (28, [(0, .ref 143), (1, .ref 36), (2, .int a0), (3, .int a1), (4, .int 1), (5, .int 0)], [], am_SH, (f6, g))) rfl ?_
    obtain ⟨e19, he19, h⟩ := am_bind_some h
    have hK7 : (fun (e19 : (Nat → Nat → Int32)) => am_Ev sc (d + 1) 55 (97, [(0, .ref 143), (3, .int a1)], [], am_SH, (e19, g)) ((some (.int r.1)), am_SH, (r.2, g))) e19 := by
      show am_Ev sc (d + 1) 55 (97, [(0, .ref 143), (3, .int a1)], [], am_SH, (e19, g)) ((some (.int r.1)), am_SH, (r.2, g))
      refine am_Ev.go hcd 3 (s' := (100, [(0, .ref 143), (3, .int a1)], [.int a1, .ref 148], am_SH, (e19, g))) rfl ?_
      obtain ⟨c16, h⟩ := am_grd h
      refine am_Ev.t hcd (o := none) (c := am_in a1 100 = true) (s1 := (101, [(0, .ref 143), (3, .int a1)], [.int (e19 148 a1.toNatClampNeg)], am_SH, (e19, g))) rfl c16 ?_
      exact am_Ev.cast (a := ((some (.int (e19 148 a1.toNatClampNeg, e19).1)), am_SH, ((e19 148 a1.toNatClampNeg, e19).2, g))) (by cases h; rfl) (am_Ev.ret hcd rfl)
    refine am_Ev.weak' (am_loop_ok (G := fun (s7 : Int32 × Int32 × (Nat → Nat → Int32)) => am_Ev sc (d + 1) 55 (28, [(0, .ref 143), (1, .ref 36), (3, .int a1), (4, .int s7.1), (5, .int s7.2.1)], [], am_SH, (s7.2.2, g)) ((some (.int r.1)), am_SH, (r.2, g))) (Z := fun (e19 : (Nat → Nat → Int32)) => am_Ev sc (d + 1) 55 (97, [(0, .ref 143), (3, .int a1)], [], am_SH, (e19, g)) ((some (.int r.1)), am_SH, (r.2, g))) ?_ am_F (1, 0, f6) e19 he19 hK7) (am_sub_cons rfl (am_sub_cons rfl (am_sub_cons rfl (am_sub_cons rfl (am_sub_cons rfl am_sub_nil))))) rfl
    intro s7 q7 h hI7 hZ7
    show am_Ev sc (d + 1) 55 (28, [(0, .ref 143), (1, .ref 36), (3, .int a1), (4, .int s7.1), (5, .int s7.2.1)], [], am_SH, (s7.2.2, g)) ((some (.int r.1)), am_SH, (r.2, g))
    refine am_Ev.go hcd 2 (s' := (30, [(0, .ref 143), (1, .ref 36), (3, .int a1), (4, .int s7.1), (5, .int s7.2.1)], [.int s7.1, .int s7.2.1], am_SH, (s7.2.2, g))) rfl ?_
    rcases am_ite h with ⟨c23, h⟩ | ⟨c23, h⟩
    · refine am_Ev.t hcd (c := s7.2.1 < s7.1) (s1 := (31, [(0, .ref 143), (1, .ref 36), (3, .int a1), (4, .int s7.1), (5, .int s7.2.1)], [], am_SH, (s7.2.2, g))) rfl c23 ?_
      refine am_Ev.go hcd 3 (s' := (34, [(0, .ref 143), (1, .ref 36), (3, .int a1), (4, .int s7.1), (5, .int s7.2.1)], [.int a1, .ref 148], am_SH, (s7.2.2, g))) rfl ?_
      obtain ⟨c26, h⟩ := am_grd h
      refine am_Ev.t hcd (o := none) (c := am_in a1 100 = true) (s1 := (35, [(0, .ref 143), (1, .ref 36), (3, .int a1), (4, .int s7.1), (5, .int s7.2.1)], [.int (s7.2.2 148 a1.toNatClampNeg)], am_SH, (s7.2.2, g))) rfl c26 ?_
      refine am_Ev.go hcd 1 (s' := (36, [(0, .ref 143), (1, .ref 36), (3, .int a1), (4, .int s7.1), (5, .int s7.2.1)], [.int (-1), .int (s7.2.2 148 a1.toNatClampNeg)], am_SH, (s7.2.2, g))) rfl ?_
      rcases am_ite h with ⟨c29, h⟩ | ⟨c29, h⟩
      · refine am_Ev.t hcd (c := s7.2.2 148 a1.toNatClampNeg = (-1)) (s1 := (37, [(0, .ref 143), (1, .ref 36), (3, .int a1), (4, .int s7.1), (5, .int s7.2.1)], [], am_SH, (s7.2.2, g))) rfl c29 ?_
        refine am_Ev.go hcd 3 (s' := (40, [(0, .ref 143), (1, .ref 36), (3, .int a1), (4, .int s7.1), (5, .int s7.2.1)], [.int s7.2.1, .ref 149], am_SH, (s7.2.2, g))) rfl ?_
        obtain ⟨c32, h⟩ := am_grd h
        refine am_Ev.t hcd (o := none) (c := am_in s7.2.1 100 = true) (s1 := (41, [(0, .ref 143), (1, .ref 36), (3, .int a1), (4, .int s7.1), (5, .int s7.2.1)], [.int (s7.2.2 149 s7.2.1.toNatClampNeg)], am_SH, (s7.2.2, g))) rfl c32 ?_
        obtain ⟨t8, Et8, h⟩ := am_let_eq h
        refine am_Ev.go hcd 1 (s' := (42, [(0, .ref 143), (1, .ref 36), (3, .int a1), (4, .int s7.1), (5, .int s7.2.1), (6, .int t8)], [], am_SH, (s7.2.2, g))) (by subst Et8; exact rfl) ?_
        refine am_Ev.go hcd 2 (s' := (44, [(0, .ref 143), (1, .ref 36), (3, .int a1), (4, .int s7.1), (5, .int s7.2.1), (6, .int t8), (7, .int 0)], [], am_SH, (s7.2.2, g))) rfl ?_
        obtain ⟨e17, he17, h⟩ := am_bind_some h
        have hK9 : (fun (e17 : Int32 × (Nat → Nat → Int32)) => am_Ev sc (d + 1) 55 (95, [(0, .ref 143), (1, .ref 36), (3, .int a1), (4, .int e17.1), (5, .int s7.2.1)], [], am_SH, (e17.2, g)) ((some (.int r.1)), am_SH, (r.2, g))) e17 := by
          show am_Ev sc (d + 1) 55 (95, [(0, .ref 143), (1, .ref 36), (3, .int a1), (4, .int e17.1), (5, .int s7.2.1)], [], am_SH, (e17.2, g)) ((some (.int r.1)), am_SH, (r.2, g))
          obtain ⟨t18, Et18, h⟩ := am_let_eq h
          refine am_Ev.go hcd 1 (s' := (96, [(0, .ref 143), (1, .ref 36), (3, .int a1), (4, .int e17.1), (5, .int t18)], [], am_SH, (e17.2, g))) (by subst Et18; exact rfl) ?_
          refine am_Ev.go hcd 1 (s' := (28, [(0, .ref 143), (1, .ref 36), (3, .int a1), (4, .int e17.1), (5, .int t18)], [], am_SH, (e17.2, g))) rfl ?_
          exact am_Ev.weak' (hI7 (e17.1, t18, e17.2) (Option.some.inj h).symm) (am_sub_cons rfl (am_sub_cons rfl (am_sub_cons rfl (am_sub_cons rfl (am_sub_cons rfl am_sub_nil))))) rfl
        refine am_Ev.weak' (am_loop_ok (G := fun (s9 : Int32 × Int32 × (Nat → Nat → Int32)) => am_Ev sc (d + 1) 55 (44, [(0, .ref 143), (1, .ref 36), (3, .int a1), (4, .int s9.1), (5, .int s7.2.1), (6, .int t8), (7, .int s9.2.1)], [], am_SH, (s9.2.2, g)) ((some (.int r.1)), am_SH, (r.2, g))) (Z := fun (e17 : Int32 × (Nat → Nat → Int32)) => am_Ev sc (d + 1) 55 (95, [(0, .ref 143), (1, .ref 36), (3, .int a1), (4, .int e17.1), (5, .int s7.2.1)], [], am_SH, (e17.2, g)) ((some (.int r.1)), am_SH, (r.2, g))) ?_ am_F (s7.1, 0, s7.2.2) e17 he17 hK9) (am_sub_cons rfl (am_sub_cons rfl (am_sub_cons rfl (am_sub_cons rfl (am_sub_cons rfl (am_sub_cons rfl (am_sub_cons rfl am_sub_nil))))))) rfl
        intro s9 q9 h hI9 hZ9
        show am_Ev sc (d + 1) 55 (44, [(0, .ref 143), (1, .ref 36), (3, .int a1), (4, .int s9.1), (5, .int s7.2.1), (6, .int t8), (7, .int s9.2.1)], [], am_SH, (s9.2.2, g)) ((some (.int r.1)), am_SH, (r.2, g))
        refine am_Ev.go hcd 3 (s' := (47, [(0, .ref 143), (1, .ref 36), (3, .int a1), (4, .int s9.1), (5, .int s7.2.1), (6, .int t8), (7, .int s9.2.1)], [.int (s9.2.2 36 0), .int s9.2.1], am_SH, (s9.2.2, g))) rfl ?_
        rcases am_ite h with ⟨c48, h⟩ | ⟨c48, h⟩
        · refine am_Ev.t hcd (c := s9.2.1 < s9.2.2 36 0) (s1 := (48, [(0, .ref 143), (1, .ref 36), (3, .int a1), (4, .int s9.1), (5, .int s7.2.1), (6, .int t8), (7, .int s9.2.1)], [], am_SH, (s9.2.2, g))) rfl c48 ?_
          refine am_Ev.go hcd 4 (s' := (52, [(0, .ref 143), (1, .ref 36), (3, .int a1), (4, .int s9.1), (5, .int s7.2.1), (6, .int t8), (7, .int s9.2.1)], [.int s9.2.1, .ref 37, .int t8], am_SH, (s9.2.2, g))) rfl ?_
          obtain ⟨c51, h⟩ := am_grd h
          refine am_Ev.t hcd (o := none) (c := am_in s9.2.1 6 = true) (s1 := (53, [(0, .ref 143), (1, .ref 36), (3, .int a1), (4, .int s9.1), (5, .int s7.2.1), (6, .int t8), (7, .int s9.2.1)], [.int (s9.2.2 37 s9.2.1.toNatClampNeg), .int t8], am_SH, (s9.2.2, g))) rfl c51 ?_
          refine am_Ev.go hcd 3 (s' := (56, [(0, .ref 143), (1, .ref 36), (3, .int a1), (4, .int s9.1), (5, .int s7.2.1), (6, .int t8), (7, .int s9.2.1)], [.int s9.2.1, .ref 38, .int (s9.2.2 37 s9.2.1.toNatClampNeg), .int t8], am_SH, (s9.2.2, g))) rfl ?_
          obtain ⟨c54, h⟩ := am_grd h
          refine am_Ev.t hcd (o := none) (c := am_in s9.2.1 6 = true) (s1 := (57, [(0, .ref 143), (1, .ref 36), (3, .int a1), (4, .int s9.1), (5, .int s7.2.1), (6, .int t8), (7, .int s9.2.1)], [.int (s9.2.2 38 s9.2.1.toNatClampNeg), .int (s9.2.2 37 s9.2.1.toNatClampNeg), .int t8], am_SH, (s9.2.2, g))) rfl c54 ?_
          refine am_Ev.call hcd (a := 56) (s0 := (0, [(0, .int t8), (1, .int (s9.2.2 37 s9.2.1.toNatClampNeg)), (2, .int (s9.2.2 38 s9.2.1.toNatClampNeg))], [], am_SH, (s9.2.2, g))) (q := ((some (.int (xm_afterSaying t8 (s9.2.2 37 s9.2.1.toNatClampNeg) (s9.2.2 38 s9.2.1.toNatClampNeg)))), am_SH, (s9.2.2, g))) (s1 := (58, [(0, .ref 143), (1, .ref 36), (3, .int a1), (4, .int s9.1), (5, .int s7.2.1), (6, .int t8), (7, .int s9.2.1)], [.int (xm_afterSaying t8 (s9.2.2 37 s9.2.1.toNatClampNeg) (s9.2.2 38 s9.2.1.toNatClampNeg))], am_SH, (s9.2.2, g))) rfl rfl (xm_afterSaying_ok (d) t8 (s9.2.2 37 s9.2.1.toNatClampNeg) (s9.2.2 38 s9.2.1.toNatClampNeg) (s9.2.2, g)) ?_
          obtain ⟨t11, Et11, h⟩ := am_let_eq h
          refine am_Ev.go hcd 1 (s' := (59, [(0, .ref 143), (1, .ref 36), (3, .int a1), (4, .int s9.1), (5, .int s7.2.1), (6, .int t8), (7, .int s9.2.1), (8, .int t11)], [], am_SH, (s9.2.2, g))) (by subst Et11; exact rfl) ?_
          obtain ⟨t15, ht15, kt15⟩ := am_bind_some h
          have hKt15 : am_Ev sc (d + 1) 55 (93, [(0, .ref 143), (1, .ref 36), (3, .int a1), (4, .int t15.1), (5, .int s7.2.1), (6, .int t8), (7, .int s9.2.1)], [], am_SH, (t15.2, g)) ((some (.int r.1)), am_SH, (r.2, g)) := by
            have h := kt15
            obtain ⟨t16, Et16, h⟩ := am_let_eq h
            refine am_Ev.go hcd 1 (s' := (94, [(0, .ref 143), (1, .ref 36), (3, .int a1), (4, .int t15.1), (5, .int s7.2.1), (6, .int t8), (7, .int t16)], [], am_SH, (t15.2, g))) (by subst Et16; exact rfl) ?_
            refine am_Ev.go hcd 1 (s' := (44, [(0, .ref 143), (1, .ref 36), (3, .int a1), (4, .int t15.1), (5, .int s7.2.1), (6, .int t8), (7, .int t16)], [], am_SH, (t15.2, g))) rfl ?_
            exact am_Ev.weak' (hI9 (t15.1, t16, t15.2) (Option.some.inj h).symm) (am_sub_cons rfl (am_sub_cons rfl (am_sub_cons rfl (am_sub_cons rfl (am_sub_cons rfl (am_sub_cons rfl (am_sub_cons rfl am_sub_nil))))))) rfl
          have hLt15 : ∀ tt, tt = t15 → am_Ev sc (d + 1) 55 (93, [(0, .ref 143), (1, .ref 36), (3, .int a1), (4, .int tt.1), (5, .int s7.2.1), (6, .int t8), (7, .int s9.2.1)], [], am_SH, (tt.2, g)) ((some (.int r.1)), am_SH, (r.2, g)) := fun tt htt => by subst htt; exact hKt15
          have h := ht15
          refine am_Ev.go hcd 1 (s' := (60, [(0, .ref 143), (1, .ref 36), (3, .int a1), (4, .int s9.1), (5, .int s7.2.1), (6, .int t8), (7, .int s9.2.1), (8, .int t11)], [.int t11], am_SH, (s9.2.2, g))) rfl ?_
          rcases am_ite h with ⟨c69, h⟩ | ⟨c69, h⟩
          · refine am_Ev.t hcd (c := t11 < 0) (s1 := (93, [(0, .ref 143), (1, .ref 36), (3, .int a1), (4, .int s9.1), (5, .int s7.2.1), (6, .int t8), (7, .int s9.2.1), (8, .int t11)], [], am_SH, (s9.2.2, g))) rfl c69 ?_
            exact am_Ev.weak' (hLt15 (s9.1, s9.2.2) (Option.some.inj h)) (am_sub_cons rfl (am_sub_cons rfl (am_sub_cons rfl (am_sub_cons rfl (am_sub_cons rfl (am_sub_cons rfl (am_sub_cons rfl am_sub_nil))))))) rfl
          · refine am_Ev.f hcd (c := t11 < 0) (s1 := (61, [(0, .ref 143), (1, .ref 36), (3, .int a1), (4, .int s9.1), (5, .int s7.2.1), (6, .int t8), (7, .int s9.2.1), (8, .int t11)], [], am_SH, (s9.2.2, g))) rfl c69 ?_
            refine am_Ev.go hcd 4 (s' := (65, [(0, .ref 143), (1, .ref 36), (3, .int a1), (4, .int s9.1), (5, .int s7.2.1), (6, .int t8), (7, .int s9.2.1), (8, .int t11)], [.int (nI 100), .int t11], am_SH, (s9.2.2, g))) rfl ?_
            rcases am_ite h with ⟨c74, h⟩ | ⟨c74, h⟩
            · refine am_Ev.t hcd (c := t11 < (nI 100)) (s1 := (66, [(0, .ref 143), (1, .ref 36), (3, .int a1), (4, .int s9.1), (5, .int s7.2.1), (6, .int t8), (7, .int s9.2.1), (8, .int t11)], [], am_SH, (s9.2.2, g))) rfl c74 ?_
              refine am_Ev.go hcd 4 (s' := (70, [(0, .ref 143), (1, .ref 36), (3, .int a1), (4, .int s9.1), (5, .int s7.2.1), (6, .int t8), (7, .int s9.2.1), (8, .int t11)], [.int (nI 100), .int s9.1], am_SH, (s9.2.2, g))) rfl ?_
              rcases am_ite h with ⟨c77, h⟩ | ⟨c77, h⟩
              · refine am_Ev.t hcd (c := s9.1 < (nI 100)) (s1 := (71, [(0, .ref 143), (1, .ref 36), (3, .int a1), (4, .int s9.1), (5, .int s7.2.1), (6, .int t8), (7, .int s9.2.1), (8, .int t11)], [], am_SH, (s9.2.2, g))) rfl c77 ?_
                refine am_Ev.go hcd 3 (s' := (74, [(0, .ref 143), (1, .ref 36), (3, .int a1), (4, .int s9.1), (5, .int s7.2.1), (6, .int t8), (7, .int s9.2.1), (8, .int t11)], [.int t11, .ref 148], am_SH, (s9.2.2, g))) rfl ?_
                obtain ⟨c80, h⟩ := am_grd h
                refine am_Ev.t hcd (o := none) (c := am_in t11 100 = true) (s1 := (75, [(0, .ref 143), (1, .ref 36), (3, .int a1), (4, .int s9.1), (5, .int s7.2.1), (6, .int t8), (7, .int s9.2.1), (8, .int t11)], [.int (s9.2.2 148 t11.toNatClampNeg)], am_SH, (s9.2.2, g))) rfl c80 ?_
                refine am_Ev.go hcd 1 (s' := (76, [(0, .ref 143), (1, .ref 36), (3, .int a1), (4, .int s9.1), (5, .int s7.2.1), (6, .int t8), (7, .int s9.2.1), (8, .int t11)], [.int (-1), .int (s9.2.2 148 t11.toNatClampNeg)], am_SH, (s9.2.2, g))) rfl ?_
                rcases am_ite h with ⟨c83, h⟩ | ⟨c83, h⟩
                · refine am_Ev.t hcd (c := s9.2.2 148 t11.toNatClampNeg = (-1)) (s1 := (77, [(0, .ref 143), (1, .ref 36), (3, .int a1), (4, .int s9.1), (5, .int s7.2.1), (6, .int t8), (7, .int s9.2.1), (8, .int t11)], [], am_SH, (s9.2.2, g))) rfl c83 ?_
                  refine am_Ev.go hcd 6 (s' := (83, [(0, .ref 143), (1, .ref 36), (3, .int a1), (4, .int s9.1), (5, .int s7.2.1), (6, .int t8), (7, .int s9.2.1), (8, .int t11)], [.int t8, .ref 148, .int t11, .ref 148], am_SH, (s9.2.2, g))) rfl ?_
                  obtain ⟨c86, h⟩ := am_grd h
                  refine am_Ev.t hcd (o := none) (c := am_in t8 100 = true) (s1 := (84, [(0, .ref 143), (1, .ref 36), (3, .int a1), (4, .int s9.1), (5, .int s7.2.1), (6, .int t8), (7, .int s9.2.1), (8, .int t11)], [.int (s9.2.2 148 t8.toNatClampNeg), .int t11, .ref 148], am_SH, (s9.2.2, g))) rfl c86 ?_
                  refine am_Ev.go hcd 2 (s' := (86, [(0, .ref 143), (1, .ref 36), (3, .int a1), (4, .int s9.1), (5, .int s7.2.1), (6, .int t8), (7, .int s9.2.1), (8, .int t11)], [.int ((s9.2.2 148 t8.toNatClampNeg) + 1), .int t11, .ref 148], am_SH, (s9.2.2, g))) rfl ?_
                  obtain ⟨c89, h⟩ := am_grd h
                  obtain ⟨f12, Ef12, h⟩ := am_let_eq h
                  refine am_Ev.t hcd (o := none) (c := am_in t11 100 = true) (s1 := (87, [(0, .ref 143), (1, .ref 36), (3, .int a1), (4, .int s9.1), (5, .int s7.2.1), (6, .int t8), (7, .int s9.2.1), (8, .int t11)], [], am_SH, (f12, g))) (by subst Ef12; exact rfl) c89 ?_
                  refine am_Ev.go hcd 4 (s' := (91, [(0, .ref 143), (1, .ref 36), (3, .int a1), (4, .int s9.1), (5, .int s7.2.1), (6, .int t8), (7, .int s9.2.1), (8, .int t11)], [.int t11, .int s9.1, .ref 149], am_SH, (f12, g))) rfl ?_
                  obtain ⟨c93, h⟩ := am_grd h
                  obtain ⟨f13, Ef13, h⟩ := am_let_eq h
                  refine am_Ev.t hcd (o := none) (c := am_in s9.1 100 = true) (s1 := (92, [(0, .ref 143), (1, .ref 36), (3, .int a1), (4, .int s9.1), (5, .int s7.2.1), (6, .int t8), (7, .int s9.2.1), (8, .int t11)], [], am_SH, (f13, g))) (by subst Ef13; exact rfl) c93 ?_
                  obtain ⟨t14, Et14, h⟩ := am_let_eq h
                  refine am_Ev.go hcd 1 (s' := (93, [(0, .ref 143), (1, .ref 36), (3, .int a1), (4, .int t14), (5, .int s7.2.1), (6, .int t8), (7, .int s9.2.1), (8, .int t11)], [], am_SH, (f13, g))) (by subst Et14; exact rfl) ?_
                  exact am_Ev.weak' (hLt15 (t14, f13) (Option.some.inj h)) (am_sub_cons rfl (am_sub_cons rfl (am_sub_cons rfl (am_sub_cons rfl (am_sub_cons rfl (am_sub_cons rfl (am_sub_cons rfl am_sub_nil))))))) rfl
                · refine am_Ev.f hcd (c := s9.2.2 148 t11.toNatClampNeg = (-1)) (s1 := (93, [(0, .ref 143), (1, .ref 36), (3, .int a1), (4, .int s9.1), (5, .int s7.2.1), (6, .int t8), (7, .int s9.2.1), (8, .int t11)], [], am_SH, (s9.2.2, g))) rfl c83 ?_
                  exact am_Ev.weak' (hLt15 (s9.1, s9.2.2) (Option.some.inj h)) (am_sub_cons rfl (am_sub_cons rfl (am_sub_cons rfl (am_sub_cons rfl (am_sub_cons rfl (am_sub_cons rfl (am_sub_cons rfl am_sub_nil))))))) rfl
              · refine am_Ev.f hcd (c := s9.1 < (nI 100)) (s1 := (93, [(0, .ref 143), (1, .ref 36), (3, .int a1), (4, .int s9.1), (5, .int s7.2.1), (6, .int t8), (7, .int s9.2.1), (8, .int t11)], [], am_SH, (s9.2.2, g))) rfl c77 ?_
                exact am_Ev.weak' (hLt15 (s9.1, s9.2.2) (Option.some.inj h)) (am_sub_cons rfl (am_sub_cons rfl (am_sub_cons rfl (am_sub_cons rfl (am_sub_cons rfl (am_sub_cons rfl (am_sub_cons rfl am_sub_nil))))))) rfl
            · refine am_Ev.f hcd (c := t11 < (nI 100)) (s1 := (93, [(0, .ref 143), (1, .ref 36), (3, .int a1), (4, .int s9.1), (5, .int s7.2.1), (6, .int t8), (7, .int s9.2.1), (8, .int t11)], [], am_SH, (s9.2.2, g))) rfl c74 ?_
              exact am_Ev.weak' (hLt15 (s9.1, s9.2.2) (Option.some.inj h)) (am_sub_cons rfl (am_sub_cons rfl (am_sub_cons rfl (am_sub_cons rfl (am_sub_cons rfl (am_sub_cons rfl (am_sub_cons rfl am_sub_nil))))))) rfl
        · refine am_Ev.f hcd (c := s9.2.1 < s9.2.2 36 0) (s1 := (95, [(0, .ref 143), (1, .ref 36), (3, .int a1), (4, .int s9.1), (5, .int s7.2.1), (6, .int t8), (7, .int s9.2.1)], [], am_SH, (s9.2.2, g))) rfl c48 ?_
          exact am_Ev.weak' (hZ9 (s9.1, s9.2.2) (Option.some.inj h).symm) (am_sub_cons rfl (am_sub_cons rfl (am_sub_cons rfl (am_sub_cons rfl (am_sub_cons rfl am_sub_nil))))) rfl
      · refine am_Ev.f hcd (c := s7.2.2 148 a1.toNatClampNeg = (-1)) (s1 := (97, [(0, .ref 143), (1, .ref 36), (3, .int a1), (4, .int s7.1), (5, .int s7.2.1)], [], am_SH, (s7.2.2, g))) rfl c29 ?_
        exact am_Ev.weak' (hZ7 s7.2.2 (Option.some.inj h).symm) (am_sub_cons rfl (am_sub_cons rfl am_sub_nil)) rfl
    · refine am_Ev.f hcd (c := s7.2.1 < s7.1) (s1 := (97, [(0, .ref 143), (1, .ref 36), (3, .int a1), (4, .int s7.1), (5, .int s7.2.1)], [], am_SH, (s7.2.2, g))) rfl c23 ?_
      exact am_Ev.weak' (hZ7 s7.2.2 (Option.some.inj h).symm) (am_sub_cons rfl (am_sub_cons rfl am_sub_nil)) rfl
  refine am_Ev.weak' (am_loop_ok (G := fun (s1 : Int32 × (Nat → Nat → Int32)) => am_Ev sc (d + 1) 55 (2, [(0, .ref 143), (1, .ref 36), (2, .int a0), (3, .int a1), (4, .int s1.1)], [], am_SH, (s1.2, g)) ((some (.int r.1)), am_SH, (r.2, g))) (Z := fun (e4 : (Nat → Nat → Int32)) => am_Ev sc (d + 1) 55 (14, [(0, .ref 143), (1, .ref 36), (2, .int a0), (3, .int a1)], [], am_SH, (e4, g)) ((some (.int r.1)), am_SH, (r.2, g))) ?_ am_F (0, f) e4 he4 hK1) (am_sub_cons rfl (am_sub_cons rfl (am_sub_cons rfl (am_sub_cons rfl (am_sub_cons rfl am_sub_nil))))) rfl
  intro s1 q1 h hI1 hZ1
  show am_Ev sc (d + 1) 55 (2, [(0, .ref 143), (1, .ref 36), (2, .int a0), (3, .int a1), (4, .int s1.1)], [], am_SH, (s1.2, g)) ((some (.int r.1)), am_SH, (r.2, g))
  refine am_Ev.go hcd 4 (s' := (6, [(0, .ref 143), (1, .ref 36), (2, .int a0), (3, .int a1), (4, .int s1.1)], [.int (nI 100), .int s1.1], am_SH, (s1.2, g))) rfl ?_
  rcases am_ite h with ⟨c115, h⟩ | ⟨c115, h⟩
  · refine am_Ev.t hcd (c := s1.1 < (nI 100)) (s1 := (7, [(0, .ref 143), (1, .ref 36), (2, .int a0), (3, .int a1), (4, .int s1.1)], [], am_SH, (s1.2, g))) rfl c115 ?_
    refine am_Ev.go hcd 4 (s' := (11, [(0, .ref 143), (1, .ref 36), (2, .int a0), (3, .int a1), (4, .int s1.1)], [.int (-1), .int s1.1, .ref 148], am_SH, (s1.2, g))) rfl ?_
    obtain ⟨c118, h⟩ := am_grd h
    obtain ⟨f2, Ef2, h⟩ := am_let_eq h
    refine am_Ev.t hcd (o := none) (c := am_in s1.1 100 = true) (s1 := (12, [(0, .ref 143), (1, .ref 36), (2, .int a0), (3, .int a1), (4, .int s1.1)], [], am_SH, (f2, g))) (by subst Ef2; exact rfl) c118 ?_
    obtain ⟨t3, Et3, h⟩ := am_let_eq h
    refine am_Ev.go hcd 1 (s' := (13, [(0, .ref 143), (1, .ref 36), (2, .int a0), (3, .int a1), (4, .int t3)], [], am_SH, (f2, g))) (by subst Et3; exact rfl) ?_
    refine am_Ev.go hcd 1 (s' := (2, [(0, .ref 143), (1, .ref 36), (2, .int a0), (3, .int a1), (4, .int t3)], [], am_SH, (f2, g))) rfl ?_
    exact am_Ev.weak' (hI1 (t3, f2) (Option.some.inj h).symm) (am_sub_cons rfl (am_sub_cons rfl (am_sub_cons rfl (am_sub_cons rfl (am_sub_cons rfl am_sub_nil))))) rfl
  · refine am_Ev.f hcd (c := s1.1 < (nI 100)) (s1 := (14, [(0, .ref 143), (1, .ref 36), (2, .int a0), (3, .int a1), (4, .int s1.1)], [], am_SH, (s1.2, g))) rfl c115 ?_
    exact am_Ev.weak' (hZ1 s1.2 (Option.some.inj h).symm) (am_sub_cons rfl (am_sub_cons rfl (am_sub_cons rfl (am_sub_cons rfl am_sub_nil)))) rfl
set_option maxRecDepth 100000 in
set_option maxHeartbeats 4000000 in
theorem x_cool_ok {sc : Nat × (Nat → Int32)} (d : Nat) (a0 : Int32) (a1 : Int32) (f g : (Nat → Nat → Int32)) (r : Int32 × (Nat → Nat → Int32)) (h : x_cool a0 a1 f = some r) : am_Ev sc (d + 2) 152 (0, [(0, .ref 0), (1, .int a0), (2, .int a1)], [], am_SH, (f, g)) ((some (.int r.1)), am_SH, (r.2, g)) := by
  have hcd : am_code 152 = am_c152 := rfl
  unfold x_cool at h
  refine am_Ev.go hcd 3 (s' := (3, [(0, .ref 0), (1, .int a0), (2, .int a1)], [.int 99, .int 0, .int a0], am_SH, (f, g))) rfl ?_
  refine am_Ev.call hcd (a := 170) (s0 := (0, [(0, .int a0), (1, .int 0), (2, .int 99)], [], am_SH, (f, g))) (q := ((some (.int (am_b (x_within a0 0 99)))), am_SH, (f, g))) (s1 := (4, [(0, .ref 0), (1, .int a0), (2, .int a1)], [.int (am_b (x_within a0 0 99))], am_SH, (f, g))) rfl rfl (x_within_ok (d + 1) a0 0 99 (f, g)) ?_
  rcases am_ite h with ⟨c4, h⟩ | ⟨c4, h⟩
  · refine am_Ev.f hcd (c := am_b (x_within a0 0 99) = 0) (s1 := (5, [(0, .ref 0), (1, .int a0), (2, .int a1)], [], am_SH, (f, g))) rfl (am_b_t c4) ?_
    refine am_Ev.go hcd 3 (s' := (8, [(0, .ref 0), (1, .int a0), (2, .int a1)], [.int 99, .int 0, .int a1], am_SH, (f, g))) rfl ?_
    refine am_Ev.call hcd (a := 170) (s0 := (0, [(0, .int a1), (1, .int 0), (2, .int 99)], [], am_SH, (f, g))) (q := ((some (.int (am_b (x_within a1 0 99)))), am_SH, (f, g))) (s1 := (9, [(0, .ref 0), (1, .int a0), (2, .int a1)], [.int (am_b (x_within a1 0 99))], am_SH, (f, g))) rfl rfl (x_within_ok (d + 1) a1 0 99 (f, g)) ?_
    rcases am_ite h with ⟨c8, h⟩ | ⟨c8, h⟩
    · refine am_Ev.f hcd (c := am_b (x_within a1 0 99) = 0) (s1 := (12, [(0, .ref 0), (1, .int a0), (2, .int a1)], [], am_SH, (f, g))) rfl (am_b_t c8) ?_
      refine am_Ev.go hcd 7 (s' := (19, [(0, .ref 0), (1, .int a0), (2, .int a1)], [.int a1, .int a0, .ref 36, .ref 143], am_SH, (f, g))) rfl ?_
      obtain ⟨p3, hp3, h⟩ := am_bind_some h
      refine am_Ev.call hcd (a := 55) (s0 := (0, [(0, .ref 143), (1, .ref 36), (2, .int a0), (3, .int a1)], [], am_SH, (f, g))) (q := ((some (.int p3.1)), am_SH, (p3.2, g))) (s1 := (20, [(0, .ref 0), (1, .int a0), (2, .int a1)], [.int p3.1], am_SH, (p3.2, g))) rfl rfl (xm_fewestSayings_36_ok (d) a0 a1 f g p3 hp3) ?_
      exact am_Ev.cast (a := ((some (.int (p3.1, p3.2).1)), am_SH, ((p3.1, p3.2).2, g))) (by cases h; rfl) (am_Ev.ret hcd rfl)
    · refine am_Ev.t hcd (c := am_b (x_within a1 0 99) = 0) (s1 := (10, [(0, .ref 0), (1, .int a0), (2, .int a1)], [], am_SH, (f, g))) rfl (am_b_f c8) ?_
      refine am_Ev.go hcd 1 (s' := (11, [(0, .ref 0), (1, .int a0), (2, .int a1)], [.int (-1)], am_SH, (f, g))) rfl ?_
      exact am_Ev.cast (a := ((some (.int ((-1), f).1)), am_SH, (((-1), f).2, g))) (by cases h; rfl) (am_Ev.ret hcd rfl)
  · refine am_Ev.t hcd (c := am_b (x_within a0 0 99) = 0) (s1 := (10, [(0, .ref 0), (1, .int a0), (2, .int a1)], [], am_SH, (f, g))) rfl (am_b_f c4) ?_
    refine am_Ev.go hcd 1 (s' := (11, [(0, .ref 0), (1, .int a0), (2, .int a1)], [.int (-1)], am_SH, (f, g))) rfl ?_
    exact am_Ev.cast (a := ((some (.int ((-1), f).1)), am_SH, (((-1), f).2, g))) (by cases h; rfl) (am_Ev.ret hcd rfl)
set_option maxRecDepth 100000 in
set_option maxHeartbeats 4000000 in
theorem xr_clearAll_39_ok {sc : Nat × (Nat → Int32)} (d : Nat)  (f g : (Nat → Nat → Int32)) : am_Ev sc (d) 86 (0, [(0, .ref 39)], [], am_SH, (f, g)) ((some (.int (xr_clearAll_39  f).1)), am_SH, ((xr_clearAll_39  f).2, g)) := by
  have hcd : am_code 86 = am_c86 := rfl
  obtain ⟨r, h⟩ : ∃ r, r = xr_clearAll_39  f := ⟨_, rfl⟩
  rw [← h]
  unfold xr_clearAll_39 at h
  obtain ⟨f1, Ef1, h⟩ := am_let_eq' h
  refine am_Ev.go hcd 3 (s' := (3, [(0, .ref 39)], [], am_SH, (f1, g))) (by subst Ef1; exact rfl) ?_
  refine am_Ev.go hcd 2 (s' := (5, [(0, .ref 39)], [.int (f1 39 0)], am_SH, (f1, g))) rfl ?_
  exact am_Ev.cast (a := ((some (.int (f1 39 0, f1).1)), am_SH, ((f1 39 0, f1).2, g))) (by subst h; rfl) (am_Ev.ret hcd rfl)
set_option maxRecDepth 100000 in
set_option maxHeartbeats 4000000 in
theorem xr_append_39_ok {sc : Nat × (Nat → Int32)} (d : Nat) (a0 : Int32) (a1 : Int32) (f g : (Nat → Nat → Int32)) (r : Int32 × (Nat → Nat → Int32)) (h : xr_append_39 a0 a1 f = some r) : am_Ev sc (d) 85 (0, [(0, .ref 39), (1, .int a0), (2, .int a1)], [], am_SH, (f, g)) ((some (.int r.1)), am_SH, (r.2, g)) := by
  have hcd : am_code 85 = am_c85 := rfl
  unfold xr_append_39 at h
  refine am_Ev.go hcd 5 (s' := (5, [(0, .ref 39), (1, .int a0), (2, .int a1)], [.int (nI 4), .int (f 39 0)], am_SH, (f, g))) rfl ?_
  rcases am_ite h with ⟨c2, h⟩ | ⟨c2, h⟩
  · refine am_Ev.t hcd (c := f 39 0 < (nI 4)) (s1 := (8, [(0, .ref 39), (1, .int a0), (2, .int a1)], [], am_SH, (f, g))) rfl c2 ?_
    refine am_Ev.go hcd 5 (s' := (13, [(0, .ref 39), (1, .int a0), (2, .int a1)], [.int a0, .int (f 39 0), .ref 40], am_SH, (f, g))) rfl ?_
    obtain ⟨c5, h⟩ := am_grd h
    obtain ⟨f1, Ef1, h⟩ := am_let_eq h
    refine am_Ev.t hcd (o := none) (c := am_in (f 39 0) 4 = true) (s1 := (14, [(0, .ref 39), (1, .int a0), (2, .int a1)], [], am_SH, (f1, g))) (by subst Ef1; exact rfl) c5 ?_
    refine am_Ev.go hcd 5 (s' := (19, [(0, .ref 39), (1, .int a0), (2, .int a1)], [.int a1, .int (f1 39 0), .ref 41], am_SH, (f1, g))) rfl ?_
    obtain ⟨c9, h⟩ := am_grd h
    obtain ⟨f2, Ef2, h⟩ := am_let_eq h
    refine am_Ev.t hcd (o := none) (c := am_in (f1 39 0) 4 = true) (s1 := (20, [(0, .ref 39), (1, .int a0), (2, .int a1)], [], am_SH, (f2, g))) (by subst Ef2; exact rfl) c9 ?_
    obtain ⟨f3, Ef3, h⟩ := am_let_eq h
    refine am_Ev.go hcd 6 (s' := (26, [(0, .ref 39), (1, .int a0), (2, .int a1)], [], am_SH, (f3, g))) (by subst Ef3; exact rfl) ?_
    refine am_Ev.go hcd 2 (s' := (28, [(0, .ref 39), (1, .int a0), (2, .int a1)], [.int (f3 39 0)], am_SH, (f3, g))) rfl ?_
    exact am_Ev.cast (a := ((some (.int (f3 39 0, f3).1)), am_SH, ((f3 39 0, f3).2, g))) (by cases h; rfl) (am_Ev.ret hcd rfl)
  · refine am_Ev.f hcd (c := f 39 0 < (nI 4)) (s1 := (6, [(0, .ref 39), (1, .int a0), (2, .int a1)], [], am_SH, (f, g))) rfl c2 ?_
    refine am_Ev.go hcd 1 (s' := (7, [(0, .ref 39), (1, .int a0), (2, .int a1)], [.int (-1)], am_SH, (f, g))) rfl ?_
    exact am_Ev.cast (a := ((some (.int ((-1), f).1)), am_SH, (((-1), f).2, g))) (by cases h; rfl) (am_Ev.ret hcd rfl)
set_option maxRecDepth 100000 in
set_option maxHeartbeats 4000000 in
theorem x_coal_ok {sc : Nat × (Nat → Int32)} (d : Nat) (a0 : Int32) (f g : (Nat → Nat → Int32)) (r : Int32 × (Nat → Nat → Int32)) (h : x_coal a0 f = some r) : am_Ev sc (d + 1) 153 (0, [(0, .ref 0), (1, .int a0)], [], am_SH, (f, g)) ((some (.int r.1)), am_SH, (r.2, g)) := by
  have hcd : am_code 153 = am_c153 := rfl
  unfold x_coal at h
  refine am_Ev.go hcd 2 (s' := (2, [(0, .ref 0), (1, .int a0)], [.int (-1), .int a0], am_SH, (f, g))) rfl ?_
  rcases am_ite h with ⟨c2, h⟩ | ⟨c2, h⟩
  · refine am_Ev.t hcd (c := a0 = (-1)) (s1 := (3, [(0, .ref 0), (1, .int a0)], [], am_SH, (f, g))) rfl c2 ?_
    refine am_Ev.go hcd 3 (s' := (6, [(0, .ref 0), (1, .int a0)], [.ref 39], am_SH, (f, g))) rfl ?_
    obtain ⟨p1, Ep1, h⟩ := am_let_eq h
    refine am_Ev.call hcd (a := 86) (s0 := (0, [(0, .ref 39)], [], am_SH, (f, g))) (q := ((some (.int p1.1)), am_SH, (p1.2, g))) (s1 := (7, [(0, .ref 0), (1, .int a0)], [.int p1.1], am_SH, (p1.2, g))) rfl rfl (by subst Ep1; exact xr_clearAll_39_ok (d)  f g) ?_
    exact am_Ev.cast (a := ((some (.int (p1.1, p1.2).1)), am_SH, ((p1.1, p1.2).2, g))) (by cases h; rfl) (am_Ev.ret hcd rfl)
  · refine am_Ev.f hcd (c := a0 = (-1)) (s1 := (8, [(0, .ref 0), (1, .int a0)], [], am_SH, (f, g))) rfl c2 ?_
    refine am_Ev.go hcd 3 (s' := (11, [(0, .ref 0), (1, .int a0)], [.int 40, .int 1, .int a0], am_SH, (f, g))) rfl ?_
    refine am_Ev.call hcd (a := 170) (s0 := (0, [(0, .int a0), (1, .int 1), (2, .int 40)], [], am_SH, (f, g))) (q := ((some (.int (am_b (x_within a0 1 40)))), am_SH, (f, g))) (s1 := (12, [(0, .ref 0), (1, .int a0)], [.int (am_b (x_within a0 1 40))], am_SH, (f, g))) rfl rfl (x_within_ok (d) a0 1 40 (f, g)) ?_
    rcases am_ite h with ⟨c12, h⟩ | ⟨c12, h⟩
    · refine am_Ev.f hcd (c := am_b (x_within a0 1 40) = 0) (s1 := (13, [(0, .ref 0), (1, .int a0)], [], am_SH, (f, g))) rfl (am_b_t c12) ?_
      refine am_Ev.go hcd 5 (s' := (18, [(0, .ref 0), (1, .int a0)], [.int 0, .int a0, .ref 39], am_SH, (f, g))) rfl ?_
      obtain ⟨p3, hp3, h⟩ := am_bind_some h
      refine am_Ev.call hcd (a := 85) (s0 := (0, [(0, .ref 39), (1, .int a0), (2, .int 0)], [], am_SH, (f, g))) (q := ((some (.int p3.1)), am_SH, (p3.2, g))) (s1 := (19, [(0, .ref 0), (1, .int a0)], [.int p3.1], am_SH, (p3.2, g))) rfl rfl (xr_append_39_ok (d) a0 0 f g p3 hp3) ?_
      refine am_Ev.go hcd 1 (s' := (21, [(0, .ref 0), (1, .int a0)], [.int p3.1], am_SH, (p3.2, g))) rfl ?_
      exact am_Ev.cast (a := ((some (.int (p3.1, p3.2).1)), am_SH, ((p3.1, p3.2).2, g))) (by cases h; rfl) (am_Ev.ret hcd rfl)
    · refine am_Ev.t hcd (c := am_b (x_within a0 1 40) = 0) (s1 := (20, [(0, .ref 0), (1, .int a0)], [], am_SH, (f, g))) rfl (am_b_f c12) ?_
      refine am_Ev.go hcd 1 (s' := (21, [(0, .ref 0), (1, .int a0)], [.int (-1)], am_SH, (f, g))) rfl ?_
      exact am_Ev.cast (a := ((some (.int ((-1), f).1)), am_SH, (((-1), f).2, g))) (by cases h; rfl) (am_Ev.ret hcd rfl)
set_option maxRecDepth 100000 in
set_option maxHeartbeats 4000000 in
theorem xm_learnNimbers_ok {sc : Nat × (Nat → Int32)} (d : Nat) (a0 : Int32) (f g : (Nat → Nat → Int32)) (r : (Nat → Nat → Int32)) (h : xm_learnNimbers a0 f = some r) : am_Ev sc (d + 1) 58 (0, [(0, .ref 143), (1, .int a0)], [], am_SH, (f, g)) (none, am_SH, (r, g)) := by
  have hcd : am_code 58 = am_c58 := rfl
  unfold xm_learnNimbers at h
  obtain ⟨t1, Et1, h⟩ := am_let_eq h
  refine am_Ev.go hcd 5 (s' := (5, [(0, .ref 143), (1, .int a0), (2, .int t1)], [], am_SH, (f, g))) (by subst Et1; exact rfl) ?_
  refine am_Ev.weak' (am_loop_ok (G := fun (s2 : Int32 × (Nat → Nat → Int32)) => am_Ev sc (d + 1) 58 (5, [(0, .ref 143), (1, .int a0), (2, .int s2.1)], [], am_SH, (s2.2, g)) (none, am_SH, (r, g))) (Z := fun (v : (Nat → Nat → Int32)) => ((none, am_SH, (v, g)) : am_R) = (none, am_SH, (r, g))) ?_ am_F (t1, f) r h rfl) (am_sub_cons rfl (am_sub_cons rfl (am_sub_cons rfl am_sub_nil))) rfl
  intro s2 q2 h hI2 hZ2
  show am_Ev sc (d + 1) 58 (5, [(0, .ref 143), (1, .int a0), (2, .int s2.1)], [], am_SH, (s2.2, g)) (none, am_SH, (r, g))
  refine am_Ev.go hcd 2 (s' := (7, [(0, .ref 143), (1, .int a0), (2, .int s2.1)], [.int a0, .int s2.1], am_SH, (s2.2, g))) rfl ?_
  rcases am_ite h with ⟨c7, h⟩ | ⟨c7, h⟩
  · refine am_Ev.t hcd (c := a0 < s2.1) (s1 := (53, [(0, .ref 143), (1, .int a0), (2, .int s2.1)], [], am_SH, (s2.2, g))) rfl c7 ?_
    exact am_Ev.cast (a := (none, am_SH, (s2.2, g))) (hZ2 _ (Option.some.inj h).symm) (am_Ev.ret hcd rfl)
  · refine am_Ev.f hcd (c := a0 < s2.1) (s1 := (8, [(0, .ref 143), (1, .int a0), (2, .int s2.1)], [], am_SH, (s2.2, g))) rfl c7 ?_
    refine am_Ev.go hcd 4 (s' := (12, [(0, .ref 143), (1, .int a0), (2, .int s2.1)], [.int (nI 41), .int s2.1], am_SH, (s2.2, g))) rfl ?_
    rcases am_ite h with ⟨c12, h⟩ | ⟨c12, h⟩
    · refine am_Ev.t hcd (c := s2.1 < (nI 41)) (s1 := (13, [(0, .ref 143), (1, .int a0), (2, .int s2.1)], [], am_SH, (s2.2, g))) rfl c12 ?_
      refine am_Ev.go hcd 4 (s' := (17, [(0, .ref 143), (1, .int a0), (2, .int s2.1), (3, .int 0), (4, .int 1)], [], am_SH, (s2.2, g))) rfl ?_
      obtain ⟨e6, he6, h⟩ := am_bind_some h
      have hK3 : (fun (e6 : Int32) => am_Ev sc (d + 1) 58 (40, [(0, .ref 143), (1, .int a0), (2, .int s2.1), (3, .int e6)], [], am_SH, (s2.2, g)) (none, am_SH, (r, g))) e6 := by
        show am_Ev sc (d + 1) 58 (40, [(0, .ref 143), (1, .int a0), (2, .int s2.1), (3, .int e6)], [], am_SH, (s2.2, g)) (none, am_SH, (r, g))
        refine am_Ev.go hcd 6 (s' := (46, [(0, .ref 143), (1, .int a0), (2, .int s2.1), (3, .int e6)], [.int (e6 ^^^ (-1)), .int s2.1, .ref 150], am_SH, (s2.2, g))) rfl ?_
        refine am_Ev.call hcd (a := 311) (s0 := (0, [(0, .int (e6 ^^^ (-1)))], [], am_SH, (s2.2, g))) (q := ((some (.int (ji_numberOfTrailingZeros (e6 ^^^ (-1))))), am_SH, (s2.2, g))) (s1 := (47, [(0, .ref 143), (1, .int a0), (2, .int s2.1), (3, .int e6)], [.int (ji_numberOfTrailingZeros (e6 ^^^ (-1))), .int s2.1, .ref 150], am_SH, (s2.2, g))) rfl rfl (ji_numberOfTrailingZeros_ok (d) (e6 ^^^ (-1)) (s2.2, g)) ?_
        obtain ⟨c21, h⟩ := am_grd h
        obtain ⟨f8, Ef8, h⟩ := am_let_eq h
        refine am_Ev.t hcd (o := none) (c := am_in s2.1 41 = true) (s1 := (48, [(0, .ref 143), (1, .int a0), (2, .int s2.1), (3, .int e6)], [], am_SH, (f8, g))) (by subst Ef8; exact rfl) c21 ?_
        obtain ⟨f9, Ef9, h⟩ := am_let_eq h
        refine am_Ev.go hcd 3 (s' := (51, [(0, .ref 143), (1, .int a0), (2, .int s2.1), (3, .int e6)], [], am_SH, (f9, g))) (by subst Ef9; exact rfl) ?_
        obtain ⟨t10, Et10, h⟩ := am_let_eq h
        refine am_Ev.go hcd 1 (s' := (52, [(0, .ref 143), (1, .int a0), (2, .int t10), (3, .int e6)], [], am_SH, (f9, g))) (by subst Et10; exact rfl) ?_
        refine am_Ev.go hcd 1 (s' := (5, [(0, .ref 143), (1, .int a0), (2, .int t10), (3, .int e6)], [], am_SH, (f9, g))) rfl ?_
        exact am_Ev.weak' (hI2 (t10, f9) (Option.some.inj h).symm) (am_sub_cons rfl (am_sub_cons rfl (am_sub_cons rfl am_sub_nil))) rfl
      refine am_Ev.weak' (am_loop_ok (G := fun (s3 : Int32 × Int32) => am_Ev sc (d + 1) 58 (17, [(0, .ref 143), (1, .int a0), (2, .int s2.1), (3, .int s3.1), (4, .int s3.2)], [], am_SH, (s2.2, g)) (none, am_SH, (r, g))) (Z := fun (e6 : Int32) => am_Ev sc (d + 1) 58 (40, [(0, .ref 143), (1, .int a0), (2, .int s2.1), (3, .int e6)], [], am_SH, (s2.2, g)) (none, am_SH, (r, g))) ?_ am_F (0, 1) e6 he6 hK3) (am_sub_cons rfl (am_sub_cons rfl (am_sub_cons rfl (am_sub_cons rfl (am_sub_cons rfl am_sub_nil))))) rfl
      intro s3 q3 h hI3 hZ3
      show am_Ev sc (d + 1) 58 (17, [(0, .ref 143), (1, .int a0), (2, .int s2.1), (3, .int s3.1), (4, .int s3.2)], [], am_SH, (s2.2, g)) (none, am_SH, (r, g))
      refine am_Ev.go hcd 4 (s' := (21, [(0, .ref 143), (1, .int a0), (2, .int s2.1), (3, .int s3.1), (4, .int s3.2)], [.int s2.1, .int (2 * s3.2)], am_SH, (s2.2, g))) rfl ?_
      rcases am_ite h with ⟨c33, h⟩ | ⟨c33, h⟩
      · refine am_Ev.t hcd (c := (2 * s3.2) < s2.1) (s1 := (22, [(0, .ref 143), (1, .int a0), (2, .int s2.1), (3, .int s3.1), (4, .int s3.2)], [], am_SH, (s2.2, g))) rfl c33 ?_
        refine am_Ev.go hcd 5 (s' := (27, [(0, .ref 143), (1, .int a0), (2, .int s2.1), (3, .int s3.1), (4, .int s3.2)], [.int s3.2, .ref 150, .int 1, .int s3.1], am_SH, (s2.2, g))) rfl ?_
        obtain ⟨c36, h⟩ := am_grd h
        refine am_Ev.t hcd (o := none) (c := am_in s3.2 41 = true) (s1 := (28, [(0, .ref 143), (1, .int a0), (2, .int s2.1), (3, .int s3.1), (4, .int s3.2)], [.int (s2.2 150 s3.2.toNatClampNeg), .int 1, .int s3.1], am_SH, (s2.2, g))) rfl c36 ?_
        refine am_Ev.go hcd 5 (s' := (33, [(0, .ref 143), (1, .int a0), (2, .int s2.1), (3, .int s3.1), (4, .int s3.2)], [.int (s2.1 - s3.2), .ref 150, .int (s2.2 150 s3.2.toNatClampNeg), .int 1, .int s3.1], am_SH, (s2.2, g))) rfl ?_
        obtain ⟨c39, h⟩ := am_grd h
        refine am_Ev.t hcd (o := none) (c := am_in (s2.1 - s3.2) 41 = true) (s1 := (34, [(0, .ref 143), (1, .int a0), (2, .int s2.1), (3, .int s3.1), (4, .int s3.2)], [.int (s2.2 150 (s2.1 - s3.2).toNatClampNeg), .int (s2.2 150 s3.2.toNatClampNeg), .int 1, .int s3.1], am_SH, (s2.2, g))) rfl c39 ?_
        obtain ⟨t4, Et4, h⟩ := am_let_eq h
        refine am_Ev.go hcd 4 (s' := (38, [(0, .ref 143), (1, .int a0), (2, .int s2.1), (3, .int t4), (4, .int s3.2)], [], am_SH, (s2.2, g))) (by subst Et4; exact rfl) ?_
        obtain ⟨t5, Et5, h⟩ := am_let_eq h
        refine am_Ev.go hcd 1 (s' := (39, [(0, .ref 143), (1, .int a0), (2, .int s2.1), (3, .int t4), (4, .int t5)], [], am_SH, (s2.2, g))) (by subst Et5; exact rfl) ?_
        refine am_Ev.go hcd 1 (s' := (17, [(0, .ref 143), (1, .int a0), (2, .int s2.1), (3, .int t4), (4, .int t5)], [], am_SH, (s2.2, g))) rfl ?_
        exact am_Ev.weak' (hI3 (t4, t5) (Option.some.inj h).symm) (am_sub_cons rfl (am_sub_cons rfl (am_sub_cons rfl (am_sub_cons rfl (am_sub_cons rfl am_sub_nil))))) rfl
      · refine am_Ev.f hcd (c := (2 * s3.2) < s2.1) (s1 := (40, [(0, .ref 143), (1, .int a0), (2, .int s2.1), (3, .int s3.1), (4, .int s3.2)], [], am_SH, (s2.2, g))) rfl c33 ?_
        exact am_Ev.weak' (hZ3 s3.1 (Option.some.inj h).symm) (am_sub_cons rfl (am_sub_cons rfl (am_sub_cons rfl (am_sub_cons rfl am_sub_nil)))) rfl
    · refine am_Ev.f hcd (c := s2.1 < (nI 41)) (s1 := (53, [(0, .ref 143), (1, .int a0), (2, .int s2.1)], [], am_SH, (s2.2, g))) rfl c12 ?_
      exact am_Ev.cast (a := (none, am_SH, (s2.2, g))) (hZ2 _ (Option.some.inj h).symm) (am_Ev.ret hcd rfl)
