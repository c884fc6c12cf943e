def xr_append_45 (a0 : Int32) (a1 : Int32) (f : (Nat → Nat → Int32)) : Option (Int32 × (Nat → Nat → Int32)) :=
  if f 45 0 < (nI 24) then (
    if am_in (f 45 0) 24 = true then (
    am_let (am_up f 46 (f 45 0).toNatClampNeg a0 : Nat → Nat → Int32) fun f1 =>
    if am_in (f1 45 0) 24 = true then (
    am_let (am_up f1 47 (f1 45 0).toNatClampNeg a1 : Nat → Nat → Int32) fun f2 =>
    am_let (am_up f2 45 0 ((f2 45 0) + 1) : Nat → Nat → Int32) fun f3 =>
    some (f3 45 0, f3)) else none) else none)
  else (
    some ((-1), f))
set_option maxRecDepth 100000 in
set_option maxHeartbeats 4000000 in
theorem xr_append_45_ok {sc : Nat × (Nat → Int32)} (d : Nat) (a0 : Int32) (a1 : Int32) (f g : (Nat → Nat → Int32)) (r : Int32 × (Nat → Nat → Int32)) (h : xr_append_45 a0 a1 f = some r) : am_Ev sc (d) 85 (0, [(0, .ref 45), (1, .int a0), (2, .int a1)], [], am_SH, (f, g)) ((some (.int r.1)), am_SH, (r.2, g)) := by
  have hcd : am_code 85 = am_c85 := rfl
  unfold xr_append_45 at h
  refine am_Ev.go hcd 5 (s' := (5, [(0, .ref 45), (1, .int a0), (2, .int a1)], [.int (nI 24), .int (f 45 0)], am_SH, (f, g))) rfl ?_
  rcases am_ite h with ⟨c2, h⟩ | ⟨c2, h⟩
  · refine am_Ev.t hcd (c := f 45 0 < (nI 24)) (s1 := (8, [(0, .ref 45), (1, .int a0), (2, .int a1)], [], am_SH, (f, g))) rfl c2 ?_
    refine am_Ev.go hcd 5 (s' := (13, [(0, .ref 45), (1, .int a0), (2, .int a1)], [.int a0, .int (f 45 0), .ref 46], am_SH, (f, g))) rfl ?_
    obtain ⟨c5, h⟩ := am_grd h
    obtain ⟨f1, Ef1, h⟩ := am_let_eq h
    refine am_Ev.t hcd (c := am_in (f 45 0) 24 = true) (s1 := (14, [(0, .ref 45), (1, .int a0), (2, .int a1)], [], am_SH, (f1, g))) (by subst Ef1; exact rfl) c5 ?_
    refine am_Ev.go hcd 5 (s' := (19, [(0, .ref 45), (1, .int a0), (2, .int a1)], [.int a1, .int (f1 45 0), .ref 47], am_SH, (f1, g))) rfl ?_
    obtain ⟨c9, h⟩ := am_grd h
    obtain ⟨f2, Ef2, h⟩ := am_let_eq h
    refine am_Ev.t hcd (c := am_in (f1 45 0) 24 = true) (s1 := (20, [(0, .ref 45), (1, .int a0), (2, .int a1)], [], am_SH, (f2, g))) (by subst Ef2; exact rfl) c9 ?_
    obtain ⟨f3, Ef3, h⟩ := am_let_eq h
    refine am_Ev.go hcd 6 (s' := (26, [(0, .ref 45), (1, .int a0), (2, .int a1)], [], am_SH, (f3, g))) (by subst Ef3; exact rfl) ?_
    refine am_Ev.go hcd 2 (s' := (28, [(0, .ref 45), (1, .int a0), (2, .int a1)], [.int (f3 45 0)], am_SH, (f3, g))) rfl ?_
    exact am_Ev.cast (a := ((some (.int (f3 45 0, f3).1)), am_SH, ((f3 45 0, f3).2, g))) (by cases h; rfl) (am_Ev.ret hcd rfl)
  · refine am_Ev.f hcd (c := f 45 0 < (nI 24)) (s1 := (6, [(0, .ref 45), (1, .int a0), (2, .int a1)], [], am_SH, (f, g))) rfl c2 ?_
    refine am_Ev.go hcd 1 (s' := (7, [(0, .ref 45), (1, .int a0), (2, .int a1)], [.int (-1)], am_SH, (f, g))) rfl ?_
    exact am_Ev.cast (a := ((some (.int ((-1), f).1)), am_SH, (((-1), f).2, g))) (by cases h; rfl) (am_Ev.ret hcd rfl)
def x_reading (a0 : Int32) (f : (Nat → Nat → Int32)) : Option (Int32 × (Nat → Nat → Int32)) :=
  if a0 = (-1) then (
    am_let (xr_clearAll_45  f) fun p1 =>
    some (p1.1, p1.2))
  else (
    if (x_within a0 0 99) = true then (
      (xr_append_45 a0 0 f).bind fun p3 =>
      some (p3.1, p3.2))
    else (
      some ((-1), f)))
set_option maxRecDepth 100000 in
set_option maxHeartbeats 4000000 in
theorem x_reading_ok {sc : Nat × (Nat → Int32)} (d : Nat) (a0 : Int32) (f g : (Nat → Nat → Int32)) (r : Int32 × (Nat → Nat → Int32)) (h : x_reading a0 f = some r) : am_Ev sc (d + 1) 160 (0, [(0, .ref 0), (1, .int a0)], [], am_SH, (f, g)) ((some (.int r.1)), am_SH, (r.2, g)) := by
  have hcd : am_code 160 = am_c160 := rfl
  unfold x_reading at h
  refine am_Ev.go hcd 2 (s' := (2, [(0, .ref 0), (1, .int a0)], [.int (-1), .int a0], am_SH, (f, g))) rfl ?_
  rcases am_ite h with ⟨c2, h⟩ | ⟨c2, h⟩
  · refine am_Ev.t hcd (c := a0 = (-1)) (s1 := (3, [(0, .ref 0), (1, .int a0)], [], am_SH, (f, g))) rfl c2 ?_
    refine am_Ev.go hcd 3 (s' := (6, [(0, .ref 0), (1, .int a0)], [.ref 45], am_SH, (f, g))) rfl ?_
    obtain ⟨p1, Ep1, h⟩ := am_let_eq h
    refine am_Ev.call hcd (a := 86) (s0 := (0, [(0, .ref 45)], [], am_SH, (f, g))) (q := ((some (.int p1.1)), am_SH, (p1.2, g))) (s1 := (7, [(0, .ref 0), (1, .int a0)], [.int p1.1], am_SH, (p1.2, g))) rfl rfl (by subst Ep1; exact xr_clearAll_45_ok (d)  f g) ?_
    exact am_Ev.cast (a := ((some (.int (p1.1, p1.2).1)), am_SH, ((p1.1, p1.2).2, g))) (by cases h; rfl) (am_Ev.ret hcd rfl)
  · refine am_Ev.f hcd (c := a0 = (-1)) (s1 := (8, [(0, .ref 0), (1, .int a0)], [], am_SH, (f, g))) rfl c2 ?_
    refine am_Ev.go hcd 3 (s' := (11, [(0, .ref 0), (1, .int a0)], [.int 99, .int 0, .int a0], am_SH, (f, g))) rfl ?_
    refine am_Ev.call hcd (a := 170) (s0 := (0, [(0, .int a0), (1, .int 0), (2, .int 99)], [], am_SH, (f, g))) (q := ((some (.int (am_b (x_within a0 0 99)))), am_SH, (f, g))) (s1 := (12, [(0, .ref 0), (1, .int a0)], [.int (am_b (x_within a0 0 99))], am_SH, (f, g))) rfl rfl (x_within_ok (d) a0 0 99 (f, g)) ?_
    rcases am_ite h with ⟨c12, h⟩ | ⟨c12, h⟩
    · refine am_Ev.f hcd (c := am_b (x_within a0 0 99) = 0) (s1 := (13, [(0, .ref 0), (1, .int a0)], [], am_SH, (f, g))) rfl (am_b_t c12) ?_
      refine am_Ev.go hcd 5 (s' := (18, [(0, .ref 0), (1, .int a0)], [.int 0, .int a0, .ref 45], am_SH, (f, g))) rfl ?_
      obtain ⟨p3, hp3, h⟩ := am_bind_some h
      refine am_Ev.call hcd (a := 85) (s0 := (0, [(0, .ref 45), (1, .int a0), (2, .int 0)], [], am_SH, (f, g))) (q := ((some (.int p3.1)), am_SH, (p3.2, g))) (s1 := (19, [(0, .ref 0), (1, .int a0)], [.int p3.1], am_SH, (p3.2, g))) rfl rfl (xr_append_45_ok (d) a0 0 f g p3 hp3) ?_
      refine am_Ev.go hcd 1 (s' := (21, [(0, .ref 0), (1, .int a0)], [.int p3.1], am_SH, (p3.2, g))) rfl ?_
      exact am_Ev.cast (a := ((some (.int (p3.1, p3.2).1)), am_SH, ((p3.1, p3.2).2, g))) (by cases h; rfl) (am_Ev.ret hcd rfl)
    · refine am_Ev.t hcd (c := am_b (x_within a0 0 99) = 0) (s1 := (20, [(0, .ref 0), (1, .int a0)], [], am_SH, (f, g))) rfl (am_b_f c12) ?_
      refine am_Ev.go hcd 1 (s' := (21, [(0, .ref 0), (1, .int a0)], [.int (-1)], am_SH, (f, g))) rfl ?_
      exact am_Ev.cast (a := ((some (.int ((-1), f).1)), am_SH, (((-1), f).2, g))) (by cases h; rfl) (am_Ev.ret hcd rfl)
def xm_steadyFrom_45 (a0 : Int32) (a1 : Int32) (f : (Nat → Nat → Int32)) : Option (Int32) :=
  if am_in a0 24 = true then (
  am_let (f 46 a0.toNatClampNeg : Int32) fun t1 =>
  am_loop (fun (s2 : Int32 × Int32 × Int32) => ((
    if s2.2.2 < f 45 0 then (
      if am_in s2.2.2 24 = true then (
      if am_in s2.2.2 24 = true then (
      if a1 < ((am_max s2.2.1 (f 46 s2.2.2.toNatClampNeg)) - (am_min s2.1 (f 46 s2.2.2.toNatClampNeg))) then (
        some (.inr (s2.2.2 - a0)))
      else (
        am_let (s2.2.2 + 1 : Int32) fun t3 =>
        some (.inl ((am_min s2.1 (f 46 s2.2.2.toNatClampNeg)), (am_max s2.2.1 (f 46 s2.2.2.toNatClampNeg)), t3)))) else none) else none)
    else (
      some (.inr ((f 45 0) - a0)))) : Option ((Int32 × Int32 × Int32) ⊕ (Int32)))) am_F (t1, t1, a0)) else none
set_option maxRecDepth 100000 in
set_option maxHeartbeats 4000000 in
theorem xm_steadyFrom_45_ok {sc : Nat × (Nat → Int32)} (d : Nat) (a0 : Int32) (a1 : Int32) (f g : (Nat → Nat → Int32)) (r : Int32) (h : xm_steadyFrom_45 a0 a1 f = some r) : am_Ev sc (d + 1) 67 (0, [(0, .ref 45), (1, .int a0), (2, .int a1)], [], am_SH, (f, g)) ((some (.int r)), am_SH, (f, g)) := by
  have hcd : am_code 67 = am_c67 := rfl
  unfold xm_steadyFrom_45 at h
  refine am_Ev.go hcd 3 (s' := (3, [(0, .ref 45), (1, .int a0), (2, .int a1)], [.int a0, .ref 46], am_SH, (f, g))) rfl ?_
  obtain ⟨c2, h⟩ := am_grd h
  refine am_Ev.t hcd (c := am_in a0 24 = true) (s1 := (4, [(0, .ref 45), (1, .int a0), (2, .int a1)], [.int (f 46 a0.toNatClampNeg)], am_SH, (f, g))) rfl c2 ?_
  obtain ⟨t1, Et1, h⟩ := am_let_eq h
  refine am_Ev.go hcd 1 (s' := (5, [(0, .ref 45), (1, .int a0), (2, .int a1), (3, .int t1)], [], am_SH, (f, g))) (by subst Et1; exact rfl) ?_
  refine am_Ev.go hcd 4 (s' := (9, [(0, .ref 45), (1, .int a0), (2, .int a1), (3, .int t1), (4, .int t1), (5, .int a0)], [], am_SH, (f, g))) rfl ?_
  refine am_Ev.weak' (am_loop_ok (G := fun (s2 : Int32 × Int32 × Int32) => am_Ev sc (d + 1) 67 (9, [(0, .ref 45), (1, .int a0), (2, .int a1), (3, .int s2.1), (4, .int s2.2.1), (5, .int s2.2.2)], [], am_SH, (f, g)) ((some (.int r)), am_SH, (f, g))) (Z := fun (v : Int32) => (((some (.int v)), am_SH, (f, g)) : am_R) = ((some (.int r)), am_SH, (f, g))) ?_ am_F (t1, t1, a0) r h rfl) (am_sub_cons rfl (am_sub_cons rfl (am_sub_cons rfl (am_sub_cons rfl (am_sub_cons rfl (am_sub_cons rfl am_sub_nil)))))) rfl
  intro s2 q2 h hI2 hZ2
  show am_Ev sc (d + 1) 67 (9, [(0, .ref 45), (1, .int a0), (2, .int a1), (3, .int s2.1), (4, .int s2.2.1), (5, .int s2.2.2)], [], am_SH, (f, g)) ((some (.int r)), am_SH, (f, g))
  refine am_Ev.go hcd 3 (s' := (12, [(0, .ref 45), (1, .int a0), (2, .int a1), (3, .int s2.1), (4, .int s2.2.1), (5, .int s2.2.2)], [.int (f 45 0), .int s2.2.2], am_SH, (f, g))) rfl ?_
  rcases am_ite h with ⟨c11, h⟩ | ⟨c11, h⟩
  · refine am_Ev.t hcd (c := s2.2.2 < f 45 0) (s1 := (13, [(0, .ref 45), (1, .int a0), (2, .int a1), (3, .int s2.1), (4, .int s2.2.1), (5, .int s2.2.2)], [], am_SH, (f, g))) rfl c11 ?_
    refine am_Ev.go hcd 4 (s' := (17, [(0, .ref 45), (1, .int a0), (2, .int a1), (3, .int s2.1), (4, .int s2.2.1), (5, .int s2.2.2)], [.int s2.2.2, .ref 46, .int s2.1], am_SH, (f, g))) rfl ?_
    obtain ⟨c14, h⟩ := am_grd h
    refine am_Ev.t hcd (c := am_in s2.2.2 24 = true) (s1 := (18, [(0, .ref 45), (1, .int a0), (2, .int a1), (3, .int s2.1), (4, .int s2.2.1), (5, .int s2.2.2)], [.int (f 46 s2.2.2.toNatClampNeg), .int s2.1], am_SH, (f, g))) rfl c14 ?_
    refine am_Ev.jdk hcd (s1 := (19, [(0, .ref 45), (1, .int a0), (2, .int a1), (3, .int s2.1), (4, .int s2.2.1), (5, .int s2.2.2)], [.int (am_min s2.1 (f 46 s2.2.2.toNatClampNeg))], am_SH, (f, g))) rfl ?_
    refine am_Ev.go hcd 5 (s' := (24, [(0, .ref 45), (1, .int a0), (2, .int a1), (3, .int (am_min s2.1 (f 46 s2.2.2.toNatClampNeg))), (4, .int s2.2.1), (5, .int s2.2.2)], [.int s2.2.2, .ref 46, .int s2.2.1], am_SH, (f, g))) rfl ?_
    obtain ⟨c18, h⟩ := am_grd h
    refine am_Ev.t hcd (c := am_in s2.2.2 24 = true) (s1 := (25, [(0, .ref 45), (1, .int a0), (2, .int a1), (3, .int (am_min s2.1 (f 46 s2.2.2.toNatClampNeg))), (4, .int s2.2.1), (5, .int s2.2.2)], [.int (f 46 s2.2.2.toNatClampNeg), .int s2.2.1], am_SH, (f, g))) rfl c18 ?_
    refine am_Ev.jdk hcd (s1 := (26, [(0, .ref 45), (1, .int a0), (2, .int a1), (3, .int (am_min s2.1 (f 46 s2.2.2.toNatClampNeg))), (4, .int s2.2.1), (5, .int s2.2.2)], [.int (am_max s2.2.1 (f 46 s2.2.2.toNatClampNeg))], am_SH, (f, g))) rfl ?_
    refine am_Ev.go hcd 5 (s' := (31, [(0, .ref 45), (1, .int a0), (2, .int a1), (3, .int (am_min s2.1 (f 46 s2.2.2.toNatClampNeg))), (4, .int (am_max s2.2.1 (f 46 s2.2.2.toNatClampNeg))), (5, .int s2.2.2)], [.int a1, .int ((am_max s2.2.1 (f 46 s2.2.2.toNatClampNeg)) - (am_min s2.1 (f 46 s2.2.2.toNatClampNeg)))], am_SH, (f, g))) rfl ?_
    rcases am_ite h with ⟨c22, h⟩ | ⟨c22, h⟩
    · refine am_Ev.t hcd (c := a1 < ((am_max s2.2.1 (f 46 s2.2.2.toNatClampNeg)) - (am_min s2.1 (f 46 s2.2.2.toNatClampNeg)))) (s1 := (32, [(0, .ref 45), (1, .int a0), (2, .int a1), (3, .int (am_min s2.1 (f 46 s2.2.2.toNatClampNeg))), (4, .int (am_max s2.2.1 (f 46 s2.2.2.toNatClampNeg))), (5, .int s2.2.2)], [], am_SH, (f, g))) rfl c22 ?_
      refine am_Ev.go hcd 3 (s' := (35, [(0, .ref 45), (1, .int a0), (2, .int a1), (3, .int (am_min s2.1 (f 46 s2.2.2.toNatClampNeg))), (4, .int (am_max s2.2.1 (f 46 s2.2.2.toNatClampNeg))), (5, .int s2.2.2)], [.int (s2.2.2 - a0)], am_SH, (f, g))) rfl ?_
      exact am_Ev.cast (a := ((some (.int (s2.2.2 - a0))), am_SH, (f, g))) (hZ2 _ (Option.some.inj h).symm) (am_Ev.ret hcd rfl)
    · refine am_Ev.f hcd (c := a1 < ((am_max s2.2.1 (f 46 s2.2.2.toNatClampNeg)) - (am_min s2.1 (f 46 s2.2.2.toNatClampNeg)))) (s1 := (36, [(0, .ref 45), (1, .int a0), (2, .int a1), (3, .int (am_min s2.1 (f 46 s2.2.2.toNatClampNeg))), (4, .int (am_max s2.2.1 (f 46 s2.2.2.toNatClampNeg))), (5, .int s2.2.2)], [], am_SH, (f, g))) rfl c22 ?_
      obtain ⟨t3, Et3, h⟩ := am_let_eq h
      refine am_Ev.go hcd 1 (s' := (37, [(0, .ref 45), (1, .int a0), (2, .int a1), (3, .int (am_min s2.1 (f 46 s2.2.2.toNatClampNeg))), (4, .int (am_max s2.2.1 (f 46 s2.2.2.toNatClampNeg))), (5, .int t3)], [], am_SH, (f, g))) (by subst Et3; exact rfl) ?_
      refine am_Ev.go hcd 1 (s' := (9, [(0, .ref 45), (1, .int a0), (2, .int a1), (3, .int (am_min s2.1 (f 46 s2.2.2.toNatClampNeg))), (4, .int (am_max s2.2.1 (f 46 s2.2.2.toNatClampNeg))), (5, .int t3)], [], am_SH, (f, g))) rfl ?_
      exact am_Ev.weak' (hI2 ((am_min s2.1 (f 46 s2.2.2.toNatClampNeg)), (am_max s2.2.1 (f 46 s2.2.2.toNatClampNeg)), t3) (Option.some.inj h).symm) (am_sub_cons rfl (am_sub_cons rfl (am_sub_cons rfl (am_sub_cons rfl (am_sub_cons rfl (am_sub_cons rfl am_sub_nil)))))) rfl
  · refine am_Ev.f hcd (c := s2.2.2 < f 45 0) (s1 := (38, [(0, .ref 45), (1, .int a0), (2, .int a1), (3, .int s2.1), (4, .int s2.2.1), (5, .int s2.2.2)], [], am_SH, (f, g))) rfl c11 ?_
    refine am_Ev.go hcd 4 (s' := (42, [(0, .ref 45), (1, .int a0), (2, .int a1), (3, .int s2.1), (4, .int s2.2.1), (5, .int s2.2.2)], [.int ((f 45 0) - a0)], am_SH, (f, g))) rfl ?_
    exact am_Ev.cast (a := ((some (.int ((f 45 0) - a0))), am_SH, (f, g))) (hZ2 _ (Option.some.inj h).symm) (am_Ev.ret hcd rfl)
def xm_steadiest_45 (a0 : Int32) (a1 : Int32) (f : (Nat → Nat → Int32)) : Option (Int32) :=
  (am_loop (fun (s1 : Int32 × Int32 × Int32) => ((
    if s1.2.2 < f 45 0 then (
      (xm_steadyFrom_45 s1.2.2 a0 f).bind fun p2 =>
      am_let ((if s1.1 < p2 then (
          (p2, s1.2.2))
        else (
          (s1.1, s1.2.1))) : Int32 × Int32) fun t3 =>
      am_let (s1.2.2 + 1 : Int32) fun t4 =>
      some (.inl (t3.1, t3.2, t4)))
    else (
      some (.inr (s1.1, s1.2.1)))) : Option ((Int32 × Int32 × Int32) ⊕ (Int32 × Int32)))) am_F (0, (-1), 0)).bind fun e5 =>
  if a1 = 0 then (
    some e5.1)
  else (
    some e5.2)
set_option maxRecDepth 100000 in
set_option maxHeartbeats 4000000 in
theorem xm_steadiest_45_ok {sc : Nat × (Nat → Int32)} (d : Nat) (a0 : Int32) (a1 : Int32) (f g : (Nat → Nat → Int32)) (r : Int32) (h : xm_steadiest_45 a0 a1 f = some r) : am_Ev sc (d + 2) 66 (0, [(0, .ref 143), (1, .ref 45), (2, .int a0), (3, .int a1)], [], am_SH, (f, g)) ((some (.int r)), am_SH, (f, g)) := by
  have hcd : am_code 66 = am_c66 := rfl
  unfold xm_steadiest_45 at h
  refine am_Ev.go hcd 6 (s' := (6, [(0, .ref 143), (1, .ref 45), (2, .int a0), (3, .int a1), (4, .int 0), (5, .int (-1)), (6, .int 0)], [], am_SH, (f, g))) rfl ?_
  obtain ⟨e5, he5, h⟩ := am_bind_some h
  have hK1 : (fun (e5 : Int32 × Int32) => am_Ev sc (d + 2) 66 (24, [(3, .int a1), (4, .int e5.1), (5, .int e5.2)], [], am_SH, (f, g)) ((some (.int r)), am_SH, (f, g))) e5 := by
    show am_Ev sc (d + 2) 66 (24, [(3, .int a1), (4, .int e5.1), (5, .int e5.2)], [], am_SH, (f, g)) ((some (.int r)), am_SH, (f, g))
    refine am_Ev.go hcd 1 (s' := (25, [(3, .int a1), (4, .int e5.1), (5, .int e5.2)], [.int a1], am_SH, (f, g))) rfl ?_
    rcases am_ite h with ⟨c6, h⟩ | ⟨c6, h⟩
    · refine am_Ev.t hcd (c := a1 = 0) (s1 := (26, [(3, .int a1), (4, .int e5.1), (5, .int e5.2)], [], am_SH, (f, g))) rfl c6 ?_
      refine am_Ev.go hcd 2 (s' := (29, [(3, .int a1), (4, .int e5.1), (5, .int e5.2)], [.int e5.1], am_SH, (f, g))) rfl ?_
      exact am_Ev.cast (a := ((some (.int e5.1)), am_SH, (f, g))) (by cases h; rfl) (am_Ev.ret hcd rfl)
    · refine am_Ev.f hcd (c := a1 = 0) (s1 := (28, [(3, .int a1), (4, .int e5.1), (5, .int e5.2)], [], am_SH, (f, g))) rfl c6 ?_
      refine am_Ev.go hcd 1 (s' := (29, [(3, .int a1), (4, .int e5.1), (5, .int e5.2)], [.int e5.2], am_SH, (f, g))) rfl ?_
      exact am_Ev.cast (a := ((some (.int e5.2)), am_SH, (f, g))) (by cases h; rfl) (am_Ev.ret hcd rfl)
  refine am_Ev.weak' (am_loop_ok (G := fun (s1 : Int32 × Int32 × Int32) => am_Ev sc (d + 2) 66 (6, [(1, .ref 45), (2, .int a0), (3, .int a1), (4, .int s1.1), (5, .int s1.2.1), (6, .int s1.2.2)], [], am_SH, (f, g)) ((some (.int r)), am_SH, (f, g))) (Z := fun (e5 : Int32 × Int32) => am_Ev sc (d + 2) 66 (24, [(3, .int a1), (4, .int e5.1), (5, .int e5.2)], [], am_SH, (f, g)) ((some (.int r)), am_SH, (f, g))) ?_ am_F (0, (-1), 0) e5 he5 hK1) (am_sub_cons rfl (am_sub_cons rfl (am_sub_cons rfl (am_sub_cons rfl (am_sub_cons rfl (am_sub_cons rfl am_sub_nil)))))) rfl
  intro s1 q1 h hI1 hZ1
  show am_Ev sc (d + 2) 66 (6, [(1, .ref 45), (2, .int a0), (3, .int a1), (4, .int s1.1), (5, .int s1.2.1), (6, .int s1.2.2)], [], am_SH, (f, g)) ((some (.int r)), am_SH, (f, g))
  refine am_Ev.go hcd 3 (s' := (9, [(1, .ref 45), (2, .int a0), (3, .int a1), (4, .int s1.1), (5, .int s1.2.1), (6, .int s1.2.2)], [.int (f 45 0), .int s1.2.2], am_SH, (f, g))) rfl ?_
  rcases am_ite h with ⟨c17, h⟩ | ⟨c17, h⟩
  · refine am_Ev.t hcd (c := s1.2.2 < f 45 0) (s1 := (10, [(1, .ref 45), (2, .int a0), (3, .int a1), (4, .int s1.1), (5, .int s1.2.1), (6, .int s1.2.2)], [], am_SH, (f, g))) rfl c17 ?_
    refine am_Ev.go hcd 3 (s' := (13, [(1, .ref 45), (2, .int a0), (3, .int a1), (4, .int s1.1), (5, .int s1.2.1), (6, .int s1.2.2)], [.int a0, .int s1.2.2, .ref 45], am_SH, (f, g))) rfl ?_
    obtain ⟨p2, hp2, h⟩ := am_bind_some h
    refine am_Ev.call hcd (a := 67) (s0 := (0, [(0, .ref 45), (1, .int s1.2.2), (2, .int a0)], [], am_SH, (f, g))) (q := ((some (.int p2)), am_SH, (f, g))) (s1 := (14, [(1, .ref 45), (2, .int a0), (3, .int a1), (4, .int s1.1), (5, .int s1.2.1), (6, .int s1.2.2)], [.int p2], am_SH, (f, g))) rfl rfl (xm_steadyFrom_45_ok (d) s1.2.2 a0 f g p2 hp2) ?_
    obtain ⟨t3, ht3, kt3⟩ := am_let_eq h
    have hKt3 : am_Ev sc (d + 2) 66 (22, [(1, .ref 45), (2, .int a0), (3, .int a1), (4, .int t3.1), (5, .int t3.2), (6, .int s1.2.2)], [], am_SH, (f, g)) ((some (.int r)), am_SH, (f, g)) := by
      have h := kt3
      obtain ⟨t4, Et4, h⟩ := am_let_eq h
      refine am_Ev.go hcd 1 (s' := (23, [(1, .ref 45), (2, .int a0), (3, .int a1), (4, .int t3.1), (5, .int t3.2), (6, .int t4)], [], am_SH, (f, g))) (by subst Et4; exact rfl) ?_
      refine am_Ev.go hcd 1 (s' := (6, [(1, .ref 45), (2, .int a0), (3, .int a1), (4, .int t3.1), (5, .int t3.2), (6, .int t4)], [], am_SH, (f, g))) rfl ?_
      exact am_Ev.weak' (hI1 (t3.1, t3.2, t4) (Option.some.inj h).symm) (am_sub_cons rfl (am_sub_cons rfl (am_sub_cons rfl (am_sub_cons rfl (am_sub_cons rfl (am_sub_cons rfl am_sub_nil)))))) rfl
    have hLt3 : ∀ tt, tt = t3 → am_Ev sc (d + 2) 66 (22, [(1, .ref 45), (2, .int a0), (3, .int a1), (4, .int tt.1), (5, .int tt.2), (6, .int s1.2.2)], [], am_SH, (f, g)) ((some (.int r)), am_SH, (f, g)) := fun tt htt => by subst htt; exact hKt3
    have h := ht3
    refine am_Ev.go hcd 3 (s' := (17, [(1, .ref 45), (2, .int a0), (3, .int a1), (4, .int s1.1), (5, .int s1.2.1), (6, .int s1.2.2), (7, .int p2)], [.int s1.1, .int p2], am_SH, (f, g))) rfl ?_
    rcases am_itv h with ⟨c32, h⟩ | ⟨c32, h⟩
    · refine am_Ev.t hcd (c := s1.1 < p2) (s1 := (18, [(1, .ref 45), (2, .int a0), (3, .int a1), (4, .int s1.1), (5, .int s1.2.1), (6, .int s1.2.2), (7, .int p2)], [], am_SH, (f, g))) rfl c32 ?_
      refine am_Ev.go hcd 4 (s' := (22, [(1, .ref 45), (2, .int a0), (3, .int a1), (4, .int p2), (5, .int s1.2.2), (6, .int s1.2.2), (7, .int p2)], [], am_SH, (f, g))) rfl ?_
      exact am_Ev.weak' (hLt3 (p2, s1.2.2) h.symm) (am_sub_cons rfl (am_sub_cons rfl (am_sub_cons rfl (am_sub_cons rfl (am_sub_cons rfl (am_sub_cons rfl am_sub_nil)))))) rfl
    · refine am_Ev.f hcd (c := s1.1 < p2) (s1 := (22, [(1, .ref 45), (2, .int a0), (3, .int a1), (4, .int s1.1), (5, .int s1.2.1), (6, .int s1.2.2), (7, .int p2)], [], am_SH, (f, g))) rfl c32 ?_
      exact am_Ev.weak' (hLt3 (s1.1, s1.2.1) h.symm) (am_sub_cons rfl (am_sub_cons rfl (am_sub_cons rfl (am_sub_cons rfl (am_sub_cons rfl (am_sub_cons rfl am_sub_nil)))))) rfl
  · refine am_Ev.f hcd (c := s1.2.2 < f 45 0) (s1 := (24, [(1, .ref 45), (2, .int a0), (3, .int a1), (4, .int s1.1), (5, .int s1.2.1), (6, .int s1.2.2)], [], am_SH, (f, g))) rfl c17 ?_
    exact am_Ev.weak' (hZ1 (s1.1, s1.2.1) (Option.some.inj h).symm) (am_sub_cons rfl (am_sub_cons rfl (am_sub_cons rfl am_sub_nil))) rfl
def x_steady (a0 : Int32) (a1 : Int32) (f : (Nat → Nat → Int32)) : Option (Int32) :=
  if (x_within a0 0 99) = true then (
    if (x_within a1 0 1) = true then (
      (xm_steadiest_45 a0 a1 f).bind fun p3 =>
      some p3)
    else (
      some (-1)))
  else (
    some (-1))
set_option maxRecDepth 100000 in
set_option maxHeartbeats 4000000 in
theorem x_steady_ok {sc : Nat × (Nat → Int32)} (d : Nat) (a0 : Int32) (a1 : Int32) (f g : (Nat → Nat → Int32)) (r : Int32) (h : x_steady a0 a1 f = some r) : am_Ev sc (d + 3) 161 (0, [(0, .ref 0), (1, .int a0), (2, .int a1)], [], am_SH, (f, g)) ((some (.int r)), am_SH, (f, g)) := by
  have hcd : am_code 161 = am_c161 := rfl
  unfold x_steady at h
  refine am_Ev.go hcd 3 (s' := (3, [(0, .ref 0), (1, .int a0), (2, .int a1)], [.int 99, .int 0, .int a0], am_SH, (f, g))) rfl ?_
  refine am_Ev.call hcd (a := 170) (s0 := (0, [(0, .int a0), (1, .int 0), (2, .int 99)], [], am_SH, (f, g))) (q := ((some (.int (am_b (x_within a0 0 99)))), am_SH, (f, g))) (s1 := (4, [(0, .ref 0), (1, .int a0), (2, .int a1)], [.int (am_b (x_within a0 0 99))], am_SH, (f, g))) rfl rfl (x_within_ok (d + 2) a0 0 99 (f, g)) ?_
  rcases am_ite h with ⟨c4, h⟩ | ⟨c4, h⟩
  · refine am_Ev.f hcd (c := am_b (x_within a0 0 99) = 0) (s1 := (5, [(0, .ref 0), (1, .int a0), (2, .int a1)], [], am_SH, (f, g))) rfl (am_b_t c4) ?_
    refine am_Ev.go hcd 3 (s' := (8, [(0, .ref 0), (1, .int a0), (2, .int a1)], [.int 1, .int 0, .int a1], am_SH, (f, g))) rfl ?_
    refine am_Ev.call hcd (a := 170) (s0 := (0, [(0, .int a1), (1, .int 0), (2, .int 1)], [], am_SH, (f, g))) (q := ((some (.int (am_b (x_within a1 0 1)))), am_SH, (f, g))) (s1 := (9, [(0, .ref 0), (1, .int a0), (2, .int a1)], [.int (am_b (x_within a1 0 1))], am_SH, (f, g))) rfl rfl (x_within_ok (d + 2) a1 0 1 (f, g)) ?_
    rcases am_ite h with ⟨c8, h⟩ | ⟨c8, h⟩
    · refine am_Ev.f hcd (c := am_b (x_within a1 0 1) = 0) (s1 := (12, [(0, .ref 0), (1, .int a0), (2, .int a1)], [], am_SH, (f, g))) rfl (am_b_t c8) ?_
      refine am_Ev.go hcd 7 (s' := (19, [(0, .ref 0), (1, .int a0), (2, .int a1)], [.int a1, .int a0, .ref 45, .ref 143], am_SH, (f, g))) rfl ?_
      obtain ⟨p3, hp3, h⟩ := am_bind_some h
      refine am_Ev.call hcd (a := 66) (s0 := (0, [(0, .ref 143), (1, .ref 45), (2, .int a0), (3, .int a1)], [], am_SH, (f, g))) (q := ((some (.int p3)), am_SH, (f, g))) (s1 := (20, [(0, .ref 0), (1, .int a0), (2, .int a1)], [.int p3], am_SH, (f, g))) rfl rfl (xm_steadiest_45_ok (d) a0 a1 f g p3 hp3) ?_
      exact am_Ev.cast (a := ((some (.int p3)), am_SH, (f, g))) (by cases h; rfl) (am_Ev.ret hcd rfl)
    · refine am_Ev.t hcd (c := am_b (x_within a1 0 1) = 0) (s1 := (10, [(0, .ref 0), (1, .int a0), (2, .int a1)], [], am_SH, (f, g))) rfl (am_b_f c8) ?_
      refine am_Ev.go hcd 1 (s' := (11, [(0, .ref 0), (1, .int a0), (2, .int a1)], [.int (-1)], am_SH, (f, g))) rfl ?_
      exact am_Ev.cast (a := ((some (.int (-1))), am_SH, (f, g))) (by cases h; rfl) (am_Ev.ret hcd rfl)
  · refine am_Ev.t hcd (c := am_b (x_within a0 0 99) = 0) (s1 := (10, [(0, .ref 0), (1, .int a0), (2, .int a1)], [], am_SH, (f, g))) rfl (am_b_f c4) ?_
    refine am_Ev.go hcd 1 (s' := (11, [(0, .ref 0), (1, .int a0), (2, .int a1)], [.int (-1)], am_SH, (f, g))) rfl ?_
    exact am_Ev.cast (a := ((some (.int (-1))), am_SH, (f, g))) (by cases h; rfl) (am_Ev.ret hcd rfl)
def xm_quietWays (a0 : Int32) (a1 : Int32) (f : (Nat → Nat → Int32)) : Option (Int32 × (Nat → Nat → Int32)) :=
  if am_in 0 6 = true ∧ ((1 : Int32).toInt64).toInt32.toInt64 = ((1 : Int32).toInt64) then (
  am_let (am_up f 154 0 (((1 : Int32).toInt64).toInt32) : Nat → Nat → Int32) fun f1 =>
  (am_loop (fun (s2 : Int32 × (Nat → Nat → Int32)) => ((
    if s2.1 < a1 then (
      if am_in s2.1 6 = true ∧ ((0 : Int32).toInt64).toInt32.toInt64 = ((0 : Int32).toInt64) then (
      am_let (am_up s2.2 154 s2.1.toNatClampNeg (((0 : Int32).toInt64).toInt32) : Nat → Nat → Int32) fun f3 =>
      am_let (s2.1 + 1 : Int32) fun t4 =>
      some (.inl (t4, f3))) else none)
    else (
      some (.inr s2.2))) : Option ((Int32 × (Nat → Nat → Int32)) ⊕ ((Nat → Nat → Int32))))) am_F (1, f1)).bind fun e5 =>
  am_loop (fun (s6 : Int64 × Int32 × (Nat → Nat → Int32)) => ((
    if s6.2.1 < a0 then (
      (am_loop (fun (s7 : Int32 × (Nat → Nat → Int32)) => ((
        if 0 < s7.1 then (
          if am_in (s7.1 - 1) 6 = true then (
          if am_in s7.1 6 = true ∧ ((s7.2 154 (s7.1 - 1).toNatClampNeg).toInt64).toInt32.toInt64 = ((s7.2 154 (s7.1 - 1).toNatClampNeg).toInt64) then (
          am_let (am_up s7.2 154 s7.1.toNatClampNeg (((s7.2 154 (s7.1 - 1).toNatClampNeg).toInt64).toInt32) : Nat → Nat → Int32) fun f8 =>
          am_let (s7.1 + (-1) : Int32) fun t9 =>
          some (.inl (t9, f8))) else none) else none)
        else (
          some (.inr s7.2))) : Option ((Int32 × (Nat → Nat → Int32)) ⊕ ((Nat → Nat → Int32))))) am_F ((a1 - 1), s6.2.2)).bind fun e10 =>
      if am_in 0 6 = true ∧ s6.1.toInt32.toInt64 = s6.1 then (
      am_let (am_up e10 154 0 (s6.1.toInt32) : Nat → Nat → Int32) fun f11 =>
      (am_loop (fun (s12 : Int64 × Int32) => ((
        if s12.2 < a1 then (
          if am_in s12.2 6 = true then (
          am_let (s12.2 + 1 : Int32) fun t13 =>
          some (.inl (((s12.1 + ((f11 154 s12.2.toNatClampNeg).toInt64)) - (s12.1 + ((f11 154 s12.2.toNatClampNeg).toInt64)) / ((1000000007 : Int32).toInt64) * ((1000000007 : Int32).toInt64)), t13))) else none)
        else (
          some (.inr s12.1))) : Option ((Int64 × Int32) ⊕ (Int64)))) am_F (((0 : Int32).toInt64), 0)).bind fun e14 =>
      am_let (s6.2.1 + 1 : Int32) fun t15 =>
      some (.inl (e14, t15, f11))) else none)
    else (
      some (.inr ((s6.1.toInt32), s6.2.2)))) : Option ((Int64 × Int32 × (Nat → Nat → Int32)) ⊕ (Int32 × (Nat → Nat → Int32))))) am_F (((1 : Int32).toInt64), 0, e5)) else none
set_option maxRecDepth 100000 in
set_option maxHeartbeats 4000000 in
theorem xm_quietWays_ok {sc : Nat × (Nat → Int32)} (d : Nat) (a0 : Int32) (a1 : Int32) (f g : (Nat → Nat → Int32)) (r : Int32 × (Nat → Nat → Int32)) (h : xm_quietWays a0 a1 f = some r) : am_Ev sc (d) 68 (0, [(0, .ref 143), (1, .int a0), (2, .int a1)], [], am_SH, (f, g)) ((some (.int r.1)), am_SH, (r.2, g)) := by
  have hcd : am_code 68 = am_c68 := rfl
  unfold xm_quietWays at h
  refine am_Ev.go hcd 4 (s' := (4, [(0, .ref 143), (1, .int a0), (2, .int a1)], [.long ((1 : Int32).toInt64), .int 0, .ref 154], am_SH, (f, g))) rfl ?_
  obtain ⟨c2, h⟩ := am_grd h
  obtain ⟨f1, Ef1, h⟩ := am_let_eq h
  refine am_Ev.t hcd (c := am_in 0 6 = true ∧ ((1 : Int32).toInt64).toInt32.toInt64 = ((1 : Int32).toInt64)) (s1 := (5, [(0, .ref 143), (1, .int a0), (2, .int a1)], [], am_SH, (f1, g))) (by subst Ef1; exact rfl) c2 ?_
  refine am_Ev.go hcd 2 (s' := (7, [(0, .ref 143), (1, .int a0), (2, .int a1), (3, .int 1)], [], am_SH, (f1, g))) rfl ?_
  obtain ⟨e5, he5, h⟩ := am_bind_some h
  have hK2 : (fun (e5 : (Nat → Nat → Int32)) => am_Ev sc (d) 68 (17, [(0, .ref 143), (1, .int a0), (2, .int a1)], [], am_SH, (e5, g)) ((some (.int r.1)), am_SH, (r.2, g))) e5 := by
    show am_Ev sc (d) 68 (17, [(0, .ref 143), (1, .int a0), (2, .int a1)], [], am_SH, (e5, g)) ((some (.int r.1)), am_SH, (r.2, g))
    refine am_Ev.go hcd 4 (s' := (21, [(0, .ref 143), (1, .int a0), (2, .int a1), (3, .long ((1 : Int32).toInt64)), (5, .int 0)], [], am_SH, (e5, g))) rfl ?_
    refine am_Ev.weak' (am_loop_ok (G := fun (s6 : Int64 × Int32 × (Nat → Nat → Int32)) => am_Ev sc (d) 68 (21, [(0, .ref 143), (1, .int a0), (2, .int a1), (3, .long s6.1), (5, .int s6.2.1)], [], am_SH, (s6.2.2, g)) ((some (.int r.1)), am_SH, (r.2, g))) (Z := fun (v : Int32 × (Nat → Nat → Int32)) => (((some (.int v.1)), am_SH, (v.2, g)) : am_R) = ((some (.int r.1)), am_SH, (r.2, g))) ?_ am_F (((1 : Int32).toInt64), 0, e5) r h rfl) (am_sub_cons rfl (am_sub_cons rfl (am_sub_cons rfl (am_sub_cons rfl (am_sub_cons rfl am_sub_nil))))) rfl
    intro s6 q6 h hI6 hZ6
    show am_Ev sc (d) 68 (21, [(0, .ref 143), (1, .int a0), (2, .int a1), (3, .long s6.1), (5, .int s6.2.1)], [], am_SH, (s6.2.2, g)) ((some (.int r.1)), am_SH, (r.2, g))
    refine am_Ev.go hcd 2 (s' := (23, [(0, .ref 143), (1, .int a0), (2, .int a1), (3, .long s6.1), (5, .int s6.2.1)], [.int a0, .int s6.2.1], am_SH, (s6.2.2, g))) rfl ?_
    rcases am_ite h with ⟨c14, h⟩ | ⟨c14, h⟩
    · refine am_Ev.t hcd (c := s6.2.1 < a0) (s1 := (24, [(0, .ref 143), (1, .int a0), (2, .int a1), (3, .long s6.1), (5, .int s6.2.1)], [], am_SH, (s6.2.2, g))) rfl c14 ?_
      refine am_Ev.go hcd 4 (s' := (28, [(0, .ref 143), (1, .int a0), (2, .int a1), (3, .long s6.1), (5, .int s6.2.1), (6, .int (a1 - 1))], [], am_SH, (s6.2.2, g))) rfl ?_
      obtain ⟨e10, he10, h⟩ := am_bind_some h
      have hK7 : (fun (e10 : (Nat → Nat → Int32)) => am_Ev sc (d) 68 (42, [(0, .ref 143), (1, .int a0), (2, .int a1), (3, .long s6.1), (5, .int s6.2.1)], [], am_SH, (e10, g)) ((some (.int r.1)), am_SH, (r.2, g))) e10 := by
        show am_Ev sc (d) 68 (42, [(0, .ref 143), (1, .int a0), (2, .int a1), (3, .long s6.1), (5, .int s6.2.1)], [], am_SH, (e10, g)) ((some (.int r.1)), am_SH, (r.2, g))
        refine am_Ev.go hcd 4 (s' := (46, [(0, .ref 143), (1, .int a0), (2, .int a1), (3, .long s6.1), (5, .int s6.2.1)], [.long s6.1, .int 0, .ref 154], am_SH, (e10, g))) rfl ?_
        obtain ⟨c21, h⟩ := am_grd h
        obtain ⟨f11, Ef11, h⟩ := am_let_eq h
        refine am_Ev.t hcd (c := am_in 0 6 = true ∧ s6.1.toInt32.toInt64 = s6.1) (s1 := (47, [(0, .ref 143), (1, .int a0), (2, .int a1), (3, .long s6.1), (5, .int s6.2.1)], [], am_SH, (f11, g))) (by subst Ef11; exact rfl) c21 ?_
        refine am_Ev.go hcd 4 (s' := (51, [(0, .ref 143), (1, .int a0), (2, .int a1), (3, .long ((0 : Int32).toInt64)), (5, .int s6.2.1), (6, .int 0)], [], am_SH, (f11, g))) rfl ?_
        obtain ⟨e14, he14, h⟩ := am_bind_some h
        have hK12 : (fun (e14 : Int64) => am_Ev sc (d) 68 (65, [(0, .ref 143), (1, .int a0), (2, .int a1), (3, .long e14), (5, .int s6.2.1)], [], am_SH, (f11, g)) ((some (.int r.1)), am_SH, (r.2, g))) e14 := by
          show am_Ev sc (d) 68 (65, [(0, .ref 143), (1, .int a0), (2, .int a1), (3, .long e14), (5, .int s6.2.1)], [], am_SH, (f11, g)) ((some (.int r.1)), am_SH, (r.2, g))
          obtain ⟨t15, Et15, h⟩ := am_let_eq h
          refine am_Ev.go hcd 1 (s' := (66, [(0, .ref 143), (1, .int a0), (2, .int a1), (3, .long e14), (5, .int t15)], [], am_SH, (f11, g))) (by subst Et15; exact rfl) ?_
          refine am_Ev.go hcd 1 (s' := (21, [(0, .ref 143), (1, .int a0), (2, .int a1), (3, .long e14), (5, .int t15)], [], am_SH, (f11, g))) rfl ?_
          exact am_Ev.weak' (hI6 (e14, t15, f11) (Option.some.inj h).symm) (am_sub_cons rfl (am_sub_cons rfl (am_sub_cons rfl (am_sub_cons rfl (am_sub_cons rfl am_sub_nil))))) rfl
        refine am_Ev.weak' (am_loop_ok (G := fun (s12 : Int64 × Int32) => am_Ev sc (d) 68 (51, [(0, .ref 143), (1, .int a0), (2, .int a1), (3, .long s12.1), (5, .int s6.2.1), (6, .int s12.2)], [], am_SH, (f11, g)) ((some (.int r.1)), am_SH, (r.2, g))) (Z := fun (e14 : Int64) => am_Ev sc (d) 68 (65, [(0, .ref 143), (1, .int a0), (2, .int a1), (3, .long e14), (5, .int s6.2.1)], [], am_SH, (f11, g)) ((some (.int r.1)), am_SH, (r.2, g))) ?_ am_F (((0 : Int32).toInt64), 0) e14 he14 hK12) (am_sub_cons rfl (am_sub_cons rfl (am_sub_cons rfl (am_sub_cons rfl (am_sub_cons rfl (am_sub_cons rfl am_sub_nil)))))) rfl
        intro s12 q12 h hI12 hZ12
        show am_Ev sc (d) 68 (51, [(0, .ref 143), (1, .int a0), (2, .int a1), (3, .long s12.1), (5, .int s6.2.1), (6, .int s12.2)], [], am_SH, (f11, g)) ((some (.int r.1)), am_SH, (r.2, g))
        refine am_Ev.go hcd 2 (s' := (53, [(0, .ref 143), (1, .int a0), (2, .int a1), (3, .long s12.1), (5, .int s6.2.1), (6, .int s12.2)], [.int a1, .int s12.2], am_SH, (f11, g))) rfl ?_
        rcases am_ite h with ⟨c36, h⟩ | ⟨c36, h⟩
        · refine am_Ev.t hcd (c := s12.2 < a1) (s1 := (54, [(0, .ref 143), (1, .int a0), (2, .int a1), (3, .long s12.1), (5, .int s6.2.1), (6, .int s12.2)], [], am_SH, (f11, g))) rfl c36 ?_
          refine am_Ev.go hcd 4 (s' := (58, [(0, .ref 143), (1, .int a0), (2, .int a1), (3, .long s12.1), (5, .int s6.2.1), (6, .int s12.2)], [.int s12.2, .ref 154, .long s12.1], am_SH, (f11, g))) rfl ?_
          obtain ⟨c39, h⟩ := am_grd h
          refine am_Ev.t hcd (c := am_in s12.2 6 = true) (s1 := (59, [(0, .ref 143), (1, .int a0), (2, .int a1), (3, .long s12.1), (5, .int s6.2.1), (6, .int s12.2)], [.long ((f11 154 s12.2.toNatClampNeg).toInt64), .long s12.1], am_SH, (f11, g))) rfl c39 ?_
          obtain ⟨t13, Et13, h⟩ := am_let_eq h
          refine am_Ev.go hcd 5 (s' := (64, [(0, .ref 143), (1, .int a0), (2, .int a1), (3, .long ((s12.1 + ((f11 154 s12.2.toNatClampNeg).toInt64)) - (s12.1 + ((f11 154 s12.2.toNatClampNeg).toInt64)) / ((1000000007 : Int32).toInt64) * ((1000000007 : Int32).toInt64))), (5, .int s6.2.1), (6, .int t13)], [], am_SH, (f11, g))) (by subst Et13; exact rfl) ?_
          refine am_Ev.go hcd 1 (s' := (51, [(0, .ref 143), (1, .int a0), (2, .int a1), (3, .long ((s12.1 + ((f11 154 s12.2.toNatClampNeg).toInt64)) - (s12.1 + ((f11 154 s12.2.toNatClampNeg).toInt64)) / ((1000000007 : Int32).toInt64) * ((1000000007 : Int32).toInt64))), (5, .int s6.2.1), (6, .int t13)], [], am_SH, (f11, g))) rfl ?_
          exact am_Ev.weak' (hI12 (((s12.1 + ((f11 154 s12.2.toNatClampNeg).toInt64)) - (s12.1 + ((f11 154 s12.2.toNatClampNeg).toInt64)) / ((1000000007 : Int32).toInt64) * ((1000000007 : Int32).toInt64)), t13) (Option.some.inj h).symm) (am_sub_cons rfl (am_sub_cons rfl (am_sub_cons rfl (am_sub_cons rfl (am_sub_cons rfl (am_sub_cons rfl am_sub_nil)))))) rfl
        · refine am_Ev.f hcd (c := s12.2 < a1) (s1 := (65, [(0, .ref 143), (1, .int a0), (2, .int a1), (3, .long s12.1), (5, .int s6.2.1), (6, .int s12.2)], [], am_SH, (f11, g))) rfl c36 ?_
          exact am_Ev.weak' (hZ12 s12.1 (Option.some.inj h).symm) (am_sub_cons rfl (am_sub_cons rfl (am_sub_cons rfl (am_sub_cons rfl (am_sub_cons rfl am_sub_nil))))) rfl
      refine am_Ev.weak' (am_loop_ok (G := fun (s7 : Int32 × (Nat → Nat → Int32)) => am_Ev sc (d) 68 (28, [(0, .ref 143), (1, .int a0), (2, .int a1), (3, .long s6.1), (5, .int s6.2.1), (6, .int s7.1)], [], am_SH, (s7.2, g)) ((some (.int r.1)), am_SH, (r.2, g))) (Z := fun (e10 : (Nat → Nat → Int32)) => am_Ev sc (d) 68 (42, [(0, .ref 143), (1, .int a0), (2, .int a1), (3, .long s6.1), (5, .int s6.2.1)], [], am_SH, (e10, g)) ((some (.int r.1)), am_SH, (r.2, g))) ?_ am_F ((a1 - 1), s6.2.2) e10 he10 hK7) (am_sub_cons rfl (am_sub_cons rfl (am_sub_cons rfl (am_sub_cons rfl (am_sub_cons rfl (am_sub_cons rfl am_sub_nil)))))) rfl
      intro s7 q7 h hI7 hZ7
      show am_Ev sc (d) 68 (28, [(0, .ref 143), (1, .int a0), (2, .int a1), (3, .long s6.1), (5, .int s6.2.1), (6, .int s7.1)], [], am_SH, (s7.2, g)) ((some (.int r.1)), am_SH, (r.2, g))
      refine am_Ev.go hcd 1 (s' := (29, [(0, .ref 143), (1, .int a0), (2, .int a1), (3, .long s6.1), (5, .int s6.2.1), (6, .int s7.1)], [.int s7.1], am_SH, (s7.2, g))) rfl ?_
      rcases am_ite h with ⟨c51, h⟩ | ⟨c51, h⟩
      · refine am_Ev.t hcd (c := 0 < s7.1) (s1 := (30, [(0, .ref 143), (1, .int a0), (2, .int a1), (3, .long s6.1), (5, .int s6.2.1), (6, .int s7.1)], [], am_SH, (s7.2, g))) rfl c51 ?_
        refine am_Ev.go hcd 8 (s' := (38, [(0, .ref 143), (1, .int a0), (2, .int a1), (3, .long s6.1), (5, .int s6.2.1), (6, .int s7.1)], [.int (s7.1 - 1), .ref 154, .int s7.1, .ref 154], am_SH, (s7.2, g))) rfl ?_
        obtain ⟨c54, h⟩ := am_grd h
        refine am_Ev.t hcd (c := am_in (s7.1 - 1) 6 = true) (s1 := (39, [(0, .ref 143), (1, .int a0), (2, .int a1), (3, .long s6.1), (5, .int s6.2.1), (6, .int s7.1)], [.long ((s7.2 154 (s7.1 - 1).toNatClampNeg).toInt64), .int s7.1, .ref 154], am_SH, (s7.2, g))) rfl c54 ?_
        obtain ⟨c57, h⟩ := am_grd h
        obtain ⟨f8, Ef8, h⟩ := am_let_eq h
        refine am_Ev.t hcd (c := am_in s7.1 6 = true ∧ ((s7.2 154 (s7.1 - 1).toNatClampNeg).toInt64).toInt32.toInt64 = ((s7.2 154 (s7.1 - 1).toNatClampNeg).toInt64)) (s1 := (40, [(0, .ref 143), (1, .int a0), (2, .int a1), (3, .long s6.1), (5, .int s6.2.1), (6, .int s7.1)], [], am_SH, (f8, g))) (by subst Ef8; exact rfl) c57 ?_
        obtain ⟨t9, Et9, h⟩ := am_let_eq h
        refine am_Ev.go hcd 1 (s' := (41, [(0, .ref 143), (1, .int a0), (2, .int a1), (3, .long s6.1), (5, .int s6.2.1), (6, .int t9)], [], am_SH, (f8, g))) (by subst Et9; exact rfl) ?_
        refine am_Ev.go hcd 1 (s' := (28, [(0, .ref 143), (1, .int a0), (2, .int a1), (3, .long s6.1), (5, .int s6.2.1), (6, .int t9)], [], am_SH, (f8, g))) rfl ?_
        exact am_Ev.weak' (hI7 (t9, f8) (Option.some.inj h).symm) (am_sub_cons rfl (am_sub_cons rfl (am_sub_cons rfl (am_sub_cons rfl (am_sub_cons rfl (am_sub_cons rfl am_sub_nil)))))) rfl
      · refine am_Ev.f hcd (c := 0 < s7.1) (s1 := (42, [(0, .ref 143), (1, .int a0), (2, .int a1), (3, .long s6.1), (5, .int s6.2.1), (6, .int s7.1)], [], am_SH, (s7.2, g))) rfl c51 ?_
        exact am_Ev.weak' (hZ7 s7.2 (Option.some.inj h).symm) (am_sub_cons rfl (am_sub_cons rfl (am_sub_cons rfl (am_sub_cons rfl (am_sub_cons rfl am_sub_nil))))) rfl
    · refine am_Ev.f hcd (c := s6.2.1 < a0) (s1 := (67, [(0, .ref 143), (1, .int a0), (2, .int a1), (3, .long s6.1), (5, .int s6.2.1)], [], am_SH, (s6.2.2, g))) rfl c14 ?_
      refine am_Ev.go hcd 2 (s' := (69, [(0, .ref 143), (1, .int a0), (2, .int a1), (3, .long s6.1), (5, .int s6.2.1)], [.int (s6.1.toInt32)], am_SH, (s6.2.2, g))) rfl ?_
      exact am_Ev.cast (a := ((some (.int ((s6.1.toInt32), s6.2.2).1)), am_SH, (((s6.1.toInt32), s6.2.2).2, g))) (hZ6 _ (Option.some.inj h).symm) (am_Ev.ret hcd rfl)
  refine am_Ev.weak' (am_loop_ok (G := fun (s2 : Int32 × (Nat → Nat → Int32)) => am_Ev sc (d) 68 (7, [(0, .ref 143), (1, .int a0), (2, .int a1), (3, .int s2.1)], [], am_SH, (s2.2, g)) ((some (.int r.1)), am_SH, (r.2, g))) (Z := fun (e5 : (Nat → Nat → Int32)) => am_Ev sc (d) 68 (17, [(0, .ref 143), (1, .int a0), (2, .int a1)], [], am_SH, (e5, g)) ((some (.int r.1)), am_SH, (r.2, g))) ?_ am_F (1, f1) e5 he5 hK2) (am_sub_cons rfl (am_sub_cons rfl (am_sub_cons rfl (am_sub_cons rfl am_sub_nil)))) rfl
  intro s2 q2 h hI2 hZ2
  show am_Ev sc (d) 68 (7, [(0, .ref 143), (1, .int a0), (2, .int a1), (3, .int s2.1)], [], am_SH, (s2.2, g)) ((some (.int r.1)), am_SH, (r.2, g))
  refine am_Ev.go hcd 2 (s' := (9, [(0, .ref 143), (1, .int a0), (2, .int a1), (3, .int s2.1)], [.int a1, .int s2.1], am_SH, (s2.2, g))) rfl ?_
  rcases am_ite h with ⟨c72, h⟩ | ⟨c72, h⟩
  · refine am_Ev.t hcd (c := s2.1 < a1) (s1 := (10, [(0, .ref 143), (1, .int a0), (2, .int a1), (3, .int s2.1)], [], am_SH, (s2.2, g))) rfl c72 ?_
    refine am_Ev.go hcd 4 (s' := (14, [(0, .ref 143), (1, .int a0), (2, .int a1), (3, .int s2.1)], [.long ((0 : Int32).toInt64), .int s2.1, .ref 154], am_SH, (s2.2, g))) rfl ?_
    obtain ⟨c75, h⟩ := am_grd h
    obtain ⟨f3, Ef3, h⟩ := am_let_eq h
    refine am_Ev.t hcd (c := am_in s2.1 6 = true ∧ ((0 : Int32).toInt64).toInt32.toInt64 = ((0 : Int32).toInt64)) (s1 := (15, [(0, .ref 143), (1, .int a0), (2, .int a1), (3, .int s2.1)], [], am_SH, (f3, g))) (by subst Ef3; exact rfl) c75 ?_
    obtain ⟨t4, Et4, h⟩ := am_let_eq h
    refine am_Ev.go hcd 1 (s' := (16, [(0, .ref 143), (1, .int a0), (2, .int a1), (3, .int t4)], [], am_SH, (f3, g))) (by subst Et4; exact rfl) ?_
    refine am_Ev.go hcd 1 (s' := (7, [(0, .ref 143), (1, .int a0), (2, .int a1), (3, .int t4)], [], am_SH, (f3, g))) rfl ?_
    exact am_Ev.weak' (hI2 (t4, f3) (Option.some.inj h).symm) (am_sub_cons rfl (am_sub_cons rfl (am_sub_cons rfl (am_sub_cons rfl am_sub_nil)))) rfl
  · refine am_Ev.f hcd (c := s2.1 < a1) (s1 := (17, [(0, .ref 143), (1, .int a0), (2, .int a1), (3, .int s2.1)], [], am_SH, (s2.2, g))) rfl c72 ?_
    exact am_Ev.weak' (hZ2 s2.2 (Option.some.inj h).symm) (am_sub_cons rfl (am_sub_cons rfl (am_sub_cons rfl am_sub_nil))) rfl
def x_quiet (a0 : Int32) (a1 : Int32) (f : (Nat → Nat → Int32)) : Option (Int32 × (Nat → Nat → Int32)) :=
  if (x_within a0 0 60) = true then (
    if (x_within a1 1 5) = true then (
      (xm_quietWays a0 a1 f).bind fun p3 =>
      some (p3.1, p3.2))
    else (
      some ((-1), f)))
  else (
    some ((-1), f))
set_option maxRecDepth 100000 in
set_option maxHeartbeats 4000000 in
theorem x_quiet_ok {sc : Nat × (Nat → Int32)} (d : Nat) (a0 : Int32) (a1 : Int32) (f g : (Nat → Nat → Int32)) (r : Int32 × (Nat → Nat → Int32)) (h : x_quiet a0 a1 f = some r) : am_Ev sc (d + 1) 162 (0, [(0, .ref 0), (1, .int a0), (2, .int a1)], [], am_SH, (f, g)) ((some (.int r.1)), am_SH, (r.2, g)) := by
  have hcd : am_code 162 = am_c162 := rfl
  unfold x_quiet at h
  refine am_Ev.go hcd 3 (s' := (3, [(0, .ref 0), (1, .int a0), (2, .int a1)], [.int 60, .int 0, .int a0], am_SH, (f, g))) rfl ?_
  refine am_Ev.call hcd (a := 170) (s0 := (0, [(0, .int a0), (1, .int 0), (2, .int 60)], [], am_SH, (f, g))) (q := ((some (.int (am_b (x_within a0 0 60)))), am_SH, (f, g))) (s1 := (4, [(0, .ref 0), (1, .int a0), (2, .int a1)], [.int (am_b (x_within a0 0 60))], am_SH, (f, g))) rfl rfl (x_within_ok (d) a0 0 60 (f, g)) ?_
  rcases am_ite h with ⟨c4, h⟩ | ⟨c4, h⟩
  · refine am_Ev.f hcd (c := am_b (x_within a0 0 60) = 0) (s1 := (5, [(0, .ref 0), (1, .int a0), (2, .int a1)], [], am_SH, (f, g))) rfl (am_b_t c4) ?_
    refine am_Ev.go hcd 3 (s' := (8, [(0, .ref 0), (1, .int a0), (2, .int a1)], [.int 5, .int 1, .int a1], am_SH, (f, g))) rfl ?_
    refine am_Ev.call hcd (a := 170) (s0 := (0, [(0, .int a1), (1, .int 1), (2, .int 5)], [], am_SH, (f, g))) (q := ((some (.int (am_b (x_within a1 1 5)))), am_SH, (f, g))) (s1 := (9, [(0, .ref 0), (1, .int a0), (2, .int a1)], [.int (am_b (x_within a1 1 5))], am_SH, (f, g))) rfl rfl (x_within_ok (d) a1 1 5 (f, g)) ?_
    rcases am_ite h with ⟨c8, h⟩ | ⟨c8, h⟩
    · refine am_Ev.f hcd (c := am_b (x_within a1 1 5) = 0) (s1 := (12, [(0, .ref 0), (1, .int a0), (2, .int a1)], [], am_SH, (f, g))) rfl (am_b_t c8) ?_
      refine am_Ev.go hcd 4 (s' := (16, [(0, .ref 0), (1, .int a0), (2, .int a1)], [.int a1, .int a0, .ref 143], am_SH, (f, g))) rfl ?_
      obtain ⟨p3, hp3, h⟩ := am_bind_some h
      refine am_Ev.call hcd (a := 68) (s0 := (0, [(0, .ref 143), (1, .int a0), (2, .int a1)], [], am_SH, (f, g))) (q := ((some (.int p3.1)), am_SH, (p3.2, g))) (s1 := (17, [(0, .ref 0), (1, .int a0), (2, .int a1)], [.int p3.1], am_SH, (p3.2, g))) rfl rfl (xm_quietWays_ok (d) a0 a1 f g p3 hp3) ?_
      exact am_Ev.cast (a := ((some (.int (p3.1, p3.2).1)), am_SH, ((p3.1, p3.2).2, g))) (by cases h; rfl) (am_Ev.ret hcd rfl)
    · refine am_Ev.t hcd (c := am_b (x_within a1 1 5) = 0) (s1 := (10, [(0, .ref 0), (1, .int a0), (2, .int a1)], [], am_SH, (f, g))) rfl (am_b_f c8) ?_
      refine am_Ev.go hcd 1 (s' := (11, [(0, .ref 0), (1, .int a0), (2, .int a1)], [.int (-1)], am_SH, (f, g))) rfl ?_
      exact am_Ev.cast (a := ((some (.int ((-1), f).1)), am_SH, (((-1), f).2, g))) (by cases h; rfl) (am_Ev.ret hcd rfl)
  · refine am_Ev.t hcd (c := am_b (x_within a0 0 60) = 0) (s1 := (10, [(0, .ref 0), (1, .int a0), (2, .int a1)], [], am_SH, (f, g))) rfl (am_b_f c4) ?_
    refine am_Ev.go hcd 1 (s' := (11, [(0, .ref 0), (1, .int a0), (2, .int a1)], [.int (-1)], am_SH, (f, g))) rfl ?_
    exact am_Ev.cast (a := ((some (.int ((-1), f).1)), am_SH, (((-1), f).2, g))) (by cases h; rfl) (am_Ev.ret hcd rfl)
def xr_clearAll_48 (f : (Nat → Nat → Int32)) : Int32 × (Nat → Nat → Int32) :=
  am_let (am_up f 48 0 0 : Nat → Nat → Int32) fun f1 =>
  (f1 48 0, f1)
set_option maxRecDepth 100000 in
set_option maxHeartbeats 4000000 in
theorem xr_clearAll_48_ok {sc : Nat × (Nat → Int32)} (d : Nat)  (f g : (Nat → Nat → Int32)) : am_Ev sc (d) 86 (0, [(0, .ref 48)], [], am_SH, (f, g)) ((some (.int (xr_clearAll_48  f).1)), am_SH, ((xr_clearAll_48  f).2, g)) := by
  have hcd : am_code 86 = am_c86 := rfl
  obtain ⟨r, h⟩ : ∃ r, r = xr_clearAll_48  f := ⟨_, rfl⟩
  rw [← h]
  unfold xr_clearAll_48 at h
  obtain ⟨f1, Ef1, h⟩ := am_let_eq' h
  refine am_Ev.go hcd 3 (s' := (3, [(0, .ref 48)], [], am_SH, (f1, g))) (by subst Ef1; exact rfl) ?_
  refine am_Ev.go hcd 2 (s' := (5, [(0, .ref 48)], [.int (f1 48 0)], am_SH, (f1, g))) rfl ?_
  exact am_Ev.cast (a := ((some (.int (f1 48 0, f1).1)), am_SH, ((f1 48 0, f1).2, g))) (by subst h; rfl) (am_Ev.ret hcd rfl)
def xr_append_48 (a0 : Int32) (a1 : Int32) (f : (Nat → Nat → Int32)) : Option (Int32 × (Nat → Nat → Int32)) :=
  if f 48 0 < (nI 8) then (
    if am_in (f 48 0) 8 = true then (
    am_let (am_up f 49 (f 48 0).toNatClampNeg a0 : Nat → Nat → Int32) fun f1 =>
    if am_in (f1 48 0) 8 = true then (
    am_let (am_up f1 50 (f1 48 0).toNatClampNeg a1 : Nat → Nat → Int32) fun f2 =>
    am_let (am_up f2 48 0 ((f2 48 0) + 1) : Nat → Nat → Int32) fun f3 =>
    some (f3 48 0, f3)) else none) else none)
  else (
    some ((-1), f))
set_option maxRecDepth 100000 in
set_option maxHeartbeats 4000000 in
theorem xr_append_48_ok {sc : Nat × (Nat → Int32)} (d : Nat) (a0 : Int32) (a1 : Int32) (f g : (Nat → Nat → Int32)) (r : Int32 × (Nat → Nat → Int32)) (h : xr_append_48 a0 a1 f = some r) : am_Ev sc (d) 85 (0, [(0, .ref 48), (1, .int a0), (2, .int a1)], [], am_SH, (f, g)) ((some (.int r.1)), am_SH, (r.2, g)) := by
  have hcd : am_code 85 = am_c85 := rfl
  unfold xr_append_48 at h
  refine am_Ev.go hcd 5 (s' := (5, [(0, .ref 48), (1, .int a0), (2, .int a1)], [.int (nI 8), .int (f 48 0)], am_SH, (f, g))) rfl ?_
  rcases am_ite h with ⟨c2, h⟩ | ⟨c2, h⟩
  · refine am_Ev.t hcd (c := f 48 0 < (nI 8)) (s1 := (8, [(0, .ref 48), (1, .int a0), (2, .int a1)], [], am_SH, (f, g))) rfl c2 ?_
    refine am_Ev.go hcd 5 (s' := (13, [(0, .ref 48), (1, .int a0), (2, .int a1)], [.int a0, .int (f 48 0), .ref 49], am_SH, (f, g))) rfl ?_
    obtain ⟨c5, h⟩ := am_grd h
    obtain ⟨f1, Ef1, h⟩ := am_let_eq h
    refine am_Ev.t hcd (c := am_in (f 48 0) 8 = true) (s1 := (14, [(0, .ref 48), (1, .int a0), (2, .int a1)], [], am_SH, (f1, g))) (by subst Ef1; exact rfl) c5 ?_
    refine am_Ev.go hcd 5 (s' := (19, [(0, .ref 48), (1, .int a0), (2, .int a1)], [.int a1, .int (f1 48 0), .ref 50], am_SH, (f1, g))) rfl ?_
    obtain ⟨c9, h⟩ := am_grd h
    obtain ⟨f2, Ef2, h⟩ := am_let_eq h
    refine am_Ev.t hcd (c := am_in (f1 48 0) 8 = true) (s1 := (20, [(0, .ref 48), (1, .int a0), (2, .int a1)], [], am_SH, (f2, g))) (by subst Ef2; exact rfl) c9 ?_
    obtain ⟨f3, Ef3, h⟩ := am_let_eq h
    refine am_Ev.go hcd 6 (s' := (26, [(0, .ref 48), (1, .int a0), (2, .int a1)], [], am_SH, (f3, g))) (by subst Ef3; exact rfl) ?_
    refine am_Ev.go hcd 2 (s' := (28, [(0, .ref 48), (1, .int a0), (2, .int a1)], [.int (f3 48 0)], am_SH, (f3, g))) rfl ?_
    exact am_Ev.cast (a := ((some (.int (f3 48 0, f3).1)), am_SH, ((f3 48 0, f3).2, g))) (by cases h; rfl) (am_Ev.ret hcd rfl)
  · refine am_Ev.f hcd (c := f 48 0 < (nI 8)) (s1 := (6, [(0, .ref 48), (1, .int a0), (2, .int a1)], [], am_SH, (f, g))) rfl c2 ?_
    refine am_Ev.go hcd 1 (s' := (7, [(0, .ref 48), (1, .int a0), (2, .int a1)], [.int (-1)], am_SH, (f, g))) rfl ?_
    exact am_Ev.cast (a := ((some (.int ((-1), f).1)), am_SH, (((-1), f).2, g))) (by cases h; rfl) (am_Ev.ret hcd rfl)
def x_dog (a0 : Int32) (f : (Nat → Nat → Int32)) : Option (Int32 × (Nat → Nat → Int32)) :=
  if a0 = (-1) then (
    am_let (xr_clearAll_48  f) fun p1 =>
    some (p1.1, p1.2))
  else (
    if (x_within a0 1 9999) = true then (
      (xr_append_48 a0 0 f).bind fun p3 =>
      some (p3.1, p3.2))
    else (
      some ((-1), f)))
set_option maxRecDepth 100000 in
set_option maxHeartbeats 4000000 in
theorem x_dog_ok {sc : Nat × (Nat → Int32)} (d : Nat) (a0 : Int32) (f g : (Nat → Nat → Int32)) (r : Int32 × (Nat → Nat → Int32)) (h : x_dog a0 f = some r) : am_Ev sc (d + 1) 163 (0, [(0, .ref 0), (1, .int a0)], [], am_SH, (f, g)) ((some (.int r.1)), am_SH, (r.2, g)) := by
  have hcd : am_code 163 = am_c163 := rfl
  unfold x_dog at h
  refine am_Ev.go hcd 2 (s' := (2, [(0, .ref 0), (1, .int a0)], [.int (-1), .int a0], am_SH, (f, g))) rfl ?_
  rcases am_ite h with ⟨c2, h⟩ | ⟨c2, h⟩
  · refine am_Ev.t hcd (c := a0 = (-1)) (s1 := (3, [(0, .ref 0), (1, .int a0)], [], am_SH, (f, g))) rfl c2 ?_
    refine am_Ev.go hcd 3 (s' := (6, [(0, .ref 0), (1, .int a0)], [.ref 48], am_SH, (f, g))) rfl ?_
    obtain ⟨p1, Ep1, h⟩ := am_let_eq h
    refine am_Ev.call hcd (a := 86) (s0 := (0, [(0, .ref 48)], [], am_SH, (f, g))) (q := ((some (.int p1.1)), am_SH, (p1.2, g))) (s1 := (7, [(0, .ref 0), (1, .int a0)], [.int p1.1], am_SH, (p1.2, g))) rfl rfl (by subst Ep1; exact xr_clearAll_48_ok (d)  f g) ?_
    exact am_Ev.cast (a := ((some (.int (p1.1, p1.2).1)), am_SH, ((p1.1, p1.2).2, g))) (by cases h; rfl) (am_Ev.ret hcd rfl)
  · refine am_Ev.f hcd (c := a0 = (-1)) (s1 := (8, [(0, .ref 0), (1, .int a0)], [], am_SH, (f, g))) rfl c2 ?_
    refine am_Ev.go hcd 3 (s' := (11, [(0, .ref 0), (1, .int a0)], [.int 9999, .int 1, .int a0], am_SH, (f, g))) rfl ?_
    refine am_Ev.call hcd (a := 170) (s0 := (0, [(0, .int a0), (1, .int 1), (2, .int 9999)], [], am_SH, (f, g))) (q := ((some (.int (am_b (x_within a0 1 9999)))), am_SH, (f, g))) (s1 := (12, [(0, .ref 0), (1, .int a0)], [.int (am_b (x_within a0 1 9999))], am_SH, (f, g))) rfl rfl (x_within_ok (d) a0 1 9999 (f, g)) ?_
    rcases am_ite h with ⟨c12, h⟩ | ⟨c12, h⟩
    · refine am_Ev.f hcd (c := am_b (x_within a0 1 9999) = 0) (s1 := (13, [(0, .ref 0), (1, .int a0)], [], am_SH, (f, g))) rfl (am_b_t c12) ?_
      refine am_Ev.go hcd 5 (s' := (18, [(0, .ref 0), (1, .int a0)], [.int 0, .int a0, .ref 48], am_SH, (f, g))) rfl ?_
      obtain ⟨p3, hp3, h⟩ := am_bind_some h
      refine am_Ev.call hcd (a := 85) (s0 := (0, [(0, .ref 48), (1, .int a0), (2, .int 0)], [], am_SH, (f, g))) (q := ((some (.int p3.1)), am_SH, (p3.2, g))) (s1 := (19, [(0, .ref 0), (1, .int a0)], [.int p3.1], am_SH, (p3.2, g))) rfl rfl (xr_append_48_ok (d) a0 0 f g p3 hp3) ?_
      refine am_Ev.go hcd 1 (s' := (21, [(0, .ref 0), (1, .int a0)], [.int p3.1], am_SH, (p3.2, g))) rfl ?_
      exact am_Ev.cast (a := ((some (.int (p3.1, p3.2).1)), am_SH, ((p3.1, p3.2).2, g))) (by cases h; rfl) (am_Ev.ret hcd rfl)
    · refine am_Ev.t hcd (c := am_b (x_within a0 1 9999) = 0) (s1 := (20, [(0, .ref 0), (1, .int a0)], [], am_SH, (f, g))) rfl (am_b_f c12) ?_
      refine am_Ev.go hcd 1 (s' := (21, [(0, .ref 0), (1, .int a0)], [.int (-1)], am_SH, (f, g))) rfl ?_
      exact am_Ev.cast (a := ((some (.int ((-1), f).1)), am_SH, (((-1), f).2, g))) (by cases h; rfl) (am_Ev.ret hcd rfl)
def xm_letterCount (a0 : Int32)  : Int32 :=
  if 999 < a0 then (
    4)
  else (
    if 99 < a0 then (
      3)
    else (
      if 9 < a0 then (
        2)
      else (
        1)))
set_option maxRecDepth 100000 in
set_option maxHeartbeats 4000000 in
theorem xm_letterCount_ok {sc : Nat × (Nat → Int32)} (d : Nat) (a0 : Int32) (hp : am_H) : am_Ev sc (d) 70 (0, [(0, .int a0)], [], am_SH, hp) ((some (.int (xm_letterCount a0))), am_SH, hp) := by
  have hcd : am_code 70 = am_c70 := rfl
  obtain ⟨r, h⟩ : ∃ r, r = xm_letterCount a0 := ⟨_, rfl⟩
  rw [← h]
  unfold xm_letterCount at h
  refine am_Ev.go hcd 2 (s' := (2, [(0, .int a0)], [.int 999, .int a0], am_SH, hp)) rfl ?_
  rcases am_itv h with ⟨c4, h⟩ | ⟨c4, h⟩
  · refine am_Ev.t hcd (c := 999 < a0) (s1 := (3, [(0, .int a0)], [], am_SH, hp)) rfl c4 ?_
    refine am_Ev.go hcd 2 (s' := (16, [(0, .int a0)], [.int 4], am_SH, hp)) rfl ?_
    exact am_Ev.cast (a := ((some (.int 4)), am_SH, hp)) (by subst h; rfl) (am_Ev.ret hcd rfl)
  · refine am_Ev.f hcd (c := 999 < a0) (s1 := (5, [(0, .int a0)], [], am_SH, hp)) rfl c4 ?_
    refine am_Ev.go hcd 2 (s' := (7, [(0, .int a0)], [.int 99, .int a0], am_SH, hp)) rfl ?_
    rcases am_itv h with ⟨c10, h⟩ | ⟨c10, h⟩
    · refine am_Ev.t hcd (c := 99 < a0) (s1 := (8, [(0, .int a0)], [], am_SH, hp)) rfl c10 ?_
      refine am_Ev.go hcd 2 (s' := (16, [(0, .int a0)], [.int 3], am_SH, hp)) rfl ?_
      exact am_Ev.cast (a := ((some (.int 3)), am_SH, hp)) (by subst h; rfl) (am_Ev.ret hcd rfl)
    · refine am_Ev.f hcd (c := 99 < a0) (s1 := (10, [(0, .int a0)], [], am_SH, hp)) rfl c10 ?_
      refine am_Ev.go hcd 2 (s' := (12, [(0, .int a0)], [.int 9, .int a0], am_SH, hp)) rfl ?_
      rcases am_itv h with ⟨c16, h⟩ | ⟨c16, h⟩
      · refine am_Ev.t hcd (c := 9 < a0) (s1 := (13, [(0, .int a0)], [], am_SH, hp)) rfl c16 ?_
        refine am_Ev.go hcd 2 (s' := (16, [(0, .int a0)], [.int 2], am_SH, hp)) rfl ?_
        exact am_Ev.cast (a := ((some (.int 2)), am_SH, hp)) (by subst h; rfl) (am_Ev.ret hcd rfl)
      · refine am_Ev.f hcd (c := 9 < a0) (s1 := (15, [(0, .int a0)], [], am_SH, hp)) rfl c16 ?_
        refine am_Ev.go hcd 1 (s' := (16, [(0, .int a0)], [.int 1], am_SH, hp)) rfl ?_
        exact am_Ev.cast (a := ((some (.int 1)), am_SH, hp)) (by subst h; rfl) (am_Ev.ret hcd rfl)
def xm_beginning (a0 : Int32) (a1 : Int32)  : Option (Int32) :=
  am_loop (fun (s2 : Int32 × Int32) => ((
    if a1 < s2.2 then (
      am_let (s2.2 + (-1) : Int32) fun t3 =>
      some (.inl ((s2.1 / 10), t3)))
    else (
      some (.inr s2.1))) : Option ((Int32 × Int32) ⊕ (Int32)))) am_F (a0, (xm_letterCount a0))
set_option maxRecDepth 100000 in
set_option maxHeartbeats 4000000 in
theorem xm_beginning_ok {sc : Nat × (Nat → Int32)} (d : Nat) (a0 : Int32) (a1 : Int32) (hp : am_H) (r : Int32) (h : xm_beginning a0 a1 = some r) : am_Ev sc (d + 1) 71 (0, [(0, .int a0), (1, .int a1)], [], am_SH, hp) ((some (.int r)), am_SH, hp) := by
  have hcd : am_code 71 = am_c71 := rfl
  unfold xm_beginning at h
  refine am_Ev.go hcd 3 (s' := (3, [(0, .int a0), (1, .int a1), (2, .int a0)], [.int a0], am_SH, hp)) rfl ?_
  refine am_Ev.call hcd (a := 70) (s0 := (0, [(0, .int a0)], [], am_SH, hp)) (q := ((some (.int (xm_letterCount a0))), am_SH, hp)) (s1 := (4, [(0, .int a0), (1, .int a1), (2, .int a0)], [.int (xm_letterCount a0)], am_SH, hp)) rfl rfl (xm_letterCount_ok (d) a0 hp) ?_
  refine am_Ev.go hcd 1 (s' := (5, [(0, .int a0), (1, .int a1), (2, .int a0), (3, .int (xm_letterCount a0))], [], am_SH, hp)) rfl ?_
  refine am_Ev.weak' (am_loop_ok (G := fun (s2 : Int32 × Int32) => am_Ev sc (d + 1) 71 (5, [(1, .int a1), (2, .int s2.1), (3, .int s2.2)], [], am_SH, hp) ((some (.int r)), am_SH, hp)) (Z := fun (v : Int32) => (((some (.int v)), am_SH, hp) : am_R) = ((some (.int r)), am_SH, hp)) ?_ am_F (a0, (xm_letterCount a0)) r h rfl) (am_sub_cons rfl (am_sub_cons rfl (am_sub_cons rfl am_sub_nil))) rfl
  intro s2 q2 h hI2 hZ2
  show am_Ev sc (d + 1) 71 (5, [(1, .int a1), (2, .int s2.1), (3, .int s2.2)], [], am_SH, hp) ((some (.int r)), am_SH, hp)
  refine am_Ev.go hcd 2 (s' := (7, [(1, .int a1), (2, .int s2.1), (3, .int s2.2)], [.int a1, .int s2.2], am_SH, hp)) rfl ?_
  rcases am_ite h with ⟨c8, h⟩ | ⟨c8, h⟩
  · refine am_Ev.t hcd (c := a1 < s2.2) (s1 := (8, [(1, .int a1), (2, .int s2.1), (3, .int s2.2)], [], am_SH, hp)) rfl c8 ?_
    obtain ⟨t3, Et3, h⟩ := am_let_eq h
    refine am_Ev.go hcd 5 (s' := (13, [(1, .int a1), (2, .int (s2.1 / 10)), (3, .int t3)], [], am_SH, hp)) (by subst Et3; exact rfl) ?_
    refine am_Ev.go hcd 1 (s' := (5, [(1, .int a1), (2, .int (s2.1 / 10)), (3, .int t3)], [], am_SH, hp)) rfl ?_
    exact am_Ev.weak' (hI2 ((s2.1 / 10), t3) (Option.some.inj h).symm) (am_sub_cons rfl (am_sub_cons rfl (am_sub_cons rfl am_sub_nil))) rfl
  · refine am_Ev.f hcd (c := a1 < s2.2) (s1 := (14, [(1, .int a1), (2, .int s2.1), (3, .int s2.2)], [], am_SH, hp)) rfl c8 ?_
    refine am_Ev.go hcd 1 (s' := (15, [(1, .int a1), (2, .int s2.1), (3, .int s2.2)], [.int s2.1], am_SH, hp)) rfl ?_
    exact am_Ev.cast (a := ((some (.int s2.1)), am_SH, hp)) (hZ2 _ (Option.some.inj h).symm) (am_Ev.ret hcd rfl)
