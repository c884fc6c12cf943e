set_option maxRecDepth 100000 in
set_option maxHeartbeats 4000000 in
theorem xm_sharedLetters_ok {sc : Nat × (Nat → Int32)} (d : Nat) (a0 : Int32) (a1 : Int32) (hp : am_H) (r : Int32) (h : xm_sharedLetters a0 a1 = some r) : am_Ev sc (d + 2) 72 (0, [(0, .int a0), (1, .int a1)], [], am_SH, hp) ((some (.int r)), am_SH, hp) := by
  have hcd : am_code 72 = am_c72 := rfl
  unfold xm_sharedLetters at h
  refine am_Ev.go hcd 1 (s' := (1, [(0, .int a0), (1, .int a1)], [.int a0], am_SH, hp)) rfl ?_
  refine am_Ev.call hcd (a := 70) (s0 := (0, [(0, .int a0)], [], am_SH, hp)) (q := ((some (.int (xm_letterCount a0))), am_SH, hp)) (s1 := (2, [(0, .int a0), (1, .int a1)], [.int (xm_letterCount a0)], am_SH, hp)) rfl rfl (xm_letterCount_ok (d + 1) a0 hp) ?_
  refine am_Ev.go hcd 1 (s' := (3, [(0, .int a0), (1, .int a1)], [.int a1, .int (xm_letterCount a0)], am_SH, hp)) rfl ?_
  refine am_Ev.call hcd (a := 70) (s0 := (0, [(0, .int a1)], [], am_SH, hp)) (q := ((some (.int (xm_letterCount a1))), am_SH, hp)) (s1 := (4, [(0, .int a0), (1, .int a1)], [.int (xm_letterCount a1), .int (xm_letterCount a0)], am_SH, hp)) rfl rfl (xm_letterCount_ok (d + 1) a1 hp) ?_
  refine am_Ev.jdk hcd (s1 := (5, [(0, .int a0), (1, .int a1)], [.int (am_min (xm_letterCount a0) (xm_letterCount a1))], am_SH, hp)) rfl ?_
  obtain ⟨t3, Et3, h⟩ := am_let_eq h
  refine am_Ev.go hcd 1 (s' := (6, [(0, .int a0), (1, .int a1), (2, .int t3)], [], am_SH, hp)) (by subst Et3; exact rfl) ?_
  refine am_Ev.go hcd 2 (s' := (8, [(0, .int a0), (1, .int a1), (2, .int t3), (3, .int 1)], [], am_SH, hp)) rfl ?_
  refine am_Ev.weak' (am_loop_ok (G := fun (s4 : Int32) => am_Ev sc (d + 2) 72 (8, [(0, .int a0), (1, .int a1), (2, .int t3), (3, .int s4)], [], am_SH, hp) ((some (.int r)), am_SH, hp)) (Z := fun (v : Int32) => (((some (.int v)), am_SH, hp) : am_R) = ((some (.int r)), am_SH, hp)) ?_ am_F 1 r h rfl) (am_sub_cons rfl (am_sub_cons rfl (am_sub_cons rfl (am_sub_cons rfl am_sub_nil)))) rfl
  intro s4 q4 h hI4 hZ4
  show am_Ev sc (d + 2) 72 (8, [(0, .int a0), (1, .int a1), (2, .int t3), (3, .int s4)], [], am_SH, hp) ((some (.int r)), am_SH, hp)
  refine am_Ev.go hcd 2 (s' := (10, [(0, .int a0), (1, .int a1), (2, .int t3), (3, .int s4)], [.int t3, .int s4], am_SH, hp)) rfl ?_
  rcases am_ite h with ⟨c13, h⟩ | ⟨c13, h⟩
  · refine am_Ev.t hcd (c := t3 < s4) (s1 := (24, [(0, .int a0), (1, .int a1), (2, .int t3), (3, .int s4)], [], am_SH, hp)) rfl c13 ?_
    refine am_Ev.go hcd 1 (s' := (25, [(0, .int a0), (1, .int a1), (2, .int t3), (3, .int s4)], [.int t3], am_SH, hp)) rfl ?_
    exact am_Ev.cast (a := ((some (.int t3)), am_SH, hp)) (hZ4 _ (Option.some.inj h).symm) (am_Ev.ret hcd rfl)
  · refine am_Ev.f hcd (c := t3 < s4) (s1 := (11, [(0, .int a0), (1, .int a1), (2, .int t3), (3, .int s4)], [], am_SH, hp)) rfl c13 ?_
    refine am_Ev.go hcd 2 (s' := (13, [(0, .int a0), (1, .int a1), (2, .int t3), (3, .int s4)], [.int s4, .int a0], am_SH, hp)) rfl ?_
    obtain ⟨p5, hp5, h⟩ := am_bind_some h
    refine am_Ev.call hcd (a := 71) (s0 := (0, [(0, .int a0), (1, .int s4)], [], am_SH, hp)) (q := ((some (.int p5)), am_SH, hp)) (s1 := (14, [(0, .int a0), (1, .int a1), (2, .int t3), (3, .int s4)], [.int p5], am_SH, hp)) rfl rfl (xm_beginning_ok (d) a0 s4 hp p5 hp5) ?_
    refine am_Ev.go hcd 2 (s' := (16, [(0, .int a0), (1, .int a1), (2, .int t3), (3, .int s4)], [.int s4, .int a1, .int p5], am_SH, hp)) rfl ?_
    obtain ⟨p6, hp6, h⟩ := am_bind_some h
    refine am_Ev.call hcd (a := 71) (s0 := (0, [(0, .int a1), (1, .int s4)], [], am_SH, hp)) (q := ((some (.int p6)), am_SH, hp)) (s1 := (17, [(0, .int a0), (1, .int a1), (2, .int t3), (3, .int s4)], [.int p6, .int p5], am_SH, hp)) rfl rfl (xm_beginning_ok (d) a1 s4 hp p6 hp6) ?_
    rcases am_ite h with ⟨c25, h⟩ | ⟨c25, h⟩
    · refine am_Ev.t hcd (c := p5 = p6) (s1 := (22, [(0, .int a0), (1, .int a1), (2, .int t3), (3, .int s4)], [], am_SH, hp)) rfl c25 ?_
      obtain ⟨t7, Et7, h⟩ := am_let_eq h
      refine am_Ev.go hcd 1 (s' := (23, [(0, .int a0), (1, .int a1), (2, .int t3), (3, .int t7)], [], am_SH, hp)) (by subst Et7; exact rfl) ?_
      refine am_Ev.go hcd 1 (s' := (8, [(0, .int a0), (1, .int a1), (2, .int t3), (3, .int t7)], [], am_SH, hp)) rfl ?_
      exact am_Ev.weak' (hI4 t7 (Option.some.inj h).symm) (am_sub_cons rfl (am_sub_cons rfl (am_sub_cons rfl (am_sub_cons rfl am_sub_nil)))) rfl
    · refine am_Ev.f hcd (c := p5 = p6) (s1 := (18, [(0, .int a0), (1, .int a1), (2, .int t3), (3, .int s4)], [], am_SH, hp)) rfl c25 ?_
      refine am_Ev.go hcd 3 (s' := (21, [(0, .int a0), (1, .int a1), (2, .int t3), (3, .int s4)], [.int (s4 - 1)], am_SH, hp)) rfl ?_
      exact am_Ev.cast (a := ((some (.int (s4 - 1))), am_SH, hp)) (hZ4 _ (Option.some.inj h).symm) (am_Ev.ret hcd rfl)
set_option maxRecDepth 100000 in
set_option maxHeartbeats 4000000 in
theorem xm_lettersNeeded_48_ok {sc : Nat × (Nat → Int32)} (d : Nat)  (f g : (Nat → Nat → Int32)) (r : Int32) (h : xm_lettersNeeded_48  f = some r) : am_Ev sc (d + 3) 69 (0, [(0, .ref 143), (1, .ref 48)], [], am_SH, (f, g)) ((some (.int r)), am_SH, (f, g)) := by
  have hcd : am_code 69 = am_c69 := rfl
  unfold xm_lettersNeeded_48 at h
  refine am_Ev.go hcd 4 (s' := (4, [(0, .ref 143), (1, .ref 48), (2, .int 0), (3, .int 0)], [], am_SH, (f, g))) rfl ?_
  refine am_Ev.weak' (am_loop_ok (G := fun (s1 : Int32 × Int32) => am_Ev sc (d + 3) 69 (4, [(1, .ref 48), (2, .int s1.1), (3, .int s1.2)], [], am_SH, (f, g)) ((some (.int r)), am_SH, (f, g))) (Z := fun (v : Int32) => (((some (.int v)), am_SH, (f, g)) : am_R) = ((some (.int r)), am_SH, (f, g))) ?_ am_F (0, 0) r h rfl) (am_sub_cons rfl (am_sub_cons rfl (am_sub_cons rfl am_sub_nil))) rfl
  intro s1 q1 h hI1 hZ1
  show am_Ev sc (d + 3) 69 (4, [(1, .ref 48), (2, .int s1.1), (3, .int s1.2)], [], am_SH, (f, g)) ((some (.int r)), am_SH, (f, g))
  refine am_Ev.go hcd 3 (s' := (7, [(1, .ref 48), (2, .int s1.1), (3, .int s1.2)], [.int (f 48 0), .int s1.2], am_SH, (f, g))) rfl ?_
  rcases am_ite h with ⟨c6, h⟩ | ⟨c6, h⟩
  · refine am_Ev.t hcd (c := s1.2 < f 48 0) (s1 := (8, [(1, .ref 48), (2, .int s1.1), (3, .int s1.2)], [], am_SH, (f, g))) rfl c6 ?_
    refine am_Ev.go hcd 2 (s' := (10, [(1, .ref 48), (2, .int s1.1), (3, .int s1.2), (4, .int 0)], [], am_SH, (f, g))) rfl ?_
    obtain ⟨e6, he6, h⟩ := am_bind_some h
    have hK2 : (fun (v : (Int32) ⊕ (Int32)) => v.elim (fun (v : Int32) => (((some (.int v)), am_SH, (f, g)) : am_R) = ((some (.int r)), am_SH, (f, g))) (fun (e7 : Int32) => am_Ev sc (d + 3) 69 (40, [(1, .ref 48), (2, .int e7), (3, .int s1.2)], [], am_SH, (f, g)) ((some (.int r)), am_SH, (f, g)))) e6 := by
      cases e6 with
      | inl v => exact (hZ1 _ (Option.some.inj h).symm)
      | inr e7 =>
        have h := am_elim_r h
        show am_Ev sc (d + 3) 69 (40, [(1, .ref 48), (2, .int e7), (3, .int s1.2)], [], am_SH, (f, g)) ((some (.int r)), am_SH, (f, g))
        obtain ⟨t8, Et8, h⟩ := am_let_eq h
        refine am_Ev.go hcd 1 (s' := (41, [(1, .ref 48), (2, .int e7), (3, .int t8)], [], am_SH, (f, g))) (by subst Et8; exact rfl) ?_
        refine am_Ev.go hcd 1 (s' := (4, [(1, .ref 48), (2, .int e7), (3, .int t8)], [], am_SH, (f, g))) rfl ?_
        exact am_Ev.weak' (hI1 (e7, t8) (Option.some.inj h).symm) (am_sub_cons rfl (am_sub_cons rfl (am_sub_cons rfl am_sub_nil))) rfl
    refine am_Ev.weak' (am_loop_ok (G := fun (s2 : Int32 × Int32) => am_Ev sc (d + 3) 69 (10, [(1, .ref 48), (2, .int s2.1), (3, .int s1.2), (4, .int s2.2)], [], am_SH, (f, g)) ((some (.int r)), am_SH, (f, g))) (Z := fun (v : (Int32) ⊕ (Int32)) => v.elim (fun (v : Int32) => (((some (.int v)), am_SH, (f, g)) : am_R) = ((some (.int r)), am_SH, (f, g))) (fun (e7 : Int32) => am_Ev sc (d + 3) 69 (40, [(1, .ref 48), (2, .int e7), (3, .int s1.2)], [], am_SH, (f, g)) ((some (.int r)), am_SH, (f, g)))) ?_ am_F (s1.1, 0) e6 he6 hK2) (am_sub_cons rfl (am_sub_cons rfl (am_sub_cons rfl (am_sub_cons rfl am_sub_nil)))) rfl
    intro s2 q2 h hI2 hZ2
    show am_Ev sc (d + 3) 69 (10, [(1, .ref 48), (2, .int s2.1), (3, .int s1.2), (4, .int s2.2)], [], am_SH, (f, g)) ((some (.int r)), am_SH, (f, g))
    refine am_Ev.go hcd 2 (s' := (12, [(1, .ref 48), (2, .int s2.1), (3, .int s1.2), (4, .int s2.2)], [.int s1.2, .int s2.2], am_SH, (f, g))) rfl ?_
    rcases am_ite h with ⟨c24, h⟩ | ⟨c24, h⟩
    · refine am_Ev.t hcd (c := s2.2 < s1.2) (s1 := (13, [(1, .ref 48), (2, .int s2.1), (3, .int s1.2), (4, .int s2.2)], [], am_SH, (f, g))) rfl c24 ?_
      refine am_Ev.go hcd 3 (s' := (16, [(1, .ref 48), (2, .int s2.1), (3, .int s1.2), (4, .int s2.2)], [.int s1.2, .ref 49], am_SH, (f, g))) rfl ?_
      obtain ⟨c27, h⟩ := am_grd h
      refine am_Ev.t hcd (o := none) (c := am_in s1.2 8 = true) (s1 := (17, [(1, .ref 48), (2, .int s2.1), (3, .int s1.2), (4, .int s2.2)], [.int (f 49 s1.2.toNatClampNeg)], am_SH, (f, g))) rfl c27 ?_
      refine am_Ev.go hcd 3 (s' := (20, [(1, .ref 48), (2, .int s2.1), (3, .int s1.2), (4, .int s2.2)], [.int s2.2, .ref 49, .int (f 49 s1.2.toNatClampNeg)], am_SH, (f, g))) rfl ?_
      obtain ⟨c30, h⟩ := am_grd h
      refine am_Ev.t hcd (o := none) (c := am_in s2.2 8 = true) (s1 := (21, [(1, .ref 48), (2, .int s2.1), (3, .int s1.2), (4, .int s2.2)], [.int (f 49 s2.2.toNatClampNeg), .int (f 49 s1.2.toNatClampNeg)], am_SH, (f, g))) rfl c30 ?_
      rcases am_ite h with ⟨c33, h⟩ | ⟨c33, h⟩
      · refine am_Ev.t hcd (c := f 49 s1.2.toNatClampNeg = f 49 s2.2.toNatClampNeg) (s1 := (22, [(1, .ref 48), (2, .int s2.1), (3, .int s1.2), (4, .int s2.2)], [], am_SH, (f, g))) rfl c33 ?_
        refine am_Ev.go hcd 1 (s' := (23, [(1, .ref 48), (2, .int s2.1), (3, .int s1.2), (4, .int s2.2)], [.int (-1)], am_SH, (f, g))) rfl ?_
        exact am_Ev.cast (a := ((some (.int (-1))), am_SH, (f, g))) (hZ2 _ (Option.some.inj h).symm) (am_Ev.ret hcd rfl)
      · refine am_Ev.f hcd (c := f 49 s1.2.toNatClampNeg = f 49 s2.2.toNatClampNeg) (s1 := (24, [(1, .ref 48), (2, .int s2.1), (3, .int s1.2), (4, .int s2.2)], [], am_SH, (f, g))) rfl c33 ?_
        refine am_Ev.go hcd 5 (s' := (29, [(1, .ref 48), (2, .int s2.1), (3, .int s1.2), (4, .int s2.2)], [.int s1.2, .ref 49, .int 1, .int s2.1], am_SH, (f, g))) rfl ?_
        obtain ⟨c38, h⟩ := am_grd h
        refine am_Ev.t hcd (o := none) (c := am_in s1.2 8 = true) (s1 := (30, [(1, .ref 48), (2, .int s2.1), (3, .int s1.2), (4, .int s2.2)], [.int (f 49 s1.2.toNatClampNeg), .int 1, .int s2.1], am_SH, (f, g))) rfl c38 ?_
        refine am_Ev.go hcd 3 (s' := (33, [(1, .ref 48), (2, .int s2.1), (3, .int s1.2), (4, .int s2.2)], [.int s2.2, .ref 49, .int (f 49 s1.2.toNatClampNeg), .int 1, .int s2.1], am_SH, (f, g))) rfl ?_
        obtain ⟨c41, h⟩ := am_grd h
        refine am_Ev.t hcd (o := none) (c := am_in s2.2 8 = true) (s1 := (34, [(1, .ref 48), (2, .int s2.1), (3, .int s1.2), (4, .int s2.2)], [.int (f 49 s2.2.toNatClampNeg), .int (f 49 s1.2.toNatClampNeg), .int 1, .int s2.1], am_SH, (f, g))) rfl c41 ?_
        obtain ⟨p3, hp3, h⟩ := am_bind_some h
        refine am_Ev.call hcd (a := 72) (s0 := (0, [(0, .int (f 49 s1.2.toNatClampNeg)), (1, .int (f 49 s2.2.toNatClampNeg))], [], am_SH, (f, g))) (q := ((some (.int p3)), am_SH, (f, g))) (s1 := (35, [(1, .ref 48), (2, .int s2.1), (3, .int s1.2), (4, .int s2.2)], [.int p3, .int 1, .int s2.1], am_SH, (f, g))) rfl rfl (xm_sharedLetters_ok (d) (f 49 s1.2.toNatClampNeg) (f 49 s2.2.toNatClampNeg) (f, g) p3 hp3) ?_
        refine am_Ev.go hcd 1 (s' := (36, [(1, .ref 48), (2, .int s2.1), (3, .int s1.2), (4, .int s2.2)], [.int (1 + p3), .int s2.1], am_SH, (f, g))) rfl ?_
        refine am_Ev.jdk hcd (s1 := (37, [(1, .ref 48), (2, .int s2.1), (3, .int s1.2), (4, .int s2.2)], [.int (am_max s2.1 (1 + p3))], am_SH, (f, g))) rfl ?_
        obtain ⟨t4, Et4, h⟩ := am_let_eq h
        refine am_Ev.go hcd 1 (s' := (38, [(1, .ref 48), (2, .int t4), (3, .int s1.2), (4, .int s2.2)], [], am_SH, (f, g))) (by subst Et4; exact rfl) ?_
        obtain ⟨t5, Et5, h⟩ := am_let_eq h
        refine am_Ev.go hcd 1 (s' := (39, [(1, .ref 48), (2, .int t4), (3, .int s1.2), (4, .int t5)], [], am_SH, (f, g))) (by subst Et5; exact rfl) ?_
        refine am_Ev.go hcd 1 (s' := (10, [(1, .ref 48), (2, .int t4), (3, .int s1.2), (4, .int t5)], [], am_SH, (f, g))) rfl ?_
        exact am_Ev.weak' (hI2 (t4, t5) (Option.some.inj h).symm) (am_sub_cons rfl (am_sub_cons rfl (am_sub_cons rfl (am_sub_cons rfl am_sub_nil)))) rfl
    · refine am_Ev.f hcd (c := s2.2 < s1.2) (s1 := (40, [(1, .ref 48), (2, .int s2.1), (3, .int s1.2), (4, .int s2.2)], [], am_SH, (f, g))) rfl c24 ?_
      exact am_Ev.weak' (hZ2 (.inr s2.1) (Option.some.inj h).symm) (am_sub_cons rfl (am_sub_cons rfl (am_sub_cons rfl am_sub_nil))) rfl
  · refine am_Ev.f hcd (c := s1.2 < f 48 0) (s1 := (42, [(1, .ref 48), (2, .int s1.1), (3, .int s1.2)], [], am_SH, (f, g))) rfl c6 ?_
    refine am_Ev.go hcd 1 (s' := (43, [(1, .ref 48), (2, .int s1.1), (3, .int s1.2)], [.int s1.1], am_SH, (f, g))) rfl ?_
    exact am_Ev.cast (a := ((some (.int s1.1)), am_SH, (f, g))) (hZ1 _ (Option.some.inj h).symm) (am_Ev.ret hcd rfl)
set_option maxRecDepth 100000 in
set_option maxHeartbeats 4000000 in
theorem xm_isHead_ok {sc : Nat × (Nat → Int32)} (d : Nat) (a0 : Int32) (a1 : Int32) (f g : (Nat → Nat → Int32)) (r : Bool) (h : xm_isHead a0 a1 f = some r) : am_Ev sc (d) 74 (0, [(0, .ref 143), (1, .int a0), (2, .int a1)], [], am_SH, (f, g)) ((some (.int (am_b r))), am_SH, (f, g)) := by
  have hcd : am_code 74 = am_c74 := rfl
  unfold xm_isHead at h
  refine am_Ev.go hcd 2 (s' := (2, [(0, .ref 143), (1, .int a0), (2, .int a1), (3, .int 0)], [], am_SH, (f, g))) rfl ?_
  refine am_Ev.weak' (am_loop_ok (G := fun (s1 : Int32) => am_Ev sc (d) 74 (2, [(0, .ref 143), (1, .int a0), (2, .int a1), (3, .int s1)], [], am_SH, (f, g)) ((some (.int (am_b r))), am_SH, (f, g))) (Z := fun (v : Bool) => (((some (.int (am_b v))), am_SH, (f, g)) : am_R) = ((some (.int (am_b r))), am_SH, (f, g))) ?_ am_F 0 r h rfl) (am_sub_cons rfl (am_sub_cons rfl (am_sub_cons rfl (am_sub_cons rfl am_sub_nil)))) rfl
  intro s1 q1 h hI1 hZ1
  show am_Ev sc (d) 74 (2, [(0, .ref 143), (1, .int a0), (2, .int a1), (3, .int s1)], [], am_SH, (f, g)) ((some (.int (am_b r))), am_SH, (f, g))
  refine am_Ev.go hcd 2 (s' := (4, [(0, .ref 143), (1, .int a0), (2, .int a1), (3, .int s1)], [.int a1, .int s1], am_SH, (f, g))) rfl ?_
  rcases am_ite h with ⟨c6, h⟩ | ⟨c6, h⟩
  · refine am_Ev.t hcd (c := s1 < a1) (s1 := (5, [(0, .ref 143), (1, .int a0), (2, .int a1), (3, .int s1)], [], am_SH, (f, g))) rfl c6 ?_
    refine am_Ev.go hcd 3 (s' := (8, [(0, .ref 143), (1, .int a0), (2, .int a1), (3, .int s1)], [.int s1, .ref 155], am_SH, (f, g))) rfl ?_
    obtain ⟨c9, h⟩ := am_grd h
    refine am_Ev.t hcd (o := none) (c := am_in s1 32 = true) (s1 := (9, [(0, .ref 143), (1, .int a0), (2, .int a1), (3, .int s1)], [.int (f 155 s1.toNatClampNeg)], am_SH, (f, g))) rfl c9 ?_
    refine am_Ev.go hcd 1 (s' := (10, [(0, .ref 143), (1, .int a0), (2, .int a1), (3, .int s1)], [.int a0, .int (f 155 s1.toNatClampNeg)], am_SH, (f, g))) rfl ?_
    rcases am_ite h with ⟨c12, h⟩ | ⟨c12, h⟩
    · refine am_Ev.t hcd (c := f 155 s1.toNatClampNeg = a0) (s1 := (11, [(0, .ref 143), (1, .int a0), (2, .int a1), (3, .int s1)], [], am_SH, (f, g))) rfl c12 ?_
      refine am_Ev.go hcd 1 (s' := (12, [(0, .ref 143), (1, .int a0), (2, .int a1), (3, .int s1)], [.int 1], am_SH, (f, g))) rfl ?_
      exact am_Ev.cast (a := ((some (.int (am_b true))), am_SH, (f, g))) (hZ1 _ (Option.some.inj h).symm) (am_Ev.ret hcd rfl)
    · refine am_Ev.f hcd (c := f 155 s1.toNatClampNeg = a0) (s1 := (13, [(0, .ref 143), (1, .int a0), (2, .int a1), (3, .int s1)], [], am_SH, (f, g))) rfl c12 ?_
      obtain ⟨t2, Et2, h⟩ := am_let_eq h
      refine am_Ev.go hcd 1 (s' := (14, [(0, .ref 143), (1, .int a0), (2, .int a1), (3, .int t2)], [], am_SH, (f, g))) (by subst Et2; exact rfl) ?_
      refine am_Ev.go hcd 1 (s' := (2, [(0, .ref 143), (1, .int a0), (2, .int a1), (3, .int t2)], [], am_SH, (f, g))) rfl ?_
      exact am_Ev.weak' (hI1 t2 (Option.some.inj h).symm) (am_sub_cons rfl (am_sub_cons rfl (am_sub_cons rfl (am_sub_cons rfl am_sub_nil)))) rfl
  · refine am_Ev.f hcd (c := s1 < a1) (s1 := (15, [(0, .ref 143), (1, .int a0), (2, .int a1), (3, .int s1)], [], am_SH, (f, g))) rfl c6 ?_
    refine am_Ev.go hcd 1 (s' := (16, [(0, .ref 143), (1, .int a0), (2, .int a1), (3, .int s1)], [.int 0], am_SH, (f, g))) rfl ?_
    exact am_Ev.cast (a := ((some (.int (am_b false))), am_SH, (f, g))) (hZ1 _ (Option.some.inj h).symm) (am_Ev.ret hcd rfl)
set_option maxRecDepth 100000 in
set_option maxHeartbeats 4000000 in
theorem xm_beginnings_48_ok {sc : Nat × (Nat → Int32)} (d : Nat)  (f g : (Nat → Nat → Int32)) (r : Int32 × (Nat → Nat → Int32)) (h : xm_beginnings_48  f = some r) : am_Ev sc (d + 1) 73 (0, [(0, .ref 143), (1, .ref 48)], [], am_SH, (f, g)) ((some (.int r.1)), am_SH, (r.2, g)) := by
  have hcd : am_code 73 = am_c73 := rfl
  unfold xm_beginnings_48 at h
  refine am_Ev.go hcd 4 (s' := (4, [(0, .ref 143), (1, .ref 48), (2, .int 0), (3, .int 0)], [], am_SH, (f, g))) rfl ?_
  refine am_Ev.weak' (am_loop_ok (G := fun (s1 : Int32 × Int32 × (Nat → Nat → Int32)) => am_Ev sc (d + 1) 73 (4, [(0, .ref 143), (1, .ref 48), (2, .int s1.1), (3, .int s1.2.1)], [], am_SH, (s1.2.2, g)) ((some (.int r.1)), am_SH, (r.2, g))) (Z := fun (v : Int32 × (Nat → Nat → Int32)) => (((some (.int v.1)), am_SH, (v.2, g)) : am_R) = ((some (.int r.1)), am_SH, (r.2, g))) ?_ am_F (0, 0, f) r h rfl) (am_sub_cons rfl (am_sub_cons rfl (am_sub_cons rfl (am_sub_cons rfl am_sub_nil)))) rfl
  intro s1 q1 h hI1 hZ1
  show am_Ev sc (d + 1) 73 (4, [(0, .ref 143), (1, .ref 48), (2, .int s1.1), (3, .int s1.2.1)], [], am_SH, (s1.2.2, g)) ((some (.int r.1)), am_SH, (r.2, g))
  refine am_Ev.go hcd 3 (s' := (7, [(0, .ref 143), (1, .ref 48), (2, .int s1.1), (3, .int s1.2.1)], [.int (s1.2.2 48 0), .int s1.2.1], am_SH, (s1.2.2, g))) rfl ?_
  rcases am_ite h with ⟨c6, h⟩ | ⟨c6, h⟩
  · refine am_Ev.t hcd (c := s1.2.1 < s1.2.2 48 0) (s1 := (8, [(0, .ref 143), (1, .ref 48), (2, .int s1.1), (3, .int s1.2.1)], [], am_SH, (s1.2.2, g))) rfl c6 ?_
    refine am_Ev.go hcd 3 (s' := (11, [(0, .ref 143), (1, .ref 48), (2, .int s1.1), (3, .int s1.2.1)], [.int s1.2.1, .ref 49], am_SH, (s1.2.2, g))) rfl ?_
    obtain ⟨c9, h⟩ := am_grd h
    refine am_Ev.t hcd (o := none) (c := am_in s1.2.1 8 = true) (s1 := (12, [(0, .ref 143), (1, .ref 48), (2, .int s1.1), (3, .int s1.2.1)], [.int (s1.2.2 49 s1.2.1.toNatClampNeg)], am_SH, (s1.2.2, g))) rfl c9 ?_
    obtain ⟨t2, Et2, h⟩ := am_let_eq h
    refine am_Ev.go hcd 1 (s' := (13, [(0, .ref 143), (1, .ref 48), (2, .int s1.1), (3, .int s1.2.1), (4, .int t2)], [], am_SH, (s1.2.2, g))) (by subst Et2; exact rfl) ?_
    refine am_Ev.go hcd 2 (s' := (15, [(0, .ref 143), (1, .ref 48), (2, .int s1.1), (3, .int s1.2.1), (4, .int t2), (5, .int 0)], [], am_SH, (s1.2.2, g))) rfl ?_
    obtain ⟨e10, he10, h⟩ := am_bind_some h
    have hK3 : (fun (e10 : Int32 × (Nat → Nat → Int32)) => am_Ev sc (d + 1) 73 (42, [(0, .ref 143), (1, .ref 48), (2, .int e10.1), (3, .int s1.2.1)], [], am_SH, (e10.2, g)) ((some (.int r.1)), am_SH, (r.2, g))) e10 := by
      show am_Ev sc (d + 1) 73 (42, [(0, .ref 143), (1, .ref 48), (2, .int e10.1), (3, .int s1.2.1)], [], am_SH, (e10.2, g)) ((some (.int r.1)), am_SH, (r.2, g))
      obtain ⟨t11, Et11, h⟩ := am_let_eq h
      refine am_Ev.go hcd 1 (s' := (43, [(0, .ref 143), (1, .ref 48), (2, .int e10.1), (3, .int t11)], [], am_SH, (e10.2, g))) (by subst Et11; exact rfl) ?_
      refine am_Ev.go hcd 1 (s' := (4, [(0, .ref 143), (1, .ref 48), (2, .int e10.1), (3, .int t11)], [], am_SH, (e10.2, g))) rfl ?_
      exact am_Ev.weak' (hI1 (e10.1, t11, e10.2) (Option.some.inj h).symm) (am_sub_cons rfl (am_sub_cons rfl (am_sub_cons rfl (am_sub_cons rfl am_sub_nil)))) rfl
    refine am_Ev.weak' (am_loop_ok (G := fun (s3 : Int32 × Int32 × Int32 × (Nat → Nat → Int32)) => am_Ev sc (d + 1) 73 (15, [(0, .ref 143), (1, .ref 48), (2, .int s3.1), (3, .int s1.2.1), (4, .int s3.2.1), (5, .int s3.2.2.1)], [], am_SH, (s3.2.2.2, g)) ((some (.int r.1)), am_SH, (r.2, g))) (Z := fun (e10 : Int32 × (Nat → Nat → Int32)) => am_Ev sc (d + 1) 73 (42, [(0, .ref 143), (1, .ref 48), (2, .int e10.1), (3, .int s1.2.1)], [], am_SH, (e10.2, g)) ((some (.int r.1)), am_SH, (r.2, g))) ?_ am_F (s1.1, t2, 0, s1.2.2) e10 he10 hK3) (am_sub_cons rfl (am_sub_cons rfl (am_sub_cons rfl (am_sub_cons rfl (am_sub_cons rfl (am_sub_cons rfl am_sub_nil)))))) rfl
    intro s3 q3 h hI3 hZ3
    show am_Ev sc (d + 1) 73 (15, [(0, .ref 143), (1, .ref 48), (2, .int s3.1), (3, .int s1.2.1), (4, .int s3.2.1), (5, .int s3.2.2.1)], [], am_SH, (s3.2.2.2, g)) ((some (.int r.1)), am_SH, (r.2, g))
    refine am_Ev.go hcd 2 (s' := (17, [(0, .ref 143), (1, .ref 48), (2, .int s3.1), (3, .int s1.2.1), (4, .int s3.2.1), (5, .int s3.2.2.1)], [.int 4, .int s3.2.2.1], am_SH, (s3.2.2.2, g))) rfl ?_
    rcases am_ite h with ⟨c25, h⟩ | ⟨c25, h⟩
    · refine am_Ev.t hcd (c := s3.2.2.1 < 4) (s1 := (18, [(0, .ref 143), (1, .ref 48), (2, .int s3.1), (3, .int s1.2.1), (4, .int s3.2.1), (5, .int s3.2.2.1)], [], am_SH, (s3.2.2.2, g))) rfl c25 ?_
      refine am_Ev.go hcd 1 (s' := (19, [(0, .ref 143), (1, .ref 48), (2, .int s3.1), (3, .int s1.2.1), (4, .int s3.2.1), (5, .int s3.2.2.1)], [.int s3.2.1], am_SH, (s3.2.2.2, g))) rfl ?_
      rcases am_ite h with ⟨c28, h⟩ | ⟨c28, h⟩
      · refine am_Ev.t hcd (c := 0 < s3.2.1) (s1 := (20, [(0, .ref 143), (1, .ref 48), (2, .int s3.1), (3, .int s1.2.1), (4, .int s3.2.1), (5, .int s3.2.2.1)], [], am_SH, (s3.2.2.2, g))) rfl c28 ?_
        obtain ⟨t7, ht7, kt7⟩ := am_bind_some h
        have hKt7 : am_Ev sc (d + 1) 73 (36, [(0, .ref 143), (1, .ref 48), (2, .int t7.1), (3, .int s1.2.1), (4, .int s3.2.1), (5, .int s3.2.2.1)], [], am_SH, (t7.2, g)) ((some (.int r.1)), am_SH, (r.2, g)) := by
          have h := kt7
          obtain ⟨t8, Et8, h⟩ := am_let_eq h
          refine am_Ev.go hcd 4 (s' := (40, [(0, .ref 143), (1, .ref 48), (2, .int t7.1), (3, .int s1.2.1), (4, .int t8), (5, .int s3.2.2.1)], [], am_SH, (t7.2, g))) (by subst Et8; exact rfl) ?_
          obtain ⟨t9, Et9, h⟩ := am_let_eq h
          refine am_Ev.go hcd 1 (s' := (41, [(0, .ref 143), (1, .ref 48), (2, .int t7.1), (3, .int s1.2.1), (4, .int t8), (5, .int t9)], [], am_SH, (t7.2, g))) (by subst Et9; exact rfl) ?_
          refine am_Ev.go hcd 1 (s' := (15, [(0, .ref 143), (1, .ref 48), (2, .int t7.1), (3, .int s1.2.1), (4, .int t8), (5, .int t9)], [], am_SH, (t7.2, g))) rfl ?_
          exact am_Ev.weak' (hI3 (t7.1, t8, t9, t7.2) (Option.some.inj h).symm) (am_sub_cons rfl (am_sub_cons rfl (am_sub_cons rfl (am_sub_cons rfl (am_sub_cons rfl (am_sub_cons rfl am_sub_nil)))))) rfl
        have hLt7 : ∀ tt, tt = t7 → am_Ev sc (d + 1) 73 (36, [(0, .ref 143), (1, .ref 48), (2, .int tt.1), (3, .int s1.2.1), (4, .int s3.2.1), (5, .int s3.2.2.1)], [], am_SH, (tt.2, g)) ((some (.int r.1)), am_SH, (r.2, g)) := fun tt htt => by subst htt; exact hKt7
        have h := ht7
        refine am_Ev.go hcd 4 (s' := (24, [(0, .ref 143), (1, .ref 48), (2, .int s3.1), (3, .int s1.2.1), (4, .int s3.2.1), (5, .int s3.2.2.1)], [.int (nI 32), .int s3.1], am_SH, (s3.2.2.2, g))) rfl ?_
        rcases am_ite h with ⟨c42, h⟩ | ⟨c42, h⟩
        · refine am_Ev.t hcd (c := s3.1 < (nI 32)) (s1 := (25, [(0, .ref 143), (1, .ref 48), (2, .int s3.1), (3, .int s1.2.1), (4, .int s3.2.1), (5, .int s3.2.2.1)], [], am_SH, (s3.2.2.2, g))) rfl c42 ?_
          refine am_Ev.go hcd 3 (s' := (28, [(0, .ref 143), (1, .ref 48), (2, .int s3.1), (3, .int s1.2.1), (4, .int s3.2.1), (5, .int s3.2.2.1)], [.int s3.1, .int s3.2.1, .ref 143], am_SH, (s3.2.2.2, g))) rfl ?_
          obtain ⟨p4, hp4, h⟩ := am_bind_some h
          refine am_Ev.call hcd (a := 74) (s0 := (0, [(0, .ref 143), (1, .int s3.2.1), (2, .int s3.1)], [], am_SH, (s3.2.2.2, g))) (q := ((some (.int (am_b p4))), am_SH, (s3.2.2.2, g))) (s1 := (29, [(0, .ref 143), (1, .ref 48), (2, .int s3.1), (3, .int s1.2.1), (4, .int s3.2.1), (5, .int s3.2.2.1)], [.int (am_b p4)], am_SH, (s3.2.2.2, g))) rfl rfl (xm_isHead_ok (d) s3.2.1 s3.1 s3.2.2.2 g p4 hp4) ?_
          rcases am_ite h with ⟨c48, h⟩ | ⟨c48, h⟩
          · refine am_Ev.f hcd (c := am_b p4 = 0) (s1 := (36, [(0, .ref 143), (1, .ref 48), (2, .int s3.1), (3, .int s1.2.1), (4, .int s3.2.1), (5, .int s3.2.2.1)], [], am_SH, (s3.2.2.2, g))) rfl (am_b_t c48) ?_
            exact am_Ev.weak' (hLt7 (s3.1, s3.2.2.2) (Option.some.inj h)) (am_sub_cons rfl (am_sub_cons rfl (am_sub_cons rfl (am_sub_cons rfl (am_sub_cons rfl (am_sub_cons rfl am_sub_nil)))))) rfl
          · refine am_Ev.t hcd (c := am_b p4 = 0) (s1 := (30, [(0, .ref 143), (1, .ref 48), (2, .int s3.1), (3, .int s1.2.1), (4, .int s3.2.1), (5, .int s3.2.2.1)], [], am_SH, (s3.2.2.2, g))) rfl (am_b_f c48) ?_
            refine am_Ev.go hcd 4 (s' := (34, [(0, .ref 143), (1, .ref 48), (2, .int s3.1), (3, .int s1.2.1), (4, .int s3.2.1), (5, .int s3.2.2.1)], [.int s3.2.1, .int s3.1, .ref 155], am_SH, (s3.2.2.2, g))) rfl ?_
            obtain ⟨c52, h⟩ := am_grd h
            obtain ⟨f5, Ef5, h⟩ := am_let_eq h
            refine am_Ev.t hcd (o := none) (c := am_in s3.1 32 = true) (s1 := (35, [(0, .ref 143), (1, .ref 48), (2, .int s3.1), (3, .int s1.2.1), (4, .int s3.2.1), (5, .int s3.2.2.1)], [], am_SH, (f5, g))) (by subst Ef5; exact rfl) c52 ?_
            obtain ⟨t6, Et6, h⟩ := am_let_eq h
            refine am_Ev.go hcd 1 (s' := (36, [(0, .ref 143), (1, .ref 48), (2, .int t6), (3, .int s1.2.1), (4, .int s3.2.1), (5, .int s3.2.2.1)], [], am_SH, (f5, g))) (by subst Et6; exact rfl) ?_
            exact am_Ev.weak' (hLt7 (t6, f5) (Option.some.inj h)) (am_sub_cons rfl (am_sub_cons rfl (am_sub_cons rfl (am_sub_cons rfl (am_sub_cons rfl (am_sub_cons rfl am_sub_nil)))))) rfl
        · refine am_Ev.f hcd (c := s3.1 < (nI 32)) (s1 := (36, [(0, .ref 143), (1, .ref 48), (2, .int s3.1), (3, .int s1.2.1), (4, .int s3.2.1), (5, .int s3.2.2.1)], [], am_SH, (s3.2.2.2, g))) rfl c42 ?_
          exact am_Ev.weak' (hLt7 (s3.1, s3.2.2.2) (Option.some.inj h)) (am_sub_cons rfl (am_sub_cons rfl (am_sub_cons rfl (am_sub_cons rfl (am_sub_cons rfl (am_sub_cons rfl am_sub_nil)))))) rfl
      · refine am_Ev.f hcd (c := 0 < s3.2.1) (s1 := (42, [(0, .ref 143), (1, .ref 48), (2, .int s3.1), (3, .int s1.2.1), (4, .int s3.2.1), (5, .int s3.2.2.1)], [], am_SH, (s3.2.2.2, g))) rfl c28 ?_
        exact am_Ev.weak' (hZ3 (s3.1, s3.2.2.2) (Option.some.inj h).symm) (am_sub_cons rfl (am_sub_cons rfl (am_sub_cons rfl (am_sub_cons rfl am_sub_nil)))) rfl
    · refine am_Ev.f hcd (c := s3.2.2.1 < 4) (s1 := (42, [(0, .ref 143), (1, .ref 48), (2, .int s3.1), (3, .int s1.2.1), (4, .int s3.2.1), (5, .int s3.2.2.1)], [], am_SH, (s3.2.2.2, g))) rfl c25 ?_
      exact am_Ev.weak' (hZ3 (s3.1, s3.2.2.2) (Option.some.inj h).symm) (am_sub_cons rfl (am_sub_cons rfl (am_sub_cons rfl (am_sub_cons rfl am_sub_nil)))) rfl
  · refine am_Ev.f hcd (c := s1.2.1 < s1.2.2 48 0) (s1 := (44, [(0, .ref 143), (1, .ref 48), (2, .int s1.1), (3, .int s1.2.1)], [], am_SH, (s1.2.2, g))) rfl c6 ?_
    refine am_Ev.go hcd 1 (s' := (45, [(0, .ref 143), (1, .ref 48), (2, .int s1.1), (3, .int s1.2.1)], [.int s1.1], am_SH, (s1.2.2, g))) rfl ?_
    exact am_Ev.cast (a := ((some (.int (s1.1, s1.2.2).1)), am_SH, ((s1.1, s1.2.2).2, g))) (hZ1 _ (Option.some.inj h).symm) (am_Ev.ret hcd rfl)
set_option maxRecDepth 100000 in
set_option maxHeartbeats 4000000 in
theorem x_dogs_ok {sc : Nat × (Nat → Int32)} (d : Nat) (a0 : Int32) (f g : (Nat → Nat → Int32)) (r : Int32 × (Nat → Nat → Int32)) (h : x_dogs a0 f = some r) : am_Ev sc (d + 4) 164 (0, [(0, .ref 0), (1, .int a0)], [], am_SH, (f, g)) ((some (.int r.1)), am_SH, (r.2, g)) := by
  have hcd : am_code 164 = am_c164 := rfl
  unfold x_dogs at h
  refine am_Ev.go hcd 1 (s' := (1, [(0, .ref 0), (1, .int a0)], [.int a0], am_SH, (f, g))) rfl ?_
  rcases am_ite h with ⟨c2, h⟩ | ⟨c2, h⟩
  · refine am_Ev.t hcd (c := a0 = 0) (s1 := (2, [(0, .ref 0), (1, .int a0)], [], am_SH, (f, g))) rfl c2 ?_
    refine am_Ev.go hcd 5 (s' := (7, [(0, .ref 0), (1, .int a0)], [.ref 48, .ref 143], am_SH, (f, g))) rfl ?_
    obtain ⟨p1, hp1, h⟩ := am_bind_some h
    refine am_Ev.call hcd (a := 69) (s0 := (0, [(0, .ref 143), (1, .ref 48)], [], am_SH, (f, g))) (q := ((some (.int p1)), am_SH, (f, g))) (s1 := (8, [(0, .ref 0), (1, .int a0)], [.int p1], am_SH, (f, g))) rfl rfl (xm_lettersNeeded_48_ok (d)  f g p1 hp1) ?_
    exact am_Ev.cast (a := ((some (.int (p1, f).1)), am_SH, ((p1, f).2, g))) (by cases h; rfl) (am_Ev.ret hcd rfl)
  · refine am_Ev.f hcd (c := a0 = 0) (s1 := (9, [(0, .ref 0), (1, .int a0)], [], am_SH, (f, g))) rfl c2 ?_
    refine am_Ev.go hcd 2 (s' := (11, [(0, .ref 0), (1, .int a0)], [.int 1, .int a0], am_SH, (f, g))) rfl ?_
    rcases am_ite h with ⟨c10, h⟩ | ⟨c10, h⟩
    · refine am_Ev.t hcd (c := a0 = 1) (s1 := (12, [(0, .ref 0), (1, .int a0)], [], am_SH, (f, g))) rfl c10 ?_
      refine am_Ev.go hcd 5 (s' := (17, [(0, .ref 0), (1, .int a0)], [.ref 48, .ref 143], am_SH, (f, g))) rfl ?_
      obtain ⟨p2, hp2, h⟩ := am_bind_some h
      refine am_Ev.call hcd (a := 73) (s0 := (0, [(0, .ref 143), (1, .ref 48)], [], am_SH, (f, g))) (q := ((some (.int p2.1)), am_SH, (p2.2, g))) (s1 := (18, [(0, .ref 0), (1, .int a0)], [.int p2.1], am_SH, (p2.2, g))) rfl rfl (xm_beginnings_48_ok (d + 2)  f g p2 hp2) ?_
      refine am_Ev.go hcd 1 (s' := (20, [(0, .ref 0), (1, .int a0)], [.int p2.1], am_SH, (p2.2, g))) rfl ?_
      exact am_Ev.cast (a := ((some (.int (p2.1, p2.2).1)), am_SH, ((p2.1, p2.2).2, g))) (by cases h; rfl) (am_Ev.ret hcd rfl)
    · refine am_Ev.f hcd (c := a0 = 1) (s1 := (19, [(0, .ref 0), (1, .int a0)], [], am_SH, (f, g))) rfl c10 ?_
      refine am_Ev.go hcd 1 (s' := (20, [(0, .ref 0), (1, .int a0)], [.int (-1)], am_SH, (f, g))) rfl ?_
      exact am_Ev.cast (a := ((some (.int ((-1), f).1)), am_SH, (((-1), f).2, g))) (by cases h; rfl) (am_Ev.ret hcd rfl)
set_option maxRecDepth 100000 in
set_option maxHeartbeats 4000000 in
theorem xr_clearAll_51_ok {sc : Nat × (Nat → Int32)} (d : Nat)  (f g : (Nat → Nat → Int32)) : am_Ev sc (d) 86 (0, [(0, .ref 51)], [], am_SH, (f, g)) ((some (.int (xr_clearAll_51  f).1)), am_SH, ((xr_clearAll_51  f).2, g)) := by
  have hcd : am_code 86 = am_c86 := rfl
  obtain ⟨r, h⟩ : ∃ r, r = xr_clearAll_51  f := ⟨_, rfl⟩
  rw [← h]
  unfold xr_clearAll_51 at h
  obtain ⟨f1, Ef1, h⟩ := am_let_eq' h
  refine am_Ev.go hcd 3 (s' := (3, [(0, .ref 51)], [], am_SH, (f1, g))) (by subst Ef1; exact rfl) ?_
  refine am_Ev.go hcd 2 (s' := (5, [(0, .ref 51)], [.int (f1 51 0)], am_SH, (f1, g))) rfl ?_
  exact am_Ev.cast (a := ((some (.int (f1 51 0, f1).1)), am_SH, ((f1 51 0, f1).2, g))) (by subst h; rfl) (am_Ev.ret hcd rfl)
set_option maxRecDepth 100000 in
set_option maxHeartbeats 4000000 in
theorem xr_append_51_ok {sc : Nat × (Nat → Int32)} (d : Nat) (a0 : Int32) (a1 : Int32) (f g : (Nat → Nat → Int32)) (r : Int32 × (Nat → Nat → Int32)) (h : xr_append_51 a0 a1 f = some r) : am_Ev sc (d) 85 (0, [(0, .ref 51), (1, .int a0), (2, .int a1)], [], am_SH, (f, g)) ((some (.int r.1)), am_SH, (r.2, g)) := by
  have hcd : am_code 85 = am_c85 := rfl
  unfold xr_append_51 at h
  refine am_Ev.go hcd 5 (s' := (5, [(0, .ref 51), (1, .int a0), (2, .int a1)], [.int (nI 8), .int (f 51 0)], am_SH, (f, g))) rfl ?_
  rcases am_ite h with ⟨c2, h⟩ | ⟨c2, h⟩
  · refine am_Ev.t hcd (c := f 51 0 < (nI 8)) (s1 := (8, [(0, .ref 51), (1, .int a0), (2, .int a1)], [], am_SH, (f, g))) rfl c2 ?_
    refine am_Ev.go hcd 5 (s' := (13, [(0, .ref 51), (1, .int a0), (2, .int a1)], [.int a0, .int (f 51 0), .ref 52], am_SH, (f, g))) rfl ?_
    obtain ⟨c5, h⟩ := am_grd h
    obtain ⟨f1, Ef1, h⟩ := am_let_eq h
    refine am_Ev.t hcd (o := none) (c := am_in (f 51 0) 8 = true) (s1 := (14, [(0, .ref 51), (1, .int a0), (2, .int a1)], [], am_SH, (f1, g))) (by subst Ef1; exact rfl) c5 ?_
    refine am_Ev.go hcd 5 (s' := (19, [(0, .ref 51), (1, .int a0), (2, .int a1)], [.int a1, .int (f1 51 0), .ref 53], am_SH, (f1, g))) rfl ?_
    obtain ⟨c9, h⟩ := am_grd h
    obtain ⟨f2, Ef2, h⟩ := am_let_eq h
    refine am_Ev.t hcd (o := none) (c := am_in (f1 51 0) 8 = true) (s1 := (20, [(0, .ref 51), (1, .int a0), (2, .int a1)], [], am_SH, (f2, g))) (by subst Ef2; exact rfl) c9 ?_
    obtain ⟨f3, Ef3, h⟩ := am_let_eq h
    refine am_Ev.go hcd 6 (s' := (26, [(0, .ref 51), (1, .int a0), (2, .int a1)], [], am_SH, (f3, g))) (by subst Ef3; exact rfl) ?_
    refine am_Ev.go hcd 2 (s' := (28, [(0, .ref 51), (1, .int a0), (2, .int a1)], [.int (f3 51 0)], am_SH, (f3, g))) rfl ?_
    exact am_Ev.cast (a := ((some (.int (f3 51 0, f3).1)), am_SH, ((f3 51 0, f3).2, g))) (by cases h; rfl) (am_Ev.ret hcd rfl)
  · refine am_Ev.f hcd (c := f 51 0 < (nI 8)) (s1 := (6, [(0, .ref 51), (1, .int a0), (2, .int a1)], [], am_SH, (f, g))) rfl c2 ?_
    refine am_Ev.go hcd 1 (s' := (7, [(0, .ref 51), (1, .int a0), (2, .int a1)], [.int (-1)], am_SH, (f, g))) rfl ?_
    exact am_Ev.cast (a := ((some (.int ((-1), f).1)), am_SH, (((-1), f).2, g))) (by cases h; rfl) (am_Ev.ret hcd rfl)
set_option maxRecDepth 100000 in
set_option maxHeartbeats 4000000 in
theorem x_juror_ok {sc : Nat × (Nat → Int32)} (d : Nat) (a0 : Int32) (f g : (Nat → Nat → Int32)) (r : Int32 × (Nat → Nat → Int32)) (h : x_juror a0 f = some r) : am_Ev sc (d + 1) 165 (0, [(0, .ref 0), (1, .int a0)], [], am_SH, (f, g)) ((some (.int r.1)), am_SH, (r.2, g)) := by
  have hcd : am_code 165 = am_c165 := rfl
  unfold x_juror at h
  refine am_Ev.go hcd 2 (s' := (2, [(0, .ref 0), (1, .int a0)], [.int (-1), .int a0], am_SH, (f, g))) rfl ?_
  rcases am_ite h with ⟨c2, h⟩ | ⟨c2, h⟩
  · refine am_Ev.t hcd (c := a0 = (-1)) (s1 := (3, [(0, .ref 0), (1, .int a0)], [], am_SH, (f, g))) rfl c2 ?_
    refine am_Ev.go hcd 3 (s' := (6, [(0, .ref 0), (1, .int a0)], [.ref 51], am_SH, (f, g))) rfl ?_
    obtain ⟨p1, Ep1, h⟩ := am_let_eq h
    refine am_Ev.call hcd (a := 86) (s0 := (0, [(0, .ref 51)], [], am_SH, (f, g))) (q := ((some (.int p1.1)), am_SH, (p1.2, g))) (s1 := (7, [(0, .ref 0), (1, .int a0)], [.int p1.1], am_SH, (p1.2, g))) rfl rfl (by subst Ep1; exact xr_clearAll_51_ok (d)  f g) ?_
    exact am_Ev.cast (a := ((some (.int (p1.1, p1.2).1)), am_SH, ((p1.1, p1.2).2, g))) (by cases h; rfl) (am_Ev.ret hcd rfl)
  · refine am_Ev.f hcd (c := a0 = (-1)) (s1 := (8, [(0, .ref 0), (1, .int a0)], [], am_SH, (f, g))) rfl c2 ?_
    refine am_Ev.go hcd 3 (s' := (11, [(0, .ref 0), (1, .int a0)], [.int 20, .int 1, .int a0], am_SH, (f, g))) rfl ?_
    refine am_Ev.call hcd (a := 170) (s0 := (0, [(0, .int a0), (1, .int 1), (2, .int 20)], [], am_SH, (f, g))) (q := ((some (.int (am_b (x_within a0 1 20)))), am_SH, (f, g))) (s1 := (12, [(0, .ref 0), (1, .int a0)], [.int (am_b (x_within a0 1 20))], am_SH, (f, g))) rfl rfl (x_within_ok (d) a0 1 20 (f, g)) ?_
    rcases am_ite h with ⟨c12, h⟩ | ⟨c12, h⟩
    · refine am_Ev.f hcd (c := am_b (x_within a0 1 20) = 0) (s1 := (13, [(0, .ref 0), (1, .int a0)], [], am_SH, (f, g))) rfl (am_b_t c12) ?_
      refine am_Ev.go hcd 5 (s' := (18, [(0, .ref 0), (1, .int a0)], [.int 0, .int a0, .ref 51], am_SH, (f, g))) rfl ?_
      obtain ⟨p3, hp3, h⟩ := am_bind_some h
      refine am_Ev.call hcd (a := 85) (s0 := (0, [(0, .ref 51), (1, .int a0), (2, .int 0)], [], am_SH, (f, g))) (q := ((some (.int p3.1)), am_SH, (p3.2, g))) (s1 := (19, [(0, .ref 0), (1, .int a0)], [.int p3.1], am_SH, (p3.2, g))) rfl rfl (xr_append_51_ok (d) a0 0 f g p3 hp3) ?_
      refine am_Ev.go hcd 1 (s' := (21, [(0, .ref 0), (1, .int a0)], [.int p3.1], am_SH, (p3.2, g))) rfl ?_
      exact am_Ev.cast (a := ((some (.int (p3.1, p3.2).1)), am_SH, ((p3.1, p3.2).2, g))) (by cases h; rfl) (am_Ev.ret hcd rfl)
    · refine am_Ev.t hcd (c := am_b (x_within a0 1 20) = 0) (s1 := (20, [(0, .ref 0), (1, .int a0)], [], am_SH, (f, g))) rfl (am_b_f c12) ?_
      refine am_Ev.go hcd 1 (s' := (21, [(0, .ref 0), (1, .int a0)], [.int (-1)], am_SH, (f, g))) rfl ?_
      exact am_Ev.cast (a := ((some (.int ((-1), f).1)), am_SH, (((-1), f).2, g))) (by cases h; rfl) (am_Ev.ret hcd rfl)
set_option maxRecDepth 100000 in
set_option maxHeartbeats 4000000 in
theorem xm_weightOf_51_ok {sc : Nat × (Nat → Int32)} (d : Nat) (a0 : Int32) (f g : (Nat → Nat → Int32)) (r : Int32) (h : xm_weightOf_51 a0 f = some r) : am_Ev sc (d) 75 (0, [(0, .ref 51), (1, .int a0)], [], am_SH, (f, g)) ((some (.int r)), am_SH, (f, g)) := by
  have hcd : am_code 75 = am_c75 := rfl
  unfold xm_weightOf_51 at h
  refine am_Ev.go hcd 4 (s' := (4, [(0, .ref 51), (1, .int a0), (2, .int 0), (3, .int 0)], [], am_SH, (f, g))) rfl ?_
  refine am_Ev.weak' (am_loop_ok (G := fun (s1 : Int32 × Int32) => am_Ev sc (d) 75 (4, [(0, .ref 51), (1, .int a0), (2, .int s1.1), (3, .int s1.2)], [], am_SH, (f, g)) ((some (.int r)), am_SH, (f, g))) (Z := fun (v : Int32) => (((some (.int v)), am_SH, (f, g)) : am_R) = ((some (.int r)), am_SH, (f, g))) ?_ am_F (0, 0) r h rfl) (am_sub_cons rfl (am_sub_cons rfl (am_sub_cons rfl (am_sub_cons rfl am_sub_nil)))) rfl
  intro s1 q1 h hI1 hZ1
  show am_Ev sc (d) 75 (4, [(0, .ref 51), (1, .int a0), (2, .int s1.1), (3, .int s1.2)], [], am_SH, (f, g)) ((some (.int r)), am_SH, (f, g))
  refine am_Ev.go hcd 3 (s' := (7, [(0, .ref 51), (1, .int a0), (2, .int s1.1), (3, .int s1.2)], [.int (f 51 0), .int s1.2], am_SH, (f, g))) rfl ?_
  rcases am_ite h with ⟨c6, h⟩ | ⟨c6, h⟩
  · refine am_Ev.t hcd (c := s1.2 < f 51 0) (s1 := (8, [(0, .ref 51), (1, .int a0), (2, .int s1.1), (3, .int s1.2)], [], am_SH, (f, g))) rfl c6 ?_
    obtain ⟨t3, ht3, kt3⟩ := am_bind_some h
    have hKt3 : am_Ev sc (d) 75 (22, [(0, .ref 51), (1, .int a0), (2, .int t3), (3, .int s1.2)], [], am_SH, (f, g)) ((some (.int r)), am_SH, (f, g)) := by
      have h := kt3
      obtain ⟨t4, Et4, h⟩ := am_let_eq h
      refine am_Ev.go hcd 1 (s' := (23, [(0, .ref 51), (1, .int a0), (2, .int t3), (3, .int t4)], [], am_SH, (f, g))) (by subst Et4; exact rfl) ?_
      refine am_Ev.go hcd 1 (s' := (4, [(0, .ref 51), (1, .int a0), (2, .int t3), (3, .int t4)], [], am_SH, (f, g))) rfl ?_
      exact am_Ev.weak' (hI1 (t3, t4) (Option.some.inj h).symm) (am_sub_cons rfl (am_sub_cons rfl (am_sub_cons rfl (am_sub_cons rfl am_sub_nil)))) rfl
    have hLt3 : ∀ tt, tt = t3 → am_Ev sc (d) 75 (22, [(0, .ref 51), (1, .int a0), (2, .int tt), (3, .int s1.2)], [], am_SH, (f, g)) ((some (.int r)), am_SH, (f, g)) := fun tt htt => by subst htt; exact hKt3
    have h := ht3
    refine am_Ev.go hcd 6 (s' := (14, [(0, .ref 51), (1, .int a0), (2, .int s1.1), (3, .int s1.2)], [.int 1, .int ((a0 >>> (s1.2 &&& 31)) &&& 1)], am_SH, (f, g))) rfl ?_
    rcases am_ite h with ⟨c18, h⟩ | ⟨c18, h⟩
    · refine am_Ev.t hcd (c := ((a0 >>> (s1.2 &&& 31)) &&& 1) = 1) (s1 := (15, [(0, .ref 51), (1, .int a0), (2, .int s1.1), (3, .int s1.2)], [], am_SH, (f, g))) rfl c18 ?_
      refine am_Ev.go hcd 4 (s' := (19, [(0, .ref 51), (1, .int a0), (2, .int s1.1), (3, .int s1.2)], [.int s1.2, .ref 52, .int s1.1], am_SH, (f, g))) rfl ?_
      obtain ⟨c21, h⟩ := am_grd h
      refine am_Ev.t hcd (o := none) (c := am_in s1.2 8 = true) (s1 := (20, [(0, .ref 51), (1, .int a0), (2, .int s1.1), (3, .int s1.2)], [.int (f 52 s1.2.toNatClampNeg), .int s1.1], am_SH, (f, g))) rfl c21 ?_
      obtain ⟨t2, Et2, h⟩ := am_let_eq h
      refine am_Ev.go hcd 2 (s' := (22, [(0, .ref 51), (1, .int a0), (2, .int t2), (3, .int s1.2)], [], am_SH, (f, g))) (by subst Et2; exact rfl) ?_
      exact am_Ev.weak' (hLt3 t2 (Option.some.inj h)) (am_sub_cons rfl (am_sub_cons rfl (am_sub_cons rfl (am_sub_cons rfl am_sub_nil)))) rfl
    · refine am_Ev.f hcd (c := ((a0 >>> (s1.2 &&& 31)) &&& 1) = 1) (s1 := (22, [(0, .ref 51), (1, .int a0), (2, .int s1.1), (3, .int s1.2)], [], am_SH, (f, g))) rfl c18 ?_
      exact am_Ev.weak' (hLt3 s1.1 (Option.some.inj h)) (am_sub_cons rfl (am_sub_cons rfl (am_sub_cons rfl (am_sub_cons rfl am_sub_nil)))) rfl
  · refine am_Ev.f hcd (c := s1.2 < f 51 0) (s1 := (24, [(0, .ref 51), (1, .int a0), (2, .int s1.1), (3, .int s1.2)], [], am_SH, (f, g))) rfl c6 ?_
    refine am_Ev.go hcd 1 (s' := (25, [(0, .ref 51), (1, .int a0), (2, .int s1.1), (3, .int s1.2)], [.int s1.1], am_SH, (f, g))) rfl ?_
    exact am_Ev.cast (a := ((some (.int s1.1)), am_SH, (f, g))) (hZ1 _ (Option.some.inj h).symm) (am_Ev.ret hcd rfl)
set_option maxRecDepth 100000 in
set_option maxHeartbeats 4000000 in
theorem xm_fewestEnough_51_ok {sc : Nat × (Nat → Int32)} (d : Nat) (a0 : Int32) (f g : (Nat → Nat → Int32)) (r : Int32) (h : xm_fewestEnough_51 a0 f = some r) : am_Ev sc (d + 1) 77 (0, [(0, .ref 143), (1, .ref 51), (2, .int a0)], [], am_SH, (f, g)) ((some (.int r)), am_SH, (f, g)) := by
  have hcd : am_code 77 = am_c77 := rfl
  unfold xm_fewestEnough_51 at h
  refine am_Ev.go hcd 4 (s' := (4, [(0, .ref 143), (1, .ref 51), (2, .int a0), (3, .int (-1)), (4, .int 0)], [], am_SH, (f, g))) rfl ?_
  refine am_Ev.weak' (am_loop_ok (G := fun (s1 : Int32 × Int32) => am_Ev sc (d + 1) 77 (4, [(1, .ref 51), (2, .int a0), (3, .int s1.1), (4, .int s1.2)], [], am_SH, (f, g)) ((some (.int r)), am_SH, (f, g))) (Z := fun (v : Int32) => (((some (.int v)), am_SH, (f, g)) : am_R) = ((some (.int r)), am_SH, (f, g))) ?_ am_F ((-1), 0) r h rfl) (am_sub_cons rfl (am_sub_cons rfl (am_sub_cons rfl (am_sub_cons rfl am_sub_nil)))) rfl
  intro s1 q1 h hI1 hZ1
  show am_Ev sc (d + 1) 77 (4, [(1, .ref 51), (2, .int a0), (3, .int s1.1), (4, .int s1.2)], [], am_SH, (f, g)) ((some (.int r)), am_SH, (f, g))
  refine am_Ev.go hcd 5 (s' := (9, [(1, .ref 51), (2, .int a0), (3, .int s1.1), (4, .int s1.2)], [.int (1 <<< ((f 51 0) &&& 31)), .int s1.2], am_SH, (f, g))) rfl ?_
  rcases am_ite h with ⟨c6, h⟩ | ⟨c6, h⟩
  · refine am_Ev.t hcd (c := s1.2 < (1 <<< ((f 51 0) &&& 31))) (s1 := (10, [(1, .ref 51), (2, .int a0), (3, .int s1.1), (4, .int s1.2)], [], am_SH, (f, g))) rfl c6 ?_
    obtain ⟨t4, ht4, kt4⟩ := am_let_eq h
    have hKt4 : am_Ev sc (d + 1) 77 (21, [(1, .ref 51), (2, .int a0), (3, .int s1.1), (4, .int s1.2)], [.int (am_b t4)], am_SH, (f, g)) ((some (.int r)), am_SH, (f, g)) := by
      have h := kt4
      obtain ⟨t6, ht6, kt6⟩ := am_bind_some h
      have hKt6 : am_Ev sc (d + 1) 77 (31, [(1, .ref 51), (2, .int a0), (3, .int t6), (4, .int s1.2)], [], am_SH, (f, g)) ((some (.int r)), am_SH, (f, g)) := by
        have h := kt6
        obtain ⟨t7, Et7, h⟩ := am_let_eq h
        refine am_Ev.go hcd 1 (s' := (32, [(1, .ref 51), (2, .int a0), (3, .int t6), (4, .int t7)], [], am_SH, (f, g))) (by subst Et7; exact rfl) ?_
        refine am_Ev.go hcd 1 (s' := (4, [(1, .ref 51), (2, .int a0), (3, .int t6), (4, .int t7)], [], am_SH, (f, g))) rfl ?_
        exact am_Ev.weak' (hI1 (t6, t7) (Option.some.inj h).symm) (am_sub_cons rfl (am_sub_cons rfl (am_sub_cons rfl (am_sub_cons rfl am_sub_nil)))) rfl
      have hLt6 : ∀ tt, tt = t6 → am_Ev sc (d + 1) 77 (31, [(1, .ref 51), (2, .int a0), (3, .int tt), (4, .int s1.2)], [], am_SH, (f, g)) ((some (.int r)), am_SH, (f, g)) := fun tt htt => by subst htt; exact hKt6
      have h := ht6
      refine am_Ev.go hcd 2 (s' := (23, [(1, .ref 51), (2, .int a0), (3, .int s1.1), (4, .int s1.2), (5, .int (am_b t4))], [.int (am_b t4)], am_SH, (f, g))) rfl ?_
      rcases am_ite h with ⟨c21, h⟩ | ⟨c21, h⟩
      · refine am_Ev.f hcd (c := am_b t4 = 0) (s1 := (24, [(1, .ref 51), (2, .int a0), (3, .int s1.1), (4, .int s1.2), (5, .int (am_b t4))], [], am_SH, (f, g))) rfl (am_b_t c21) ?_
        refine am_Ev.go hcd 2 (s' := (26, [(1, .ref 51), (2, .int a0), (3, .int s1.1), (4, .int s1.2), (5, .int (am_b t4))], [.int s1.2, .ref 51], am_SH, (f, g))) rfl ?_
        obtain ⟨p5, hp5, h⟩ := am_bind_some h
        refine am_Ev.call hcd (a := 75) (s0 := (0, [(0, .ref 51), (1, .int s1.2)], [], am_SH, (f, g))) (q := ((some (.int p5)), am_SH, (f, g))) (s1 := (27, [(1, .ref 51), (2, .int a0), (3, .int s1.1), (4, .int s1.2), (5, .int (am_b t4))], [.int p5], am_SH, (f, g))) rfl rfl (xm_weightOf_51_ok (d) s1.2 f g p5 hp5) ?_
        refine am_Ev.go hcd 1 (s' := (28, [(1, .ref 51), (2, .int a0), (3, .int s1.1), (4, .int s1.2), (5, .int (am_b t4))], [.int a0, .int p5], am_SH, (f, g))) rfl ?_
        rcases am_ite h with ⟨c27, h⟩ | ⟨c27, h⟩
        · refine am_Ev.t hcd (c := p5 < a0) (s1 := (31, [(1, .ref 51), (2, .int a0), (3, .int s1.1), (4, .int s1.2), (5, .int (am_b t4))], [], am_SH, (f, g))) rfl c27 ?_
          exact am_Ev.weak' (hLt6 s1.1 (Option.some.inj h)) (am_sub_cons rfl (am_sub_cons rfl (am_sub_cons rfl (am_sub_cons rfl am_sub_nil)))) rfl
        · refine am_Ev.f hcd (c := p5 < a0) (s1 := (29, [(1, .ref 51), (2, .int a0), (3, .int s1.1), (4, .int s1.2), (5, .int (am_b t4))], [], am_SH, (f, g))) rfl c27 ?_
          refine am_Ev.go hcd 2 (s' := (31, [(1, .ref 51), (2, .int a0), (3, .int s1.2), (4, .int s1.2), (5, .int (am_b t4))], [], am_SH, (f, g))) rfl ?_
          exact am_Ev.weak' (hLt6 s1.2 (Option.some.inj h)) (am_sub_cons rfl (am_sub_cons rfl (am_sub_cons rfl (am_sub_cons rfl am_sub_nil)))) rfl
      · refine am_Ev.t hcd (c := am_b t4 = 0) (s1 := (31, [(1, .ref 51), (2, .int a0), (3, .int s1.1), (4, .int s1.2), (5, .int (am_b t4))], [], am_SH, (f, g))) rfl (am_b_f c21) ?_
        exact am_Ev.weak' (hLt6 s1.1 (Option.some.inj h)) (am_sub_cons rfl (am_sub_cons rfl (am_sub_cons rfl (am_sub_cons rfl am_sub_nil)))) rfl
    have hLt4 : ∀ tt, tt = t4 → am_Ev sc (d + 1) 77 (21, [(1, .ref 51), (2, .int a0), (3, .int s1.1), (4, .int s1.2)], [.int (am_b tt)], am_SH, (f, g)) ((some (.int r)), am_SH, (f, g)) := fun tt htt => by subst htt; exact hKt4
    have h := ht4
    refine am_Ev.go hcd 2 (s' := (12, [(1, .ref 51), (2, .int a0), (3, .int s1.1), (4, .int s1.2)], [.int (-1), .int s1.1], am_SH, (f, g))) rfl ?_
    rcases am_itv h with ⟨c38, h⟩ | ⟨c38, h⟩
    · refine am_Ev.t hcd (c := s1.1 = (-1)) (s1 := (18, [(1, .ref 51), (2, .int a0), (3, .int s1.1), (4, .int s1.2)], [], am_SH, (f, g))) rfl c38 ?_
      refine am_Ev.go hcd 2 (s' := (21, [(1, .ref 51), (2, .int a0), (3, .int s1.1), (4, .int s1.2)], [.int 1], am_SH, (f, g))) rfl ?_
      exact am_Ev.weak' (hLt4 true h.symm) (am_sub_cons rfl (am_sub_cons rfl (am_sub_cons rfl (am_sub_cons rfl am_sub_nil)))) rfl
    · refine am_Ev.f hcd (c := s1.1 = (-1)) (s1 := (13, [(1, .ref 51), (2, .int a0), (3, .int s1.1), (4, .int s1.2)], [], am_SH, (f, g))) rfl c38 ?_
      refine am_Ev.go hcd 1 (s' := (14, [(1, .ref 51), (2, .int a0), (3, .int s1.1), (4, .int s1.2)], [.int s1.2], am_SH, (f, g))) rfl ?_
      refine am_Ev.call hcd (a := 312) (s0 := (0, [(0, .int s1.2)], [], am_SH, (f, g))) (q := ((some (.int (ji_bitCount s1.2))), am_SH, (f, g))) (s1 := (15, [(1, .ref 51), (2, .int a0), (3, .int s1.1), (4, .int s1.2)], [.int (ji_bitCount s1.2)], am_SH, (f, g))) rfl rfl (ji_bitCount_ok (d) s1.2 (f, g)) ?_
      refine am_Ev.go hcd 1 (s' := (16, [(1, .ref 51), (2, .int a0), (3, .int s1.1), (4, .int s1.2)], [.int s1.1, .int (ji_bitCount s1.2)], am_SH, (f, g))) rfl ?_
      refine am_Ev.call hcd (a := 312) (s0 := (0, [(0, .int s1.1)], [], am_SH, (f, g))) (q := ((some (.int (ji_bitCount s1.1))), am_SH, (f, g))) (s1 := (17, [(1, .ref 51), (2, .int a0), (3, .int s1.1), (4, .int s1.2)], [.int (ji_bitCount s1.1), .int (ji_bitCount s1.2)], am_SH, (f, g))) rfl rfl (ji_bitCount_ok (d) s1.1 (f, g)) ?_
      rcases am_itv h with ⟨c48, h⟩ | ⟨c48, h⟩
      · refine am_Ev.t hcd (c := (ji_bitCount s1.2) < (ji_bitCount s1.1)) (s1 := (18, [(1, .ref 51), (2, .int a0), (3, .int s1.1), (4, .int s1.2)], [], am_SH, (f, g))) rfl c48 ?_
        refine am_Ev.go hcd 2 (s' := (21, [(1, .ref 51), (2, .int a0), (3, .int s1.1), (4, .int s1.2)], [.int 1], am_SH, (f, g))) rfl ?_
        exact am_Ev.weak' (hLt4 true h.symm) (am_sub_cons rfl (am_sub_cons rfl (am_sub_cons rfl (am_sub_cons rfl am_sub_nil)))) rfl
      · refine am_Ev.f hcd (c := (ji_bitCount s1.2) < (ji_bitCount s1.1)) (s1 := (20, [(1, .ref 51), (2, .int a0), (3, .int s1.1), (4, .int s1.2)], [], am_SH, (f, g))) rfl c48 ?_
        refine am_Ev.go hcd 1 (s' := (21, [(1, .ref 51), (2, .int a0), (3, .int s1.1), (4, .int s1.2)], [.int 0], am_SH, (f, g))) rfl ?_
        exact am_Ev.weak' (hLt4 false h.symm) (am_sub_cons rfl (am_sub_cons rfl (am_sub_cons rfl (am_sub_cons rfl am_sub_nil)))) rfl
  · refine am_Ev.f hcd (c := s1.2 < (1 <<< ((f 51 0) &&& 31))) (s1 := (33, [(1, .ref 51), (2, .int a0), (3, .int s1.1), (4, .int s1.2)], [], am_SH, (f, g))) rfl c6 ?_
    refine am_Ev.go hcd 1 (s' := (34, [(1, .ref 51), (2, .int a0), (3, .int s1.1), (4, .int s1.2)], [.int s1.1], am_SH, (f, g))) rfl ?_
    exact am_Ev.cast (a := ((some (.int s1.1)), am_SH, (f, g))) (hZ1 _ (Option.some.inj h).symm) (am_Ev.ret hcd rfl)
set_option maxRecDepth 100000 in
set_option maxHeartbeats 4000000 in
theorem xr_has_51_ok {sc : Nat × (Nat → Int32)} (d : Nat) (a0 : Int32) (f g : (Nat → Nat → Int32)) : am_Ev sc (d) 87 (0, [(0, .ref 51), (1, .int a0)], [], am_SH, (f, g)) ((some (.int (am_b (xr_has_51 a0 f)))), am_SH, (f, g)) := by
  have hcd : am_code 87 = am_c87 := rfl
  obtain ⟨r, h⟩ : ∃ r, r = xr_has_51 a0 f := ⟨_, rfl⟩
  rw [← h]
  unfold xr_has_51 at h
  refine am_Ev.go hcd 1 (s' := (1, [(0, .ref 51), (1, .int a0)], [.int a0], am_SH, (f, g))) rfl ?_
  rcases am_itv h with ⟨c4, h⟩ | ⟨c4, h⟩
  · refine am_Ev.t hcd (c := a0 < 0) (s1 := (8, [(0, .ref 51), (1, .int a0)], [], am_SH, (f, g))) rfl c4 ?_
    refine am_Ev.go hcd 1 (s' := (9, [(0, .ref 51), (1, .int a0)], [.int 0], am_SH, (f, g))) rfl ?_
    exact am_Ev.cast (a := ((some (.int (am_b false))), am_SH, (f, g))) (by subst h; rfl) (am_Ev.ret hcd rfl)
  · refine am_Ev.f hcd (c := a0 < 0) (s1 := (2, [(0, .ref 51), (1, .int a0)], [], am_SH, (f, g))) rfl c4 ?_
    refine am_Ev.go hcd 3 (s' := (5, [(0, .ref 51), (1, .int a0)], [.int (f 51 0), .int a0], am_SH, (f, g))) rfl ?_
    rcases am_itv h with ⟨c10, h⟩ | ⟨c10, h⟩
    · refine am_Ev.t hcd (c := a0 < f 51 0) (s1 := (6, [(0, .ref 51), (1, .int a0)], [], am_SH, (f, g))) rfl c10 ?_
      refine am_Ev.go hcd 2 (s' := (9, [(0, .ref 51), (1, .int a0)], [.int 1], am_SH, (f, g))) rfl ?_
      exact am_Ev.cast (a := ((some (.int (am_b true))), am_SH, (f, g))) (by subst h; rfl) (am_Ev.ret hcd rfl)
    · refine am_Ev.f hcd (c := a0 < f 51 0) (s1 := (8, [(0, .ref 51), (1, .int a0)], [], am_SH, (f, g))) rfl c10 ?_
      refine am_Ev.go hcd 1 (s' := (9, [(0, .ref 51), (1, .int a0)], [.int 0], am_SH, (f, g))) rfl ?_
      exact am_Ev.cast (a := ((some (.int (am_b false))), am_SH, (f, g))) (by subst h; rfl) (am_Ev.ret hcd rfl)
