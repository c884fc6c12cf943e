set_option maxRecDepth 100000 in
set_option maxHeartbeats 4000000 in
theorem xm_fewestFor_ok {sc : Nat × (Nat → Int32)} (d : Nat) (a0 : Int32) (f g : (Nat → Nat → Int32)) (r : Int32) (h : xm_fewestFor a0 f = some r) : am_Ev sc (d + 2) 41 (0, [(0, .ref 143), (1, .int a0)], [], am_SH, (f, g)) ((some (.int r)), am_SH, (f, g)) := by
  have hcd : am_code 41 = am_c41 := rfl
  unfold xm_fewestFor at h
  refine am_Ev.go hcd 5 (s' := (5, [(0, .ref 143), (1, .int a0)], [.int (a0 &&& (a0 - 1))], am_SH, (f, g))) rfl ?_
  rcases am_ite h with ⟨c2, h⟩ | ⟨c2, h⟩
  · refine am_Ev.t hcd (c := (a0 &&& (a0 - 1)) = 0) (s1 := (6, [(0, .ref 143), (1, .int a0)], [], am_SH, (f, g))) rfl c2 ?_
    refine am_Ev.go hcd 1 (s' := (7, [(0, .ref 143), (1, .int a0)], [.int 0], am_SH, (f, g))) rfl ?_
    exact am_Ev.cast (a := ((some (.int 0)), am_SH, (f, g))) (by cases h; rfl) (am_Ev.ret hcd rfl)
  · refine am_Ev.f hcd (c := (a0 &&& (a0 - 1)) = 0) (s1 := (8, [(0, .ref 143), (1, .int a0)], [], am_SH, (f, g))) rfl c2 ?_
    refine am_Ev.go hcd 4 (s' := (12, [(0, .ref 143), (1, .int a0), (2, .int 1000000), (3, .int 0)], [], am_SH, (f, g))) rfl ?_
    refine am_Ev.weak' (am_loop_ok (G := fun (s1 : Int32 × Int32) => am_Ev sc (d + 2) 41 (12, [(0, .ref 143), (1, .int a0), (2, .int s1.1), (3, .int s1.2)], [], am_SH, (f, g)) ((some (.int r)), am_SH, (f, g))) (Z := fun (v : Int32) => (((some (.int v)), am_SH, (f, g)) : am_R) = ((some (.int r)), am_SH, (f, g))) ?_ am_F (1000000, 0) r h rfl) (am_sub_cons rfl (am_sub_cons rfl (am_sub_cons rfl (am_sub_cons rfl am_sub_nil)))) rfl
    intro s1 q1 h hI1 hZ1
    show am_Ev sc (d + 2) 41 (12, [(0, .ref 143), (1, .int a0), (2, .int s1.1), (3, .int s1.2)], [], am_SH, (f, g)) ((some (.int r)), am_SH, (f, g))
    refine am_Ev.go hcd 2 (s' := (14, [(0, .ref 143), (1, .int a0), (2, .int s1.1), (3, .int s1.2)], [.int 16, .int s1.2], am_SH, (f, g))) rfl ?_
    rcases am_ite h with ⟨c12, h⟩ | ⟨c12, h⟩
    · refine am_Ev.t hcd (c := s1.2 < 16) (s1 := (15, [(0, .ref 143), (1, .int a0), (2, .int s1.1), (3, .int s1.2)], [], am_SH, (f, g))) rfl c12 ?_
      refine am_Ev.go hcd 4 (s' := (19, [(0, .ref 143), (1, .int a0), (2, .int s1.1), (3, .int s1.2)], [.int a0, .int s1.2, .ref 143, .int s1.1], am_SH, (f, g))) rfl ?_
      obtain ⟨p2, hp2, h⟩ := am_bind_some h
      refine am_Ev.call hcd (a := 42) (s0 := (0, [(0, .ref 143), (1, .int s1.2), (2, .int a0)], [], am_SH, (f, g))) (q := ((some (.int p2)), am_SH, (f, g))) (s1 := (20, [(0, .ref 143), (1, .int a0), (2, .int s1.1), (3, .int s1.2)], [.int p2, .int s1.1], am_SH, (f, g))) rfl rfl (xm_wordsAfter_ok (d) s1.2 a0 f g p2 hp2) ?_
      refine am_Ev.jdk hcd (s1 := (21, [(0, .ref 143), (1, .int a0), (2, .int s1.1), (3, .int s1.2)], [.int (am_min s1.1 p2)], am_SH, (f, g))) rfl ?_
      obtain ⟨t3, Et3, h⟩ := am_let_eq h
      refine am_Ev.go hcd 1 (s' := (22, [(0, .ref 143), (1, .int a0), (2, .int t3), (3, .int s1.2)], [], am_SH, (f, g))) (by subst Et3; exact rfl) ?_
      obtain ⟨t4, Et4, h⟩ := am_let_eq h
      refine am_Ev.go hcd 1 (s' := (23, [(0, .ref 143), (1, .int a0), (2, .int t3), (3, .int t4)], [], am_SH, (f, g))) (by subst Et4; exact rfl) ?_
      refine am_Ev.go hcd 1 (s' := (12, [(0, .ref 143), (1, .int a0), (2, .int t3), (3, .int t4)], [], am_SH, (f, g))) rfl ?_
      exact am_Ev.weak' (hI1 (t3, t4) (Option.some.inj h).symm) (am_sub_cons rfl (am_sub_cons rfl (am_sub_cons rfl (am_sub_cons rfl am_sub_nil)))) rfl
    · refine am_Ev.f hcd (c := s1.2 < 16) (s1 := (24, [(0, .ref 143), (1, .int a0), (2, .int s1.1), (3, .int s1.2)], [], am_SH, (f, g))) rfl c12 ?_
      refine am_Ev.go hcd 1 (s' := (25, [(0, .ref 143), (1, .int a0), (2, .int s1.1), (3, .int s1.2)], [.int s1.1], am_SH, (f, g))) rfl ?_
      exact am_Ev.cast (a := ((some (.int s1.1)), am_SH, (f, g))) (hZ1 _ (Option.some.inj h).symm) (am_Ev.ret hcd rfl)
set_option maxRecDepth 100000 in
set_option maxHeartbeats 4000000 in
theorem xm_fewestWords_25_ok {sc : Nat × (Nat → Int32)} (d : Nat) (a0 : Int32) (a1 : Int32) (f g : (Nat → Nat → Int32)) (r : Int32 × (Nat → Nat → Int32)) (h : xm_fewestWords_25 a0 a1 f = some r) : am_Ev sc (d + 3) 38 (0, [(0, .ref 143), (1, .ref 25), (2, .int a0), (3, .int a1)], [], am_SH, (f, g)) ((some (.int r.1)), am_SH, (r.2, g)) := by
  have hcd : am_code 38 = am_c38 := rfl
  unfold xm_fewestWords_25 at h
  refine am_Ev.go hcd 2 (s' := (2, [(0, .ref 143), (1, .ref 25), (2, .int a0), (3, .int a1)], [.int a0, .ref 143], am_SH, (f, g))) rfl ?_
  obtain ⟨p1, hp1, h⟩ := am_bind_some h
  refine am_Ev.call hcd (a := 39) (s0 := (0, [(0, .ref 143), (1, .int a0)], [], am_SH, (f, g))) (q := ((some (.int p1.1)), am_SH, (p1.2, g))) (s1 := (3, [(0, .ref 143), (1, .ref 25), (2, .int a0), (3, .int a1)], [.int p1.1], am_SH, (p1.2, g))) rfl rfl (xm_listCandidates_ok (d + 2) a0 f g p1 hp1) ?_
  refine am_Ev.go hcd 3 (s' := (6, [(0, .ref 143), (1, .ref 25), (2, .int a0), (3, .int a1), (4, .int p1.1)], [.int 2, .int p1.1], am_SH, (p1.2, g))) rfl ?_
  rcases am_ite h with ⟨c5, h⟩ | ⟨c5, h⟩
  · refine am_Ev.t hcd (c := p1.1 < 2) (s1 := (7, [(0, .ref 143), (1, .ref 25), (2, .int a0), (3, .int a1), (4, .int p1.1)], [], am_SH, (p1.2, g))) rfl c5 ?_
    refine am_Ev.go hcd 1 (s' := (8, [(0, .ref 143), (1, .ref 25), (2, .int a0), (3, .int a1), (4, .int p1.1)], [.int a1], am_SH, (p1.2, g))) rfl ?_
    rcases am_ite h with ⟨c8, h⟩ | ⟨c8, h⟩
    · refine am_Ev.t hcd (c := a1 = 0) (s1 := (9, [(0, .ref 143), (1, .ref 25), (2, .int a0), (3, .int a1), (4, .int p1.1)], [], am_SH, (p1.2, g))) rfl c8 ?_
      refine am_Ev.go hcd 2 (s' := (11, [(0, .ref 143), (1, .ref 25), (2, .int a0), (3, .int a1), (4, .int p1.1)], [.int 1, .int p1.1], am_SH, (p1.2, g))) rfl ?_
      rcases am_ite h with ⟨c11, h⟩ | ⟨c11, h⟩
      · refine am_Ev.t hcd (c := p1.1 = 1) (s1 := (12, [(0, .ref 143), (1, .ref 25), (2, .int a0), (3, .int a1), (4, .int p1.1)], [], am_SH, (p1.2, g))) rfl c11 ?_
        refine am_Ev.go hcd 2 (s' := (15, [(0, .ref 143), (1, .ref 25), (2, .int a0), (3, .int a1), (4, .int p1.1)], [.int 0], am_SH, (p1.2, g))) rfl ?_
        exact am_Ev.cast (a := ((some (.int (0, p1.2).1)), am_SH, ((0, p1.2).2, g))) (by cases h; rfl) (am_Ev.ret hcd rfl)
      · refine am_Ev.f hcd (c := p1.1 = 1) (s1 := (14, [(0, .ref 143), (1, .ref 25), (2, .int a0), (3, .int a1), (4, .int p1.1)], [], am_SH, (p1.2, g))) rfl c11 ?_
        refine am_Ev.go hcd 1 (s' := (15, [(0, .ref 143), (1, .ref 25), (2, .int a0), (3, .int a1), (4, .int p1.1)], [.int (-1)], am_SH, (p1.2, g))) rfl ?_
        exact am_Ev.cast (a := ((some (.int ((-1), p1.2).1)), am_SH, (((-1), p1.2).2, g))) (by cases h; rfl) (am_Ev.ret hcd rfl)
    · refine am_Ev.f hcd (c := a1 = 0) (s1 := (14, [(0, .ref 143), (1, .ref 25), (2, .int a0), (3, .int a1), (4, .int p1.1)], [], am_SH, (p1.2, g))) rfl c8 ?_
      refine am_Ev.go hcd 1 (s' := (15, [(0, .ref 143), (1, .ref 25), (2, .int a0), (3, .int a1), (4, .int p1.1)], [.int (-1)], am_SH, (p1.2, g))) rfl ?_
      exact am_Ev.cast (a := ((some (.int ((-1), p1.2).1)), am_SH, (((-1), p1.2).2, g))) (by cases h; rfl) (am_Ev.ret hcd rfl)
  · refine am_Ev.f hcd (c := p1.1 < 2) (s1 := (16, [(0, .ref 143), (1, .ref 25), (2, .int a0), (3, .int a1), (4, .int p1.1)], [], am_SH, (p1.2, g))) rfl c5 ?_
    refine am_Ev.go hcd 3 (s' := (19, [(0, .ref 143), (1, .ref 25), (2, .int a0), (3, .int a1), (4, .int p1.1)], [.int p1.1, .ref 25, .ref 143], am_SH, (p1.2, g))) rfl ?_
    obtain ⟨p2, hp2, h⟩ := am_bind_some h
    refine am_Ev.call hcd (a := 40) (s0 := (0, [(0, .ref 143), (1, .ref 25), (2, .int p1.1)], [], am_SH, (p1.2, g))) (q := (none, am_SH, (p2, g))) (s1 := (20, [(0, .ref 143), (1, .ref 25), (2, .int a0), (3, .int a1), (4, .int p1.1)], [], am_SH, (p2, g))) rfl rfl (xm_sortByNearness_25_ok (d) p1.1 p1.2 g p2 hp2) ?_
    obtain ⟨t3, Et3, h⟩ := am_let_eq h
    refine am_Ev.go hcd 6 (s' := (26, [(0, .ref 143), (1, .ref 25), (2, .int a0), (3, .int a1), (4, .int p1.1), (5, .int t3)], [], am_SH, (p2, g))) (by subst Et3; exact rfl) ?_
    refine am_Ev.go hcd 2 (s' := (28, [(0, .ref 143), (1, .ref 25), (2, .int a0), (3, .int a1), (4, .int p1.1), (5, .int t3), (6, .int 1)], [], am_SH, (p2, g))) rfl ?_
    obtain ⟨e8, he8, h⟩ := am_bind_some h
    have hK4 : (fun (e8 : (Nat → Nat → Int32)) => am_Ev sc (d + 3) 38 (40, [(0, .ref 143), (3, .int a1), (5, .int t3)], [], am_SH, (e8, g)) ((some (.int r.1)), am_SH, (r.2, g))) e8 := by
      show am_Ev sc (d + 3) 38 (40, [(0, .ref 143), (3, .int a1), (5, .int t3)], [], am_SH, (e8, g)) ((some (.int r.1)), am_SH, (r.2, g))
      refine am_Ev.go hcd 1 (s' := (41, [(0, .ref 143), (3, .int a1), (5, .int t3)], [.int a1], am_SH, (e8, g))) rfl ?_
      rcases am_ite h with ⟨c32, h⟩ | ⟨c32, h⟩
      · refine am_Ev.t hcd (c := a1 = 0) (s1 := (42, [(0, .ref 143), (3, .int a1), (5, .int t3)], [], am_SH, (e8, g))) rfl c32 ?_
        refine am_Ev.go hcd 3 (s' := (45, [(0, .ref 143), (3, .int a1), (5, .int t3)], [.int t3, .ref 144], am_SH, (e8, g))) rfl ?_
        obtain ⟨c35, h⟩ := am_grd h
        refine am_Ev.t hcd (o := none) (c := am_in t3 256 = true) (s1 := (46, [(0, .ref 143), (3, .int a1), (5, .int t3)], [.int (e8 144 t3.toNatClampNeg)], am_SH, (e8, g))) rfl c35 ?_
        exact am_Ev.cast (a := ((some (.int (e8 144 t3.toNatClampNeg, e8).1)), am_SH, ((e8 144 t3.toNatClampNeg, e8).2, g))) (by cases h; rfl) (am_Ev.ret hcd rfl)
      · refine am_Ev.f hcd (c := a1 = 0) (s1 := (47, [(0, .ref 143), (3, .int a1), (5, .int t3)], [], am_SH, (e8, g))) rfl c32 ?_
        refine am_Ev.go hcd 2 (s' := (49, [(0, .ref 143), (3, .int a1), (5, .int t3), (6, .int 0)], [], am_SH, (e8, g))) rfl ?_
        refine am_Ev.weak' (am_loop_ok (G := fun (s9 : Int32) => am_Ev sc (d + 3) 38 (49, [(0, .ref 143), (5, .int t3), (6, .int s9)], [], am_SH, (e8, g)) ((some (.int r.1)), am_SH, (r.2, g))) (Z := fun (v : Int32 × (Nat → Nat → Int32)) => (((some (.int v.1)), am_SH, (v.2, g)) : am_R) = ((some (.int r.1)), am_SH, (r.2, g))) ?_ am_F 0 r h rfl) (am_sub_cons rfl (am_sub_cons rfl (am_sub_cons rfl am_sub_nil))) rfl
        intro s9 q9 h hI9 hZ9
        show am_Ev sc (d + 3) 38 (49, [(0, .ref 143), (5, .int t3), (6, .int s9)], [], am_SH, (e8, g)) ((some (.int r.1)), am_SH, (r.2, g))
        refine am_Ev.go hcd 2 (s' := (51, [(0, .ref 143), (5, .int t3), (6, .int s9)], [.int 16, .int s9], am_SH, (e8, g))) rfl ?_
        rcases am_ite h with ⟨c44, h⟩ | ⟨c44, h⟩
        · refine am_Ev.t hcd (c := s9 < 16) (s1 := (52, [(0, .ref 143), (5, .int t3), (6, .int s9)], [], am_SH, (e8, g))) rfl c44 ?_
          refine am_Ev.go hcd 3 (s' := (55, [(0, .ref 143), (5, .int t3), (6, .int s9)], [.int t3, .int s9, .ref 143], am_SH, (e8, g))) rfl ?_
          obtain ⟨p10, hp10, h⟩ := am_bind_some h
          refine am_Ev.call hcd (a := 42) (s0 := (0, [(0, .ref 143), (1, .int s9), (2, .int t3)], [], am_SH, (e8, g))) (q := ((some (.int p10)), am_SH, (e8, g))) (s1 := (56, [(0, .ref 143), (5, .int t3), (6, .int s9)], [.int p10], am_SH, (e8, g))) rfl rfl (xm_wordsAfter_ok (d + 1) s9 t3 e8 g p10 hp10) ?_
          refine am_Ev.go hcd 3 (s' := (59, [(0, .ref 143), (5, .int t3), (6, .int s9)], [.int t3, .ref 144, .int p10], am_SH, (e8, g))) rfl ?_
          obtain ⟨c50, h⟩ := am_grd h
          refine am_Ev.t hcd (o := none) (c := am_in t3 256 = true) (s1 := (60, [(0, .ref 143), (5, .int t3), (6, .int s9)], [.int (e8 144 t3.toNatClampNeg), .int p10], am_SH, (e8, g))) rfl c50 ?_
          rcases am_ite h with ⟨c53, h⟩ | ⟨c53, h⟩
          · refine am_Ev.t hcd (c := p10 = e8 144 t3.toNatClampNeg) (s1 := (61, [(0, .ref 143), (5, .int t3), (6, .int s9)], [], am_SH, (e8, g))) rfl c53 ?_
            refine am_Ev.go hcd 1 (s' := (62, [(0, .ref 143), (5, .int t3), (6, .int s9)], [.int s9], am_SH, (e8, g))) rfl ?_
            exact am_Ev.cast (a := ((some (.int (s9, e8).1)), am_SH, ((s9, e8).2, g))) (hZ9 _ (Option.some.inj h).symm) (am_Ev.ret hcd rfl)
          · refine am_Ev.f hcd (c := p10 = e8 144 t3.toNatClampNeg) (s1 := (63, [(0, .ref 143), (5, .int t3), (6, .int s9)], [], am_SH, (e8, g))) rfl c53 ?_
            obtain ⟨t11, Et11, h⟩ := am_let_eq h
            refine am_Ev.go hcd 1 (s' := (64, [(0, .ref 143), (5, .int t3), (6, .int t11)], [], am_SH, (e8, g))) (by subst Et11; exact rfl) ?_
            refine am_Ev.go hcd 1 (s' := (49, [(0, .ref 143), (5, .int t3), (6, .int t11)], [], am_SH, (e8, g))) rfl ?_
            exact am_Ev.weak' (hI9 t11 (Option.some.inj h).symm) (am_sub_cons rfl (am_sub_cons rfl (am_sub_cons rfl am_sub_nil))) rfl
        · refine am_Ev.f hcd (c := s9 < 16) (s1 := (65, [(0, .ref 143), (5, .int t3), (6, .int s9)], [], am_SH, (e8, g))) rfl c44 ?_
          refine am_Ev.go hcd 1 (s' := (66, [(0, .ref 143), (5, .int t3), (6, .int s9)], [.int (-1)], am_SH, (e8, g))) rfl ?_
          exact am_Ev.cast (a := ((some (.int ((-1), e8).1)), am_SH, (((-1), e8).2, g))) (hZ9 _ (Option.some.inj h).symm) (am_Ev.ret hcd rfl)
    refine am_Ev.weak' (am_loop_ok (G := fun (s4 : Int32 × (Nat → Nat → Int32)) => am_Ev sc (d + 3) 38 (28, [(0, .ref 143), (3, .int a1), (5, .int t3), (6, .int s4.1)], [], am_SH, (s4.2, g)) ((some (.int r.1)), am_SH, (r.2, g))) (Z := fun (e8 : (Nat → Nat → Int32)) => am_Ev sc (d + 3) 38 (40, [(0, .ref 143), (3, .int a1), (5, .int t3)], [], am_SH, (e8, g)) ((some (.int r.1)), am_SH, (r.2, g))) ?_ am_F (1, p2) e8 he8 hK4) (am_sub_cons rfl (am_sub_cons rfl (am_sub_cons rfl (am_sub_cons rfl am_sub_nil)))) rfl
    intro s4 q4 h hI4 hZ4
    show am_Ev sc (d + 3) 38 (28, [(0, .ref 143), (3, .int a1), (5, .int t3), (6, .int s4.1)], [], am_SH, (s4.2, g)) ((some (.int r.1)), am_SH, (r.2, g))
    refine am_Ev.go hcd 2 (s' := (30, [(0, .ref 143), (3, .int a1), (5, .int t3), (6, .int s4.1)], [.int t3, .int s4.1], am_SH, (s4.2, g))) rfl ?_
    rcases am_ite h with ⟨c68, h⟩ | ⟨c68, h⟩
    · refine am_Ev.t hcd (c := t3 < s4.1) (s1 := (40, [(0, .ref 143), (3, .int a1), (5, .int t3), (6, .int s4.1)], [], am_SH, (s4.2, g))) rfl c68 ?_
      exact am_Ev.weak' (hZ4 s4.2 (Option.some.inj h).symm) (am_sub_cons rfl (am_sub_cons rfl (am_sub_cons rfl am_sub_nil))) rfl
    · refine am_Ev.f hcd (c := t3 < s4.1) (s1 := (31, [(0, .ref 143), (3, .int a1), (5, .int t3), (6, .int s4.1)], [], am_SH, (s4.2, g))) rfl c68 ?_
      refine am_Ev.go hcd 5 (s' := (36, [(0, .ref 143), (3, .int a1), (5, .int t3), (6, .int s4.1)], [.int s4.1, .ref 143, .int s4.1, .ref 144], am_SH, (s4.2, g))) rfl ?_
      obtain ⟨p5, hp5, h⟩ := am_bind_some h
      refine am_Ev.call hcd (a := 41) (s0 := (0, [(0, .ref 143), (1, .int s4.1)], [], am_SH, (s4.2, g))) (q := ((some (.int p5)), am_SH, (s4.2, g))) (s1 := (37, [(0, .ref 143), (3, .int a1), (5, .int t3), (6, .int s4.1)], [.int p5, .int s4.1, .ref 144], am_SH, (s4.2, g))) rfl rfl (xm_fewestFor_ok (d) s4.1 s4.2 g p5 hp5) ?_
      obtain ⟨c76, h⟩ := am_grd h
      obtain ⟨f6, Ef6, h⟩ := am_let_eq h
      refine am_Ev.t hcd (o := none) (c := am_in s4.1 256 = true) (s1 := (38, [(0, .ref 143), (3, .int a1), (5, .int t3), (6, .int s4.1)], [], am_SH, (f6, g))) (by subst Ef6; exact rfl) c76 ?_
      obtain ⟨t7, Et7, h⟩ := am_let_eq h
      refine am_Ev.go hcd 1 (s' := (39, [(0, .ref 143), (3, .int a1), (5, .int t3), (6, .int t7)], [], am_SH, (f6, g))) (by subst Et7; exact rfl) ?_
      refine am_Ev.go hcd 1 (s' := (28, [(0, .ref 143), (3, .int a1), (5, .int t3), (6, .int t7)], [], am_SH, (f6, g))) rfl ?_
      exact am_Ev.weak' (hI4 (t7, f6) (Option.some.inj h).symm) (am_sub_cons rfl (am_sub_cons rfl (am_sub_cons rfl (am_sub_cons rfl am_sub_nil)))) rfl
set_option maxRecDepth 100000 in
set_option maxHeartbeats 4000000 in
theorem x_words_ok {sc : Nat × (Nat → Int32)} (d : Nat) (a0 : Int32) (a1 : Int32) (f g : (Nat → Nat → Int32)) (r : Int32 × (Nat → Nat → Int32)) (h : x_words a0 a1 f = some r) : am_Ev sc (d + 4) 146 (0, [(0, .ref 0), (1, .int a0), (2, .int a1)], [], am_SH, (f, g)) ((some (.int r.1)), am_SH, (r.2, g)) := by
  have hcd : am_code 146 = am_c146 := rfl
  unfold x_words at h
  refine am_Ev.go hcd 3 (s' := (3, [(0, .ref 0), (1, .int a0), (2, .int a1)], [.int 65535, .int 1, .int a0], am_SH, (f, g))) rfl ?_
  refine am_Ev.call hcd (a := 170) (s0 := (0, [(0, .int a0), (1, .int 1), (2, .int 65535)], [], am_SH, (f, g))) (q := ((some (.int (am_b (x_within a0 1 65535)))), am_SH, (f, g))) (s1 := (4, [(0, .ref 0), (1, .int a0), (2, .int a1)], [.int (am_b (x_within a0 1 65535))], am_SH, (f, g))) rfl rfl (x_within_ok (d + 3) a0 1 65535 (f, g)) ?_
  rcases am_ite h with ⟨c4, h⟩ | ⟨c4, h⟩
  · refine am_Ev.f hcd (c := am_b (x_within a0 1 65535) = 0) (s1 := (5, [(0, .ref 0), (1, .int a0), (2, .int a1)], [], am_SH, (f, g))) rfl (am_b_t c4) ?_
    refine am_Ev.go hcd 1 (s' := (6, [(0, .ref 0), (1, .int a0), (2, .int a1)], [.int a0], am_SH, (f, g))) rfl ?_
    refine am_Ev.call hcd (a := 312) (s0 := (0, [(0, .int a0)], [], am_SH, (f, g))) (q := ((some (.int (ji_bitCount a0))), am_SH, (f, g))) (s1 := (7, [(0, .ref 0), (1, .int a0), (2, .int a1)], [.int (ji_bitCount a0)], am_SH, (f, g))) rfl rfl (ji_bitCount_ok (d + 3) a0 (f, g)) ?_
    refine am_Ev.go hcd 1 (s' := (8, [(0, .ref 0), (1, .int a0), (2, .int a1)], [.int 8, .int (ji_bitCount a0)], am_SH, (f, g))) rfl ?_
    rcases am_ite h with ⟨c8, h⟩ | ⟨c8, h⟩
    · refine am_Ev.t hcd (c := 8 < (ji_bitCount a0)) (s1 := (14, [(0, .ref 0), (1, .int a0), (2, .int a1)], [], am_SH, (f, g))) rfl c8 ?_
      refine am_Ev.go hcd 1 (s' := (15, [(0, .ref 0), (1, .int a0), (2, .int a1)], [.int (-1)], am_SH, (f, g))) rfl ?_
      exact am_Ev.cast (a := ((some (.int ((-1), f).1)), am_SH, (((-1), f).2, g))) (by cases h; rfl) (am_Ev.ret hcd rfl)
    · refine am_Ev.f hcd (c := 8 < (ji_bitCount a0)) (s1 := (9, [(0, .ref 0), (1, .int a0), (2, .int a1)], [], am_SH, (f, g))) rfl c8 ?_
      refine am_Ev.go hcd 3 (s' := (12, [(0, .ref 0), (1, .int a0), (2, .int a1)], [.int 1, .int 0, .int a1], am_SH, (f, g))) rfl ?_
      refine am_Ev.call hcd (a := 170) (s0 := (0, [(0, .int a1), (1, .int 0), (2, .int 1)], [], am_SH, (f, g))) (q := ((some (.int (am_b (x_within a1 0 1)))), am_SH, (f, g))) (s1 := (13, [(0, .ref 0), (1, .int a0), (2, .int a1)], [.int (am_b (x_within a1 0 1))], am_SH, (f, g))) rfl rfl (x_within_ok (d + 3) a1 0 1 (f, g)) ?_
      rcases am_ite h with ⟨c16, h⟩ | ⟨c16, h⟩
      · refine am_Ev.f hcd (c := am_b (x_within a1 0 1) = 0) (s1 := (16, [(0, .ref 0), (1, .int a0), (2, .int a1)], [], am_SH, (f, g))) rfl (am_b_t c16) ?_
        refine am_Ev.go hcd 7 (s' := (23, [(0, .ref 0), (1, .int a0), (2, .int a1)], [.int a1, .int a0, .ref 25, .ref 143], am_SH, (f, g))) rfl ?_
        obtain ⟨p4, hp4, h⟩ := am_bind_some h
        refine am_Ev.call hcd (a := 38) (s0 := (0, [(0, .ref 143), (1, .ref 25), (2, .int a0), (3, .int a1)], [], am_SH, (f, g))) (q := ((some (.int p4.1)), am_SH, (p4.2, g))) (s1 := (24, [(0, .ref 0), (1, .int a0), (2, .int a1)], [.int p4.1], am_SH, (p4.2, g))) rfl rfl (xm_fewestWords_25_ok (d) a0 a1 f g p4 hp4) ?_
        exact am_Ev.cast (a := ((some (.int (p4.1, p4.2).1)), am_SH, ((p4.1, p4.2).2, g))) (by cases h; rfl) (am_Ev.ret hcd rfl)
      · refine am_Ev.t hcd (c := am_b (x_within a1 0 1) = 0) (s1 := (14, [(0, .ref 0), (1, .int a0), (2, .int a1)], [], am_SH, (f, g))) rfl (am_b_f c16) ?_
        refine am_Ev.go hcd 1 (s' := (15, [(0, .ref 0), (1, .int a0), (2, .int a1)], [.int (-1)], am_SH, (f, g))) rfl ?_
        exact am_Ev.cast (a := ((some (.int ((-1), f).1)), am_SH, (((-1), f).2, g))) (by cases h; rfl) (am_Ev.ret hcd rfl)
  · refine am_Ev.t hcd (c := am_b (x_within a0 1 65535) = 0) (s1 := (14, [(0, .ref 0), (1, .int a0), (2, .int a1)], [], am_SH, (f, g))) rfl (am_b_f c4) ?_
    refine am_Ev.go hcd 1 (s' := (15, [(0, .ref 0), (1, .int a0), (2, .int a1)], [.int (-1)], am_SH, (f, g))) rfl ?_
    exact am_Ev.cast (a := ((some (.int ((-1), f).1)), am_SH, (((-1), f).2, g))) (by cases h; rfl) (am_Ev.ret hcd rfl)
set_option maxRecDepth 100000 in
set_option maxHeartbeats 4000000 in
theorem xr_clearAll_30_ok {sc : Nat × (Nat → Int32)} (d : Nat)  (f g : (Nat → Nat → Int32)) : am_Ev sc (d) 86 (0, [(0, .ref 30)], [], am_SH, (f, g)) ((some (.int (xr_clearAll_30  f).1)), am_SH, ((xr_clearAll_30  f).2, g)) := by
  have hcd : am_code 86 = am_c86 := rfl
  obtain ⟨r, h⟩ : ∃ r, r = xr_clearAll_30  f := ⟨_, rfl⟩
  rw [← h]
  unfold xr_clearAll_30 at h
  obtain ⟨f1, Ef1, h⟩ := am_let_eq' h
  refine am_Ev.go hcd 3 (s' := (3, [(0, .ref 30)], [], am_SH, (f1, g))) (by subst Ef1; exact rfl) ?_
  refine am_Ev.go hcd 2 (s' := (5, [(0, .ref 30)], [.int (f1 30 0)], am_SH, (f1, g))) rfl ?_
  exact am_Ev.cast (a := ((some (.int (f1 30 0, f1).1)), am_SH, ((f1 30 0, f1).2, g))) (by subst h; rfl) (am_Ev.ret hcd rfl)
set_option maxRecDepth 100000 in
set_option maxHeartbeats 4000000 in
theorem xr_append_30_ok {sc : Nat × (Nat → Int32)} (d : Nat) (a0 : Int32) (a1 : Int32) (f g : (Nat → Nat → Int32)) (r : Int32 × (Nat → Nat → Int32)) (h : xr_append_30 a0 a1 f = some r) : am_Ev sc (d) 85 (0, [(0, .ref 30), (1, .int a0), (2, .int a1)], [], am_SH, (f, g)) ((some (.int r.1)), am_SH, (r.2, g)) := by
  have hcd : am_code 85 = am_c85 := rfl
  unfold xr_append_30 at h
  refine am_Ev.go hcd 5 (s' := (5, [(0, .ref 30), (1, .int a0), (2, .int a1)], [.int (nI 6), .int (f 30 0)], am_SH, (f, g))) rfl ?_
  rcases am_ite h with ⟨c2, h⟩ | ⟨c2, h⟩
  · refine am_Ev.t hcd (c := f 30 0 < (nI 6)) (s1 := (8, [(0, .ref 30), (1, .int a0), (2, .int a1)], [], am_SH, (f, g))) rfl c2 ?_
    refine am_Ev.go hcd 5 (s' := (13, [(0, .ref 30), (1, .int a0), (2, .int a1)], [.int a0, .int (f 30 0), .ref 31], am_SH, (f, g))) rfl ?_
    obtain ⟨c5, h⟩ := am_grd h
    obtain ⟨f1, Ef1, h⟩ := am_let_eq h
    refine am_Ev.t hcd (o := none) (c := am_in (f 30 0) 6 = true) (s1 := (14, [(0, .ref 30), (1, .int a0), (2, .int a1)], [], am_SH, (f1, g))) (by subst Ef1; exact rfl) c5 ?_
    refine am_Ev.go hcd 5 (s' := (19, [(0, .ref 30), (1, .int a0), (2, .int a1)], [.int a1, .int (f1 30 0), .ref 32], am_SH, (f1, g))) rfl ?_
    obtain ⟨c9, h⟩ := am_grd h
    obtain ⟨f2, Ef2, h⟩ := am_let_eq h
    refine am_Ev.t hcd (o := none) (c := am_in (f1 30 0) 6 = true) (s1 := (20, [(0, .ref 30), (1, .int a0), (2, .int a1)], [], am_SH, (f2, g))) (by subst Ef2; exact rfl) c9 ?_
    obtain ⟨f3, Ef3, h⟩ := am_let_eq h
    refine am_Ev.go hcd 6 (s' := (26, [(0, .ref 30), (1, .int a0), (2, .int a1)], [], am_SH, (f3, g))) (by subst Ef3; exact rfl) ?_
    refine am_Ev.go hcd 2 (s' := (28, [(0, .ref 30), (1, .int a0), (2, .int a1)], [.int (f3 30 0)], am_SH, (f3, g))) rfl ?_
    exact am_Ev.cast (a := ((some (.int (f3 30 0, f3).1)), am_SH, ((f3 30 0, f3).2, g))) (by cases h; rfl) (am_Ev.ret hcd rfl)
  · refine am_Ev.f hcd (c := f 30 0 < (nI 6)) (s1 := (6, [(0, .ref 30), (1, .int a0), (2, .int a1)], [], am_SH, (f, g))) rfl c2 ?_
    refine am_Ev.go hcd 1 (s' := (7, [(0, .ref 30), (1, .int a0), (2, .int a1)], [.int (-1)], am_SH, (f, g))) rfl ?_
    exact am_Ev.cast (a := ((some (.int ((-1), f).1)), am_SH, (((-1), f).2, g))) (by cases h; rfl) (am_Ev.ret hcd rfl)
set_option maxRecDepth 100000 in
set_option maxHeartbeats 4000000 in
theorem x_world_ok {sc : Nat × (Nat → Int32)} (d : Nat) (a0 : Int32) (a1 : Int32) (f g : (Nat → Nat → Int32)) (r : Int32 × (Nat → Nat → Int32)) (h : x_world a0 a1 f = some r) : am_Ev sc (d + 1) 147 (0, [(0, .ref 0), (1, .int a0), (2, .int a1)], [], am_SH, (f, g)) ((some (.int r.1)), am_SH, (r.2, g)) := by
  have hcd : am_code 147 = am_c147 := rfl
  unfold x_world at h
  refine am_Ev.go hcd 2 (s' := (2, [(0, .ref 0), (1, .int a0), (2, .int a1)], [.int (-1), .int a0], am_SH, (f, g))) rfl ?_
  rcases am_ite h with ⟨c2, h⟩ | ⟨c2, h⟩
  · refine am_Ev.t hcd (c := a0 = (-1)) (s1 := (3, [(0, .ref 0), (1, .int a0), (2, .int a1)], [], am_SH, (f, g))) rfl c2 ?_
    refine am_Ev.go hcd 3 (s' := (6, [(0, .ref 0), (1, .int a0), (2, .int a1)], [.ref 30], am_SH, (f, g))) rfl ?_
    obtain ⟨p1, Ep1, h⟩ := am_let_eq h
    refine am_Ev.call hcd (a := 86) (s0 := (0, [(0, .ref 30)], [], am_SH, (f, g))) (q := ((some (.int p1.1)), am_SH, (p1.2, g))) (s1 := (7, [(0, .ref 0), (1, .int a0), (2, .int a1)], [.int p1.1], am_SH, (p1.2, g))) rfl rfl (by subst Ep1; exact xr_clearAll_30_ok (d)  f g) ?_
    exact am_Ev.cast (a := ((some (.int (p1.1, p1.2).1)), am_SH, ((p1.1, p1.2).2, g))) (by cases h; rfl) (am_Ev.ret hcd rfl)
  · refine am_Ev.f hcd (c := a0 = (-1)) (s1 := (8, [(0, .ref 0), (1, .int a0), (2, .int a1)], [], am_SH, (f, g))) rfl c2 ?_
    refine am_Ev.go hcd 3 (s' := (11, [(0, .ref 0), (1, .int a0), (2, .int a1)], [.int 9, .int 1, .int a0], am_SH, (f, g))) rfl ?_
    refine am_Ev.call hcd (a := 170) (s0 := (0, [(0, .int a0), (1, .int 1), (2, .int 9)], [], am_SH, (f, g))) (q := ((some (.int (am_b (x_within a0 1 9)))), am_SH, (f, g))) (s1 := (12, [(0, .ref 0), (1, .int a0), (2, .int a1)], [.int (am_b (x_within a0 1 9))], am_SH, (f, g))) rfl rfl (x_within_ok (d) a0 1 9 (f, g)) ?_
    rcases am_ite h with ⟨c12, h⟩ | ⟨c12, h⟩
    · refine am_Ev.f hcd (c := am_b (x_within a0 1 9) = 0) (s1 := (13, [(0, .ref 0), (1, .int a0), (2, .int a1)], [], am_SH, (f, g))) rfl (am_b_t c12) ?_
      refine am_Ev.go hcd 3 (s' := (16, [(0, .ref 0), (1, .int a0), (2, .int a1)], [.int 255, .int 0, .int a1], am_SH, (f, g))) rfl ?_
      refine am_Ev.call hcd (a := 170) (s0 := (0, [(0, .int a1), (1, .int 0), (2, .int 255)], [], am_SH, (f, g))) (q := ((some (.int (am_b (x_within a1 0 255)))), am_SH, (f, g))) (s1 := (17, [(0, .ref 0), (1, .int a0), (2, .int a1)], [.int (am_b (x_within a1 0 255))], am_SH, (f, g))) rfl rfl (x_within_ok (d) a1 0 255 (f, g)) ?_
      rcases am_ite h with ⟨c16, h⟩ | ⟨c16, h⟩
      · refine am_Ev.f hcd (c := am_b (x_within a1 0 255) = 0) (s1 := (20, [(0, .ref 0), (1, .int a0), (2, .int a1)], [], am_SH, (f, g))) rfl (am_b_t c16) ?_
        refine am_Ev.go hcd 5 (s' := (25, [(0, .ref 0), (1, .int a0), (2, .int a1)], [.int a1, .int a0, .ref 30], am_SH, (f, g))) rfl ?_
        obtain ⟨p4, hp4, h⟩ := am_bind_some h
        refine am_Ev.call hcd (a := 85) (s0 := (0, [(0, .ref 30), (1, .int a0), (2, .int a1)], [], am_SH, (f, g))) (q := ((some (.int p4.1)), am_SH, (p4.2, g))) (s1 := (26, [(0, .ref 0), (1, .int a0), (2, .int a1)], [.int p4.1], am_SH, (p4.2, g))) rfl rfl (xr_append_30_ok (d) a0 a1 f g p4 hp4) ?_
        exact am_Ev.cast (a := ((some (.int (p4.1, p4.2).1)), am_SH, ((p4.1, p4.2).2, g))) (by cases h; rfl) (am_Ev.ret hcd rfl)
      · refine am_Ev.t hcd (c := am_b (x_within a1 0 255) = 0) (s1 := (18, [(0, .ref 0), (1, .int a0), (2, .int a1)], [], am_SH, (f, g))) rfl (am_b_f c16) ?_
        refine am_Ev.go hcd 1 (s' := (19, [(0, .ref 0), (1, .int a0), (2, .int a1)], [.int (-1)], am_SH, (f, g))) rfl ?_
        exact am_Ev.cast (a := ((some (.int ((-1), f).1)), am_SH, (((-1), f).2, g))) (by cases h; rfl) (am_Ev.ret hcd rfl)
    · refine am_Ev.t hcd (c := am_b (x_within a0 1 9) = 0) (s1 := (18, [(0, .ref 0), (1, .int a0), (2, .int a1)], [], am_SH, (f, g))) rfl (am_b_f c12) ?_
      refine am_Ev.go hcd 1 (s' := (19, [(0, .ref 0), (1, .int a0), (2, .int a1)], [.int (-1)], am_SH, (f, g))) rfl ?_
      exact am_Ev.cast (a := ((some (.int ((-1), f).1)), am_SH, (((-1), f).2, g))) (by cases h; rfl) (am_Ev.ret hcd rfl)
set_option maxRecDepth 100000 in
set_option maxHeartbeats 4000000 in
theorem xr_has_30_ok {sc : Nat × (Nat → Int32)} (d : Nat) (a0 : Int32) (f g : (Nat → Nat → Int32)) : am_Ev sc (d) 87 (0, [(0, .ref 30), (1, .int a0)], [], am_SH, (f, g)) ((some (.int (am_b (xr_has_30 a0 f)))), am_SH, (f, g)) := by
  have hcd : am_code 87 = am_c87 := rfl
  obtain ⟨r, h⟩ : ∃ r, r = xr_has_30 a0 f := ⟨_, rfl⟩
  rw [← h]
  unfold xr_has_30 at h
  refine am_Ev.go hcd 1 (s' := (1, [(0, .ref 30), (1, .int a0)], [.int a0], am_SH, (f, g))) rfl ?_
  rcases am_itv h with ⟨c4, h⟩ | ⟨c4, h⟩
  · refine am_Ev.t hcd (c := a0 < 0) (s1 := (8, [(0, .ref 30), (1, .int a0)], [], am_SH, (f, g))) rfl c4 ?_
    refine am_Ev.go hcd 1 (s' := (9, [(0, .ref 30), (1, .int a0)], [.int 0], am_SH, (f, g))) rfl ?_
    exact am_Ev.cast (a := ((some (.int (am_b false))), am_SH, (f, g))) (by subst h; rfl) (am_Ev.ret hcd rfl)
  · refine am_Ev.f hcd (c := a0 < 0) (s1 := (2, [(0, .ref 30), (1, .int a0)], [], am_SH, (f, g))) rfl c4 ?_
    refine am_Ev.go hcd 3 (s' := (5, [(0, .ref 30), (1, .int a0)], [.int (f 30 0), .int a0], am_SH, (f, g))) rfl ?_
    rcases am_itv h with ⟨c10, h⟩ | ⟨c10, h⟩
    · refine am_Ev.t hcd (c := a0 < f 30 0) (s1 := (6, [(0, .ref 30), (1, .int a0)], [], am_SH, (f, g))) rfl c10 ?_
      refine am_Ev.go hcd 2 (s' := (9, [(0, .ref 30), (1, .int a0)], [.int 1], am_SH, (f, g))) rfl ?_
      exact am_Ev.cast (a := ((some (.int (am_b true))), am_SH, (f, g))) (by subst h; rfl) (am_Ev.ret hcd rfl)
    · refine am_Ev.f hcd (c := a0 < f 30 0) (s1 := (8, [(0, .ref 30), (1, .int a0)], [], am_SH, (f, g))) rfl c10 ?_
      refine am_Ev.go hcd 1 (s' := (9, [(0, .ref 30), (1, .int a0)], [.int 0], am_SH, (f, g))) rfl ?_
      exact am_Ev.cast (a := ((some (.int (am_b false))), am_SH, (f, g))) (by subst h; rfl) (am_Ev.ret hcd rfl)
set_option maxRecDepth 100000 in
set_option maxHeartbeats 4000000 in
theorem xm_share_30_ok {sc : Nat × (Nat → Int32)} (d : Nat) (a0 : Int32) (a1 : Int32) (f g : (Nat → Nat → Int32)) (r : Int32) (h : xm_share_30 a0 a1 f = some r) : am_Ev sc (d + 1) 44 (0, [(0, .ref 30), (1, .int a0), (2, .int a1)], [], am_SH, (f, g)) ((some (.int r)), am_SH, (f, g)) := by
  have hcd : am_code 44 = am_c44 := rfl
  unfold xm_share_30 at h
  obtain ⟨t1, Et1, h⟩ := am_let_eq h
  refine am_Ev.go hcd 6 (s' := (6, [(0, .ref 30), (1, .int a0), (2, .int a1), (3, .int t1)], [], am_SH, (f, g))) (by subst Et1; exact rfl) ?_
  refine am_Ev.go hcd 4 (s' := (10, [(0, .ref 30), (1, .int a0), (2, .int a1), (3, .int t1)], [.int a0, .ref 32, .int 8], am_SH, (f, g))) rfl ?_
  obtain ⟨c4, h⟩ := am_grd h
  refine am_Ev.t hcd (o := none) (c := am_in a0 6 = true) (s1 := (11, [(0, .ref 30), (1, .int a0), (2, .int a1), (3, .int t1)], [.int (f 32 a0.toNatClampNeg), .int 8], am_SH, (f, g))) rfl c4 ?_
  refine am_Ev.go hcd 4 (s' := (15, [(0, .ref 30), (1, .int a0), (2, .int a1), (3, .int t1)], [.int (((f 32 a0.toNatClampNeg) ^^^ a1) &&& 255), .int 8], am_SH, (f, g))) rfl ?_
  refine am_Ev.call hcd (a := 312) (s0 := (0, [(0, .int (((f 32 a0.toNatClampNeg) ^^^ a1) &&& 255))], [], am_SH, (f, g))) (q := ((some (.int (ji_bitCount (((f 32 a0.toNatClampNeg) ^^^ a1) &&& 255)))), am_SH, (f, g))) (s1 := (16, [(0, .ref 30), (1, .int a0), (2, .int a1), (3, .int t1)], [.int (ji_bitCount (((f 32 a0.toNatClampNeg) ^^^ a1) &&& 255)), .int 8], am_SH, (f, g))) rfl rfl (ji_bitCount_ok (d) (((f 32 a0.toNatClampNeg) ^^^ a1) &&& 255) (f, g)) ?_
  obtain ⟨t3, Et3, h⟩ := am_let_eq h
  refine am_Ev.go hcd 2 (s' := (18, [(0, .ref 30), (1, .int a0), (2, .int a1), (3, .int t1), (4, .int t3)], [], am_SH, (f, g))) (by subst Et3; exact rfl) ?_
  refine am_Ev.go hcd 3 (s' := (21, [(0, .ref 30), (1, .int a0), (2, .int a1), (3, .int t1), (4, .int t3)], [.int a0, .ref 31], am_SH, (f, g))) rfl ?_
  obtain ⟨c11, h⟩ := am_grd h
  refine am_Ev.t hcd (o := none) (c := am_in a0 6 = true) (s1 := (22, [(0, .ref 30), (1, .int a0), (2, .int a1), (3, .int t1), (4, .int t3)], [.int (f 31 a0.toNatClampNeg)], am_SH, (f, g))) rfl c11 ?_
  obtain ⟨t4, Et4, h⟩ := am_let_eq h
  refine am_Ev.go hcd 1 (s' := (23, [(0, .ref 30), (1, .int a0), (2, .int a1), (3, .int t1), (4, .int t3), (5, .int t4)], [], am_SH, (f, g))) (by subst Et4; exact rfl) ?_
  refine am_Ev.go hcd 2 (s' := (25, [(0, .ref 30), (1, .int a0), (2, .int a1), (3, .int t1), (4, .int t3), (5, .int t4), (6, .int 0)], [], am_SH, (f, g))) rfl ?_
  refine am_Ev.weak' (am_loop_ok (G := fun (s5 : Int32 × Int32) => am_Ev sc (d + 1) 44 (25, [(3, .int t1), (4, .int t3), (5, .int s5.1), (6, .int s5.2)], [], am_SH, (f, g)) ((some (.int r)), am_SH, (f, g))) (Z := fun (v : Int32) => (((some (.int v)), am_SH, (f, g)) : am_R) = ((some (.int r)), am_SH, (f, g))) ?_ am_F (t4, 0) r h rfl) (am_sub_cons rfl (am_sub_cons rfl (am_sub_cons rfl (am_sub_cons rfl am_sub_nil)))) rfl
  intro s5 q5 h hI5 hZ5
  show am_Ev sc (d + 1) 44 (25, [(3, .int t1), (4, .int t3), (5, .int s5.1), (6, .int s5.2)], [], am_SH, (f, g)) ((some (.int r)), am_SH, (f, g))
  refine am_Ev.go hcd 2 (s' := (27, [(3, .int t1), (4, .int t3), (5, .int s5.1), (6, .int s5.2)], [.int t3, .int s5.2], am_SH, (f, g))) rfl ?_
  rcases am_ite h with ⟨c20, h⟩ | ⟨c20, h⟩
  · refine am_Ev.t hcd (c := s5.2 < t3) (s1 := (28, [(3, .int t1), (4, .int t3), (5, .int s5.1), (6, .int s5.2)], [], am_SH, (f, g))) rfl c20 ?_
    obtain ⟨t6, Et6, h⟩ := am_let_eq h
    refine am_Ev.go hcd 4 (s' := (32, [(3, .int t1), (4, .int t3), (5, .int t6), (6, .int s5.2)], [], am_SH, (f, g))) (by subst Et6; exact rfl) ?_
    obtain ⟨t7, Et7, h⟩ := am_let_eq h
    refine am_Ev.go hcd 1 (s' := (33, [(3, .int t1), (4, .int t3), (5, .int t6), (6, .int t7)], [], am_SH, (f, g))) (by subst Et7; exact rfl) ?_
    refine am_Ev.go hcd 1 (s' := (25, [(3, .int t1), (4, .int t3), (5, .int t6), (6, .int t7)], [], am_SH, (f, g))) rfl ?_
    exact am_Ev.weak' (hI5 (t6, t7) (Option.some.inj h).symm) (am_sub_cons rfl (am_sub_cons rfl (am_sub_cons rfl (am_sub_cons rfl am_sub_nil)))) rfl
  · refine am_Ev.f hcd (c := s5.2 < t3) (s1 := (34, [(3, .int t1), (4, .int t3), (5, .int s5.1), (6, .int s5.2)], [], am_SH, (f, g))) rfl c20 ?_
    refine am_Ev.go hcd 1 (s' := (35, [(3, .int t1), (4, .int t3), (5, .int s5.1), (6, .int s5.2)], [.int s5.1], am_SH, (f, g))) rfl ?_
    exact am_Ev.cast (a := ((some (.int s5.1)), am_SH, (f, g))) (hZ5 _ (Option.some.inj h).symm) (am_Ev.ret hcd rfl)
set_option maxRecDepth 100000 in
set_option maxHeartbeats 4000000 in
theorem xm_commonPart_ok {sc : Nat × (Nat → Int32)} (d : Nat) (a0 : Int32) (a1 : Int32) (hp : am_H) (r : Int32) (h : xm_commonPart a0 a1 = some r) : am_Ev sc (d) 45 (0, [(0, .int a0), (1, .int a1)], [], am_SH, hp) ((some (.int r)), am_SH, hp) := by
  have hcd : am_code 45 = am_c45 := rfl
  unfold xm_commonPart at h
  refine am_Ev.go hcd 6 (s' := (6, [(0, .int a0), (1, .int a1), (2, .int a0), (3, .int a1), (4, .int 0)], [], am_SH, hp)) rfl ?_
  refine am_Ev.weak' (am_loop_ok (G := fun (s1 : Int32 × Int32 × Int32) => am_Ev sc (d) 45 (6, [(2, .int s1.1), (3, .int s1.2.1), (4, .int s1.2.2)], [], am_SH, hp) ((some (.int r)), am_SH, hp)) (Z := fun (v : Int32) => (((some (.int v)), am_SH, hp) : am_R) = ((some (.int r)), am_SH, hp)) ?_ am_F (a0, a1, 0) r h rfl) (am_sub_cons rfl (am_sub_cons rfl (am_sub_cons rfl am_sub_nil))) rfl
  intro s1 q1 h hI1 hZ1
  show am_Ev sc (d) 45 (6, [(2, .int s1.1), (3, .int s1.2.1), (4, .int s1.2.2)], [], am_SH, hp) ((some (.int r)), am_SH, hp)
  refine am_Ev.go hcd 2 (s' := (8, [(2, .int s1.1), (3, .int s1.2.1), (4, .int s1.2.2)], [.int 100, .int s1.2.2], am_SH, hp)) rfl ?_
  rcases am_ite h with ⟨c6, h⟩ | ⟨c6, h⟩
  · refine am_Ev.t hcd (c := s1.2.2 < 100) (s1 := (9, [(2, .int s1.1), (3, .int s1.2.1), (4, .int s1.2.2)], [], am_SH, hp)) rfl c6 ?_
    refine am_Ev.go hcd 1 (s' := (10, [(2, .int s1.1), (3, .int s1.2.1), (4, .int s1.2.2)], [.int s1.2.1], am_SH, hp)) rfl ?_
    rcases am_ite h with ⟨c9, h⟩ | ⟨c9, h⟩
    · refine am_Ev.t hcd (c := s1.2.1 = 0) (s1 := (21, [(2, .int s1.1), (3, .int s1.2.1), (4, .int s1.2.2)], [], am_SH, hp)) rfl c9 ?_
      refine am_Ev.go hcd 1 (s' := (22, [(2, .int s1.1), (3, .int s1.2.1), (4, .int s1.2.2)], [.int s1.1], am_SH, hp)) rfl ?_
      exact am_Ev.cast (a := ((some (.int s1.1)), am_SH, hp)) (hZ1 _ (Option.some.inj h).symm) (am_Ev.ret hcd rfl)
    · refine am_Ev.f hcd (c := s1.2.1 = 0) (s1 := (11, [(2, .int s1.1), (3, .int s1.2.1), (4, .int s1.2.2)], [], am_SH, hp)) rfl c9 ?_
      refine am_Ev.go hcd 2 (s' := (13, [(2, .int s1.1), (3, .int s1.2.1), (4, .int s1.2.2)], [.int s1.2.1, .int s1.1], am_SH, hp)) rfl ?_
      rcases am_ite h with ⟨c15, h⟩ | ⟨c15, h⟩
      · exact absurd h (by simp)
      · refine am_Ev.f hcd (c := s1.2.1 = 0) (s1 := (14, [(2, .int s1.1), (3, .int s1.2.1), (4, .int s1.2.2)], [.int (s1.1 - s1.1 / s1.2.1 * s1.2.1)], am_SH, hp)) rfl c15 ?_
        obtain ⟨t2, Et2, h⟩ := am_let_eq h
        refine am_Ev.go hcd 1 (s' := (15, [(2, .int s1.1), (3, .int s1.2.1), (4, .int s1.2.2), (5, .int t2)], [], am_SH, hp)) (by subst Et2; exact rfl) ?_
        obtain ⟨t3, Et3, h⟩ := am_let_eq h
        refine am_Ev.go hcd 5 (s' := (20, [(2, .int s1.2.1), (3, .int t2), (4, .int t3), (5, .int t2)], [], am_SH, hp)) (by subst Et3; exact rfl) ?_
        refine am_Ev.go hcd 1 (s' := (6, [(2, .int s1.2.1), (3, .int t2), (4, .int t3), (5, .int t2)], [], am_SH, hp)) rfl ?_
        exact am_Ev.weak' (hI1 (s1.2.1, t2, t3) (Option.some.inj h).symm) (am_sub_cons rfl (am_sub_cons rfl (am_sub_cons rfl am_sub_nil))) rfl
  · refine am_Ev.f hcd (c := s1.2.2 < 100) (s1 := (21, [(2, .int s1.1), (3, .int s1.2.1), (4, .int s1.2.2)], [], am_SH, hp)) rfl c6 ?_
    refine am_Ev.go hcd 1 (s' := (22, [(2, .int s1.1), (3, .int s1.2.1), (4, .int s1.2.2)], [.int s1.1], am_SH, hp)) rfl ?_
    exact am_Ev.cast (a := ((some (.int s1.1)), am_SH, hp)) (hZ1 _ (Option.some.inj h).symm) (am_Ev.ret hcd rfl)
set_option maxRecDepth 100000 in
set_option maxHeartbeats 4000000 in
theorem xm_chance_30_ok {sc : Nat × (Nat → Int32)} (d : Nat) (a0 : Int32) (a1 : Int32) (a2 : Int32) (f g : (Nat → Nat → Int32)) (r : Int32) (h : xm_chance_30 a0 a1 a2 f = some r) : am_Ev sc (d + 2) 43 (0, [(0, .ref 143), (1, .ref 30), (2, .int a0), (3, .int a1), (4, .int a2)], [], am_SH, (f, g)) ((some (.int r)), am_SH, (f, g)) := by
  have hcd : am_code 43 = am_c43 := rfl
  unfold xm_chance_30 at h
  refine am_Ev.go hcd 3 (s' := (3, [(0, .ref 143), (1, .ref 30), (2, .int a0), (3, .int a1), (4, .int a2)], [.int a1, .int a0, .ref 30], am_SH, (f, g))) rfl ?_
  obtain ⟨p1, hp1, h⟩ := am_bind_some h
  refine am_Ev.call hcd (a := 44) (s0 := (0, [(0, .ref 30), (1, .int a0), (2, .int a1)], [], am_SH, (f, g))) (q := ((some (.int p1)), am_SH, (f, g))) (s1 := (4, [(0, .ref 143), (1, .ref 30), (2, .int a0), (3, .int a1), (4, .int a2)], [.int p1], am_SH, (f, g))) rfl rfl (xm_share_30_ok (d) a0 a1 f g p1 hp1) ?_
  refine am_Ev.go hcd 5 (s' := (9, [(0, .ref 143), (1, .ref 30), (2, .int a0), (3, .int a1), (4, .int a2), (5, .int p1), (6, .int 0), (7, .int 0)], [], am_SH, (f, g))) rfl ?_
  obtain ⟨e6, he6, h⟩ := am_bind_some h
  have hK2 : (fun (e6 : Int32) => am_Ev sc (d + 2) 43 (22, [(4, .int a2), (5, .int p1), (6, .int e6)], [], am_SH, (f, g)) ((some (.int r)), am_SH, (f, g))) e6 := by
    show am_Ev sc (d + 2) 43 (22, [(4, .int a2), (5, .int p1), (6, .int e6)], [], am_SH, (f, g)) ((some (.int r)), am_SH, (f, g))
    refine am_Ev.go hcd 2 (s' := (24, [(4, .int a2), (5, .int p1), (6, .int e6)], [.int e6, .int p1], am_SH, (f, g))) rfl ?_
    obtain ⟨p7, hp7, h⟩ := am_bind_some h
    refine am_Ev.call hcd (a := 45) (s0 := (0, [(0, .int p1), (1, .int e6)], [], am_SH, (f, g))) (q := ((some (.int p7)), am_SH, (f, g))) (s1 := (25, [(4, .int a2), (5, .int p1), (6, .int e6)], [.int p7], am_SH, (f, g))) rfl rfl (xm_commonPart_ok (d + 1) p1 e6 (f, g) p7 hp7) ?_
    refine am_Ev.go hcd 2 (s' := (27, [(4, .int a2), (5, .int p1), (6, .int e6), (7, .int p7)], [.int p7], am_SH, (f, g))) rfl ?_
    rcases am_ite h with ⟨c12, h⟩ | ⟨c12, h⟩
    · refine am_Ev.t hcd (c := p7 = 0) (s1 := (28, [(4, .int a2), (5, .int p1), (6, .int e6), (7, .int p7)], [], am_SH, (f, g))) rfl c12 ?_
      refine am_Ev.go hcd 1 (s' := (29, [(4, .int a2), (5, .int p1), (6, .int e6), (7, .int p7)], [.int (-1)], am_SH, (f, g))) rfl ?_
      exact am_Ev.cast (a := ((some (.int (-1))), am_SH, (f, g))) (by cases h; rfl) (am_Ev.ret hcd rfl)
    · refine am_Ev.f hcd (c := p7 = 0) (s1 := (30, [(4, .int a2), (5, .int p1), (6, .int e6), (7, .int p7)], [], am_SH, (f, g))) rfl c12 ?_
      refine am_Ev.go hcd 1 (s' := (31, [(4, .int a2), (5, .int p1), (6, .int e6), (7, .int p7)], [.int a2], am_SH, (f, g))) rfl ?_
      rcases am_ite h with ⟨c18, h⟩ | ⟨c18, h⟩
      · refine am_Ev.t hcd (c := a2 = 0) (s1 := (32, [(4, .int a2), (5, .int p1), (6, .int e6), (7, .int p7)], [], am_SH, (f, g))) rfl c18 ?_
        refine am_Ev.go hcd 2 (s' := (34, [(4, .int a2), (5, .int p1), (6, .int e6), (7, .int p7)], [.int p7, .int p1], am_SH, (f, g))) rfl ?_
        rcases am_ite h with ⟨c21, h⟩ | ⟨c21, h⟩
        · exact absurd h (by simp)
        · refine am_Ev.f hcd (c := p7 = 0) (s1 := (35, [(4, .int a2), (5, .int p1), (6, .int e6), (7, .int p7)], [.int (p1 / p7)], am_SH, (f, g))) rfl c21 ?_
          refine am_Ev.go hcd 1 (s' := (39, [(4, .int a2), (5, .int p1), (6, .int e6), (7, .int p7)], [.int (p1 / p7)], am_SH, (f, g))) rfl ?_
          exact am_Ev.cast (a := ((some (.int (p1 / p7))), am_SH, (f, g))) (by cases h; rfl) (am_Ev.ret hcd rfl)
      · refine am_Ev.f hcd (c := a2 = 0) (s1 := (36, [(4, .int a2), (5, .int p1), (6, .int e6), (7, .int p7)], [], am_SH, (f, g))) rfl c18 ?_
        refine am_Ev.go hcd 2 (s' := (38, [(4, .int a2), (5, .int p1), (6, .int e6), (7, .int p7)], [.int p7, .int e6], am_SH, (f, g))) rfl ?_
        rcases am_ite h with ⟨c28, h⟩ | ⟨c28, h⟩
        · exact absurd h (by simp)
        · refine am_Ev.f hcd (c := p7 = 0) (s1 := (39, [(4, .int a2), (5, .int p1), (6, .int e6), (7, .int p7)], [.int (e6 / p7)], am_SH, (f, g))) rfl c28 ?_
          exact am_Ev.cast (a := ((some (.int (e6 / p7))), am_SH, (f, g))) (by cases h; rfl) (am_Ev.ret hcd rfl)
  refine am_Ev.weak' (am_loop_ok (G := fun (s2 : Int32 × Int32) => am_Ev sc (d + 2) 43 (9, [(1, .ref 30), (3, .int a1), (4, .int a2), (5, .int p1), (6, .int s2.1), (7, .int s2.2)], [], am_SH, (f, g)) ((some (.int r)), am_SH, (f, g))) (Z := fun (e6 : Int32) => am_Ev sc (d + 2) 43 (22, [(4, .int a2), (5, .int p1), (6, .int e6)], [], am_SH, (f, g)) ((some (.int r)), am_SH, (f, g))) ?_ am_F (0, 0) e6 he6 hK2) (am_sub_cons rfl (am_sub_cons rfl (am_sub_cons rfl (am_sub_cons rfl (am_sub_cons rfl (am_sub_cons rfl am_sub_nil)))))) rfl
  intro s2 q2 h hI2 hZ2
  show am_Ev sc (d + 2) 43 (9, [(1, .ref 30), (3, .int a1), (4, .int a2), (5, .int p1), (6, .int s2.1), (7, .int s2.2)], [], am_SH, (f, g)) ((some (.int r)), am_SH, (f, g))
  refine am_Ev.go hcd 3 (s' := (12, [(1, .ref 30), (3, .int a1), (4, .int a2), (5, .int p1), (6, .int s2.1), (7, .int s2.2)], [.int (f 30 0), .int s2.2], am_SH, (f, g))) rfl ?_
  rcases am_ite h with ⟨c36, h⟩ | ⟨c36, h⟩
  · refine am_Ev.t hcd (c := s2.2 < f 30 0) (s1 := (13, [(1, .ref 30), (3, .int a1), (4, .int a2), (5, .int p1), (6, .int s2.1), (7, .int s2.2)], [], am_SH, (f, g))) rfl c36 ?_
    refine am_Ev.go hcd 4 (s' := (17, [(1, .ref 30), (3, .int a1), (4, .int a2), (5, .int p1), (6, .int s2.1), (7, .int s2.2)], [.int a1, .int s2.2, .ref 30, .int s2.1], am_SH, (f, g))) rfl ?_
    obtain ⟨p3, hp3, h⟩ := am_bind_some h
    refine am_Ev.call hcd (a := 44) (s0 := (0, [(0, .ref 30), (1, .int s2.2), (2, .int a1)], [], am_SH, (f, g))) (q := ((some (.int p3)), am_SH, (f, g))) (s1 := (18, [(1, .ref 30), (3, .int a1), (4, .int a2), (5, .int p1), (6, .int s2.1), (7, .int s2.2)], [.int p3, .int s2.1], am_SH, (f, g))) rfl rfl (xm_share_30_ok (d) s2.2 a1 f g p3 hp3) ?_
    obtain ⟨t4, Et4, h⟩ := am_let_eq h
    refine am_Ev.go hcd 2 (s' := (20, [(1, .ref 30), (3, .int a1), (4, .int a2), (5, .int p1), (6, .int t4), (7, .int s2.2)], [], am_SH, (f, g))) (by subst Et4; exact rfl) ?_
    obtain ⟨t5, Et5, h⟩ := am_let_eq h
    refine am_Ev.go hcd 1 (s' := (21, [(1, .ref 30), (3, .int a1), (4, .int a2), (5, .int p1), (6, .int t4), (7, .int t5)], [], am_SH, (f, g))) (by subst Et5; exact rfl) ?_
    refine am_Ev.go hcd 1 (s' := (9, [(1, .ref 30), (3, .int a1), (4, .int a2), (5, .int p1), (6, .int t4), (7, .int t5)], [], am_SH, (f, g))) rfl ?_
    exact am_Ev.weak' (hI2 (t4, t5) (Option.some.inj h).symm) (am_sub_cons rfl (am_sub_cons rfl (am_sub_cons rfl (am_sub_cons rfl (am_sub_cons rfl (am_sub_cons rfl am_sub_nil)))))) rfl
  · refine am_Ev.f hcd (c := s2.2 < f 30 0) (s1 := (22, [(1, .ref 30), (3, .int a1), (4, .int a2), (5, .int p1), (6, .int s2.1), (7, .int s2.2)], [], am_SH, (f, g))) rfl c36 ?_
    exact am_Ev.weak' (hZ2 s2.1 (Option.some.inj h).symm) (am_sub_cons rfl (am_sub_cons rfl (am_sub_cons rfl am_sub_nil))) rfl
set_option maxRecDepth 100000 in
set_option maxHeartbeats 4000000 in
theorem x_sure_ok {sc : Nat × (Nat → Int32)} (d : Nat) (a0 : Int32) (a1 : Int32) (a2 : Int32) (f g : (Nat → Nat → Int32)) (r : Int32) (h : x_sure a0 a1 a2 f = some r) : am_Ev sc (d + 3) 148 (0, [(0, .ref 0), (1, .int a0), (2, .int a1), (3, .int a2)], [], am_SH, (f, g)) ((some (.int r)), am_SH, (f, g)) := by
  have hcd : am_code 148 = am_c148 := rfl
  unfold x_sure at h
  refine am_Ev.go hcd 4 (s' := (4, [(0, .ref 0), (1, .int a0), (2, .int a1), (3, .int a2)], [.int a0, .ref 30], am_SH, (f, g))) rfl ?_
  refine am_Ev.call hcd (a := 87) (s0 := (0, [(0, .ref 30), (1, .int a0)], [], am_SH, (f, g))) (q := ((some (.int (am_b (xr_has_30 a0 f)))), am_SH, (f, g))) (s1 := (5, [(0, .ref 0), (1, .int a0), (2, .int a1), (3, .int a2)], [.int (am_b (xr_has_30 a0 f))], am_SH, (f, g))) rfl rfl (xr_has_30_ok (d + 2) a0 f g) ?_
  rcases am_ite h with ⟨c4, h⟩ | ⟨c4, h⟩
  · refine am_Ev.f hcd (c := am_b (xr_has_30 a0 f) = 0) (s1 := (6, [(0, .ref 0), (1, .int a0), (2, .int a1), (3, .int a2)], [], am_SH, (f, g))) rfl (am_b_t c4) ?_
    refine am_Ev.go hcd 3 (s' := (9, [(0, .ref 0), (1, .int a0), (2, .int a1), (3, .int a2)], [.int 2303, .int 512, .int a1], am_SH, (f, g))) rfl ?_
    refine am_Ev.call hcd (a := 170) (s0 := (0, [(0, .int a1), (1, .int 512), (2, .int 2303)], [], am_SH, (f, g))) (q := ((some (.int (am_b (x_within a1 512 2303)))), am_SH, (f, g))) (s1 := (10, [(0, .ref 0), (1, .int a0), (2, .int a1), (3, .int a2)], [.int (am_b (x_within a1 512 2303))], am_SH, (f, g))) rfl rfl (x_within_ok (d + 2) a1 512 2303 (f, g)) ?_
    rcases am_ite h with ⟨c8, h⟩ | ⟨c8, h⟩
    · refine am_Ev.f hcd (c := am_b (x_within a1 512 2303) = 0) (s1 := (11, [(0, .ref 0), (1, .int a0), (2, .int a1), (3, .int a2)], [], am_SH, (f, g))) rfl (am_b_t c8) ?_
      refine am_Ev.go hcd 3 (s' := (14, [(0, .ref 0), (1, .int a0), (2, .int a1), (3, .int a2)], [.int 1, .int 0, .int a2], am_SH, (f, g))) rfl ?_
      refine am_Ev.call hcd (a := 170) (s0 := (0, [(0, .int a2), (1, .int 0), (2, .int 1)], [], am_SH, (f, g))) (q := ((some (.int (am_b (x_within a2 0 1)))), am_SH, (f, g))) (s1 := (15, [(0, .ref 0), (1, .int a0), (2, .int a1), (3, .int a2)], [.int (am_b (x_within a2 0 1))], am_SH, (f, g))) rfl rfl (x_within_ok (d + 2) a2 0 1 (f, g)) ?_
      rcases am_ite h with ⟨c12, h⟩ | ⟨c12, h⟩
      · refine am_Ev.f hcd (c := am_b (x_within a2 0 1) = 0) (s1 := (18, [(0, .ref 0), (1, .int a0), (2, .int a1), (3, .int a2)], [], am_SH, (f, g))) rfl (am_b_t c12) ?_
        refine am_Ev.go hcd 8 (s' := (26, [(0, .ref 0), (1, .int a0), (2, .int a1), (3, .int a2)], [.int a2, .int a1, .int a0, .ref 30, .ref 143], am_SH, (f, g))) rfl ?_
        obtain ⟨p4, hp4, h⟩ := am_bind_some h
        refine am_Ev.call hcd (a := 43) (s0 := (0, [(0, .ref 143), (1, .ref 30), (2, .int a0), (3, .int a1), (4, .int a2)], [], am_SH, (f, g))) (q := ((some (.int p4)), am_SH, (f, g))) (s1 := (27, [(0, .ref 0), (1, .int a0), (2, .int a1), (3, .int a2)], [.int p4], am_SH, (f, g))) rfl rfl (xm_chance_30_ok (d) a0 a1 a2 f g p4 hp4) ?_
        exact am_Ev.cast (a := ((some (.int p4)), am_SH, (f, g))) (by cases h; rfl) (am_Ev.ret hcd rfl)
      · refine am_Ev.t hcd (c := am_b (x_within a2 0 1) = 0) (s1 := (16, [(0, .ref 0), (1, .int a0), (2, .int a1), (3, .int a2)], [], am_SH, (f, g))) rfl (am_b_f c12) ?_
        refine am_Ev.go hcd 1 (s' := (17, [(0, .ref 0), (1, .int a0), (2, .int a1), (3, .int a2)], [.int (-1)], am_SH, (f, g))) rfl ?_
        exact am_Ev.cast (a := ((some (.int (-1))), am_SH, (f, g))) (by cases h; rfl) (am_Ev.ret hcd rfl)
    · refine am_Ev.t hcd (c := am_b (x_within a1 512 2303) = 0) (s1 := (16, [(0, .ref 0), (1, .int a0), (2, .int a1), (3, .int a2)], [], am_SH, (f, g))) rfl (am_b_f c8) ?_
      refine am_Ev.go hcd 1 (s' := (17, [(0, .ref 0), (1, .int a0), (2, .int a1), (3, .int a2)], [.int (-1)], am_SH, (f, g))) rfl ?_
      exact am_Ev.cast (a := ((some (.int (-1))), am_SH, (f, g))) (by cases h; rfl) (am_Ev.ret hcd rfl)
  · refine am_Ev.t hcd (c := am_b (xr_has_30 a0 f) = 0) (s1 := (16, [(0, .ref 0), (1, .int a0), (2, .int a1), (3, .int a2)], [], am_SH, (f, g))) rfl (am_b_f c4) ?_
    refine am_Ev.go hcd 1 (s' := (17, [(0, .ref 0), (1, .int a0), (2, .int a1), (3, .int a2)], [.int (-1)], am_SH, (f, g))) rfl ?_
    exact am_Ev.cast (a := ((some (.int (-1))), am_SH, (f, g))) (by cases h; rfl) (am_Ev.ret hcd rfl)
set_option maxRecDepth 100000 in
set_option maxHeartbeats 4000000 in
theorem xr_clearAll_33_ok {sc : Nat × (Nat → Int32)} (d : Nat)  (f g : (Nat → Nat → Int32)) : am_Ev sc (d) 86 (0, [(0, .ref 33)], [], am_SH, (f, g)) ((some (.int (xr_clearAll_33  f).1)), am_SH, ((xr_clearAll_33  f).2, g)) := by
  have hcd : am_code 86 = am_c86 := rfl
  obtain ⟨r, h⟩ : ∃ r, r = xr_clearAll_33  f := ⟨_, rfl⟩
  rw [← h]
  unfold xr_clearAll_33 at h
  obtain ⟨f1, Ef1, h⟩ := am_let_eq' h
  refine am_Ev.go hcd 3 (s' := (3, [(0, .ref 33)], [], am_SH, (f1, g))) (by subst Ef1; exact rfl) ?_
  refine am_Ev.go hcd 2 (s' := (5, [(0, .ref 33)], [.int (f1 33 0)], am_SH, (f1, g))) rfl ?_
  exact am_Ev.cast (a := ((some (.int (f1 33 0, f1).1)), am_SH, ((f1 33 0, f1).2, g))) (by subst h; rfl) (am_Ev.ret hcd rfl)
set_option maxRecDepth 100000 in
set_option maxHeartbeats 4000000 in
theorem xr_append_33_ok {sc : Nat × (Nat → Int32)} (d : Nat) (a0 : Int32) (a1 : Int32) (f g : (Nat → Nat → Int32)) (r : Int32 × (Nat → Nat → Int32)) (h : xr_append_33 a0 a1 f = some r) : am_Ev sc (d) 85 (0, [(0, .ref 33), (1, .int a0), (2, .int a1)], [], am_SH, (f, g)) ((some (.int r.1)), am_SH, (r.2, g)) := by
  have hcd : am_code 85 = am_c85 := rfl
  unfold xr_append_33 at h
  refine am_Ev.go hcd 5 (s' := (5, [(0, .ref 33), (1, .int a0), (2, .int a1)], [.int (nI 4), .int (f 33 0)], am_SH, (f, g))) rfl ?_
  rcases am_ite h with ⟨c2, h⟩ | ⟨c2, h⟩
  · refine am_Ev.t hcd (c := f 33 0 < (nI 4)) (s1 := (8, [(0, .ref 33), (1, .int a0), (2, .int a1)], [], am_SH, (f, g))) rfl c2 ?_
    refine am_Ev.go hcd 5 (s' := (13, [(0, .ref 33), (1, .int a0), (2, .int a1)], [.int a0, .int (f 33 0), .ref 34], am_SH, (f, g))) rfl ?_
    obtain ⟨c5, h⟩ := am_grd h
    obtain ⟨f1, Ef1, h⟩ := am_let_eq h
    refine am_Ev.t hcd (o := none) (c := am_in (f 33 0) 4 = true) (s1 := (14, [(0, .ref 33), (1, .int a0), (2, .int a1)], [], am_SH, (f1, g))) (by subst Ef1; exact rfl) c5 ?_
    refine am_Ev.go hcd 5 (s' := (19, [(0, .ref 33), (1, .int a0), (2, .int a1)], [.int a1, .int (f1 33 0), .ref 35], am_SH, (f1, g))) rfl ?_
    obtain ⟨c9, h⟩ := am_grd h
    obtain ⟨f2, Ef2, h⟩ := am_let_eq h
    refine am_Ev.t hcd (o := none) (c := am_in (f1 33 0) 4 = true) (s1 := (20, [(0, .ref 33), (1, .int a0), (2, .int a1)], [], am_SH, (f2, g))) (by subst Ef2; exact rfl) c9 ?_
    obtain ⟨f3, Ef3, h⟩ := am_let_eq h
    refine am_Ev.go hcd 6 (s' := (26, [(0, .ref 33), (1, .int a0), (2, .int a1)], [], am_SH, (f3, g))) (by subst Ef3; exact rfl) ?_
    refine am_Ev.go hcd 2 (s' := (28, [(0, .ref 33), (1, .int a0), (2, .int a1)], [.int (f3 33 0)], am_SH, (f3, g))) rfl ?_
    exact am_Ev.cast (a := ((some (.int (f3 33 0, f3).1)), am_SH, ((f3 33 0, f3).2, g))) (by cases h; rfl) (am_Ev.ret hcd rfl)
  · refine am_Ev.f hcd (c := f 33 0 < (nI 4)) (s1 := (6, [(0, .ref 33), (1, .int a0), (2, .int a1)], [], am_SH, (f, g))) rfl c2 ?_
    refine am_Ev.go hcd 1 (s' := (7, [(0, .ref 33), (1, .int a0), (2, .int a1)], [.int (-1)], am_SH, (f, g))) rfl ?_
    exact am_Ev.cast (a := ((some (.int ((-1), f).1)), am_SH, (((-1), f).2, g))) (by cases h; rfl) (am_Ev.ret hcd rfl)
