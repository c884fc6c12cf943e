set_option maxRecDepth 100000 in
set_option maxHeartbeats 4000000 in
theorem xt_keyword_ok {sc : Nat × (Nat → Int32)} (d : Nat) (a0 : Nat) (a1 : Int32) (a2 : Int32) (f g : (Nat → Nat → Int32)) (r : Int32) (h : xt_keyword a0 a1 a2 f = some r) : am_Ev sc (d + 1) 118 (0, [(0, .ref 123), (1, .retAddr a0), (2, .int a1), (3, .int a2)], [], am_SH, (f, g)) ((some (.int r)), am_SH, (f, g)) := by
  have hcd : am_code 118 = am_c118 := rfl
  unfold xt_keyword at h
  refine am_Ev.go hcd 4 (s' := (4, [(0, .ref 123), (1, .retAddr a0), (2, .int a1), (3, .int a2), (4, .int 0), (5, .int 0)], [], am_SH, (f, g))) rfl ?_
  refine am_Ev.weak' (am_loop_ok (G := fun (s1 : Int32 × Int32) => am_Ev sc (d + 1) 118 (4, [(0, .ref 123), (1, .retAddr a0), (2, .int a1), (3, .int a2), (4, .int s1.1), (5, .int s1.2)], [], am_SH, (f, g)) ((some (.int r)), am_SH, (f, g))) (Z := fun (v : Int32) => (((some (.int v)), am_SH, (f, g)) : am_R) = ((some (.int r)), am_SH, (f, g))) ?_ am_F (0, 0) r h rfl) (am_sub_cons rfl (am_sub_cons rfl (am_sub_cons rfl (am_sub_cons rfl (am_sub_cons rfl (am_sub_cons rfl am_sub_nil)))))) rfl
  intro s1 q1 h hI1 hZ1
  show am_Ev sc (d + 1) 118 (4, [(0, .ref 123), (1, .retAddr a0), (2, .int a1), (3, .int a2), (4, .int s1.1), (5, .int s1.2)], [], am_SH, (f, g)) ((some (.int r)), am_SH, (f, g))
  refine am_Ev.go hcd 2 (s' := (6, [(0, .ref 123), (1, .retAddr a0), (2, .int a1), (3, .int a2), (4, .int s1.1), (5, .int s1.2)], [.retAddr a0, .int s1.2], am_SH, (f, g))) rfl ?_
  obtain ⟨c6, h⟩ := am_grd h
  refine am_Ev.jdkt hcd (c := a0 < am_strs.length) (s1 := (7, [(0, .ref 123), (1, .retAddr a0), (2, .int a1), (3, .int a2), (4, .int s1.1), (5, .int s1.2)], [.int (nI (am_tl a0)), .int s1.2], am_SH, (f, g))) rfl c6 ?_
  rcases am_ite h with ⟨c9, h⟩ | ⟨c9, h⟩
  · refine am_Ev.t hcd (c := s1.2 < (nI (am_tl a0))) (s1 := (8, [(0, .ref 123), (1, .retAddr a0), (2, .int a1), (3, .int a2), (4, .int s1.1), (5, .int s1.2)], [], am_SH, (f, g))) rfl c9 ?_
    refine am_Ev.go hcd 2 (s' := (10, [(0, .ref 123), (1, .retAddr a0), (2, .int a1), (3, .int a2), (4, .int s1.1), (5, .int s1.2), (6, .int a1)], [], am_SH, (f, g))) rfl ?_
    obtain ⟨e5, he5, h⟩ := am_bind_some h
    have hK2 : (fun (e5 : Int32 × Int32) => am_Ev sc (d + 1) 118 (28, [(0, .ref 123), (1, .retAddr a0), (2, .int a1), (3, .int a2), (4, .int s1.1), (5, .int e5.1), (6, .int e5.2)], [], am_SH, (f, g)) ((some (.int r)), am_SH, (f, g))) e5 := by
      show am_Ev sc (d + 1) 118 (28, [(0, .ref 123), (1, .retAddr a0), (2, .int a1), (3, .int a2), (4, .int s1.1), (5, .int e5.1), (6, .int e5.2)], [], am_SH, (f, g)) ((some (.int r)), am_SH, (f, g))
      refine am_Ev.go hcd 2 (s' := (30, [(0, .ref 123), (1, .retAddr a0), (2, .int a1), (3, .int a2), (4, .int s1.1), (5, .int e5.1), (6, .int e5.2)], [.int a2, .int e5.2], am_SH, (f, g))) rfl ?_
      rcases am_ite h with ⟨c15, h⟩ | ⟨c15, h⟩
      · refine am_Ev.t hcd (c := e5.2 = a2) (s1 := (31, [(0, .ref 123), (1, .retAddr a0), (2, .int a1), (3, .int a2), (4, .int s1.1), (5, .int e5.1), (6, .int e5.2)], [], am_SH, (f, g))) rfl c15 ?_
        refine am_Ev.go hcd 2 (s' := (33, [(0, .ref 123), (1, .retAddr a0), (2, .int a1), (3, .int a2), (4, .int s1.1), (5, .int e5.1), (6, .int e5.2)], [.retAddr a0, .int e5.1], am_SH, (f, g))) rfl ?_
        obtain ⟨c18, h⟩ := am_grd h
        refine am_Ev.jdkt hcd (c := a0 < am_strs.length) (s1 := (34, [(0, .ref 123), (1, .retAddr a0), (2, .int a1), (3, .int a2), (4, .int s1.1), (5, .int e5.1), (6, .int e5.2)], [.int (nI (am_tl a0)), .int e5.1], am_SH, (f, g))) rfl c18 ?_
        rcases am_ite h with ⟨c21, h⟩ | ⟨c21, h⟩
        · refine am_Ev.t hcd (c := e5.1 < (nI (am_tl a0))) (s1 := (35, [(0, .ref 123), (1, .retAddr a0), (2, .int a1), (3, .int a2), (4, .int s1.1), (5, .int e5.1), (6, .int e5.2)], [], am_SH, (f, g))) rfl c21 ?_
          refine am_Ev.go hcd 2 (s' := (37, [(0, .ref 123), (1, .retAddr a0), (2, .int a1), (3, .int a2), (4, .int s1.1), (5, .int e5.1), (6, .int e5.2)], [.int e5.1, .retAddr a0], am_SH, (f, g))) rfl ?_
          obtain ⟨c23, h⟩ := am_grd h
          refine am_Ev.jdkt hcd (c := a0 < am_strs.length ∧ am_in e5.1 (am_tl a0) = true) (s1 := (38, [(0, .ref 123), (1, .retAddr a0), (2, .int a1), (3, .int a2), (4, .int s1.1), (5, .int e5.1), (6, .int e5.2)], [.int (am_tc a0 e5.1.toNatClampNeg)], am_SH, (f, g))) rfl c23 ?_
          refine am_Ev.go hcd 1 (s' := (39, [(0, .ref 123), (1, .retAddr a0), (2, .int a1), (3, .int a2), (4, .int s1.1), (5, .int e5.1), (6, .int e5.2)], [.int 32, .int (am_tc a0 e5.1.toNatClampNeg)], am_SH, (f, g))) rfl ?_
          rcases am_ite h with ⟨c26, h⟩ | ⟨c26, h⟩
          · refine am_Ev.t hcd (c := (am_tc a0 e5.1.toNatClampNeg) = 32) (s1 := (40, [(0, .ref 123), (1, .retAddr a0), (2, .int a1), (3, .int a2), (4, .int s1.1), (5, .int e5.1), (6, .int e5.2)], [], am_SH, (f, g))) rfl c26 ?_
            refine am_Ev.go hcd 1 (s' := (41, [(0, .ref 123), (1, .retAddr a0), (2, .int a1), (3, .int a2), (4, .int s1.1), (5, .int e5.1), (6, .int e5.2)], [.int s1.1], am_SH, (f, g))) rfl ?_
            exact am_Ev.cast (a := ((some (.int s1.1)), am_SH, (f, g))) (hZ1 _ (Option.some.inj h).symm) (am_Ev.ret hcd rfl)
          · refine am_Ev.f hcd (c := (am_tc a0 e5.1.toNatClampNeg) = 32) (s1 := (42, [(0, .ref 123), (1, .retAddr a0), (2, .int a1), (3, .int a2), (4, .int s1.1), (5, .int e5.1), (6, .int e5.2)], [], am_SH, (f, g))) rfl c26 ?_
            obtain ⟨e8, he8, h⟩ := am_bind_some h
            have hK6 : (fun (e8 : Int32) => am_Ev sc (d + 1) 118 (53, [(0, .ref 123), (1, .retAddr a0), (2, .int a1), (3, .int a2), (4, .int s1.1), (5, .int e8)], [], am_SH, (f, g)) ((some (.int r)), am_SH, (f, g))) e8 := by
              show am_Ev sc (d + 1) 118 (53, [(0, .ref 123), (1, .retAddr a0), (2, .int a1), (3, .int a2), (4, .int s1.1), (5, .int e8)], [], am_SH, (f, g)) ((some (.int r)), am_SH, (f, g))
              obtain ⟨t9, Et9, h⟩ := am_let_eq h
              refine am_Ev.go hcd 1 (s' := (54, [(0, .ref 123), (1, .retAddr a0), (2, .int a1), (3, .int a2), (4, .int s1.1), (5, .int t9)], [], am_SH, (f, g))) (by subst Et9; exact rfl) ?_
              obtain ⟨t10, Et10, h⟩ := am_let_eq h
              refine am_Ev.go hcd 1 (s' := (55, [(0, .ref 123), (1, .retAddr a0), (2, .int a1), (3, .int a2), (4, .int t10), (5, .int t9)], [], am_SH, (f, g))) (by subst Et10; exact rfl) ?_
              refine am_Ev.go hcd 1 (s' := (4, [(0, .ref 123), (1, .retAddr a0), (2, .int a1), (3, .int a2), (4, .int t10), (5, .int t9)], [], am_SH, (f, g))) rfl ?_
              exact am_Ev.weak' (hI1 (t10, t9) (Option.some.inj h).symm) (am_sub_cons rfl (am_sub_cons rfl (am_sub_cons rfl (am_sub_cons rfl (am_sub_cons rfl (am_sub_cons rfl am_sub_nil)))))) rfl
            refine am_Ev.weak' (am_loop_ok (G := fun (s6 : Int32) => am_Ev sc (d + 1) 118 (42, [(0, .ref 123), (1, .retAddr a0), (2, .int a1), (3, .int a2), (4, .int s1.1), (5, .int s6)], [], am_SH, (f, g)) ((some (.int r)), am_SH, (f, g))) (Z := fun (e8 : Int32) => am_Ev sc (d + 1) 118 (53, [(0, .ref 123), (1, .retAddr a0), (2, .int a1), (3, .int a2), (4, .int s1.1), (5, .int e8)], [], am_SH, (f, g)) ((some (.int r)), am_SH, (f, g))) ?_ am_F e5.1 e8 he8 hK6) (am_sub_cons rfl (am_sub_cons rfl (am_sub_cons rfl (am_sub_cons rfl (am_sub_cons rfl (am_sub_cons rfl am_sub_nil)))))) rfl
            intro s6 q6 h hI6 hZ6
            show am_Ev sc (d + 1) 118 (42, [(0, .ref 123), (1, .retAddr a0), (2, .int a1), (3, .int a2), (4, .int s1.1), (5, .int s6)], [], am_SH, (f, g)) ((some (.int r)), am_SH, (f, g))
            refine am_Ev.go hcd 2 (s' := (44, [(0, .ref 123), (1, .retAddr a0), (2, .int a1), (3, .int a2), (4, .int s1.1), (5, .int s6)], [.retAddr a0, .int s6], am_SH, (f, g))) rfl ?_
            obtain ⟨c44, h⟩ := am_grd h
            refine am_Ev.jdkt hcd (c := a0 < am_strs.length) (s1 := (45, [(0, .ref 123), (1, .retAddr a0), (2, .int a1), (3, .int a2), (4, .int s1.1), (5, .int s6)], [.int (nI (am_tl a0)), .int s6], am_SH, (f, g))) rfl c44 ?_
            rcases am_ite h with ⟨c47, h⟩ | ⟨c47, h⟩
            · refine am_Ev.t hcd (c := s6 < (nI (am_tl a0))) (s1 := (46, [(0, .ref 123), (1, .retAddr a0), (2, .int a1), (3, .int a2), (4, .int s1.1), (5, .int s6)], [], am_SH, (f, g))) rfl c47 ?_
              refine am_Ev.go hcd 2 (s' := (48, [(0, .ref 123), (1, .retAddr a0), (2, .int a1), (3, .int a2), (4, .int s1.1), (5, .int s6)], [.int s6, .retAddr a0], am_SH, (f, g))) rfl ?_
              obtain ⟨c49, h⟩ := am_grd h
              refine am_Ev.jdkt hcd (c := a0 < am_strs.length ∧ am_in s6 (am_tl a0) = true) (s1 := (49, [(0, .ref 123), (1, .retAddr a0), (2, .int a1), (3, .int a2), (4, .int s1.1), (5, .int s6)], [.int (am_tc a0 s6.toNatClampNeg)], am_SH, (f, g))) rfl c49 ?_
              refine am_Ev.go hcd 1 (s' := (50, [(0, .ref 123), (1, .retAddr a0), (2, .int a1), (3, .int a2), (4, .int s1.1), (5, .int s6)], [.int 32, .int (am_tc a0 s6.toNatClampNeg)], am_SH, (f, g))) rfl ?_
              rcases am_ite h with ⟨c52, h⟩ | ⟨c52, h⟩
              · refine am_Ev.t hcd (c := (am_tc a0 s6.toNatClampNeg) = 32) (s1 := (53, [(0, .ref 123), (1, .retAddr a0), (2, .int a1), (3, .int a2), (4, .int s1.1), (5, .int s6)], [], am_SH, (f, g))) rfl c52 ?_
                exact am_Ev.weak' (hZ6 s6 (Option.some.inj h).symm) (am_sub_cons rfl (am_sub_cons rfl (am_sub_cons rfl (am_sub_cons rfl (am_sub_cons rfl (am_sub_cons rfl am_sub_nil)))))) rfl
              · refine am_Ev.f hcd (c := (am_tc a0 s6.toNatClampNeg) = 32) (s1 := (51, [(0, .ref 123), (1, .retAddr a0), (2, .int a1), (3, .int a2), (4, .int s1.1), (5, .int s6)], [], am_SH, (f, g))) rfl c52 ?_
                obtain ⟨t7, Et7, h⟩ := am_let_eq h
                refine am_Ev.go hcd 1 (s' := (52, [(0, .ref 123), (1, .retAddr a0), (2, .int a1), (3, .int a2), (4, .int s1.1), (5, .int t7)], [], am_SH, (f, g))) (by subst Et7; exact rfl) ?_
                refine am_Ev.go hcd 1 (s' := (42, [(0, .ref 123), (1, .retAddr a0), (2, .int a1), (3, .int a2), (4, .int s1.1), (5, .int t7)], [], am_SH, (f, g))) rfl ?_
                exact am_Ev.weak' (hI6 t7 (Option.some.inj h).symm) (am_sub_cons rfl (am_sub_cons rfl (am_sub_cons rfl (am_sub_cons rfl (am_sub_cons rfl (am_sub_cons rfl am_sub_nil)))))) rfl
            · refine am_Ev.f hcd (c := s6 < (nI (am_tl a0))) (s1 := (53, [(0, .ref 123), (1, .retAddr a0), (2, .int a1), (3, .int a2), (4, .int s1.1), (5, .int s6)], [], am_SH, (f, g))) rfl c47 ?_
              exact am_Ev.weak' (hZ6 s6 (Option.some.inj h).symm) (am_sub_cons rfl (am_sub_cons rfl (am_sub_cons rfl (am_sub_cons rfl (am_sub_cons rfl (am_sub_cons rfl am_sub_nil)))))) rfl
        · refine am_Ev.f hcd (c := e5.1 < (nI (am_tl a0))) (s1 := (40, [(0, .ref 123), (1, .retAddr a0), (2, .int a1), (3, .int a2), (4, .int s1.1), (5, .int e5.1), (6, .int e5.2)], [], am_SH, (f, g))) rfl c21 ?_
          refine am_Ev.go hcd 1 (s' := (41, [(0, .ref 123), (1, .retAddr a0), (2, .int a1), (3, .int a2), (4, .int s1.1), (5, .int e5.1), (6, .int e5.2)], [.int s1.1], am_SH, (f, g))) rfl ?_
          exact am_Ev.cast (a := ((some (.int s1.1)), am_SH, (f, g))) (hZ1 _ (Option.some.inj h).symm) (am_Ev.ret hcd rfl)
      · refine am_Ev.f hcd (c := e5.2 = a2) (s1 := (42, [(0, .ref 123), (1, .retAddr a0), (2, .int a1), (3, .int a2), (4, .int s1.1), (5, .int e5.1), (6, .int e5.2)], [], am_SH, (f, g))) rfl c15 ?_
        obtain ⟨e13, he13, h⟩ := am_bind_some h
        have hK11 : (fun (e13 : Int32) => am_Ev sc (d + 1) 118 (53, [(0, .ref 123), (1, .retAddr a0), (2, .int a1), (3, .int a2), (4, .int s1.1), (5, .int e13)], [], am_SH, (f, g)) ((some (.int r)), am_SH, (f, g))) e13 := by
          show am_Ev sc (d + 1) 118 (53, [(0, .ref 123), (1, .retAddr a0), (2, .int a1), (3, .int a2), (4, .int s1.1), (5, .int e13)], [], am_SH, (f, g)) ((some (.int r)), am_SH, (f, g))
          obtain ⟨t14, Et14, h⟩ := am_let_eq h
          refine am_Ev.go hcd 1 (s' := (54, [(0, .ref 123), (1, .retAddr a0), (2, .int a1), (3, .int a2), (4, .int s1.1), (5, .int t14)], [], am_SH, (f, g))) (by subst Et14; exact rfl) ?_
          obtain ⟨t15, Et15, h⟩ := am_let_eq h
          refine am_Ev.go hcd 1 (s' := (55, [(0, .ref 123), (1, .retAddr a0), (2, .int a1), (3, .int a2), (4, .int t15), (5, .int t14)], [], am_SH, (f, g))) (by subst Et15; exact rfl) ?_
          refine am_Ev.go hcd 1 (s' := (4, [(0, .ref 123), (1, .retAddr a0), (2, .int a1), (3, .int a2), (4, .int t15), (5, .int t14)], [], am_SH, (f, g))) rfl ?_
          exact am_Ev.weak' (hI1 (t15, t14) (Option.some.inj h).symm) (am_sub_cons rfl (am_sub_cons rfl (am_sub_cons rfl (am_sub_cons rfl (am_sub_cons rfl (am_sub_cons rfl am_sub_nil)))))) rfl
        refine am_Ev.weak' (am_loop_ok (G := fun (s11 : Int32) => am_Ev sc (d + 1) 118 (42, [(0, .ref 123), (1, .retAddr a0), (2, .int a1), (3, .int a2), (4, .int s1.1), (5, .int s11)], [], am_SH, (f, g)) ((some (.int r)), am_SH, (f, g))) (Z := fun (e13 : Int32) => am_Ev sc (d + 1) 118 (53, [(0, .ref 123), (1, .retAddr a0), (2, .int a1), (3, .int a2), (4, .int s1.1), (5, .int e13)], [], am_SH, (f, g)) ((some (.int r)), am_SH, (f, g))) ?_ am_F e5.1 e13 he13 hK11) (am_sub_cons rfl (am_sub_cons rfl (am_sub_cons rfl (am_sub_cons rfl (am_sub_cons rfl (am_sub_cons rfl am_sub_nil)))))) rfl
        intro s11 q11 h hI11 hZ11
        show am_Ev sc (d + 1) 118 (42, [(0, .ref 123), (1, .retAddr a0), (2, .int a1), (3, .int a2), (4, .int s1.1), (5, .int s11)], [], am_SH, (f, g)) ((some (.int r)), am_SH, (f, g))
        refine am_Ev.go hcd 2 (s' := (44, [(0, .ref 123), (1, .retAddr a0), (2, .int a1), (3, .int a2), (4, .int s1.1), (5, .int s11)], [.retAddr a0, .int s11], am_SH, (f, g))) rfl ?_
        obtain ⟨c79, h⟩ := am_grd h
        refine am_Ev.jdkt hcd (c := a0 < am_strs.length) (s1 := (45, [(0, .ref 123), (1, .retAddr a0), (2, .int a1), (3, .int a2), (4, .int s1.1), (5, .int s11)], [.int (nI (am_tl a0)), .int s11], am_SH, (f, g))) rfl c79 ?_
        rcases am_ite h with ⟨c82, h⟩ | ⟨c82, h⟩
        · refine am_Ev.t hcd (c := s11 < (nI (am_tl a0))) (s1 := (46, [(0, .ref 123), (1, .retAddr a0), (2, .int a1), (3, .int a2), (4, .int s1.1), (5, .int s11)], [], am_SH, (f, g))) rfl c82 ?_
          refine am_Ev.go hcd 2 (s' := (48, [(0, .ref 123), (1, .retAddr a0), (2, .int a1), (3, .int a2), (4, .int s1.1), (5, .int s11)], [.int s11, .retAddr a0], am_SH, (f, g))) rfl ?_
          obtain ⟨c84, h⟩ := am_grd h
          refine am_Ev.jdkt hcd (c := a0 < am_strs.length ∧ am_in s11 (am_tl a0) = true) (s1 := (49, [(0, .ref 123), (1, .retAddr a0), (2, .int a1), (3, .int a2), (4, .int s1.1), (5, .int s11)], [.int (am_tc a0 s11.toNatClampNeg)], am_SH, (f, g))) rfl c84 ?_
          refine am_Ev.go hcd 1 (s' := (50, [(0, .ref 123), (1, .retAddr a0), (2, .int a1), (3, .int a2), (4, .int s1.1), (5, .int s11)], [.int 32, .int (am_tc a0 s11.toNatClampNeg)], am_SH, (f, g))) rfl ?_
          rcases am_ite h with ⟨c87, h⟩ | ⟨c87, h⟩
          · refine am_Ev.t hcd (c := (am_tc a0 s11.toNatClampNeg) = 32) (s1 := (53, [(0, .ref 123), (1, .retAddr a0), (2, .int a1), (3, .int a2), (4, .int s1.1), (5, .int s11)], [], am_SH, (f, g))) rfl c87 ?_
            exact am_Ev.weak' (hZ11 s11 (Option.some.inj h).symm) (am_sub_cons rfl (am_sub_cons rfl (am_sub_cons rfl (am_sub_cons rfl (am_sub_cons rfl (am_sub_cons rfl am_sub_nil)))))) rfl
          · refine am_Ev.f hcd (c := (am_tc a0 s11.toNatClampNeg) = 32) (s1 := (51, [(0, .ref 123), (1, .retAddr a0), (2, .int a1), (3, .int a2), (4, .int s1.1), (5, .int s11)], [], am_SH, (f, g))) rfl c87 ?_
            obtain ⟨t12, Et12, h⟩ := am_let_eq h
            refine am_Ev.go hcd 1 (s' := (52, [(0, .ref 123), (1, .retAddr a0), (2, .int a1), (3, .int a2), (4, .int s1.1), (5, .int t12)], [], am_SH, (f, g))) (by subst Et12; exact rfl) ?_
            refine am_Ev.go hcd 1 (s' := (42, [(0, .ref 123), (1, .retAddr a0), (2, .int a1), (3, .int a2), (4, .int s1.1), (5, .int t12)], [], am_SH, (f, g))) rfl ?_
            exact am_Ev.weak' (hI11 t12 (Option.some.inj h).symm) (am_sub_cons rfl (am_sub_cons rfl (am_sub_cons rfl (am_sub_cons rfl (am_sub_cons rfl (am_sub_cons rfl am_sub_nil)))))) rfl
        · refine am_Ev.f hcd (c := s11 < (nI (am_tl a0))) (s1 := (53, [(0, .ref 123), (1, .retAddr a0), (2, .int a1), (3, .int a2), (4, .int s1.1), (5, .int s11)], [], am_SH, (f, g))) rfl c82 ?_
          exact am_Ev.weak' (hZ11 s11 (Option.some.inj h).symm) (am_sub_cons rfl (am_sub_cons rfl (am_sub_cons rfl (am_sub_cons rfl (am_sub_cons rfl (am_sub_cons rfl am_sub_nil)))))) rfl
    refine am_Ev.weak' (am_loop_ok (G := fun (s2 : Int32 × Int32) => am_Ev sc (d + 1) 118 (10, [(0, .ref 123), (1, .retAddr a0), (2, .int a1), (3, .int a2), (4, .int s1.1), (5, .int s2.1), (6, .int s2.2)], [], am_SH, (f, g)) ((some (.int r)), am_SH, (f, g))) (Z := fun (e5 : Int32 × Int32) => am_Ev sc (d + 1) 118 (28, [(0, .ref 123), (1, .retAddr a0), (2, .int a1), (3, .int a2), (4, .int s1.1), (5, .int e5.1), (6, .int e5.2)], [], am_SH, (f, g)) ((some (.int r)), am_SH, (f, g))) ?_ am_F (s1.2, a1) e5 he5 hK2) (am_sub_cons rfl (am_sub_cons rfl (am_sub_cons rfl (am_sub_cons rfl (am_sub_cons rfl (am_sub_cons rfl (am_sub_cons rfl am_sub_nil))))))) rfl
    intro s2 q2 h hI2 hZ2
    show am_Ev sc (d + 1) 118 (10, [(0, .ref 123), (1, .retAddr a0), (2, .int a1), (3, .int a2), (4, .int s1.1), (5, .int s2.1), (6, .int s2.2)], [], am_SH, (f, g)) ((some (.int r)), am_SH, (f, g))
    refine am_Ev.go hcd 2 (s' := (12, [(0, .ref 123), (1, .retAddr a0), (2, .int a1), (3, .int a2), (4, .int s1.1), (5, .int s2.1), (6, .int s2.2)], [.int a2, .int s2.2], am_SH, (f, g))) rfl ?_
    rcases am_ite h with ⟨c101, h⟩ | ⟨c101, h⟩
    · refine am_Ev.t hcd (c := s2.2 < a2) (s1 := (13, [(0, .ref 123), (1, .retAddr a0), (2, .int a1), (3, .int a2), (4, .int s1.1), (5, .int s2.1), (6, .int s2.2)], [], am_SH, (f, g))) rfl c101 ?_
      refine am_Ev.go hcd 2 (s' := (15, [(0, .ref 123), (1, .retAddr a0), (2, .int a1), (3, .int a2), (4, .int s1.1), (5, .int s2.1), (6, .int s2.2)], [.retAddr a0, .int s2.1], am_SH, (f, g))) rfl ?_
      obtain ⟨c104, h⟩ := am_grd h
      refine am_Ev.jdkt hcd (c := a0 < am_strs.length) (s1 := (16, [(0, .ref 123), (1, .retAddr a0), (2, .int a1), (3, .int a2), (4, .int s1.1), (5, .int s2.1), (6, .int s2.2)], [.int (nI (am_tl a0)), .int s2.1], am_SH, (f, g))) rfl c104 ?_
      rcases am_ite h with ⟨c107, h⟩ | ⟨c107, h⟩
      · refine am_Ev.t hcd (c := s2.1 < (nI (am_tl a0))) (s1 := (17, [(0, .ref 123), (1, .retAddr a0), (2, .int a1), (3, .int a2), (4, .int s1.1), (5, .int s2.1), (6, .int s2.2)], [], am_SH, (f, g))) rfl c107 ?_
        refine am_Ev.go hcd 2 (s' := (19, [(0, .ref 123), (1, .retAddr a0), (2, .int a1), (3, .int a2), (4, .int s1.1), (5, .int s2.1), (6, .int s2.2)], [.int s2.1, .retAddr a0], am_SH, (f, g))) rfl ?_
        obtain ⟨c109, h⟩ := am_grd h
        refine am_Ev.jdkt hcd (c := a0 < am_strs.length ∧ am_in s2.1 (am_tl a0) = true) (s1 := (20, [(0, .ref 123), (1, .retAddr a0), (2, .int a1), (3, .int a2), (4, .int s1.1), (5, .int s2.1), (6, .int s2.2)], [.int (am_tc a0 s2.1.toNatClampNeg)], am_SH, (f, g))) rfl c109 ?_
        refine am_Ev.go hcd 3 (s' := (23, [(0, .ref 123), (1, .retAddr a0), (2, .int a1), (3, .int a2), (4, .int s1.1), (5, .int s2.1), (6, .int s2.2)], [.int s2.2, .ref 124, .int (am_tc a0 s2.1.toNatClampNeg)], am_SH, (f, g))) rfl ?_
        obtain ⟨c112, h⟩ := am_grd h
        refine am_Ev.t hcd (o := none) (c := am_in s2.2 400 = true) (s1 := (24, [(0, .ref 123), (1, .retAddr a0), (2, .int a1), (3, .int a2), (4, .int s1.1), (5, .int s2.1), (6, .int s2.2)], [.int (f 124 s2.2.toNatClampNeg), .int (am_tc a0 s2.1.toNatClampNeg)], am_SH, (f, g))) rfl c112 ?_
        rcases am_ite h with ⟨c115, h⟩ | ⟨c115, h⟩
        · refine am_Ev.t hcd (c := (am_tc a0 s2.1.toNatClampNeg) = f 124 s2.2.toNatClampNeg) (s1 := (25, [(0, .ref 123), (1, .retAddr a0), (2, .int a1), (3, .int a2), (4, .int s1.1), (5, .int s2.1), (6, .int s2.2)], [], am_SH, (f, g))) rfl c115 ?_
          obtain ⟨t3, Et3, h⟩ := am_let_eq h
          refine am_Ev.go hcd 1 (s' := (26, [(0, .ref 123), (1, .retAddr a0), (2, .int a1), (3, .int a2), (4, .int s1.1), (5, .int t3), (6, .int s2.2)], [], am_SH, (f, g))) (by subst Et3; exact rfl) ?_
          obtain ⟨t4, Et4, h⟩ := am_let_eq h
          refine am_Ev.go hcd 1 (s' := (27, [(0, .ref 123), (1, .retAddr a0), (2, .int a1), (3, .int a2), (4, .int s1.1), (5, .int t3), (6, .int t4)], [], am_SH, (f, g))) (by subst Et4; exact rfl) ?_
          refine am_Ev.go hcd 1 (s' := (10, [(0, .ref 123), (1, .retAddr a0), (2, .int a1), (3, .int a2), (4, .int s1.1), (5, .int t3), (6, .int t4)], [], am_SH, (f, g))) rfl ?_
          exact am_Ev.weak' (hI2 (t3, t4) (Option.some.inj h).symm) (am_sub_cons rfl (am_sub_cons rfl (am_sub_cons rfl (am_sub_cons rfl (am_sub_cons rfl (am_sub_cons rfl (am_sub_cons rfl am_sub_nil))))))) rfl
        · refine am_Ev.f hcd (c := (am_tc a0 s2.1.toNatClampNeg) = f 124 s2.2.toNatClampNeg) (s1 := (28, [(0, .ref 123), (1, .retAddr a0), (2, .int a1), (3, .int a2), (4, .int s1.1), (5, .int s2.1), (6, .int s2.2)], [], am_SH, (f, g))) rfl c115 ?_
          exact am_Ev.weak' (hZ2 (s2.1, s2.2) (Option.some.inj h).symm) (am_sub_cons rfl (am_sub_cons rfl (am_sub_cons rfl (am_sub_cons rfl (am_sub_cons rfl (am_sub_cons rfl (am_sub_cons rfl am_sub_nil))))))) rfl
      · refine am_Ev.f hcd (c := s2.1 < (nI (am_tl a0))) (s1 := (28, [(0, .ref 123), (1, .retAddr a0), (2, .int a1), (3, .int a2), (4, .int s1.1), (5, .int s2.1), (6, .int s2.2)], [], am_SH, (f, g))) rfl c107 ?_
        exact am_Ev.weak' (hZ2 (s2.1, s2.2) (Option.some.inj h).symm) (am_sub_cons rfl (am_sub_cons rfl (am_sub_cons rfl (am_sub_cons rfl (am_sub_cons rfl (am_sub_cons rfl (am_sub_cons rfl am_sub_nil))))))) rfl
    · refine am_Ev.f hcd (c := s2.2 < a2) (s1 := (28, [(0, .ref 123), (1, .retAddr a0), (2, .int a1), (3, .int a2), (4, .int s1.1), (5, .int s2.1), (6, .int s2.2)], [], am_SH, (f, g))) rfl c101 ?_
      exact am_Ev.weak' (hZ2 (s2.1, s2.2) (Option.some.inj h).symm) (am_sub_cons rfl (am_sub_cons rfl (am_sub_cons rfl (am_sub_cons rfl (am_sub_cons rfl (am_sub_cons rfl (am_sub_cons rfl am_sub_nil))))))) rfl
  · refine am_Ev.f hcd (c := s1.2 < (nI (am_tl a0))) (s1 := (56, [(0, .ref 123), (1, .retAddr a0), (2, .int a1), (3, .int a2), (4, .int s1.1), (5, .int s1.2)], [], am_SH, (f, g))) rfl c9 ?_
    refine am_Ev.go hcd 1 (s' := (57, [(0, .ref 123), (1, .retAddr a0), (2, .int a1), (3, .int a2), (4, .int s1.1), (5, .int s1.2)], [.int (-1)], am_SH, (f, g))) rfl ?_
    exact am_Ev.cast (a := ((some (.int (-1))), am_SH, (f, g))) (hZ1 _ (Option.some.inj h).symm) (am_Ev.ret hcd rfl)
set_option maxRecDepth 100000 in
set_option maxHeartbeats 4000000 in
theorem xt_isDigit_ok {sc : Nat × (Nat → Int32)} (d : Nat) (a0 : Int32) (hp : am_H) : am_Ev sc (d) 120 (0, [(0, .int a0)], [], am_SH, hp) ((some (.int (am_b (xt_isDigit a0)))), am_SH, hp) := by
  have hcd : am_code 120 = am_c120 := rfl
  obtain ⟨r, h⟩ : ∃ r, r = xt_isDigit a0 := ⟨_, rfl⟩
  rw [← h]
  unfold xt_isDigit at h
  refine am_Ev.go hcd 2 (s' := (2, [(0, .int a0)], [.int 48, .int a0], am_SH, hp)) rfl ?_
  rcases am_itv h with ⟨c4, h⟩ | ⟨c4, h⟩
  · refine am_Ev.t hcd (c := a0 < 48) (s1 := (8, [(0, .int a0)], [], am_SH, hp)) rfl c4 ?_
    refine am_Ev.go hcd 1 (s' := (9, [(0, .int a0)], [.int 0], am_SH, hp)) rfl ?_
    exact am_Ev.cast (a := ((some (.int (am_b false))), am_SH, hp)) (by subst h; rfl) (am_Ev.ret hcd rfl)
  · refine am_Ev.f hcd (c := a0 < 48) (s1 := (3, [(0, .int a0)], [], am_SH, hp)) rfl c4 ?_
    refine am_Ev.go hcd 2 (s' := (5, [(0, .int a0)], [.int 57, .int a0], am_SH, hp)) rfl ?_
    rcases am_itv h with ⟨c10, h⟩ | ⟨c10, h⟩
    · refine am_Ev.t hcd (c := 57 < a0) (s1 := (8, [(0, .int a0)], [], am_SH, hp)) rfl c10 ?_
      refine am_Ev.go hcd 1 (s' := (9, [(0, .int a0)], [.int 0], am_SH, hp)) rfl ?_
      exact am_Ev.cast (a := ((some (.int (am_b false))), am_SH, hp)) (by subst h; rfl) (am_Ev.ret hcd rfl)
    · refine am_Ev.f hcd (c := 57 < a0) (s1 := (6, [(0, .int a0)], [], am_SH, hp)) rfl c10 ?_
      refine am_Ev.go hcd 2 (s' := (9, [(0, .int a0)], [.int 1], am_SH, hp)) rfl ?_
      exact am_Ev.cast (a := ((some (.int (am_b true))), am_SH, hp)) (by subst h; rfl) (am_Ev.ret hcd rfl)
set_option maxRecDepth 100000 in
set_option maxHeartbeats 4000000 in
theorem xt_endOfDigits_ok {sc : Nat × (Nat → Int32)} (d : Nat) (a0 : Int32) (f g : (Nat → Nat → Int32)) (r : Int32) (h : xt_endOfDigits a0 f = some r) : am_Ev sc (d + 1) 116 (0, [(0, .ref 123), (1, .int a0)], [], am_SH, (f, g)) ((some (.int r)), am_SH, (f, g)) := by
  have hcd : am_code 116 = am_c116 := rfl
  unfold xt_endOfDigits at h
  refine am_Ev.go hcd 2 (s' := (2, [(0, .ref 123), (1, .int a0), (2, .int a0)], [], am_SH, (f, g))) rfl ?_
  refine am_Ev.weak' (am_loop_ok (G := fun (s1 : Int32) => am_Ev sc (d + 1) 116 (2, [(0, .ref 123), (2, .int s1)], [], am_SH, (f, g)) ((some (.int r)), am_SH, (f, g))) (Z := fun (v : Int32) => (((some (.int v)), am_SH, (f, g)) : am_R) = ((some (.int r)), am_SH, (f, g))) ?_ am_F a0 r h rfl) (am_sub_cons rfl (am_sub_cons rfl am_sub_nil)) rfl
  intro s1 q1 h hI1 hZ1
  show am_Ev sc (d + 1) 116 (2, [(0, .ref 123), (2, .int s1)], [], am_SH, (f, g)) ((some (.int r)), am_SH, (f, g))
  refine am_Ev.go hcd 3 (s' := (5, [(0, .ref 123), (2, .int s1)], [.int (f 123 0), .int s1], am_SH, (f, g))) rfl ?_
  rcases am_ite h with ⟨c6, h⟩ | ⟨c6, h⟩
  · refine am_Ev.t hcd (c := s1 < f 123 0) (s1 := (6, [(0, .ref 123), (2, .int s1)], [], am_SH, (f, g))) rfl c6 ?_
    refine am_Ev.go hcd 3 (s' := (9, [(0, .ref 123), (2, .int s1)], [.int s1, .ref 124], am_SH, (f, g))) rfl ?_
    obtain ⟨c9, h⟩ := am_grd h
    refine am_Ev.t hcd (o := none) (c := am_in s1 400 = true) (s1 := (10, [(0, .ref 123), (2, .int s1)], [.int (f 124 s1.toNatClampNeg)], am_SH, (f, g))) rfl c9 ?_
    refine am_Ev.call hcd (a := 120) (s0 := (0, [(0, .int (f 124 s1.toNatClampNeg))], [], am_SH, (f, g))) (q := ((some (.int (am_b (xt_isDigit (f 124 s1.toNatClampNeg))))), am_SH, (f, g))) (s1 := (11, [(0, .ref 123), (2, .int s1)], [.int (am_b (xt_isDigit (f 124 s1.toNatClampNeg)))], am_SH, (f, g))) rfl rfl (xt_isDigit_ok (d) (f 124 s1.toNatClampNeg) (f, g)) ?_
    rcases am_ite h with ⟨c13, h⟩ | ⟨c13, h⟩
    · refine am_Ev.f hcd (c := am_b (xt_isDigit (f 124 s1.toNatClampNeg)) = 0) (s1 := (12, [(0, .ref 123), (2, .int s1)], [], am_SH, (f, g))) rfl (am_b_t c13) ?_
      obtain ⟨t3, Et3, h⟩ := am_let_eq h
      refine am_Ev.go hcd 1 (s' := (13, [(0, .ref 123), (2, .int t3)], [], am_SH, (f, g))) (by subst Et3; exact rfl) ?_
      refine am_Ev.go hcd 1 (s' := (2, [(0, .ref 123), (2, .int t3)], [], am_SH, (f, g))) rfl ?_
      exact am_Ev.weak' (hI1 t3 (Option.some.inj h).symm) (am_sub_cons rfl (am_sub_cons rfl am_sub_nil)) rfl
    · refine am_Ev.t hcd (c := am_b (xt_isDigit (f 124 s1.toNatClampNeg)) = 0) (s1 := (14, [(0, .ref 123), (2, .int s1)], [], am_SH, (f, g))) rfl (am_b_f c13) ?_
      refine am_Ev.go hcd 1 (s' := (15, [(0, .ref 123), (2, .int s1)], [.int s1], am_SH, (f, g))) rfl ?_
      exact am_Ev.cast (a := ((some (.int s1)), am_SH, (f, g))) (hZ1 _ (Option.some.inj h).symm) (am_Ev.ret hcd rfl)
  · refine am_Ev.f hcd (c := s1 < f 123 0) (s1 := (14, [(0, .ref 123), (2, .int s1)], [], am_SH, (f, g))) rfl c6 ?_
    refine am_Ev.go hcd 1 (s' := (15, [(0, .ref 123), (2, .int s1)], [.int s1], am_SH, (f, g))) rfl ?_
    exact am_Ev.cast (a := ((some (.int s1)), am_SH, (f, g))) (hZ1 _ (Option.some.inj h).symm) (am_Ev.ret hcd rfl)
set_option maxRecDepth 100000 in
set_option maxHeartbeats 4000000 in
theorem xt_number_ok {sc : Nat × (Nat → Int32)} (d : Nat) (a0 : Int32) (a1 : Int32) (f g : (Nat → Nat → Int32)) (r : Int32) (h : xt_number a0 a1 f = some r) : am_Ev sc (d) 117 (0, [(0, .ref 123), (1, .int a0), (2, .int a1)], [], am_SH, (f, g)) ((some (.int r)), am_SH, (f, g)) := by
  have hcd : am_code 117 = am_c117 := rfl
  unfold xt_number at h
  refine am_Ev.go hcd 4 (s' := (4, [(0, .ref 123), (1, .int a0), (2, .int a1), (3, .int 0), (4, .int a0)], [], am_SH, (f, g))) rfl ?_
  refine am_Ev.weak' (am_loop_ok (G := fun (s1 : Int32 × Int32) => am_Ev sc (d) 117 (4, [(0, .ref 123), (2, .int a1), (3, .int s1.1), (4, .int s1.2)], [], am_SH, (f, g)) ((some (.int r)), am_SH, (f, g))) (Z := fun (v : Int32) => (((some (.int v)), am_SH, (f, g)) : am_R) = ((some (.int r)), am_SH, (f, g))) ?_ am_F (0, a0) r h rfl) (am_sub_cons rfl (am_sub_cons rfl (am_sub_cons rfl (am_sub_cons rfl am_sub_nil)))) rfl
  intro s1 q1 h hI1 hZ1
  show am_Ev sc (d) 117 (4, [(0, .ref 123), (2, .int a1), (3, .int s1.1), (4, .int s1.2)], [], am_SH, (f, g)) ((some (.int r)), am_SH, (f, g))
  refine am_Ev.go hcd 2 (s' := (6, [(0, .ref 123), (2, .int a1), (3, .int s1.1), (4, .int s1.2)], [.int a1, .int s1.2], am_SH, (f, g))) rfl ?_
  rcases am_ite h with ⟨c6, h⟩ | ⟨c6, h⟩
  · refine am_Ev.t hcd (c := s1.2 < a1) (s1 := (7, [(0, .ref 123), (2, .int a1), (3, .int s1.1), (4, .int s1.2)], [], am_SH, (f, g))) rfl c6 ?_
    refine am_Ev.go hcd 6 (s' := (13, [(0, .ref 123), (2, .int a1), (3, .int s1.1), (4, .int s1.2)], [.int s1.2, .ref 124, .int (10 * s1.1)], am_SH, (f, g))) rfl ?_
    obtain ⟨c9, h⟩ := am_grd h
    refine am_Ev.t hcd (o := none) (c := am_in s1.2 400 = true) (s1 := (14, [(0, .ref 123), (2, .int a1), (3, .int s1.1), (4, .int s1.2)], [.int (f 124 s1.2.toNatClampNeg), .int (10 * s1.1)], am_SH, (f, g))) rfl c9 ?_
    obtain ⟨t2, Et2, h⟩ := am_let_eq h
    refine am_Ev.go hcd 4 (s' := (18, [(0, .ref 123), (2, .int a1), (3, .int t2), (4, .int s1.2)], [], am_SH, (f, g))) (by subst Et2; exact rfl) ?_
    obtain ⟨t3, Et3, h⟩ := am_let_eq h
    refine am_Ev.go hcd 1 (s' := (19, [(0, .ref 123), (2, .int a1), (3, .int t2), (4, .int t3)], [], am_SH, (f, g))) (by subst Et3; exact rfl) ?_
    refine am_Ev.go hcd 1 (s' := (4, [(0, .ref 123), (2, .int a1), (3, .int t2), (4, .int t3)], [], am_SH, (f, g))) rfl ?_
    exact am_Ev.weak' (hI1 (t2, t3) (Option.some.inj h).symm) (am_sub_cons rfl (am_sub_cons rfl (am_sub_cons rfl (am_sub_cons rfl am_sub_nil)))) rfl
  · refine am_Ev.f hcd (c := s1.2 < a1) (s1 := (20, [(0, .ref 123), (2, .int a1), (3, .int s1.1), (4, .int s1.2)], [], am_SH, (f, g))) rfl c6 ?_
    refine am_Ev.go hcd 1 (s' := (21, [(0, .ref 123), (2, .int a1), (3, .int s1.1), (4, .int s1.2)], [.int s1.1], am_SH, (f, g))) rfl ?_
    exact am_Ev.cast (a := ((some (.int s1.1)), am_SH, (f, g))) (hZ1 _ (Option.some.inj h).symm) (am_Ev.ret hcd rfl)
set_option maxRecDepth 100000 in
set_option maxHeartbeats 4000000 in
theorem xt_addToken_ok {sc : Nat × (Nat → Int32)} (d : Nat) (a0 : Int32) (a1 : Int32) (a2 : Nat) (f g : (Nat → Nat → Int32)) (r : Int32 × (Nat → Nat → Int32)) (h : xt_addToken a0 a1 a2 f = some r) : am_Ev sc (d + 2) 114 (0, [(0, .ref 123), (1, .int a0), (2, .int a1), (3, .retAddr a2)], [], am_SH, (f, g)) ((some (.int r.1)), am_SH, (r.2, g)) := by
  have hcd : am_code 114 = am_c114 := rfl
  unfold xt_addToken at h
  obtain ⟨t1, Et1, h⟩ := am_let_eq h
  refine am_Ev.go hcd 4 (s' := (4, [(0, .ref 123), (1, .int a0), (2, .int a1), (3, .retAddr a2), (4, .int t1)], [], am_SH, (f, g))) (by subst Et1; exact rfl) ?_
  refine am_Ev.go hcd 1 (s' := (5, [(0, .ref 123), (1, .int a0), (2, .int a1), (3, .retAddr a2), (4, .int t1)], [.int a1], am_SH, (f, g))) rfl ?_
  refine am_Ev.call hcd (a := 121) (s0 := (0, [(0, .int a1)], [], am_SH, (f, g))) (q := ((some (.int (am_b (xt_isMark a1)))), am_SH, (f, g))) (s1 := (6, [(0, .ref 123), (1, .int a0), (2, .int a1), (3, .retAddr a2), (4, .int t1)], [.int (am_b (xt_isMark a1))], am_SH, (f, g))) rfl rfl (xt_isMark_ok (d + 1) a1 (f, g)) ?_
  obtain ⟨t3, ht3, kt3⟩ := am_let_eq h
  have hKt3 : am_Ev sc (d + 2) 114 (10, [(0, .ref 123), (1, .int a0), (2, .int a1), (3, .retAddr a2), (4, .int t1)], [.int t3], am_SH, (f, g)) ((some (.int r.1)), am_SH, (r.2, g)) := by
    have h := kt3
    refine am_Ev.go hcd 4 (s' := (14, [(0, .ref 123), (1, .int a0), (2, .int a1), (3, .retAddr a2), (4, .int t1), (5, .int t3), (6, .int a1)], [.int a1], am_SH, (f, g))) rfl ?_
    refine am_Ev.call hcd (a := 119) (s0 := (0, [(0, .int a1)], [], am_SH, (f, g))) (q := ((some (.int (am_b (xt_isLetter a1)))), am_SH, (f, g))) (s1 := (15, [(0, .ref 123), (1, .int a0), (2, .int a1), (3, .retAddr a2), (4, .int t1), (5, .int t3), (6, .int a1)], [.int (am_b (xt_isLetter a1))], am_SH, (f, g))) rfl rfl (xt_isLetter_ok (d + 1) a1 (f, g)) ?_
    obtain ⟨t13, ht13, kt13⟩ := am_bind_some h
    have hKt13 : am_Ev sc (d + 2) 114 (60, [(0, .ref 123), (1, .int a0), (4, .int t13.1), (5, .int t13.2.1), (6, .int t13.2.2)], [], am_SH, (f, g)) ((some (.int r.1)), am_SH, (r.2, g)) := by
      have h := kt13
      refine am_Ev.go hcd 5 (s' := (65, [(0, .ref 123), (1, .int a0), (4, .int t13.1), (5, .int t13.2.1), (6, .int t13.2.2)], [.int t13.2.1, .int (f 123 8), .ref 125], am_SH, (f, g))) rfl ?_
      obtain ⟨c14, h⟩ := am_grd h
      obtain ⟨f14, Ef14, h⟩ := am_let_eq h
      refine am_Ev.t hcd (o := none) (c := am_in (f 123 8) 401 = true) (s1 := (66, [(0, .ref 123), (1, .int a0), (4, .int t13.1), (5, .int t13.2.1), (6, .int t13.2.2)], [], am_SH, (f14, g))) (by subst Ef14; exact rfl) c14 ?_
      refine am_Ev.go hcd 5 (s' := (71, [(0, .ref 123), (1, .int a0), (4, .int t13.1), (5, .int t13.2.1), (6, .int t13.2.2)], [.int t13.2.2, .int (f14 123 8), .ref 126], am_SH, (f14, g))) rfl ?_
      obtain ⟨c18, h⟩ := am_grd h
      obtain ⟨f15, Ef15, h⟩ := am_let_eq h
      refine am_Ev.t hcd (o := none) (c := am_in (f14 123 8) 401 = true) (s1 := (72, [(0, .ref 123), (1, .int a0), (4, .int t13.1), (5, .int t13.2.1), (6, .int t13.2.2)], [], am_SH, (f15, g))) (by subst Ef15; exact rfl) c18 ?_
      refine am_Ev.go hcd 5 (s' := (77, [(0, .ref 123), (1, .int a0), (4, .int t13.1), (5, .int t13.2.1), (6, .int t13.2.2)], [.int a0, .int (f15 123 8), .ref 127], am_SH, (f15, g))) rfl ?_
      obtain ⟨c22, h⟩ := am_grd h
      obtain ⟨f16, Ef16, h⟩ := am_let_eq h
      refine am_Ev.t hcd (o := none) (c := am_in (f15 123 8) 401 = true) (s1 := (78, [(0, .ref 123), (1, .int a0), (4, .int t13.1), (5, .int t13.2.1), (6, .int t13.2.2)], [], am_SH, (f16, g))) (by subst Ef16; exact rfl) c22 ?_
      obtain ⟨f17, Ef17, h⟩ := am_let_eq h
      refine am_Ev.go hcd 6 (s' := (84, [(0, .ref 123), (1, .int a0), (4, .int t13.1), (5, .int t13.2.1), (6, .int t13.2.2)], [], am_SH, (f17, g))) (by subst Ef17; exact rfl) ?_
      refine am_Ev.go hcd 1 (s' := (85, [(0, .ref 123), (1, .int a0), (4, .int t13.1), (5, .int t13.2.1), (6, .int t13.2.2)], [.int t13.1], am_SH, (f17, g))) rfl ?_
      exact am_Ev.cast (a := ((some (.int (t13.1, f17).1)), am_SH, ((t13.1, f17).2, g))) (by cases h; rfl) (am_Ev.ret hcd rfl)
    have hLt13 : ∀ tt, tt = t13 → am_Ev sc (d + 2) 114 (60, [(0, .ref 123), (1, .int a0), (4, .int tt.1), (5, .int tt.2.1), (6, .int tt.2.2)], [], am_SH, (f, g)) ((some (.int r.1)), am_SH, (r.2, g)) := fun tt htt => by subst htt; exact hKt13
    have h := ht13
    rcases am_ite h with ⟨c32, h⟩ | ⟨c32, h⟩
    · refine am_Ev.f hcd (c := am_b (xt_isLetter a1) = 0) (s1 := (16, [(0, .ref 123), (1, .int a0), (2, .int a1), (3, .retAddr a2), (4, .int t1), (5, .int t3), (6, .int a1)], [], am_SH, (f, g))) rfl (am_b_t c32) ?_
      refine am_Ev.go hcd 2 (s' := (18, [(0, .ref 123), (1, .int a0), (2, .int a1), (3, .retAddr a2), (4, .int t1), (5, .int t3), (6, .int a1)], [.int a0, .ref 123], am_SH, (f, g))) rfl ?_
      obtain ⟨p5, hp5, h⟩ := am_bind_some h
      refine am_Ev.call hcd (a := 115) (s0 := (0, [(0, .ref 123), (1, .int a0)], [], am_SH, (f, g))) (q := ((some (.int p5)), am_SH, (f, g))) (s1 := (19, [(0, .ref 123), (1, .int a0), (2, .int a1), (3, .retAddr a2), (4, .int t1), (5, .int t3), (6, .int a1)], [.int p5], am_SH, (f, g))) rfl rfl (xt_endOfLetters_ok (d) a0 f g p5 hp5) ?_
      refine am_Ev.go hcd 5 (s' := (24, [(0, .ref 123), (1, .int a0), (2, .int a1), (3, .retAddr a2), (4, .int p5), (5, .int t3), (6, .int a1)], [.int p5, .int a0, .retAddr a2, .ref 123], am_SH, (f, g))) rfl ?_
      obtain ⟨p6, hp6, h⟩ := am_bind_some h
      refine am_Ev.call hcd (a := 118) (s0 := (0, [(0, .ref 123), (1, .retAddr a2), (2, .int a0), (3, .int p5)], [], am_SH, (f, g))) (q := ((some (.int p6)), am_SH, (f, g))) (s1 := (25, [(0, .ref 123), (1, .int a0), (2, .int a1), (3, .retAddr a2), (4, .int p5), (5, .int t3), (6, .int a1)], [.int p6], am_SH, (f, g))) rfl rfl (xt_keyword_ok (d) a2 a0 p5 f g p6 hp6) ?_
      obtain ⟨t7, ht7, kt7⟩ := am_let_eq h
      have hKt7 : am_Ev sc (d + 2) 114 (32, [(0, .ref 123), (1, .int a0), (4, .int p5), (6, .int p6)], [.int t7], am_SH, (f, g)) ((some (.int r.1)), am_SH, (r.2, g)) := by
        have h := kt7
        refine am_Ev.go hcd 2 (s' := (60, [(0, .ref 123), (1, .int a0), (4, .int p5), (5, .int t7), (6, .int p6)], [], am_SH, (f, g))) rfl ?_
        exact am_Ev.weak' (hLt13 (p5, t7, p6) (Option.some.inj h)) (am_sub_cons rfl (am_sub_cons rfl (am_sub_cons rfl (am_sub_cons rfl (am_sub_cons rfl am_sub_nil))))) rfl
      have hLt7 : ∀ tt, tt = t7 → am_Ev sc (d + 2) 114 (32, [(0, .ref 123), (1, .int a0), (4, .int p5), (6, .int p6)], [.int tt], am_SH, (f, g)) ((some (.int r.1)), am_SH, (r.2, g)) := fun tt htt => by subst htt; exact hKt7
      have h := ht7
      refine am_Ev.go hcd 3 (s' := (28, [(0, .ref 123), (1, .int a0), (2, .int a1), (3, .retAddr a2), (4, .int p5), (5, .int t3), (6, .int p6)], [.int (-1), .int p6], am_SH, (f, g))) rfl ?_
      rcases am_itv h with ⟨c47, h⟩ | ⟨c47, h⟩
      · refine am_Ev.t hcd (c := p6 = (-1)) (s1 := (29, [(0, .ref 123), (1, .int a0), (2, .int a1), (3, .retAddr a2), (4, .int p5), (5, .int t3), (6, .int p6)], [], am_SH, (f, g))) rfl c47 ?_
        refine am_Ev.go hcd 2 (s' := (32, [(0, .ref 123), (1, .int a0), (2, .int a1), (3, .retAddr a2), (4, .int p5), (5, .int t3), (6, .int p6)], [.int 4], am_SH, (f, g))) rfl ?_
        exact am_Ev.weak' (hLt7 4 h.symm) (am_sub_cons rfl (am_sub_cons rfl (am_sub_cons rfl (am_sub_cons rfl am_sub_nil)))) rfl
      · refine am_Ev.f hcd (c := p6 = (-1)) (s1 := (31, [(0, .ref 123), (1, .int a0), (2, .int a1), (3, .retAddr a2), (4, .int p5), (5, .int t3), (6, .int p6)], [], am_SH, (f, g))) rfl c47 ?_
        refine am_Ev.go hcd 1 (s' := (32, [(0, .ref 123), (1, .int a0), (2, .int a1), (3, .retAddr a2), (4, .int p5), (5, .int t3), (6, .int p6)], [.int 1], am_SH, (f, g))) rfl ?_
        exact am_Ev.weak' (hLt7 1 h.symm) (am_sub_cons rfl (am_sub_cons rfl (am_sub_cons rfl (am_sub_cons rfl am_sub_nil)))) rfl
    · refine am_Ev.t hcd (c := am_b (xt_isLetter a1) = 0) (s1 := (34, [(0, .ref 123), (1, .int a0), (2, .int a1), (3, .retAddr a2), (4, .int t1), (5, .int t3), (6, .int a1)], [], am_SH, (f, g))) rfl (am_b_f c32) ?_
      refine am_Ev.go hcd 1 (s' := (35, [(0, .ref 123), (1, .int a0), (2, .int a1), (3, .retAddr a2), (4, .int t1), (5, .int t3), (6, .int a1)], [.int a1], am_SH, (f, g))) rfl ?_
      refine am_Ev.call hcd (a := 120) (s0 := (0, [(0, .int a1)], [], am_SH, (f, g))) (q := ((some (.int (am_b (xt_isDigit a1)))), am_SH, (f, g))) (s1 := (36, [(0, .ref 123), (1, .int a0), (2, .int a1), (3, .retAddr a2), (4, .int t1), (5, .int t3), (6, .int a1)], [.int (am_b (xt_isDigit a1))], am_SH, (f, g))) rfl rfl (xt_isDigit_ok (d + 1) a1 (f, g)) ?_
      rcases am_ite h with ⟨c58, h⟩ | ⟨c58, h⟩
      · refine am_Ev.f hcd (c := am_b (xt_isDigit a1) = 0) (s1 := (37, [(0, .ref 123), (1, .int a0), (2, .int a1), (3, .retAddr a2), (4, .int t1), (5, .int t3), (6, .int a1)], [], am_SH, (f, g))) rfl (am_b_t c58) ?_
        refine am_Ev.go hcd 2 (s' := (39, [(0, .ref 123), (1, .int a0), (2, .int a1), (3, .retAddr a2), (4, .int t1), (5, .int t3), (6, .int a1)], [.int a0, .ref 123], am_SH, (f, g))) rfl ?_
        obtain ⟨p9, hp9, h⟩ := am_bind_some h
        refine am_Ev.call hcd (a := 116) (s0 := (0, [(0, .ref 123), (1, .int a0)], [], am_SH, (f, g))) (q := ((some (.int p9)), am_SH, (f, g))) (s1 := (40, [(0, .ref 123), (1, .int a0), (2, .int a1), (3, .retAddr a2), (4, .int t1), (5, .int t3), (6, .int a1)], [.int p9], am_SH, (f, g))) rfl rfl (xt_endOfDigits_ok (d) a0 f g p9 hp9) ?_
        obtain ⟨t11, ht11, kt11⟩ := am_bind_some h
        have hKt11 : am_Ev sc (d + 2) 114 (52, [(0, .ref 123), (1, .int a0), (4, .int p9)], [.int t11], am_SH, (f, g)) ((some (.int r.1)), am_SH, (r.2, g)) := by
          have h := kt11
          obtain ⟨t12, ht12, kt12⟩ := am_let_eq h
          have hKt12 : am_Ev sc (d + 2) 114 (59, [(0, .ref 123), (1, .int a0), (4, .int p9), (6, .int t11)], [.int t12], am_SH, (f, g)) ((some (.int r.1)), am_SH, (r.2, g)) := by
            have h := kt12
            refine am_Ev.go hcd 1 (s' := (60, [(0, .ref 123), (1, .int a0), (4, .int p9), (5, .int t12), (6, .int t11)], [], am_SH, (f, g))) rfl ?_
            exact am_Ev.weak' (hLt13 (p9, t12, t11) (Option.some.inj h)) (am_sub_cons rfl (am_sub_cons rfl (am_sub_cons rfl (am_sub_cons rfl (am_sub_cons rfl am_sub_nil))))) rfl
          have hLt12 : ∀ tt, tt = t12 → am_Ev sc (d + 2) 114 (59, [(0, .ref 123), (1, .int a0), (4, .int p9), (6, .int t11)], [.int tt], am_SH, (f, g)) ((some (.int r.1)), am_SH, (r.2, g)) := fun tt htt => by subst htt; exact hKt12
          have h := ht12
          refine am_Ev.go hcd 3 (s' := (55, [(0, .ref 123), (1, .int a0), (4, .int p9), (6, .int t11)], [.int (-1), .int t11], am_SH, (f, g))) rfl ?_
          rcases am_itv h with ⟨c73, h⟩ | ⟨c73, h⟩
          · refine am_Ev.t hcd (c := t11 = (-1)) (s1 := (56, [(0, .ref 123), (1, .int a0), (4, .int p9), (6, .int t11)], [], am_SH, (f, g))) rfl c73 ?_
            refine am_Ev.go hcd 2 (s' := (59, [(0, .ref 123), (1, .int a0), (4, .int p9), (6, .int t11)], [.int 4], am_SH, (f, g))) rfl ?_
            exact am_Ev.weak' (hLt12 4 h.symm) (am_sub_cons rfl (am_sub_cons rfl (am_sub_cons rfl (am_sub_cons rfl am_sub_nil)))) rfl
          · refine am_Ev.f hcd (c := t11 = (-1)) (s1 := (58, [(0, .ref 123), (1, .int a0), (4, .int p9), (6, .int t11)], [], am_SH, (f, g))) rfl c73 ?_
            refine am_Ev.go hcd 1 (s' := (59, [(0, .ref 123), (1, .int a0), (4, .int p9), (6, .int t11)], [.int 2], am_SH, (f, g))) rfl ?_
            exact am_Ev.weak' (hLt12 2 h.symm) (am_sub_cons rfl (am_sub_cons rfl (am_sub_cons rfl (am_sub_cons rfl am_sub_nil)))) rfl
        have hLt11 : ∀ tt, tt = t11 → am_Ev sc (d + 2) 114 (52, [(0, .ref 123), (1, .int a0), (4, .int p9)], [.int tt], am_SH, (f, g)) ((some (.int r.1)), am_SH, (r.2, g)) := fun tt htt => by subst htt; exact hKt11
        have h := ht11
        refine am_Ev.go hcd 5 (s' := (45, [(0, .ref 123), (1, .int a0), (2, .int a1), (3, .retAddr a2), (4, .int p9), (5, .int t3), (6, .int a1)], [.int 4, .int (p9 - a0)], am_SH, (f, g))) rfl ?_
        rcases am_ite h with ⟨c83, h⟩ | ⟨c83, h⟩
        · refine am_Ev.t hcd (c := 4 < (p9 - a0)) (s1 := (51, [(0, .ref 123), (1, .int a0), (2, .int a1), (3, .retAddr a2), (4, .int p9), (5, .int t3), (6, .int a1)], [], am_SH, (f, g))) rfl c83 ?_
          refine am_Ev.go hcd 1 (s' := (52, [(0, .ref 123), (1, .int a0), (2, .int a1), (3, .retAddr a2), (4, .int p9), (5, .int t3), (6, .int a1)], [.int (-1)], am_SH, (f, g))) rfl ?_
          exact am_Ev.weak' (hLt11 (-1) (Option.some.inj h)) (am_sub_cons rfl (am_sub_cons rfl (am_sub_cons rfl am_sub_nil))) rfl
        · refine am_Ev.f hcd (c := 4 < (p9 - a0)) (s1 := (46, [(0, .ref 123), (1, .int a0), (2, .int a1), (3, .retAddr a2), (4, .int p9), (5, .int t3), (6, .int a1)], [], am_SH, (f, g))) rfl c83 ?_
          refine am_Ev.go hcd 3 (s' := (49, [(0, .ref 123), (1, .int a0), (2, .int a1), (3, .retAddr a2), (4, .int p9), (5, .int t3), (6, .int a1)], [.int p9, .int a0, .ref 123], am_SH, (f, g))) rfl ?_
          obtain ⟨p10, hp10, h⟩ := am_bind_some h
          refine am_Ev.call hcd (a := 117) (s0 := (0, [(0, .ref 123), (1, .int a0), (2, .int p9)], [], am_SH, (f, g))) (q := ((some (.int p10)), am_SH, (f, g))) (s1 := (50, [(0, .ref 123), (1, .int a0), (2, .int a1), (3, .retAddr a2), (4, .int p9), (5, .int t3), (6, .int a1)], [.int p10], am_SH, (f, g))) rfl rfl (xt_number_ok (d + 1) a0 p9 f g p10 hp10) ?_
          refine am_Ev.go hcd 1 (s' := (52, [(0, .ref 123), (1, .int a0), (2, .int a1), (3, .retAddr a2), (4, .int p9), (5, .int t3), (6, .int a1)], [.int p10], am_SH, (f, g))) rfl ?_
          exact am_Ev.weak' (hLt11 p10 (Option.some.inj h)) (am_sub_cons rfl (am_sub_cons rfl (am_sub_cons rfl am_sub_nil))) rfl
      · refine am_Ev.t hcd (c := am_b (xt_isDigit a1) = 0) (s1 := (60, [(0, .ref 123), (1, .int a0), (2, .int a1), (3, .retAddr a2), (4, .int t1), (5, .int t3), (6, .int a1)], [], am_SH, (f, g))) rfl (am_b_f c58) ?_
        exact am_Ev.weak' (hLt13 (t1, t3, a1) (Option.some.inj h)) (am_sub_cons rfl (am_sub_cons rfl (am_sub_cons rfl (am_sub_cons rfl (am_sub_cons rfl am_sub_nil))))) rfl
  have hLt3 : ∀ tt, tt = t3 → am_Ev sc (d + 2) 114 (10, [(0, .ref 123), (1, .int a0), (2, .int a1), (3, .retAddr a2), (4, .int t1)], [.int tt], am_SH, (f, g)) ((some (.int r.1)), am_SH, (r.2, g)) := fun tt htt => by subst htt; exact hKt3
  have h := ht3
  rcases am_itv h with ⟨c98, h⟩ | ⟨c98, h⟩
  · refine am_Ev.f hcd (c := am_b (xt_isMark a1) = 0) (s1 := (7, [(0, .ref 123), (1, .int a0), (2, .int a1), (3, .retAddr a2), (4, .int t1)], [], am_SH, (f, g))) rfl (am_b_t c98) ?_
    refine am_Ev.go hcd 2 (s' := (10, [(0, .ref 123), (1, .int a0), (2, .int a1), (3, .retAddr a2), (4, .int t1)], [.int 3], am_SH, (f, g))) rfl ?_
    exact am_Ev.weak' (hLt3 3 h.symm) (am_sub_cons rfl (am_sub_cons rfl (am_sub_cons rfl (am_sub_cons rfl (am_sub_cons rfl am_sub_nil))))) rfl
  · refine am_Ev.t hcd (c := am_b (xt_isMark a1) = 0) (s1 := (9, [(0, .ref 123), (1, .int a0), (2, .int a1), (3, .retAddr a2), (4, .int t1)], [], am_SH, (f, g))) rfl (am_b_f c98) ?_
    refine am_Ev.go hcd 1 (s' := (10, [(0, .ref 123), (1, .int a0), (2, .int a1), (3, .retAddr a2), (4, .int t1)], [.int 4], am_SH, (f, g))) rfl ?_
    exact am_Ev.weak' (hLt3 4 h.symm) (am_sub_cons rfl (am_sub_cons rfl (am_sub_cons rfl (am_sub_cons rfl (am_sub_cons rfl am_sub_nil))))) rfl
set_option maxRecDepth 100000 in
set_option maxHeartbeats 4000000 in
theorem xt_advance_ok {sc : Nat × (Nat → Int32)} (d : Nat)  (f g : (Nat → Nat → Int32)) (r : (Nat → Nat → Int32)) (h : xt_advance  f = some r) : am_Ev sc (d) 111 (0, [(0, .ref 123)], [], am_SH, (f, g)) (none, am_SH, (r, g)) := by
  have hcd : am_code 111 = am_c111 := rfl
  unfold xt_advance at h
  obtain ⟨t2, ht2, kt2⟩ := am_let_eq h
  have hKt2 : am_Ev sc (d) 111 (11, [(0, .ref 123)], [], am_SH, (t2, g)) (none, am_SH, (r, g)) := by
    have h := kt2
    refine am_Ev.go hcd 5 (s' := (16, [(0, .ref 123)], [.int (t2 123 9), .ref 125, .ref 123], am_SH, (t2, g))) rfl ?_
    obtain ⟨c5, h⟩ := am_grd h
    refine am_Ev.t hcd (o := none) (c := am_in (t2 123 9) 401 = true) (s1 := (17, [(0, .ref 123)], [.int (t2 125 (t2 123 9).toNatClampNeg), .ref 123], am_SH, (t2, g))) rfl c5 ?_
    obtain ⟨f3, Ef3, h⟩ := am_let_eq h
    refine am_Ev.go hcd 1 (s' := (18, [(0, .ref 123)], [], am_SH, (f3, g))) (by subst Ef3; exact rfl) ?_
    refine am_Ev.go hcd 5 (s' := (23, [(0, .ref 123)], [.int (f3 123 9), .ref 126, .ref 123], am_SH, (f3, g))) rfl ?_
    obtain ⟨c10, h⟩ := am_grd h
    refine am_Ev.t hcd (o := none) (c := am_in (f3 123 9) 401 = true) (s1 := (24, [(0, .ref 123)], [.int (f3 126 (f3 123 9).toNatClampNeg), .ref 123], am_SH, (f3, g))) rfl c10 ?_
    obtain ⟨f4, Ef4, h⟩ := am_let_eq h
    refine am_Ev.go hcd 1 (s' := (25, [(0, .ref 123)], [], am_SH, (f4, g))) (by subst Ef4; exact rfl) ?_
    refine am_Ev.go hcd 5 (s' := (30, [(0, .ref 123)], [.int (f4 123 9), .ref 127, .ref 123], am_SH, (f4, g))) rfl ?_
    obtain ⟨c15, h⟩ := am_grd h
    refine am_Ev.t hcd (o := none) (c := am_in (f4 123 9) 401 = true) (s1 := (31, [(0, .ref 123)], [.int (f4 127 (f4 123 9).toNatClampNeg), .ref 123], am_SH, (f4, g))) rfl c15 ?_
    obtain ⟨f5, Ef5, h⟩ := am_let_eq h
    refine am_Ev.go hcd 1 (s' := (32, [(0, .ref 123)], [], am_SH, (f5, g))) (by subst Ef5; exact rfl) ?_
    exact am_Ev.cast (a := (none, am_SH, (f5, g))) (by cases h; rfl) (am_Ev.ret hcd rfl)
  have hLt2 : ∀ tt, tt = t2 → am_Ev sc (d) 111 (11, [(0, .ref 123)], [], am_SH, (tt, g)) (none, am_SH, (r, g)) := fun tt htt => by subst htt; exact hKt2
  have h := ht2
  refine am_Ev.go hcd 4 (s' := (4, [(0, .ref 123)], [.int (f 123 8), .int (f 123 9)], am_SH, (f, g))) rfl ?_
  rcases am_itv h with ⟨c23, h⟩ | ⟨c23, h⟩
  · refine am_Ev.t hcd (c := f 123 9 < f 123 8) (s1 := (5, [(0, .ref 123)], [], am_SH, (f, g))) rfl c23 ?_
    obtain ⟨f1, Ef1, h⟩ := am_let_eq' h
    refine am_Ev.go hcd 6 (s' := (11, [(0, .ref 123)], [], am_SH, (f1, g))) (by subst Ef1; exact rfl) ?_
    exact am_Ev.weak' (hLt2 f1 h.symm) (am_sub_cons rfl am_sub_nil) rfl
  · refine am_Ev.f hcd (c := f 123 9 < f 123 8) (s1 := (11, [(0, .ref 123)], [], am_SH, (f, g))) rfl c23 ?_
    exact am_Ev.weak' (hLt2 f h.symm) (am_sub_cons rfl am_sub_nil) rfl
