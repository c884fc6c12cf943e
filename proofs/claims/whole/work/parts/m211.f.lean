set_option maxRecDepth 100000 in
set_option maxHeartbeats 4000000 in
theorem xs_readLine_ok {sc : Nat × (Nat → Int32)} (d : Nat) (a0 : Int32) (a1 : Int32) (f g : (Nat → Nat → Int32)) (r : Bool × (Nat → Nat → Int32)) (h : xs_readLine a0 a1 f = some r) : am_Ev sc (d + 4) 98 (0, [(0, .ref 128), (1, .int a0), (2, .int a1)], [], am_SH, (f, g)) ((some (.int (am_b r.1))), am_SH, (r.2, g)) := by
  have hcd : am_code 98 = am_c98 := rfl
  unfold xs_readLine at h
  refine am_Ev.go hcd 2 (s' := (2, [(0, .ref 128), (1, .int a0), (2, .int a1)], [.int 1, .int a0], am_SH, (f, g))) rfl ?_
  rcases am_ite h with ⟨c2, h⟩ | ⟨c2, h⟩
  · refine am_Ev.t hcd (c := a0 = 1) (s1 := (3, [(0, .ref 128), (1, .int a0), (2, .int a1)], [], am_SH, (f, g))) rfl c2 ?_
    refine am_Ev.go hcd 2 (s' := (5, [(0, .ref 128), (1, .int a0), (2, .int a1)], [.int a1, .ref 128], am_SH, (f, g))) rfl ?_
    obtain ⟨p1, hp1, h⟩ := am_bind_some h
    refine am_Ev.call hcd (a := 99) (s0 := (0, [(0, .ref 128), (1, .int a1)], [], am_SH, (f, g))) (q := ((some (.int (am_b p1.1))), am_SH, (p1.2, g))) (s1 := (6, [(0, .ref 128), (1, .int a0), (2, .int a1)], [.int (am_b p1.1)], am_SH, (p1.2, g))) rfl rfl (xs_readWalkLine_ok (d + 1) a1 f g p1 hp1) ?_
    exact am_Ev.cast (a := ((some (.int (am_b (p1.1, p1.2).1))), am_SH, ((p1.1, p1.2).2, g))) (by cases h; rfl) (am_Ev.retb hcd rfl)
  · refine am_Ev.f hcd (c := a0 = 1) (s1 := (7, [(0, .ref 128), (1, .int a0), (2, .int a1)], [], am_SH, (f, g))) rfl c2 ?_
    refine am_Ev.go hcd 2 (s' := (9, [(0, .ref 128), (1, .int a0), (2, .int a1)], [.int 2, .int a0], am_SH, (f, g))) rfl ?_
    rcases am_ite h with ⟨c10, h⟩ | ⟨c10, h⟩
    · refine am_Ev.t hcd (c := a0 = 2) (s1 := (10, [(0, .ref 128), (1, .int a0), (2, .int a1)], [], am_SH, (f, g))) rfl c10 ?_
      refine am_Ev.go hcd 1 (s' := (11, [(0, .ref 128), (1, .int a0), (2, .int a1)], [.ref 128], am_SH, (f, g))) rfl ?_
      obtain ⟨p2, hp2, h⟩ := am_bind_some h
      refine am_Ev.call hcd (a := 100) (s0 := (0, [(0, .ref 128)], [], am_SH, (f, g))) (q := ((some (.int (am_b p2.1))), am_SH, (p2.2, g))) (s1 := (12, [(0, .ref 128), (1, .int a0), (2, .int a1)], [.int (am_b p2.1)], am_SH, (p2.2, g))) rfl rfl (xs_readNearLine_ok (d)  f g p2 hp2) ?_
      refine am_Ev.go hcd 1 (s' := (15, [(0, .ref 128), (1, .int a0), (2, .int a1)], [.int (am_b p2.1)], am_SH, (p2.2, g))) rfl ?_
      exact am_Ev.cast (a := ((some (.int (am_b (p2.1, p2.2).1))), am_SH, ((p2.1, p2.2).2, g))) (by cases h; rfl) (am_Ev.retb hcd rfl)
    · refine am_Ev.f hcd (c := a0 = 2) (s1 := (13, [(0, .ref 128), (1, .int a0), (2, .int a1)], [], am_SH, (f, g))) rfl c10 ?_
      refine am_Ev.go hcd 1 (s' := (14, [(0, .ref 128), (1, .int a0), (2, .int a1)], [.ref 128], am_SH, (f, g))) rfl ?_
      obtain ⟨p3, hp3, h⟩ := am_bind_some h
      refine am_Ev.call hcd (a := 101) (s0 := (0, [(0, .ref 128)], [], am_SH, (f, g))) (q := ((some (.int (am_b p3.1))), am_SH, (p3.2, g))) (s1 := (15, [(0, .ref 128), (1, .int a0), (2, .int a1)], [.int (am_b p3.1)], am_SH, (p3.2, g))) rfl rfl (xs_readKeepsLine_ok (d)  f g p3 hp3) ?_
      exact am_Ev.cast (a := ((some (.int (am_b (p3.1, p3.2).1))), am_SH, ((p3.1, p3.2).2, g))) (by cases h; rfl) (am_Ev.retb hcd rfl)
set_option maxRecDepth 100000 in
set_option maxHeartbeats 4000000 in
theorem xs_readText_2_ok {sc : Nat × (Nat → Int32)} (d : Nat) (a0 : Int32) (f g : (Nat → Nat → Int32)) (r : Int32 × (Nat → Nat → Int32)) (h : xs_readText_2 a0 f = some r) : am_Ev sc (d + 45) 90 (0, [(0, .ref 128), (1, .int a0), (2, .ref 2)], [], am_SH, (f, g)) ((some (.int r.1)), am_SH, (r.2, g)) := by
  have hcd : am_code 90 = am_c90 := rfl
  unfold xs_readText_2 at h
  obtain ⟨f1, Ef1, h⟩ := am_let_eq h
  refine am_Ev.go hcd 3 (s' := (3, [(0, .ref 128), (1, .int a0), (2, .ref 2)], [], am_SH, (f1, g))) (by subst Ef1; exact rfl) ?_
  obtain ⟨f2, Ef2, h⟩ := am_let_eq h
  refine am_Ev.go hcd 3 (s' := (6, [(0, .ref 128), (1, .int a0), (2, .ref 2)], [], am_SH, (f2, g))) (by subst Ef2; exact rfl) ?_
  refine am_Ev.go hcd 1 (s' := (7, [(0, .ref 128), (1, .int a0), (2, .ref 2)], [.int a0], am_SH, (f2, g))) rfl ?_
  rcases am_ite h with ⟨c6, h⟩ | ⟨c6, h⟩
  · refine am_Ev.t hcd (c := a0 < 0) (s1 := (11, [(0, .ref 128), (1, .int a0), (2, .ref 2)], [], am_SH, (f2, g))) rfl c6 ?_
    refine am_Ev.go hcd 1 (s' := (12, [(0, .ref 128), (1, .int a0), (2, .ref 2)], [.int (-1)], am_SH, (f2, g))) rfl ?_
    exact am_Ev.cast (a := ((some (.int ((-1), f2).1)), am_SH, (((-1), f2).2, g))) (by cases h; rfl) (am_Ev.ret hcd rfl)
  · refine am_Ev.f hcd (c := a0 < 0) (s1 := (8, [(0, .ref 128), (1, .int a0), (2, .ref 2)], [], am_SH, (f2, g))) rfl c6 ?_
    refine am_Ev.go hcd 2 (s' := (10, [(0, .ref 128), (1, .int a0), (2, .ref 2)], [.int 3, .int a0], am_SH, (f2, g))) rfl ?_
    rcases am_ite h with ⟨c12, h⟩ | ⟨c12, h⟩
    · refine am_Ev.t hcd (c := 3 < a0) (s1 := (11, [(0, .ref 128), (1, .int a0), (2, .ref 2)], [], am_SH, (f2, g))) rfl c12 ?_
      refine am_Ev.go hcd 1 (s' := (12, [(0, .ref 128), (1, .int a0), (2, .ref 2)], [.int (-1)], am_SH, (f2, g))) rfl ?_
      exact am_Ev.cast (a := ((some (.int ((-1), f2).1)), am_SH, (((-1), f2).2, g))) (by cases h; rfl) (am_Ev.ret hcd rfl)
    · refine am_Ev.f hcd (c := 3 < a0) (s1 := (13, [(0, .ref 128), (1, .int a0), (2, .ref 2)], [], am_SH, (f2, g))) rfl c12 ?_
      obtain ⟨f3, Ef3, h⟩ := am_let_eq h
      refine am_Ev.go hcd 4 (s' := (17, [(0, .ref 128), (1, .int a0), (2, .ref 2)], [], am_SH, (f3, g))) (by subst Ef3; exact rfl) ?_
      obtain ⟨f4, Ef4, h⟩ := am_let_eq h
      refine am_Ev.go hcd 4 (s' := (21, [(0, .ref 128), (1, .int a0), (2, .ref 2)], [], am_SH, (f4, g))) (by subst Ef4; exact rfl) ?_
      obtain ⟨f5, Ef5, h⟩ := am_let_eq h
      refine am_Ev.go hcd 4 (s' := (25, [(0, .ref 128), (1, .int a0), (2, .ref 2)], [], am_SH, (f5, g))) (by subst Ef5; exact rfl) ?_
      refine am_Ev.go hcd 2 (s' := (27, [(0, .ref 128), (1, .int a0), (2, .ref 2)], [.ref 140], am_SH, (f5, g))) rfl ?_
      obtain ⟨p6, hp6, h⟩ := am_bind_some h
      refine am_Ev.call hcd (a := 82) (s0 := (0, [(0, .ref 140)], [], am_SH, (f5, g))) (q := (none, am_SH, (p6, g))) (s1 := (28, [(0, .ref 128), (1, .int a0), (2, .ref 2)], [], am_SH, (p6, g))) rfl rfl (xn_clearAll_140_ok (d + 44)  f5 g p6 hp6) ?_
      refine am_Ev.go hcd 2 (s' := (30, [(0, .ref 128), (1, .int a0), (2, .ref 2), (3, .int 0)], [], am_SH, (p6, g))) rfl ?_
      obtain ⟨e10, he10, h⟩ := am_bind_some h
      have hK7 : (fun (e10 : (Nat → Nat → Int32)) => am_Ev sc (d + 45) 90 (40, [(0, .ref 128), (1, .int a0)], [], am_SH, (e10, g)) ((some (.int r.1)), am_SH, (r.2, g))) e10 := by
        show am_Ev sc (d + 45) 90 (40, [(0, .ref 128), (1, .int a0)], [], am_SH, (e10, g)) ((some (.int r.1)), am_SH, (r.2, g))
        refine am_Ev.go hcd 3 (s' := (43, [(0, .ref 128), (1, .int a0)], [.int a0, .ref 123], am_SH, (e10, g))) rfl ?_
        refine am_Ev.call hcd (a := 91) (s0 := (0, [(0, .int a0)], [], am_SH, (e10, g))) (q := ((some (.retAddr (xs_wordsOf a0))), am_SH, (e10, g))) (s1 := (44, [(0, .ref 128), (1, .int a0)], [.retAddr (xs_wordsOf a0), .ref 123], am_SH, (e10, g))) rfl rfl (xs_wordsOf_ok (d + 44) a0 (e10, g)) ?_
        obtain ⟨p12, hp12, h⟩ := am_bind_some h
        refine am_Ev.call hcd (a := 110) (s0 := (0, [(0, .ref 123), (1, .retAddr (xs_wordsOf a0))], [], am_SH, (e10, g))) (q := (none, am_SH, (p12, g))) (s1 := (45, [(0, .ref 128), (1, .int a0)], [], am_SH, (p12, g))) rfl rfl (xt_split_ok (d + 41) (xs_wordsOf a0) e10 g p12 hp12) ?_
        refine am_Ev.go hcd 2 (s' := (47, [(0, .ref 128), (1, .int a0), (3, .int 0)], [], am_SH, (p12, g))) rfl ?_
        obtain ⟨e22, he22, h⟩ := am_bind_some h
        have hK13 : (fun (v : (Int32 × (Nat → Nat → Int32)) ⊕ (Int32 × (Nat → Nat → Int32))) => v.elim (fun (v : Int32 × (Nat → Nat → Int32)) => (((some (.int v.1)), am_SH, (v.2, g)) : am_R) = ((some (.int r.1)), am_SH, (r.2, g))) (fun (e23 : Int32 × (Nat → Nat → Int32)) => am_Ev sc (d + 45) 90 (86, [(0, .ref 128), (3, .int e23.1)], [], am_SH, (e23.2, g)) ((some (.int r.1)), am_SH, (r.2, g)))) e22 := by
          cases e22 with
          | inl v => exact (by cases h; rfl)
          | inr e23 =>
            have h := am_elim_r h
            show am_Ev sc (d + 45) 90 (86, [(0, .ref 128), (3, .int e23.1)], [], am_SH, (e23.2, g)) ((some (.int r.1)), am_SH, (r.2, g))
            obtain ⟨f24, Ef24, h⟩ := am_let_eq h
            refine am_Ev.go hcd 4 (s' := (90, [(0, .ref 128), (3, .int e23.1)], [], am_SH, (f24, g))) (by subst Ef24; exact rfl) ?_
            obtain ⟨f25, Ef25, h⟩ := am_let_eq h
            refine am_Ev.go hcd 4 (s' := (94, [(0, .ref 128), (3, .int e23.1)], [], am_SH, (f25, g))) (by subst Ef25; exact rfl) ?_
            obtain ⟨f26, Ef26, h⟩ := am_let_eq h
            refine am_Ev.go hcd 4 (s' := (98, [(0, .ref 128), (3, .int e23.1)], [], am_SH, (f26, g))) (by subst Ef26; exact rfl) ?_
            refine am_Ev.go hcd 1 (s' := (99, [(0, .ref 128), (3, .int e23.1)], [.int e23.1], am_SH, (f26, g))) rfl ?_
            exact am_Ev.cast (a := ((some (.int (e23.1, f26).1)), am_SH, ((e23.1, f26).2, g))) (by cases h; rfl) (am_Ev.ret hcd rfl)
        refine am_Ev.weak' (am_loop_ok (G := fun (s13 : Int32 × (Nat → Nat → Int32)) => am_Ev sc (d + 45) 90 (47, [(0, .ref 128), (1, .int a0), (3, .int s13.1)], [], am_SH, (s13.2, g)) ((some (.int r.1)), am_SH, (r.2, g))) (Z := fun (v : (Int32 × (Nat → Nat → Int32)) ⊕ (Int32 × (Nat → Nat → Int32))) => v.elim (fun (v : Int32 × (Nat → Nat → Int32)) => (((some (.int v.1)), am_SH, (v.2, g)) : am_R) = ((some (.int r.1)), am_SH, (r.2, g))) (fun (e23 : Int32 × (Nat → Nat → Int32)) => am_Ev sc (d + 45) 90 (86, [(0, .ref 128), (3, .int e23.1)], [], am_SH, (e23.2, g)) ((some (.int r.1)), am_SH, (r.2, g)))) ?_ am_F (0, p12) e22 he22 hK13) (am_sub_cons rfl (am_sub_cons rfl (am_sub_cons rfl am_sub_nil))) rfl
        intro s13 q13 h hI13 hZ13
        show am_Ev sc (d + 45) 90 (47, [(0, .ref 128), (1, .int a0), (3, .int s13.1)], [], am_SH, (s13.2, g)) ((some (.int r.1)), am_SH, (r.2, g))
        refine am_Ev.go hcd 2 (s' := (49, [(0, .ref 128), (1, .int a0), (3, .int s13.1)], [.int 16, .int s13.1], am_SH, (s13.2, g))) rfl ?_
        rcases am_ite h with ⟨c54, h⟩ | ⟨c54, h⟩
        · refine am_Ev.t hcd (c := 16 < s13.1) (s1 := (86, [(0, .ref 128), (1, .int a0), (3, .int s13.1)], [], am_SH, (s13.2, g))) rfl c54 ?_
          exact am_Ev.weak' (hZ13 (.inr (s13.1, s13.2)) (Option.some.inj h).symm) (am_sub_cons rfl (am_sub_cons rfl am_sub_nil)) rfl
        · refine am_Ev.f hcd (c := 16 < s13.1) (s1 := (50, [(0, .ref 128), (1, .int a0), (3, .int s13.1)], [], am_SH, (s13.2, g))) rfl c54 ?_
          refine am_Ev.go hcd 3 (s' := (53, [(0, .ref 128), (1, .int a0), (3, .int s13.1)], [.int (s13.2 123 1)], am_SH, (s13.2, g))) rfl ?_
          rcases am_ite h with ⟨c59, h⟩ | ⟨c59, h⟩
          · refine am_Ev.t hcd (c := s13.2 123 1 = 0) (s1 := (86, [(0, .ref 128), (1, .int a0), (3, .int s13.1)], [], am_SH, (s13.2, g))) rfl c59 ?_
            exact am_Ev.weak' (hZ13 (.inr (s13.1, s13.2)) (Option.some.inj h).symm) (am_sub_cons rfl (am_sub_cons rfl am_sub_nil)) rfl
          · refine am_Ev.f hcd (c := s13.2 123 1 = 0) (s1 := (54, [(0, .ref 128), (1, .int a0), (3, .int s13.1)], [], am_SH, (s13.2, g))) rfl c59 ?_
            obtain ⟨t14, Et14, h⟩ := am_let_eq h
            refine am_Ev.go hcd 4 (s' := (58, [(0, .ref 128), (1, .int a0), (3, .int s13.1), (4, .int t14)], [], am_SH, (s13.2, g))) (by subst Et14; exact rfl) ?_
            refine am_Ev.go hcd 3 (s' := (61, [(0, .ref 128), (1, .int a0), (3, .int s13.1), (4, .int t14)], [.int s13.1, .int a0, .ref 128], am_SH, (s13.2, g))) rfl ?_
            obtain ⟨p15, hp15, h⟩ := am_bind_some h
            refine am_Ev.call hcd (a := 93) (s0 := (0, [(0, .ref 128), (1, .int a0), (2, .int s13.1)], [], am_SH, (s13.2, g))) (q := ((some (.int (am_b p15.1))), am_SH, (p15.2, g))) (s1 := (62, [(0, .ref 128), (1, .int a0), (3, .int s13.1), (4, .int t14)], [.int (am_b p15.1)], am_SH, (p15.2, g))) rfl rfl (xs_takeHead_ok (d + 43) a0 s13.1 s13.2 g p15 hp15) ?_
            rcases am_ite h with ⟨c69, h⟩ | ⟨c69, h⟩
            · refine am_Ev.f hcd (c := am_b p15.1 = 0) (s1 := (65, [(0, .ref 128), (1, .int a0), (3, .int s13.1), (4, .int t14)], [], am_SH, (p15.2, g))) rfl (am_b_t c69) ?_
              refine am_Ev.go hcd 1 (s' := (66, [(0, .ref 128), (1, .int a0), (3, .int s13.1), (4, .int t14)], [.int a0], am_SH, (p15.2, g))) rfl ?_
              rcases am_ite h with ⟨c71, h⟩ | ⟨c71, h⟩
              · refine am_Ev.t hcd (c := a0 = 0) (s1 := (67, [(0, .ref 128), (1, .int a0), (3, .int s13.1), (4, .int t14)], [], am_SH, (p15.2, g))) rfl c71 ?_
                refine am_Ev.go hcd 3 (s' := (70, [(0, .ref 128), (1, .int a0), (3, .int s13.1), (4, .int t14)], [.int t14, .int s13.1, .ref 128], am_SH, (p15.2, g))) rfl ?_
                obtain ⟨p16, hp16, h⟩ := am_bind_some h
                refine am_Ev.call hcd (a := 102) (s0 := (0, [(0, .ref 128), (1, .int s13.1), (2, .int t14)], [], am_SH, (p15.2, g))) (q := ((some (.int (am_b p16.1))), am_SH, (p16.2, g))) (s1 := (71, [(0, .ref 128), (1, .int a0), (3, .int s13.1), (4, .int t14)], [.int (am_b p16.1)], am_SH, (p16.2, g))) rfl rfl (xs_readLawLine_ok (d) s13.1 t14 p15.2 g p16 hp16) ?_
                rcases am_ite h with ⟨c77, h⟩ | ⟨c77, h⟩
                · refine am_Ev.f hcd (c := am_b p16.1 = 0) (s1 := (72, [(0, .ref 128), (1, .int a0), (3, .int s13.1), (4, .int t14)], [], am_SH, (p16.2, g))) rfl (am_b_t c77) ?_
                  refine am_Ev.go hcd 3 (s' := (80, [(0, .ref 128), (1, .int a0), (3, .int s13.1), (4, .int t14)], [.int 59, .ref 128], am_SH, (p16.2, g))) rfl ?_
                  obtain ⟨p17, hp17, h⟩ := am_bind_some h
                  refine am_Ev.call hcd (a := 94) (s0 := (0, [(0, .ref 128), (1, .int 59)], [], am_SH, (p16.2, g))) (q := ((some (.int (am_b p17.1))), am_SH, (p17.2, g))) (s1 := (81, [(0, .ref 128), (1, .int a0), (3, .int s13.1), (4, .int t14)], [.int (am_b p17.1)], am_SH, (p17.2, g))) rfl rfl (xs_takeSign_ok (d + 43) 59 p16.2 g p17 hp17) ?_
                  rcases am_ite h with ⟨c82, h⟩ | ⟨c82, h⟩
                  · refine am_Ev.f hcd (c := am_b p17.1 = 0) (s1 := (84, [(0, .ref 128), (1, .int a0), (3, .int s13.1), (4, .int t14)], [], am_SH, (p17.2, g))) rfl (am_b_t c82) ?_
                    obtain ⟨t18, Et18, h⟩ := am_let_eq h
                    refine am_Ev.go hcd 1 (s' := (85, [(0, .ref 128), (1, .int a0), (3, .int t18), (4, .int t14)], [], am_SH, (p17.2, g))) (by subst Et18; exact rfl) ?_
                    refine am_Ev.go hcd 1 (s' := (47, [(0, .ref 128), (1, .int a0), (3, .int t18), (4, .int t14)], [], am_SH, (p17.2, g))) rfl ?_
                    exact am_Ev.weak' (hI13 (t18, p17.2) (Option.some.inj h).symm) (am_sub_cons rfl (am_sub_cons rfl (am_sub_cons rfl am_sub_nil))) rfl
                  · refine am_Ev.t hcd (c := am_b p17.1 = 0) (s1 := (82, [(0, .ref 128), (1, .int a0), (3, .int s13.1), (4, .int t14)], [], am_SH, (p17.2, g))) rfl (am_b_f c82) ?_
                    refine am_Ev.go hcd 1 (s' := (83, [(0, .ref 128), (1, .int a0), (3, .int s13.1), (4, .int t14)], [.int (-1)], am_SH, (p17.2, g))) rfl ?_
                    exact am_Ev.cast (a := ((some (.int ((-1), p17.2).1)), am_SH, (((-1), p17.2).2, g))) (hZ13 _ (Option.some.inj h).symm) (am_Ev.ret hcd rfl)
                · refine am_Ev.t hcd (c := am_b p16.1 = 0) (s1 := (82, [(0, .ref 128), (1, .int a0), (3, .int s13.1), (4, .int t14)], [], am_SH, (p16.2, g))) rfl (am_b_f c77) ?_
                  refine am_Ev.go hcd 1 (s' := (83, [(0, .ref 128), (1, .int a0), (3, .int s13.1), (4, .int t14)], [.int (-1)], am_SH, (p16.2, g))) rfl ?_
                  exact am_Ev.cast (a := ((some (.int ((-1), p16.2).1)), am_SH, (((-1), p16.2).2, g))) (hZ13 _ (Option.some.inj h).symm) (am_Ev.ret hcd rfl)
              · refine am_Ev.f hcd (c := a0 = 0) (s1 := (73, [(0, .ref 128), (1, .int a0), (3, .int s13.1), (4, .int t14)], [], am_SH, (p15.2, g))) rfl c71 ?_
                refine am_Ev.go hcd 3 (s' := (76, [(0, .ref 128), (1, .int a0), (3, .int s13.1), (4, .int t14)], [.int s13.1, .int a0, .ref 128], am_SH, (p15.2, g))) rfl ?_
                obtain ⟨p19, hp19, h⟩ := am_bind_some h
                refine am_Ev.call hcd (a := 98) (s0 := (0, [(0, .ref 128), (1, .int a0), (2, .int s13.1)], [], am_SH, (p15.2, g))) (q := ((some (.int (am_b p19.1))), am_SH, (p19.2, g))) (s1 := (77, [(0, .ref 128), (1, .int a0), (3, .int s13.1), (4, .int t14)], [.int (am_b p19.1)], am_SH, (p19.2, g))) rfl rfl (xs_readLine_ok (d + 40) a0 s13.1 p15.2 g p19 hp19) ?_
                rcases am_ite h with ⟨c98, h⟩ | ⟨c98, h⟩
                · refine am_Ev.f hcd (c := am_b p19.1 = 0) (s1 := (78, [(0, .ref 128), (1, .int a0), (3, .int s13.1), (4, .int t14)], [], am_SH, (p19.2, g))) rfl (am_b_t c98) ?_
                  refine am_Ev.go hcd 2 (s' := (80, [(0, .ref 128), (1, .int a0), (3, .int s13.1), (4, .int t14)], [.int 59, .ref 128], am_SH, (p19.2, g))) rfl ?_
                  obtain ⟨p20, hp20, h⟩ := am_bind_some h
                  refine am_Ev.call hcd (a := 94) (s0 := (0, [(0, .ref 128), (1, .int 59)], [], am_SH, (p19.2, g))) (q := ((some (.int (am_b p20.1))), am_SH, (p20.2, g))) (s1 := (81, [(0, .ref 128), (1, .int a0), (3, .int s13.1), (4, .int t14)], [.int (am_b p20.1)], am_SH, (p20.2, g))) rfl rfl (xs_takeSign_ok (d + 43) 59 p19.2 g p20 hp20) ?_
                  rcases am_ite h with ⟨c103, h⟩ | ⟨c103, h⟩
                  · refine am_Ev.f hcd (c := am_b p20.1 = 0) (s1 := (84, [(0, .ref 128), (1, .int a0), (3, .int s13.1), (4, .int t14)], [], am_SH, (p20.2, g))) rfl (am_b_t c103) ?_
                    obtain ⟨t21, Et21, h⟩ := am_let_eq h
                    refine am_Ev.go hcd 1 (s' := (85, [(0, .ref 128), (1, .int a0), (3, .int t21), (4, .int t14)], [], am_SH, (p20.2, g))) (by subst Et21; exact rfl) ?_
                    refine am_Ev.go hcd 1 (s' := (47, [(0, .ref 128), (1, .int a0), (3, .int t21), (4, .int t14)], [], am_SH, (p20.2, g))) rfl ?_
                    exact am_Ev.weak' (hI13 (t21, p20.2) (Option.some.inj h).symm) (am_sub_cons rfl (am_sub_cons rfl (am_sub_cons rfl am_sub_nil))) rfl
                  · refine am_Ev.t hcd (c := am_b p20.1 = 0) (s1 := (82, [(0, .ref 128), (1, .int a0), (3, .int s13.1), (4, .int t14)], [], am_SH, (p20.2, g))) rfl (am_b_f c103) ?_
                    refine am_Ev.go hcd 1 (s' := (83, [(0, .ref 128), (1, .int a0), (3, .int s13.1), (4, .int t14)], [.int (-1)], am_SH, (p20.2, g))) rfl ?_
                    exact am_Ev.cast (a := ((some (.int ((-1), p20.2).1)), am_SH, (((-1), p20.2).2, g))) (hZ13 _ (Option.some.inj h).symm) (am_Ev.ret hcd rfl)
                · refine am_Ev.t hcd (c := am_b p19.1 = 0) (s1 := (82, [(0, .ref 128), (1, .int a0), (3, .int s13.1), (4, .int t14)], [], am_SH, (p19.2, g))) rfl (am_b_f c98) ?_
                  refine am_Ev.go hcd 1 (s' := (83, [(0, .ref 128), (1, .int a0), (3, .int s13.1), (4, .int t14)], [.int (-1)], am_SH, (p19.2, g))) rfl ?_
                  exact am_Ev.cast (a := ((some (.int ((-1), p19.2).1)), am_SH, (((-1), p19.2).2, g))) (hZ13 _ (Option.some.inj h).symm) (am_Ev.ret hcd rfl)
            · refine am_Ev.t hcd (c := am_b p15.1 = 0) (s1 := (63, [(0, .ref 128), (1, .int a0), (3, .int s13.1), (4, .int t14)], [], am_SH, (p15.2, g))) rfl (am_b_f c69) ?_
              refine am_Ev.go hcd 1 (s' := (64, [(0, .ref 128), (1, .int a0), (3, .int s13.1), (4, .int t14)], [.int (-1)], am_SH, (p15.2, g))) rfl ?_
              exact am_Ev.cast (a := ((some (.int ((-1), p15.2).1)), am_SH, (((-1), p15.2).2, g))) (hZ13 _ (Option.some.inj h).symm) (am_Ev.ret hcd rfl)
      refine am_Ev.weak' (am_loop_ok (G := fun (s7 : Int32 × (Nat → Nat → Int32)) => am_Ev sc (d + 45) 90 (30, [(0, .ref 128), (1, .int a0), (3, .int s7.1)], [], am_SH, (s7.2, g)) ((some (.int r.1)), am_SH, (r.2, g))) (Z := fun (e10 : (Nat → Nat → Int32)) => am_Ev sc (d + 45) 90 (40, [(0, .ref 128), (1, .int a0)], [], am_SH, (e10, g)) ((some (.int r.1)), am_SH, (r.2, g))) ?_ am_F (0, p6) e10 he10 hK7) (am_sub_cons rfl (am_sub_cons rfl (am_sub_cons rfl am_sub_nil))) rfl
      intro s7 q7 h hI7 hZ7
      show am_Ev sc (d + 45) 90 (30, [(0, .ref 128), (1, .int a0), (3, .int s7.1)], [], am_SH, (s7.2, g)) ((some (.int r.1)), am_SH, (r.2, g))
      refine am_Ev.go hcd 2 (s' := (32, [(0, .ref 128), (1, .int a0), (3, .int s7.1)], [.int 12, .int s7.1], am_SH, (s7.2, g))) rfl ?_
      rcases am_ite h with ⟨c121, h⟩ | ⟨c121, h⟩
      · refine am_Ev.t hcd (c := s7.1 < 12) (s1 := (33, [(0, .ref 128), (1, .int a0), (3, .int s7.1)], [], am_SH, (s7.2, g))) rfl c121 ?_
        refine am_Ev.go hcd 4 (s' := (37, [(0, .ref 128), (1, .int a0), (3, .int s7.1)], [.int 0, .int s7.1, .ref 142], am_SH, (s7.2, g))) rfl ?_
        obtain ⟨c124, h⟩ := am_grd h
        obtain ⟨f8, Ef8, h⟩ := am_let_eq h
        refine am_Ev.t hcd (o := none) (c := am_in s7.1 12 = true) (s1 := (38, [(0, .ref 128), (1, .int a0), (3, .int s7.1)], [], am_SH, (f8, g))) (by subst Ef8; exact rfl) c124 ?_
        obtain ⟨t9, Et9, h⟩ := am_let_eq h
        refine am_Ev.go hcd 1 (s' := (39, [(0, .ref 128), (1, .int a0), (3, .int t9)], [], am_SH, (f8, g))) (by subst Et9; exact rfl) ?_
        refine am_Ev.go hcd 1 (s' := (30, [(0, .ref 128), (1, .int a0), (3, .int t9)], [], am_SH, (f8, g))) rfl ?_
        exact am_Ev.weak' (hI7 (t9, f8) (Option.some.inj h).symm) (am_sub_cons rfl (am_sub_cons rfl (am_sub_cons rfl am_sub_nil))) rfl
      · refine am_Ev.f hcd (c := s7.1 < 12) (s1 := (40, [(0, .ref 128), (1, .int a0), (3, .int s7.1)], [], am_SH, (s7.2, g))) rfl c121 ?_
        exact am_Ev.weak' (hZ7 s7.2 (Option.some.inj h).symm) (am_sub_cons rfl (am_sub_cons rfl am_sub_nil)) rfl
set_option maxRecDepth 100000 in
set_option maxHeartbeats 4000000 in
theorem xl_takeFrom_14_129_ok {sc : Nat × (Nat → Int32)} (d : Nat)  (f g : (Nat → Nat → Int32)) : am_Ev sc (d + 1) 33 (0, [(0, .ref 14), (1, .ref 129)], [], am_SH, (f, g)) (none, am_SH, ((xl_takeFrom_14_129  f), g)) := by
  have hcd : am_code 33 = am_c33 := rfl
  obtain ⟨r, h⟩ : ∃ r, r = xl_takeFrom_14_129  f := ⟨_, rfl⟩
  rw [← h]
  unfold xl_takeFrom_14_129 at h
  obtain ⟨f1, Ef1, h⟩ := am_let_eq' h
  refine am_Ev.go hcd 4 (s' := (4, [(0, .ref 14), (1, .ref 129)], [], am_SH, (f1, g))) (by subst Ef1; exact rfl) ?_
  obtain ⟨f2, Ef2, h⟩ := am_let_eq' h
  refine am_Ev.go hcd 4 (s' := (8, [(0, .ref 14), (1, .ref 129)], [], am_SH, (f2, g))) (by subst Ef2; exact rfl) ?_
  refine am_Ev.go hcd 9 (s' := (17, [(0, .ref 14), (1, .ref 129)], [.int (nI 400), .int 0, .ref 15, .int 0, .ref 130], am_SH, (f2, g))) rfl ?_
  obtain ⟨f3, Ef3, h⟩ := am_let_eq' h
  refine am_Ev.jdk hcd (s1 := (18, [(0, .ref 14), (1, .ref 129)], [], am_SH, (f3, g))) (by subst Ef3; exact rfl) ?_
  refine am_Ev.go hcd 7 (s' := (25, [(0, .ref 14), (1, .ref 129)], [.int 16, .int 0, .ref 16, .int 0, .ref 131], am_SH, (f3, g))) rfl ?_
  obtain ⟨f4, Ef4, h⟩ := am_let_eq' h
  refine am_Ev.jdk hcd (s1 := (26, [(0, .ref 14), (1, .ref 129)], [], am_SH, (f4, g))) (by subst Ef4; exact rfl) ?_
  refine am_Ev.go hcd 7 (s' := (33, [(0, .ref 14), (1, .ref 129)], [.int 16, .int 0, .ref 17, .int 0, .ref 132], am_SH, (f4, g))) rfl ?_
  obtain ⟨f5, Ef5, h⟩ := am_let_eq' h
  refine am_Ev.jdk hcd (s1 := (34, [(0, .ref 14), (1, .ref 129)], [], am_SH, (f5, g))) (by subst Ef5; exact rfl) ?_
  refine am_Ev.go hcd 7 (s' := (41, [(0, .ref 14), (1, .ref 129)], [.int 16, .int 0, .ref 18, .int 0, .ref 133], am_SH, (f5, g))) rfl ?_
  obtain ⟨f6, Ef6, h⟩ := am_let_eq' h
  refine am_Ev.jdk hcd (s1 := (42, [(0, .ref 14), (1, .ref 129)], [], am_SH, (f6, g))) (by subst Ef6; exact rfl) ?_
  refine am_Ev.go hcd 7 (s' := (49, [(0, .ref 14), (1, .ref 129)], [.int 16, .int 0, .ref 19, .int 0, .ref 134], am_SH, (f6, g))) rfl ?_
  obtain ⟨f7, Ef7, h⟩ := am_let_eq' h
  refine am_Ev.jdk hcd (s1 := (50, [(0, .ref 14), (1, .ref 129)], [], am_SH, (f7, g))) (by subst Ef7; exact rfl) ?_
  exact am_Ev.cast (a := (none, am_SH, (f7, g))) (by subst h; rfl) (am_Ev.ret hcd rfl)
set_option maxRecDepth 100000 in
set_option maxHeartbeats 4000000 in
theorem xw_takeFrom_20_135_ok {sc : Nat × (Nat → Int32)} (d : Nat)  (f g : (Nat → Nat → Int32)) : am_Ev sc (d + 1) 123 (0, [(0, .ref 20), (1, .ref 135)], [], am_SH, (f, g)) (none, am_SH, ((xw_takeFrom_20_135  f), g)) := by
  have hcd : am_code 123 = am_c123 := rfl
  obtain ⟨r, h⟩ : ∃ r, r = xw_takeFrom_20_135  f := ⟨_, rfl⟩
  rw [← h]
  unfold xw_takeFrom_20_135 at h
  obtain ⟨f1, Ef1, h⟩ := am_let_eq' h
  refine am_Ev.go hcd 4 (s' := (4, [(0, .ref 20), (1, .ref 135)], [], am_SH, (f1, g))) (by subst Ef1; exact rfl) ?_
  refine am_Ev.go hcd 7 (s' := (11, [(0, .ref 20), (1, .ref 135)], [.int 16, .int 0, .ref 21, .int 0, .ref 136], am_SH, (f1, g))) rfl ?_
  obtain ⟨f2, Ef2, h⟩ := am_let_eq' h
  refine am_Ev.jdk hcd (s1 := (12, [(0, .ref 20), (1, .ref 135)], [], am_SH, (f2, g))) (by subst Ef2; exact rfl) ?_
  refine am_Ev.go hcd 7 (s' := (19, [(0, .ref 20), (1, .ref 135)], [.int 16, .int 0, .ref 22, .int 0, .ref 137], am_SH, (f2, g))) rfl ?_
  obtain ⟨f3, Ef3, h⟩ := am_let_eq' h
  refine am_Ev.jdk hcd (s1 := (20, [(0, .ref 20), (1, .ref 135)], [], am_SH, (f3, g))) (by subst Ef3; exact rfl) ?_
  refine am_Ev.go hcd 7 (s' := (27, [(0, .ref 20), (1, .ref 135)], [.int 16, .int 0, .ref 23, .int 0, .ref 138], am_SH, (f3, g))) rfl ?_
  obtain ⟨f4, Ef4, h⟩ := am_let_eq' h
  refine am_Ev.jdk hcd (s1 := (28, [(0, .ref 20), (1, .ref 135)], [], am_SH, (f4, g))) (by subst Ef4; exact rfl) ?_
  refine am_Ev.go hcd 7 (s' := (35, [(0, .ref 20), (1, .ref 135)], [.int 16, .int 0, .ref 24, .int 0, .ref 139], am_SH, (f4, g))) rfl ?_
  obtain ⟨f5, Ef5, h⟩ := am_let_eq' h
  refine am_Ev.jdk hcd (s1 := (36, [(0, .ref 20), (1, .ref 135)], [], am_SH, (f5, g))) (by subst Ef5; exact rfl) ?_
  exact am_Ev.cast (a := (none, am_SH, (f5, g))) (by subst h; rfl) (am_Ev.ret hcd rfl)
set_option maxRecDepth 100000 in
set_option maxHeartbeats 4000000 in
theorem xn_takeFrom_25_140_ok {sc : Nat × (Nat → Int32)} (d : Nat)  (f g : (Nat → Nat → Int32)) : am_Ev sc (d + 1) 83 (0, [(0, .ref 25), (1, .ref 140)], [], am_SH, (f, g)) (none, am_SH, ((xn_takeFrom_25_140  f), g)) := by
  have hcd : am_code 83 = am_c83 := rfl
  obtain ⟨r, h⟩ : ∃ r, r = xn_takeFrom_25_140  f := ⟨_, rfl⟩
  rw [← h]
  unfold xn_takeFrom_25_140 at h
  obtain ⟨f1, Ef1, h⟩ := am_let_eq' h
  refine am_Ev.go hcd 4 (s' := (4, [(0, .ref 25), (1, .ref 140)], [], am_SH, (f1, g))) (by subst Ef1; exact rfl) ?_
  refine am_Ev.go hcd 9 (s' := (13, [(0, .ref 25), (1, .ref 140)], [.int (nI 256), .int 0, .ref 26, .int 0, .ref 141], am_SH, (f1, g))) rfl ?_
  obtain ⟨f2, Ef2, h⟩ := am_let_eq' h
  refine am_Ev.jdk hcd (s1 := (14, [(0, .ref 25), (1, .ref 140)], [], am_SH, (f2, g))) (by subst Ef2; exact rfl) ?_
  exact am_Ev.cast (a := (none, am_SH, (f2, g))) (by subst h; rfl) (am_Ev.ret hcd rfl)
set_option maxRecDepth 100000 in
set_option maxHeartbeats 4000000 in
theorem x_text_ok {sc : Nat × (Nat → Int32)} (d : Nat) (a0 : Int32) (f g : (Nat → Nat → Int32)) (r : Int32 × (Nat → Nat → Int32)) (h : x_text a0 f = some r) : am_Ev sc (d + 46) 135 (0, [(0, .ref 0), (1, .int a0)], [], am_SH, (f, g)) ((some (.int r.1)), am_SH, (r.2, g)) := by
  have hcd : am_code 135 = am_c135 := rfl
  unfold x_text at h
  refine am_Ev.go hcd 6 (s' := (6, [(0, .ref 0), (1, .int a0)], [.ref 2, .int a0, .ref 128], am_SH, (f, g))) rfl ?_
  obtain ⟨p1, hp1, h⟩ := am_bind_some h
  refine am_Ev.call hcd (a := 90) (s0 := (0, [(0, .ref 128), (1, .int a0), (2, .ref 2)], [], am_SH, (f, g))) (q := ((some (.int p1.1)), am_SH, (p1.2, g))) (s1 := (7, [(0, .ref 0), (1, .int a0)], [.int p1.1], am_SH, (p1.2, g))) rfl rfl (xs_readText_2_ok (d) a0 f g p1 hp1) ?_
  obtain ⟨f2, Ef2, h⟩ := am_let_eq h
  refine am_Ev.go hcd 5 (s' := (12, [(0, .ref 0), (1, .int a0), (2, .int p1.1)], [], am_SH, (f2, g))) (by subst Ef2; exact rfl) ?_
  refine am_Ev.go hcd 2 (s' := (14, [(0, .ref 0), (1, .int a0), (2, .int p1.1)], [.int (-1), .int p1.1], am_SH, (f2, g))) rfl ?_
  rcases am_ite h with ⟨c7, h⟩ | ⟨c7, h⟩
  · refine am_Ev.t hcd (c := p1.1 = (-1)) (s1 := (15, [(0, .ref 0), (1, .int a0), (2, .int p1.1)], [], am_SH, (f2, g))) rfl c7 ?_
    refine am_Ev.go hcd 1 (s' := (16, [(0, .ref 0), (1, .int a0), (2, .int p1.1)], [.int (-1)], am_SH, (f2, g))) rfl ?_
    exact am_Ev.cast (a := ((some (.int ((-1), f2).1)), am_SH, (((-1), f2).2, g))) (by cases h; rfl) (am_Ev.ret hcd rfl)
  · refine am_Ev.f hcd (c := p1.1 = (-1)) (s1 := (17, [(0, .ref 0), (1, .int a0), (2, .int p1.1)], [], am_SH, (f2, g))) rfl c7 ?_
    refine am_Ev.go hcd 1 (s' := (18, [(0, .ref 0), (1, .int a0), (2, .int p1.1)], [.int a0], am_SH, (f2, g))) rfl ?_
    refine am_Ev.one hcd (s' := (am_swt a0 [(0, 19), (1, 27), (2, 37)] 45, [(0, .ref 0), (1, .int a0), (2, .int p1.1)], [], am_SH, (f2, g))) rfl ?_
    rcases am_ite h with ⟨c15, h⟩ | ⟨c15, h⟩
    · rw [am_swt_t c15]
      refine am_Ev.go hcd 6 (s' := (25, [(0, .ref 0), (1, .int a0), (2, .int p1.1)], [.ref 129, .ref 14], am_SH, (f2, g))) rfl ?_
      obtain ⟨p3, Ep3, h⟩ := am_let_eq h
      refine am_Ev.call hcd (a := 33) (s0 := (0, [(0, .ref 14), (1, .ref 129)], [], am_SH, (f2, g))) (q := (none, am_SH, (p3, g))) (s1 := (26, [(0, .ref 0), (1, .int a0), (2, .int p1.1)], [], am_SH, (p3, g))) rfl rfl (by subst Ep3; exact xl_takeFrom_14_129_ok (d + 44)  f2 g) ?_
      refine am_Ev.go hcd 2 (s' := (64, [(0, .ref 0), (1, .int a0), (2, .int p1.1)], [.int p1.1], am_SH, (p3, g))) rfl ?_
      exact am_Ev.cast (a := ((some (.int (p1.1, p3).1)), am_SH, ((p1.1, p3).2, g))) (by cases h; rfl) (am_Ev.ret hcd rfl)
    rw [am_swt_f c15]
    rcases am_ite h with ⟨c23, h⟩ | ⟨c23, h⟩
    · rw [am_swt_t c23]
      refine am_Ev.go hcd 6 (s' := (33, [(0, .ref 0), (1, .int a0), (2, .int p1.1)], [.ref 135, .ref 20], am_SH, (f2, g))) rfl ?_
      obtain ⟨p4, Ep4, h⟩ := am_let_eq h
      refine am_Ev.call hcd (a := 123) (s0 := (0, [(0, .ref 20), (1, .ref 135)], [], am_SH, (f2, g))) (q := (none, am_SH, (p4, g))) (s1 := (34, [(0, .ref 0), (1, .int a0), (2, .int p1.1)], [], am_SH, (p4, g))) rfl rfl (by subst Ep4; exact xw_takeFrom_20_135_ok (d + 44)  f2 g) ?_
      refine am_Ev.go hcd 1 (s' := (35, [(0, .ref 0), (1, .int a0), (2, .int p1.1)], [.ref 0], am_SH, (p4, g))) rfl ?_
      obtain ⟨p5, Ep5, h⟩ := am_let_eq h
      refine am_Ev.call hcd (a := 173) (s0 := (0, [(0, .ref 0)], [], am_SH, (p4, g))) (q := (none, am_SH, (p5, g))) (s1 := (36, [(0, .ref 0), (1, .int a0), (2, .int p1.1)], [], am_SH, (p5, g))) rfl rfl (by subst Ep5; exact x_forgetPasts_ok (d + 45)  p4 g) ?_
      refine am_Ev.go hcd 2 (s' := (64, [(0, .ref 0), (1, .int a0), (2, .int p1.1)], [.int p1.1], am_SH, (p5, g))) rfl ?_
      exact am_Ev.cast (a := ((some (.int (p1.1, p5).1)), am_SH, ((p1.1, p5).2, g))) (by cases h; rfl) (am_Ev.ret hcd rfl)
    rw [am_swt_f c23]
    rcases am_ite h with ⟨c34, h⟩ | ⟨c34, h⟩
    · rw [am_swt_t c34]
      refine am_Ev.go hcd 6 (s' := (43, [(0, .ref 0), (1, .int a0), (2, .int p1.1)], [.ref 140, .ref 25], am_SH, (f2, g))) rfl ?_
      obtain ⟨p6, Ep6, h⟩ := am_let_eq h
      refine am_Ev.call hcd (a := 83) (s0 := (0, [(0, .ref 25), (1, .ref 140)], [], am_SH, (f2, g))) (q := (none, am_SH, (p6, g))) (s1 := (44, [(0, .ref 0), (1, .int a0), (2, .int p1.1)], [], am_SH, (p6, g))) rfl rfl (by subst Ep6; exact xn_takeFrom_25_140_ok (d + 44)  f2 g) ?_
      refine am_Ev.go hcd 2 (s' := (64, [(0, .ref 0), (1, .int a0), (2, .int p1.1)], [.int p1.1], am_SH, (p6, g))) rfl ?_
      exact am_Ev.cast (a := ((some (.int (p1.1, p6).1)), am_SH, ((p1.1, p6).2, g))) (by cases h; rfl) (am_Ev.ret hcd rfl)
    rw [am_swt_f c34]
    rw [am_swt_n]
    refine am_Ev.go hcd 10 (s' := (55, [(0, .ref 0), (1, .int a0), (2, .int p1.1)], [.int 12, .int 0, .ref 9, .int 0, .ref 142], am_SH, (f2, g))) rfl ?_
    obtain ⟨f7, Ef7, h⟩ := am_let_eq h
    refine am_Ev.jdk hcd (s1 := (56, [(0, .ref 0), (1, .int a0), (2, .int p1.1)], [], am_SH, (f7, g))) (by subst Ef7; exact rfl) ?_
    obtain ⟨f8, Ef8, h⟩ := am_let_eq h
    refine am_Ev.go hcd 5 (s' := (61, [(0, .ref 0), (1, .int a0), (2, .int p1.1)], [], am_SH, (f8, g))) (by subst Ef8; exact rfl) ?_
    refine am_Ev.go hcd 1 (s' := (62, [(0, .ref 0), (1, .int a0), (2, .int p1.1)], [.ref 0], am_SH, (f8, g))) rfl ?_
    obtain ⟨p9, Ep9, h⟩ := am_let_eq h
    refine am_Ev.call hcd (a := 173) (s0 := (0, [(0, .ref 0)], [], am_SH, (f8, g))) (q := (none, am_SH, (p9, g))) (s1 := (63, [(0, .ref 0), (1, .int a0), (2, .int p1.1)], [], am_SH, (p9, g))) rfl rfl (by subst Ep9; exact x_forgetPasts_ok (d + 45)  f8 g) ?_
    refine am_Ev.go hcd 1 (s' := (64, [(0, .ref 0), (1, .int a0), (2, .int p1.1)], [.int p1.1], am_SH, (p9, g))) rfl ?_
    exact am_Ev.cast (a := ((some (.int (p1.1, p9).1)), am_SH, ((p1.1, p9).2, g))) (by cases h; rfl) (am_Ev.ret hcd rfl)
set_option maxRecDepth 100000 in
set_option maxHeartbeats 4000000 in
theorem x_fault_ok {sc : Nat × (Nat → Int32)} (d : Nat) (a0 : Int32) (f g : (Nat → Nat → Int32)) : am_Ev sc (d) 136 (0, [(0, .ref 0), (1, .int a0)], [], am_SH, (f, g)) ((some (.int (x_fault a0 f))), am_SH, (f, g)) := by
  have hcd : am_code 136 = am_c136 := rfl
  obtain ⟨r, h⟩ : ∃ r, r = x_fault a0 f := ⟨_, rfl⟩
  rw [← h]
  unfold x_fault at h
  refine am_Ev.go hcd 1 (s' := (1, [(0, .ref 0), (1, .int a0)], [.int a0], am_SH, (f, g))) rfl ?_
  rcases am_itv h with ⟨c4, h⟩ | ⟨c4, h⟩
  · refine am_Ev.t hcd (c := a0 = 0) (s1 := (2, [(0, .ref 0), (1, .int a0)], [], am_SH, (f, g))) rfl c4 ?_
    refine am_Ev.go hcd 3 (s' := (5, [(0, .ref 0), (1, .int a0)], [.int (f 128 4)], am_SH, (f, g))) rfl ?_
    exact am_Ev.cast (a := ((some (.int (f 128 4 : Int32))), am_SH, (f, g))) (by subst h; rfl) (am_Ev.ret hcd rfl)
  · refine am_Ev.f hcd (c := a0 = 0) (s1 := (6, [(0, .ref 0), (1, .int a0)], [], am_SH, (f, g))) rfl c4 ?_
    refine am_Ev.go hcd 2 (s' := (8, [(0, .ref 0), (1, .int a0)], [.int 1, .int a0], am_SH, (f, g))) rfl ?_
    rcases am_itv h with ⟨c10, h⟩ | ⟨c10, h⟩
    · refine am_Ev.t hcd (c := a0 = 1) (s1 := (9, [(0, .ref 0), (1, .int a0)], [], am_SH, (f, g))) rfl c10 ?_
      refine am_Ev.go hcd 4 (s' := (14, [(0, .ref 0), (1, .int a0)], [.int (f 128 5)], am_SH, (f, g))) rfl ?_
      exact am_Ev.cast (a := ((some (.int (f 128 5 : Int32))), am_SH, (f, g))) (by subst h; rfl) (am_Ev.ret hcd rfl)
    · refine am_Ev.f hcd (c := a0 = 1) (s1 := (13, [(0, .ref 0), (1, .int a0)], [], am_SH, (f, g))) rfl c10 ?_
      refine am_Ev.go hcd 1 (s' := (14, [(0, .ref 0), (1, .int a0)], [.int (-1)], am_SH, (f, g))) rfl ?_
      exact am_Ev.cast (a := ((some (.int (-1))), am_SH, (f, g))) (by subst h; rfl) (am_Ev.ret hcd rfl)
set_option maxRecDepth 100000 in
set_option maxHeartbeats 4000000 in
theorem xb_lawTells_2_ok {sc : Nat × (Nat → Int32)} (d : Nat) (a0 : Int32) (a1 : Int32) (f g : (Nat → Nat → Int32)) (r : Int32 × (Nat → Nat → Int32)) (h : xb_lawTells_2 a0 a1 f = some r) : am_Ev sc (d + 3) 11 (0, [(0, .ref 120), (1, .ref 2), (2, .int a0), (3, .int a1)], [], am_SH, (f, g)) ((some (.int r.1)), am_SH, (r.2, g)) := by
  have hcd : am_code 11 = am_c11 := rfl
  unfold xb_lawTells_2 at h
  refine am_Ev.go hcd 3 (s' := (3, [(0, .ref 120), (1, .ref 2), (2, .int a0), (3, .int a1)], [.int a0, .ref 2, .ref 120], am_SH, (f, g))) rfl ?_
  obtain ⟨p1, hp1, h⟩ := am_bind_some h
  refine am_Ev.call hcd (a := 13) (s0 := (0, [(0, .ref 120), (1, .ref 2), (2, .int a0)], [], am_SH, (f, g))) (q := (none, am_SH, (p1, g))) (s1 := (4, [(0, .ref 120), (1, .ref 2), (2, .int a0), (3, .int a1)], [], am_SH, (p1, g))) rfl rfl (xb_behold_2_ok (d) a0 f g p1 hp1) ?_
  refine am_Ev.go hcd 2 (s' := (6, [(0, .ref 120), (1, .ref 2), (2, .int a0), (3, .int a1)], [.int a1, .ref 120], am_SH, (p1, g))) rfl ?_
  obtain ⟨p2, hp2, h⟩ := am_bind_some h
  refine am_Ev.call hcd (a := 14) (s0 := (0, [(0, .ref 120), (1, .int a1)], [], am_SH, (p1, g))) (q := ((some (.int p2.1)), am_SH, (p2.2, g))) (s1 := (7, [(0, .ref 120), (1, .ref 2), (2, .int a0), (3, .int a1)], [.int p2.1], am_SH, (p2.2, g))) rfl rfl (xb_told_ok (d) a1 p1 g p2 hp2) ?_
  exact am_Ev.cast (a := ((some (.int (p2.1, p2.2).1)), am_SH, ((p2.1, p2.2).2, g))) (by cases h; rfl) (am_Ev.ret hcd rfl)
set_option maxRecDepth 100000 in
set_option maxHeartbeats 4000000 in
theorem xb_glassNearness_2_ok {sc : Nat × (Nat → Int32)} (d : Nat) (a0 : Int32) (f g : (Nat → Nat → Int32)) (r : Int32 × (Nat → Nat → Int32)) (h : xb_glassNearness_2 a0 f = some r) : am_Ev sc (d + 3) 12 (0, [(0, .ref 120), (1, .ref 2), (2, .int a0)], [], am_SH, (f, g)) ((some (.int r.1)), am_SH, (r.2, g)) := by
  have hcd : am_code 12 = am_c12 := rfl
  unfold xb_glassNearness_2 at h
  refine am_Ev.go hcd 3 (s' := (3, [(0, .ref 120), (1, .ref 2), (2, .int a0)], [.int a0, .ref 2, .ref 120], am_SH, (f, g))) rfl ?_
  obtain ⟨p1, hp1, h⟩ := am_bind_some h
  refine am_Ev.call hcd (a := 13) (s0 := (0, [(0, .ref 120), (1, .ref 2), (2, .int a0)], [], am_SH, (f, g))) (q := (none, am_SH, (p1, g))) (s1 := (4, [(0, .ref 120), (1, .ref 2), (2, .int a0)], [], am_SH, (p1, g))) rfl rfl (xb_behold_2_ok (d) a0 f g p1 hp1) ?_
  refine am_Ev.go hcd 4 (s' := (8, [(0, .ref 120), (1, .ref 2), (2, .int a0)], [.int (p1 121 7)], am_SH, (p1, g))) rfl ?_
  exact am_Ev.cast (a := ((some (.int (p1 121 7, p1).1)), am_SH, ((p1 121 7, p1).2, g))) (by cases h; rfl) (am_Ev.ret hcd rfl)
set_option maxRecDepth 100000 in
set_option maxHeartbeats 4000000 in
theorem x_of_ok {sc : Nat × (Nat → Int32)} (d : Nat) (a0 : Int32) (a1 : Int32) (f g : (Nat → Nat → Int32)) (r : Int32 × (Nat → Nat → Int32)) (h : x_of a0 a1 f = some r) : am_Ev sc (d + 4) 137 (0, [(0, .ref 0), (1, .int a0), (2, .int a1)], [], am_SH, (f, g)) ((some (.int r.1)), am_SH, (r.2, g)) := by
  have hcd : am_code 137 = am_c137 := rfl
  unfold x_of at h
  refine am_Ev.go hcd 6 (s' := (6, [(0, .ref 0), (1, .int a0), (2, .int a1), (3, .ref 2)], [.int a0, .ref 2], am_SH, (f, g))) rfl ?_
  refine am_Ev.call hcd (a := 22) (s0 := (0, [(0, .ref 2), (1, .int a0)], [], am_SH, (f, g))) (q := ((some (.int (am_b (xc_hasGlass_2 a0 f)))), am_SH, (f, g))) (s1 := (7, [(0, .ref 0), (1, .int a0), (2, .int a1), (3, .ref 2)], [.int (am_b (xc_hasGlass_2 a0 f))], am_SH, (f, g))) rfl rfl (xc_hasGlass_2_ok (d + 3) a0 f g) ?_
  rcases am_ite h with ⟨c4, h⟩ | ⟨c4, h⟩
  · refine am_Ev.f hcd (c := am_b (xc_hasGlass_2 a0 f) = 0) (s1 := (10, [(0, .ref 0), (1, .int a0), (2, .int a1), (3, .ref 2)], [], am_SH, (f, g))) rfl (am_b_t c4) ?_
    refine am_Ev.go hcd 1 (s' := (11, [(0, .ref 0), (1, .int a0), (2, .int a1), (3, .ref 2)], [.int a1], am_SH, (f, g))) rfl ?_
    refine am_Ev.one hcd (s' := (am_swt a1 [(0, 12), (1, 17), (2, 22), (3, 27), (4, 32), (5, 37), (6, 44), (7, 51), (8, 58)] 64, [(0, .ref 0), (1, .int a0), (2, .int a1), (3, .ref 2)], [], am_SH, (f, g))) rfl ?_
    rcases am_ite h with ⟨c8, h⟩ | ⟨c8, h⟩
    · rw [am_swt_t c8]
      refine am_Ev.go hcd 3 (s' := (15, [(0, .ref 0), (1, .int a0), (2, .int a1), (3, .ref 2)], [.int a0, .ref 3], am_SH, (f, g))) rfl ?_
      obtain ⟨c10, h⟩ := am_grd h
      refine am_Ev.t hcd (o := none) (c := am_in a0 6 = true) (s1 := (16, [(0, .ref 0), (1, .int a0), (2, .int a1), (3, .ref 2)], [.int (f 3 a0.toNatClampNeg)], am_SH, (f, g))) rfl c10 ?_
      exact am_Ev.cast (a := ((some (.int (f 3 a0.toNatClampNeg, f).1)), am_SH, ((f 3 a0.toNatClampNeg, f).2, g))) (by cases h; rfl) (am_Ev.ret hcd rfl)
    rw [am_swt_f c8]
    rcases am_ite h with ⟨c15, h⟩ | ⟨c15, h⟩
    · rw [am_swt_t c15]
      refine am_Ev.go hcd 3 (s' := (20, [(0, .ref 0), (1, .int a0), (2, .int a1), (3, .ref 2)], [.int a0, .ref 4], am_SH, (f, g))) rfl ?_
      obtain ⟨c17, h⟩ := am_grd h
      refine am_Ev.t hcd (o := none) (c := am_in a0 6 = true) (s1 := (21, [(0, .ref 0), (1, .int a0), (2, .int a1), (3, .ref 2)], [.int (f 4 a0.toNatClampNeg)], am_SH, (f, g))) rfl c17 ?_
      exact am_Ev.cast (a := ((some (.int (f 4 a0.toNatClampNeg, f).1)), am_SH, ((f 4 a0.toNatClampNeg, f).2, g))) (by cases h; rfl) (am_Ev.ret hcd rfl)
    rw [am_swt_f c15]
    rcases am_ite h with ⟨c22, h⟩ | ⟨c22, h⟩
    · rw [am_swt_t c22]
      refine am_Ev.go hcd 3 (s' := (25, [(0, .ref 0), (1, .int a0), (2, .int a1), (3, .ref 2)], [.int a0, .ref 5], am_SH, (f, g))) rfl ?_
      obtain ⟨c24, h⟩ := am_grd h
      refine am_Ev.t hcd (o := none) (c := am_in a0 6 = true) (s1 := (26, [(0, .ref 0), (1, .int a0), (2, .int a1), (3, .ref 2)], [.int (f 5 a0.toNatClampNeg)], am_SH, (f, g))) rfl c24 ?_
      exact am_Ev.cast (a := ((some (.int (f 5 a0.toNatClampNeg, f).1)), am_SH, ((f 5 a0.toNatClampNeg, f).2, g))) (by cases h; rfl) (am_Ev.ret hcd rfl)
    rw [am_swt_f c22]
    rcases am_ite h with ⟨c29, h⟩ | ⟨c29, h⟩
    · rw [am_swt_t c29]
      refine am_Ev.go hcd 3 (s' := (30, [(0, .ref 0), (1, .int a0), (2, .int a1), (3, .ref 2)], [.int a0, .ref 6], am_SH, (f, g))) rfl ?_
      obtain ⟨c31, h⟩ := am_grd h
      refine am_Ev.t hcd (o := none) (c := am_in a0 6 = true) (s1 := (31, [(0, .ref 0), (1, .int a0), (2, .int a1), (3, .ref 2)], [.int (f 6 a0.toNatClampNeg)], am_SH, (f, g))) rfl c31 ?_
      exact am_Ev.cast (a := ((some (.int (f 6 a0.toNatClampNeg, f).1)), am_SH, ((f 6 a0.toNatClampNeg, f).2, g))) (by cases h; rfl) (am_Ev.ret hcd rfl)
    rw [am_swt_f c29]
    rcases am_ite h with ⟨c36, h⟩ | ⟨c36, h⟩
    · rw [am_swt_t c36]
      refine am_Ev.go hcd 3 (s' := (35, [(0, .ref 0), (1, .int a0), (2, .int a1), (3, .ref 2)], [.int a0, .ref 7], am_SH, (f, g))) rfl ?_
      obtain ⟨c38, h⟩ := am_grd h
      refine am_Ev.t hcd (o := none) (c := am_in a0 6 = true) (s1 := (36, [(0, .ref 0), (1, .int a0), (2, .int a1), (3, .ref 2)], [.int (f 7 a0.toNatClampNeg)], am_SH, (f, g))) rfl c38 ?_
      exact am_Ev.cast (a := ((some (.int (f 7 a0.toNatClampNeg, f).1)), am_SH, ((f 7 a0.toNatClampNeg, f).2, g))) (by cases h; rfl) (am_Ev.ret hcd rfl)
    rw [am_swt_f c36]
    rcases am_ite h with ⟨c43, h⟩ | ⟨c43, h⟩
    · rw [am_swt_t c43]
      refine am_Ev.go hcd 5 (s' := (42, [(0, .ref 0), (1, .int a0), (2, .int a1), (3, .ref 2)], [.int 0, .int a0, .ref 2, .ref 120], am_SH, (f, g))) rfl ?_
      obtain ⟨p2, hp2, h⟩ := am_bind_some h
      refine am_Ev.call hcd (a := 11) (s0 := (0, [(0, .ref 120), (1, .ref 2), (2, .int a0), (3, .int 0)], [], am_SH, (f, g))) (q := ((some (.int p2.1)), am_SH, (p2.2, g))) (s1 := (43, [(0, .ref 0), (1, .int a0), (2, .int a1), (3, .ref 2)], [.int p2.1], am_SH, (p2.2, g))) rfl rfl (xb_lawTells_2_ok (d) a0 0 f g p2 hp2) ?_
      exact am_Ev.cast (a := ((some (.int (p2.1, p2.2).1)), am_SH, ((p2.1, p2.2).2, g))) (by cases h; rfl) (am_Ev.ret hcd rfl)
    rw [am_swt_f c43]
    rcases am_ite h with ⟨c50, h⟩ | ⟨c50, h⟩
    · rw [am_swt_t c50]
      refine am_Ev.go hcd 5 (s' := (49, [(0, .ref 0), (1, .int a0), (2, .int a1), (3, .ref 2)], [.int 1, .int a0, .ref 2, .ref 120], am_SH, (f, g))) rfl ?_
      obtain ⟨p3, hp3, h⟩ := am_bind_some h
      refine am_Ev.call hcd (a := 11) (s0 := (0, [(0, .ref 120), (1, .ref 2), (2, .int a0), (3, .int 1)], [], am_SH, (f, g))) (q := ((some (.int p3.1)), am_SH, (p3.2, g))) (s1 := (50, [(0, .ref 0), (1, .int a0), (2, .int a1), (3, .ref 2)], [.int p3.1], am_SH, (p3.2, g))) rfl rfl (xb_lawTells_2_ok (d) a0 1 f g p3 hp3) ?_
      exact am_Ev.cast (a := ((some (.int (p3.1, p3.2).1)), am_SH, ((p3.1, p3.2).2, g))) (by cases h; rfl) (am_Ev.ret hcd rfl)
    rw [am_swt_f c50]
    rcases am_ite h with ⟨c57, h⟩ | ⟨c57, h⟩
    · rw [am_swt_t c57]
      refine am_Ev.go hcd 5 (s' := (56, [(0, .ref 0), (1, .int a0), (2, .int a1), (3, .ref 2)], [.int 2, .int a0, .ref 2, .ref 120], am_SH, (f, g))) rfl ?_
      obtain ⟨p4, hp4, h⟩ := am_bind_some h
      refine am_Ev.call hcd (a := 11) (s0 := (0, [(0, .ref 120), (1, .ref 2), (2, .int a0), (3, .int 2)], [], am_SH, (f, g))) (q := ((some (.int p4.1)), am_SH, (p4.2, g))) (s1 := (57, [(0, .ref 0), (1, .int a0), (2, .int a1), (3, .ref 2)], [.int p4.1], am_SH, (p4.2, g))) rfl rfl (xb_lawTells_2_ok (d) a0 2 f g p4 hp4) ?_
      exact am_Ev.cast (a := ((some (.int (p4.1, p4.2).1)), am_SH, ((p4.1, p4.2).2, g))) (by cases h; rfl) (am_Ev.ret hcd rfl)
    rw [am_swt_f c57]
    rcases am_ite h with ⟨c64, h⟩ | ⟨c64, h⟩
    · rw [am_swt_t c64]
      refine am_Ev.go hcd 4 (s' := (62, [(0, .ref 0), (1, .int a0), (2, .int a1), (3, .ref 2)], [.int a0, .ref 2, .ref 120], am_SH, (f, g))) rfl ?_
      obtain ⟨p5, hp5, h⟩ := am_bind_some h
      refine am_Ev.call hcd (a := 12) (s0 := (0, [(0, .ref 120), (1, .ref 2), (2, .int a0)], [], am_SH, (f, g))) (q := ((some (.int p5.1)), am_SH, (p5.2, g))) (s1 := (63, [(0, .ref 0), (1, .int a0), (2, .int a1), (3, .ref 2)], [.int p5.1], am_SH, (p5.2, g))) rfl rfl (xb_glassNearness_2_ok (d) a0 f g p5 hp5) ?_
      exact am_Ev.cast (a := ((some (.int (p5.1, p5.2).1)), am_SH, ((p5.1, p5.2).2, g))) (by cases h; rfl) (am_Ev.ret hcd rfl)
    rw [am_swt_f c64]
    rw [am_swt_n]
    refine am_Ev.go hcd 1 (s' := (65, [(0, .ref 0), (1, .int a0), (2, .int a1), (3, .ref 2)], [.int (-2)], am_SH, (f, g))) rfl ?_
    exact am_Ev.cast (a := ((some (.int ((-2), f).1)), am_SH, (((-2), f).2, g))) (by cases h; rfl) (am_Ev.ret hcd rfl)
  · refine am_Ev.t hcd (c := am_b (xc_hasGlass_2 a0 f) = 0) (s1 := (8, [(0, .ref 0), (1, .int a0), (2, .int a1), (3, .ref 2)], [], am_SH, (f, g))) rfl (am_b_f c4) ?_
    refine am_Ev.go hcd 1 (s' := (9, [(0, .ref 0), (1, .int a0), (2, .int a1), (3, .ref 2)], [.int (-2)], am_SH, (f, g))) rfl ?_
    exact am_Ev.cast (a := ((some (.int ((-2), f).1)), am_SH, (((-2), f).2, g))) (by cases h; rfl) (am_Ev.ret hcd rfl)
set_option maxRecDepth 100000 in
set_option maxHeartbeats 4000000 in
theorem x_who_ok {sc : Nat × (Nat → Int32)} (d : Nat) (a0 : Int32) (a1 : Int32) (f g : (Nat → Nat → Int32)) (r : Int32) (h : x_who a0 a1 f = some r) : am_Ev sc (d + 2) 138 (0, [(0, .ref 0), (1, .int a0), (2, .int a1)], [], am_SH, (f, g)) ((some (.int r)), am_SH, (f, g)) := by
  have hcd : am_code 138 = am_c138 := rfl
  unfold x_who at h
  refine am_Ev.go hcd 6 (s' := (6, [(0, .ref 0), (1, .int a0), (2, .int a1), (3, .ref 2)], [.int a0, .ref 2], am_SH, (f, g))) rfl ?_
  refine am_Ev.call hcd (a := 23) (s0 := (0, [(0, .ref 2), (1, .int a0)], [], am_SH, (f, g))) (q := ((some (.int (am_b (xc_hasWitness_2 a0 f)))), am_SH, (f, g))) (s1 := (7, [(0, .ref 0), (1, .int a0), (2, .int a1), (3, .ref 2)], [.int (am_b (xc_hasWitness_2 a0 f))], am_SH, (f, g))) rfl rfl (xc_hasWitness_2_ok (d + 1) a0 f g) ?_
  rcases am_ite h with ⟨c4, h⟩ | ⟨c4, h⟩
  · refine am_Ev.f hcd (c := am_b (xc_hasWitness_2 a0 f) = 0) (s1 := (10, [(0, .ref 0), (1, .int a0), (2, .int a1), (3, .ref 2)], [], am_SH, (f, g))) rfl (am_b_t c4) ?_
    refine am_Ev.go hcd 1 (s' := (11, [(0, .ref 0), (1, .int a0), (2, .int a1), (3, .ref 2)], [.int a1], am_SH, (f, g))) rfl ?_
    refine am_Ev.one hcd (s' := (am_swt a1 [(0, 12), (1, 17), (2, 22), (3, 27), (4, 32)] 36, [(0, .ref 0), (1, .int a0), (2, .int a1), (3, .ref 2)], [], am_SH, (f, g))) rfl ?_
    rcases am_ite h with ⟨c8, h⟩ | ⟨c8, h⟩
    · rw [am_swt_t c8]
      refine am_Ev.go hcd 3 (s' := (15, [(0, .ref 0), (1, .int a0), (2, .int a1), (3, .ref 2)], [.int a0, .ref 8], am_SH, (f, g))) rfl ?_
      obtain ⟨c10, h⟩ := am_grd h
      refine am_Ev.t hcd (o := none) (c := am_in a0 12 = true) (s1 := (16, [(0, .ref 0), (1, .int a0), (2, .int a1), (3, .ref 2)], [.int (f 8 a0.toNatClampNeg)], am_SH, (f, g))) rfl c10 ?_
      exact am_Ev.cast (a := ((some (.int (f 8 a0.toNatClampNeg : Int32))), am_SH, (f, g))) (by cases h; rfl) (am_Ev.ret hcd rfl)
    rw [am_swt_f c8]
    rcases am_ite h with ⟨c15, h⟩ | ⟨c15, h⟩
    · rw [am_swt_t c15]
      refine am_Ev.go hcd 3 (s' := (20, [(0, .ref 0), (1, .int a0), (2, .int a1), (3, .ref 2)], [.int a0, .ref 9], am_SH, (f, g))) rfl ?_
      obtain ⟨c17, h⟩ := am_grd h
      refine am_Ev.t hcd (o := none) (c := am_in a0 12 = true) (s1 := (21, [(0, .ref 0), (1, .int a0), (2, .int a1), (3, .ref 2)], [.int (f 9 a0.toNatClampNeg)], am_SH, (f, g))) rfl c17 ?_
      exact am_Ev.cast (a := ((some (.int (f 9 a0.toNatClampNeg : Int32))), am_SH, (f, g))) (by cases h; rfl) (am_Ev.ret hcd rfl)
    rw [am_swt_f c15]
    rcases am_ite h with ⟨c22, h⟩ | ⟨c22, h⟩
    · rw [am_swt_t c22]
      refine am_Ev.go hcd 3 (s' := (25, [(0, .ref 0), (1, .int a0), (2, .int a1), (3, .ref 2)], [.int a0, .ref 10], am_SH, (f, g))) rfl ?_
      obtain ⟨c24, h⟩ := am_grd h
      refine am_Ev.t hcd (o := none) (c := am_in a0 12 = true) (s1 := (26, [(0, .ref 0), (1, .int a0), (2, .int a1), (3, .ref 2)], [.int (f 10 a0.toNatClampNeg)], am_SH, (f, g))) rfl c24 ?_
      exact am_Ev.cast (a := ((some (.int (f 10 a0.toNatClampNeg : Int32))), am_SH, (f, g))) (by cases h; rfl) (am_Ev.ret hcd rfl)
    rw [am_swt_f c22]
    rcases am_ite h with ⟨c29, h⟩ | ⟨c29, h⟩
    · rw [am_swt_t c29]
      refine am_Ev.go hcd 3 (s' := (30, [(0, .ref 0), (1, .int a0), (2, .int a1), (3, .ref 2)], [.int a0, .ref 11], am_SH, (f, g))) rfl ?_
      obtain ⟨c31, h⟩ := am_grd h
      refine am_Ev.t hcd (o := none) (c := am_in a0 12 = true) (s1 := (31, [(0, .ref 0), (1, .int a0), (2, .int a1), (3, .ref 2)], [.int (f 11 a0.toNatClampNeg)], am_SH, (f, g))) rfl c31 ?_
      exact am_Ev.cast (a := ((some (.int (f 11 a0.toNatClampNeg : Int32))), am_SH, (f, g))) (by cases h; rfl) (am_Ev.ret hcd rfl)
    rw [am_swt_f c29]
    rcases am_ite h with ⟨c36, h⟩ | ⟨c36, h⟩
    · rw [am_swt_t c36]
      refine am_Ev.go hcd 2 (s' := (34, [(0, .ref 0), (1, .int a0), (2, .int a1), (3, .ref 2)], [.int a0, .ref 2], am_SH, (f, g))) rfl ?_
      obtain ⟨p2, hp2, h⟩ := am_bind_some h
      refine am_Ev.call hcd (a := 26) (s0 := (0, [(0, .ref 2), (1, .int a0)], [], am_SH, (f, g))) (q := ((some (.int p2)), am_SH, (f, g))) (s1 := (35, [(0, .ref 0), (1, .int a0), (2, .int a1), (3, .ref 2)], [.int p2], am_SH, (f, g))) rfl rfl (xc_glassOf_2_ok (d + 1) a0 f g p2 hp2) ?_
      exact am_Ev.cast (a := ((some (.int p2)), am_SH, (f, g))) (by cases h; rfl) (am_Ev.ret hcd rfl)
    rw [am_swt_f c36]
    rw [am_swt_n]
    refine am_Ev.go hcd 3 (s' := (39, [(0, .ref 0), (1, .int a0), (2, .int a1), (3, .ref 2)], [.int 25, .int 10, .int a1], am_SH, (f, g))) rfl ?_
    refine am_Ev.call hcd (a := 170) (s0 := (0, [(0, .int a1), (1, .int 10), (2, .int 25)], [], am_SH, (f, g))) (q := ((some (.int (am_b (x_within a1 10 25)))), am_SH, (f, g))) (s1 := (40, [(0, .ref 0), (1, .int a0), (2, .int a1), (3, .ref 2)], [.int (am_b (x_within a1 10 25))], am_SH, (f, g))) rfl rfl (x_within_ok (d + 1) a1 10 25 (f, g)) ?_
    rcases am_ite h with ⟨c46, h⟩ | ⟨c46, h⟩
    · refine am_Ev.f hcd (c := am_b (x_within a1 10 25) = 0) (s1 := (43, [(0, .ref 0), (1, .int a0), (2, .int a1), (3, .ref 2)], [], am_SH, (f, g))) rfl (am_b_t c46) ?_
      refine am_Ev.go hcd 6 (s' := (49, [(0, .ref 0), (1, .int a0), (2, .int a1), (3, .ref 2)], [.int a0, .ref 9, .ref 25], am_SH, (f, g))) rfl ?_
      obtain ⟨c48, h⟩ := am_grd h
      refine am_Ev.t hcd (o := none) (c := am_in a0 12 = true) (s1 := (50, [(0, .ref 0), (1, .int a0), (2, .int a1), (3, .ref 2)], [.int (f 9 a0.toNatClampNeg), .ref 25], am_SH, (f, g))) rfl c48 ?_
      refine am_Ev.go hcd 3 (s' := (53, [(0, .ref 0), (1, .int a0), (2, .int a1), (3, .ref 2)], [.int (a1 - 10), .int (f 9 a0.toNatClampNeg), .ref 25], am_SH, (f, g))) rfl ?_
      obtain ⟨p4, hp4, h⟩ := am_bind_some h
      refine am_Ev.call hcd (a := 81) (s0 := (0, [(0, .ref 25), (1, .int (f 9 a0.toNatClampNeg)), (2, .int (a1 - 10))], [], am_SH, (f, g))) (q := ((some (.int p4)), am_SH, (f, g))) (s1 := (54, [(0, .ref 0), (1, .int a0), (2, .int a1), (3, .ref 2)], [.int p4], am_SH, (f, g))) rfl rfl (xn_nearness_25_ok (d) (f 9 a0.toNatClampNeg) (a1 - 10) f g p4 hp4) ?_
      exact am_Ev.cast (a := ((some (.int p4)), am_SH, (f, g))) (by cases h; rfl) (am_Ev.ret hcd rfl)
    · refine am_Ev.t hcd (c := am_b (x_within a1 10 25) = 0) (s1 := (41, [(0, .ref 0), (1, .int a0), (2, .int a1), (3, .ref 2)], [], am_SH, (f, g))) rfl (am_b_f c46) ?_
      refine am_Ev.go hcd 1 (s' := (42, [(0, .ref 0), (1, .int a0), (2, .int a1), (3, .ref 2)], [.int (-2)], am_SH, (f, g))) rfl ?_
      exact am_Ev.cast (a := ((some (.int (-2))), am_SH, (f, g))) (by cases h; rfl) (am_Ev.ret hcd rfl)
  · refine am_Ev.t hcd (c := am_b (xc_hasWitness_2 a0 f) = 0) (s1 := (8, [(0, .ref 0), (1, .int a0), (2, .int a1), (3, .ref 2)], [], am_SH, (f, g))) rfl (am_b_f c4) ?_
    refine am_Ev.go hcd 1 (s' := (9, [(0, .ref 0), (1, .int a0), (2, .int a1), (3, .ref 2)], [.int (-2)], am_SH, (f, g))) rfl ?_
    exact am_Ev.cast (a := ((some (.int (-2))), am_SH, (f, g))) (by cases h; rfl) (am_Ev.ret hcd rfl)
