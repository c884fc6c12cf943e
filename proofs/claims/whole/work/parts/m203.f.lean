set_option maxRecDepth 100000 in
set_option maxHeartbeats 4000000 in
theorem ji_bitCount_ok {sc : Nat × (Nat → Int32)} (d : Nat) (a0 : Int32) (hp : am_H) : am_Ev sc (d) 312 (0, [(0, .int a0)], [], am_SH, hp) ((some (.int (ji_bitCount a0))), am_SH, hp) := by
  have hcd : am_code 312 = am_c312 := rfl
  obtain ⟨r, h⟩ : ∃ r, r = ji_bitCount a0 := ⟨_, rfl⟩
  rw [← h]
  unfold ji_bitCount at h
  obtain ⟨t1, Et1, h⟩ := am_let_eq' h
  refine am_Ev.go hcd 8 (s' := (8, [(0, .int t1)], [], am_SH, hp)) (by subst Et1; exact rfl) ?_
  obtain ⟨t2, Et2, h⟩ := am_let_eq' h
  refine am_Ev.go hcd 10 (s' := (18, [(0, .int t2)], [], am_SH, hp)) (by subst Et2; exact rfl) ?_
  obtain ⟨t3, Et3, h⟩ := am_let_eq' h
  refine am_Ev.go hcd 8 (s' := (26, [(0, .int t3)], [], am_SH, hp)) (by subst Et3; exact rfl) ?_
  obtain ⟨t4, Et4, h⟩ := am_let_eq' h
  refine am_Ev.go hcd 6 (s' := (32, [(0, .int t4)], [], am_SH, hp)) (by subst Et4; exact rfl) ?_
  obtain ⟨t5, Et5, h⟩ := am_let_eq' h
  refine am_Ev.go hcd 6 (s' := (38, [(0, .int t5)], [], am_SH, hp)) (by subst Et5; exact rfl) ?_
  refine am_Ev.go hcd 3 (s' := (41, [(0, .int t5)], [.int (t5 &&& 63)], am_SH, hp)) rfl ?_
  exact am_Ev.cast (a := ((some (.int (t5 &&& 63))), am_SH, hp)) (by subst h; rfl) (am_Ev.ret hcd rfl)
set_option maxRecDepth 100000 in
set_option maxHeartbeats 4000000 in
theorem xb_behold_2_ok {sc : Nat × (Nat → Int32)} (d : Nat) (a0 : Int32) (f g : (Nat → Nat → Int32)) (r : (Nat → Nat → Int32)) (h : xb_behold_2 a0 f = some r) : am_Ev sc (d + 2) 13 (0, [(0, .ref 120), (1, .ref 2), (2, .int a0)], [], am_SH, (f, g)) (none, am_SH, (r, g)) := by
  have hcd : am_code 13 = am_c13 := rfl
  unfold xb_behold_2 at h
  refine am_Ev.go hcd 3 (s' := (3, [(0, .ref 120), (1, .ref 2), (2, .int a0)], [.int a0, .ref 5], am_SH, (f, g))) rfl ?_
  obtain ⟨c2, h⟩ := am_grd h
  refine am_Ev.t hcd (o := none) (c := am_in a0 6 = true) (s1 := (4, [(0, .ref 120), (1, .ref 2), (2, .int a0)], [.int (f 5 a0.toNatClampNeg)], am_SH, (f, g))) rfl c2 ?_
  obtain ⟨t1, Et1, h⟩ := am_let_eq h
  refine am_Ev.go hcd 1 (s' := (5, [(0, .ref 120), (1, .ref 2), (2, .int a0), (3, .int t1)], [], am_SH, (f, g))) (by subst Et1; exact rfl) ?_
  refine am_Ev.go hcd 2 (s' := (7, [(0, .ref 120), (1, .ref 2), (2, .int a0), (3, .int t1)], [.int t1, .ref 2], am_SH, (f, g))) rfl ?_
  refine am_Ev.call hcd (a := 23) (s0 := (0, [(0, .ref 2), (1, .int t1)], [], am_SH, (f, g))) (q := ((some (.int (am_b (xc_hasWitness_2 t1 f)))), am_SH, (f, g))) (s1 := (8, [(0, .ref 120), (1, .ref 2), (2, .int a0), (3, .int t1)], [.int (am_b (xc_hasWitness_2 t1 f))], am_SH, (f, g))) rfl rfl (xc_hasWitness_2_ok (d + 1) t1 f g) ?_
  obtain ⟨t3, Et3, h⟩ := am_let_eq h
  refine am_Ev.go hcd 1 (s' := (9, [(0, .ref 120), (1, .ref 2), (2, .int a0), (3, .int t1), (4, .int (am_b t3))], [], am_SH, (f, g))) (by subst Et3; exact rfl) ?_
  obtain ⟨t5, ht5, kt5⟩ := am_bind_some h
  have hKt5 : am_Ev sc (d + 2) 13 (28, [(0, .ref 120), (1, .ref 2), (2, .int a0), (3, .int t1), (4, .int (am_b t3))], [.int t5, .int 7, .ref 121], am_SH, (f, g)) (none, am_SH, (r, g)) := by
    have h := kt5
    obtain ⟨f6, Ef6, h⟩ := am_let_eq h
    refine am_Ev.go hcd 1 (s' := (29, [(0, .ref 120), (1, .ref 2), (2, .int a0), (3, .int t1), (4, .int (am_b t3))], [], am_SH, (f6, g))) (by subst Ef6; exact rfl) ?_
    obtain ⟨t7, ht7, kt7⟩ := am_bind_some h
    have hKt7 : am_Ev sc (d + 2) 13 (40, [(0, .ref 120), (1, .ref 2), (2, .int a0), (3, .int t1), (4, .int (am_b t3))], [.int t7, .int 8, .ref 121], am_SH, (f6, g)) (none, am_SH, (r, g)) := by
      have h := kt7
      obtain ⟨f8, Ef8, h⟩ := am_let_eq h
      refine am_Ev.go hcd 1 (s' := (41, [(0, .ref 120), (1, .ref 2), (2, .int a0), (3, .int t1), (4, .int (am_b t3))], [], am_SH, (f8, g))) (by subst Ef8; exact rfl) ?_
      refine am_Ev.go hcd 6 (s' := (47, [(0, .ref 120), (1, .ref 2), (2, .int a0), (3, .int t1), (4, .int (am_b t3))], [.int a0, .ref 4, .int 9, .ref 121], am_SH, (f8, g))) rfl ?_
      obtain ⟨c21, h⟩ := am_grd h
      refine am_Ev.t hcd (o := none) (c := am_in a0 6 = true) (s1 := (48, [(0, .ref 120), (1, .ref 2), (2, .int a0), (3, .int t1), (4, .int (am_b t3))], [.int (f8 4 a0.toNatClampNeg), .int 9, .ref 121], am_SH, (f8, g))) rfl c21 ?_
      obtain ⟨f9, Ef9, h⟩ := am_let_eq h
      refine am_Ev.go hcd 1 (s' := (49, [(0, .ref 120), (1, .ref 2), (2, .int a0), (3, .int t1), (4, .int (am_b t3))], [], am_SH, (f9, g))) (by subst Ef9; exact rfl) ?_
      refine am_Ev.go hcd 6 (s' := (55, [(0, .ref 120), (1, .ref 2), (2, .int a0), (3, .int t1), (4, .int (am_b t3))], [.int a0, .ref 3, .int 10, .ref 121], am_SH, (f9, g))) rfl ?_
      obtain ⟨c26, h⟩ := am_grd h
      refine am_Ev.t hcd (o := none) (c := am_in a0 6 = true) (s1 := (56, [(0, .ref 120), (1, .ref 2), (2, .int a0), (3, .int t1), (4, .int (am_b t3))], [.int (f9 3 a0.toNatClampNeg), .int 10, .ref 121], am_SH, (f9, g))) rfl c26 ?_
      obtain ⟨f10, Ef10, h⟩ := am_let_eq h
      refine am_Ev.go hcd 1 (s' := (57, [(0, .ref 120), (1, .ref 2), (2, .int a0), (3, .int t1), (4, .int (am_b t3))], [], am_SH, (f10, g))) (by subst Ef10; exact rfl) ?_
      refine am_Ev.go hcd 6 (s' := (63, [(0, .ref 120), (1, .ref 2), (2, .int a0), (3, .int t1), (4, .int (am_b t3))], [.int a0, .ref 6, .int 11, .ref 121], am_SH, (f10, g))) rfl ?_
      obtain ⟨c31, h⟩ := am_grd h
      refine am_Ev.t hcd (o := none) (c := am_in a0 6 = true) (s1 := (64, [(0, .ref 120), (1, .ref 2), (2, .int a0), (3, .int t1), (4, .int (am_b t3))], [.int (f10 6 a0.toNatClampNeg), .int 11, .ref 121], am_SH, (f10, g))) rfl c31 ?_
      obtain ⟨t11, ht11, kt11⟩ := am_let_eq h
      have hKt11 : am_Ev sc (d + 2) 13 (69, [(0, .ref 120), (1, .ref 2), (2, .int a0), (3, .int t1), (4, .int (am_b t3))], [.int (am_b t11), .int 11, .ref 121], am_SH, (f10, g)) (none, am_SH, (r, g)) := by
        have h := kt11
        obtain ⟨f12, Ef12, h⟩ := am_let_eq h
        refine am_Ev.go hcd 1 (s' := (70, [(0, .ref 120), (1, .ref 2), (2, .int a0), (3, .int t1), (4, .int (am_b t3))], [], am_SH, (f12, g))) (by subst Ef12; exact rfl) ?_
        obtain ⟨t14, ht14, kt14⟩ := am_bind_some h
        have hKt14 : am_Ev sc (d + 2) 13 (82, [(0, .ref 120), (1, .ref 2), (2, .int a0), (3, .int t1), (4, .int (am_b t3))], [.int t14, .int 12, .ref 121], am_SH, (f12, g)) (none, am_SH, (r, g)) := by
          have h := kt14
          obtain ⟨f15, Ef15, h⟩ := am_let_eq h
          refine am_Ev.go hcd 1 (s' := (83, [(0, .ref 120), (1, .ref 2), (2, .int a0), (3, .int t1), (4, .int (am_b t3))], [], am_SH, (f15, g))) (by subst Ef15; exact rfl) ?_
          obtain ⟨t16, ht16, kt16⟩ := am_bind_some h
          have hKt16 : am_Ev sc (d + 2) 13 (94, [(0, .ref 120), (1, .ref 2), (2, .int a0)], [.int t16, .int 13, .ref 121], am_SH, (f15, g)) (none, am_SH, (r, g)) := by
            have h := kt16
            obtain ⟨f17, Ef17, h⟩ := am_let_eq h
            refine am_Ev.go hcd 1 (s' := (95, [(0, .ref 120), (1, .ref 2), (2, .int a0)], [], am_SH, (f17, g))) (by subst Ef17; exact rfl) ?_
            refine am_Ev.go hcd 6 (s' := (101, [(0, .ref 120), (1, .ref 2), (2, .int a0)], [.int a0, .ref 7, .int 14, .ref 121], am_SH, (f17, g))) rfl ?_
            obtain ⟨c49, h⟩ := am_grd h
            refine am_Ev.t hcd (o := none) (c := am_in a0 6 = true) (s1 := (102, [(0, .ref 120), (1, .ref 2), (2, .int a0)], [.int (f17 7 a0.toNatClampNeg), .int 14, .ref 121], am_SH, (f17, g))) rfl c49 ?_
            obtain ⟨f18, Ef18, h⟩ := am_let_eq h
            refine am_Ev.go hcd 1 (s' := (103, [(0, .ref 120), (1, .ref 2), (2, .int a0)], [], am_SH, (f18, g))) (by subst Ef18; exact rfl) ?_
            obtain ⟨f19, Ef19, h⟩ := am_let_eq h
            refine am_Ev.go hcd 5 (s' := (108, [(0, .ref 120), (1, .ref 2), (2, .int a0)], [], am_SH, (f19, g))) (by subst Ef19; exact rfl) ?_
            obtain ⟨f20, Ef20, h⟩ := am_let_eq h
            refine am_Ev.go hcd 6 (s' := (114, [(0, .ref 120), (1, .ref 2), (2, .int a0)], [], am_SH, (f20, g))) (by subst Ef20; exact rfl) ?_
            exact am_Ev.cast (a := (none, am_SH, (f20, g))) (by cases h; rfl) (am_Ev.ret hcd rfl)
          have hLt16 : ∀ tt, tt = t16 → am_Ev sc (d + 2) 13 (94, [(0, .ref 120), (1, .ref 2), (2, .int a0)], [.int tt, .int 13, .ref 121], am_SH, (f15, g)) (none, am_SH, (r, g)) := fun tt htt => by subst htt; exact hKt16
          have h := ht16
          refine am_Ev.go hcd 4 (s' := (87, [(0, .ref 120), (1, .ref 2), (2, .int a0), (3, .int t1), (4, .int (am_b t3))], [.int (am_b t3), .int 13, .ref 121], am_SH, (f15, g))) rfl ?_
          rcases am_ite h with ⟨c61, h⟩ | ⟨c61, h⟩
          · refine am_Ev.f hcd (c := am_b t3 = 0) (s1 := (88, [(0, .ref 120), (1, .ref 2), (2, .int a0), (3, .int t1), (4, .int (am_b t3))], [.int 13, .ref 121], am_SH, (f15, g))) rfl (am_b_t c61) ?_
            refine am_Ev.go hcd 3 (s' := (91, [(0, .ref 120), (1, .ref 2), (2, .int a0), (3, .int t1), (4, .int (am_b t3))], [.int t1, .ref 10, .int 13, .ref 121], am_SH, (f15, g))) rfl ?_
            obtain ⟨c64, h⟩ := am_grd h
            refine am_Ev.t hcd (o := none) (c := am_in t1 12 = true) (s1 := (92, [(0, .ref 120), (1, .ref 2), (2, .int a0), (3, .int t1), (4, .int (am_b t3))], [.int (f15 10 t1.toNatClampNeg), .int 13, .ref 121], am_SH, (f15, g))) rfl c64 ?_
            refine am_Ev.go hcd 1 (s' := (94, [(0, .ref 120), (1, .ref 2), (2, .int a0), (3, .int t1), (4, .int (am_b t3))], [.int (f15 10 t1.toNatClampNeg), .int 13, .ref 121], am_SH, (f15, g))) rfl ?_
            exact am_Ev.weak' (hLt16 (f15 10 t1.toNatClampNeg) (Option.some.inj h)) (am_sub_cons rfl (am_sub_cons rfl (am_sub_cons rfl am_sub_nil))) rfl
          · refine am_Ev.t hcd (c := am_b t3 = 0) (s1 := (93, [(0, .ref 120), (1, .ref 2), (2, .int a0), (3, .int t1), (4, .int (am_b t3))], [.int 13, .ref 121], am_SH, (f15, g))) rfl (am_b_f c61) ?_
            refine am_Ev.go hcd 1 (s' := (94, [(0, .ref 120), (1, .ref 2), (2, .int a0), (3, .int t1), (4, .int (am_b t3))], [.int 0, .int 13, .ref 121], am_SH, (f15, g))) rfl ?_
            exact am_Ev.weak' (hLt16 0 (Option.some.inj h)) (am_sub_cons rfl (am_sub_cons rfl (am_sub_cons rfl am_sub_nil))) rfl
        have hLt14 : ∀ tt, tt = t14 → am_Ev sc (d + 2) 13 (82, [(0, .ref 120), (1, .ref 2), (2, .int a0), (3, .int t1), (4, .int (am_b t3))], [.int tt, .int 12, .ref 121], am_SH, (f12, g)) (none, am_SH, (r, g)) := fun tt htt => by subst htt; exact hKt14
        have h := ht14
        refine am_Ev.go hcd 4 (s' := (74, [(0, .ref 120), (1, .ref 2), (2, .int a0), (3, .int t1), (4, .int (am_b t3))], [.int (am_b t3), .int 12, .ref 121], am_SH, (f12, g))) rfl ?_
        rcases am_ite h with ⟨c74, h⟩ | ⟨c74, h⟩
        · refine am_Ev.f hcd (c := am_b t3 = 0) (s1 := (75, [(0, .ref 120), (1, .ref 2), (2, .int a0), (3, .int t1), (4, .int (am_b t3))], [.int 12, .ref 121], am_SH, (f12, g))) rfl (am_b_t c74) ?_
          refine am_Ev.go hcd 3 (s' := (78, [(0, .ref 120), (1, .ref 2), (2, .int a0), (3, .int t1), (4, .int (am_b t3))], [.int t1, .ref 9, .int 12, .ref 121], am_SH, (f12, g))) rfl ?_
          obtain ⟨c77, h⟩ := am_grd h
          refine am_Ev.t hcd (o := none) (c := am_in t1 12 = true) (s1 := (79, [(0, .ref 120), (1, .ref 2), (2, .int a0), (3, .int t1), (4, .int (am_b t3))], [.int (f12 9 t1.toNatClampNeg), .int 12, .ref 121], am_SH, (f12, g))) rfl c77 ?_
          refine am_Ev.call hcd (a := 312) (s0 := (0, [(0, .int (f12 9 t1.toNatClampNeg))], [], am_SH, (f12, g))) (q := ((some (.int (ji_bitCount (f12 9 t1.toNatClampNeg)))), am_SH, (f12, g))) (s1 := (80, [(0, .ref 120), (1, .ref 2), (2, .int a0), (3, .int t1), (4, .int (am_b t3))], [.int (ji_bitCount (f12 9 t1.toNatClampNeg)), .int 12, .ref 121], am_SH, (f12, g))) rfl rfl (ji_bitCount_ok (d + 1) (f12 9 t1.toNatClampNeg) (f12, g)) ?_
          refine am_Ev.go hcd 1 (s' := (82, [(0, .ref 120), (1, .ref 2), (2, .int a0), (3, .int t1), (4, .int (am_b t3))], [.int (ji_bitCount (f12 9 t1.toNatClampNeg)), .int 12, .ref 121], am_SH, (f12, g))) rfl ?_
          exact am_Ev.weak' (hLt14 (ji_bitCount (f12 9 t1.toNatClampNeg)) (Option.some.inj h)) (am_sub_cons rfl (am_sub_cons rfl (am_sub_cons rfl (am_sub_cons rfl (am_sub_cons rfl am_sub_nil))))) rfl
        · refine am_Ev.t hcd (c := am_b t3 = 0) (s1 := (81, [(0, .ref 120), (1, .ref 2), (2, .int a0), (3, .int t1), (4, .int (am_b t3))], [.int 12, .ref 121], am_SH, (f12, g))) rfl (am_b_f c74) ?_
          refine am_Ev.go hcd 1 (s' := (82, [(0, .ref 120), (1, .ref 2), (2, .int a0), (3, .int t1), (4, .int (am_b t3))], [.int 0, .int 12, .ref 121], am_SH, (f12, g))) rfl ?_
          exact am_Ev.weak' (hLt14 0 (Option.some.inj h)) (am_sub_cons rfl (am_sub_cons rfl (am_sub_cons rfl (am_sub_cons rfl (am_sub_cons rfl am_sub_nil))))) rfl
      have hLt11 : ∀ tt, tt = t11 → am_Ev sc (d + 2) 13 (69, [(0, .ref 120), (1, .ref 2), (2, .int a0), (3, .int t1), (4, .int (am_b t3))], [.int (am_b tt), .int 11, .ref 121], am_SH, (f10, g)) (none, am_SH, (r, g)) := fun tt htt => by subst htt; exact hKt11
      have h := ht11
      refine am_Ev.go hcd 1 (s' := (65, [(0, .ref 120), (1, .ref 2), (2, .int a0), (3, .int t1), (4, .int (am_b t3))], [.int (-1), .int (f10 6 a0.toNatClampNeg), .int 11, .ref 121], am_SH, (f10, g))) rfl ?_
      rcases am_itv h with ⟨c88, h⟩ | ⟨c88, h⟩
      · refine am_Ev.t hcd (c := f10 6 a0.toNatClampNeg = (-1)) (s1 := (66, [(0, .ref 120), (1, .ref 2), (2, .int a0), (3, .int t1), (4, .int (am_b t3))], [.int 11, .ref 121], am_SH, (f10, g))) rfl c88 ?_
        refine am_Ev.go hcd 2 (s' := (69, [(0, .ref 120), (1, .ref 2), (2, .int a0), (3, .int t1), (4, .int (am_b t3))], [.int 0, .int 11, .ref 121], am_SH, (f10, g))) rfl ?_
        exact am_Ev.weak' (hLt11 false h.symm) (am_sub_cons rfl (am_sub_cons rfl (am_sub_cons rfl (am_sub_cons rfl (am_sub_cons rfl am_sub_nil))))) rfl
      · refine am_Ev.f hcd (c := f10 6 a0.toNatClampNeg = (-1)) (s1 := (68, [(0, .ref 120), (1, .ref 2), (2, .int a0), (3, .int t1), (4, .int (am_b t3))], [.int 11, .ref 121], am_SH, (f10, g))) rfl c88 ?_
        refine am_Ev.go hcd 1 (s' := (69, [(0, .ref 120), (1, .ref 2), (2, .int a0), (3, .int t1), (4, .int (am_b t3))], [.int 1, .int 11, .ref 121], am_SH, (f10, g))) rfl ?_
        exact am_Ev.weak' (hLt11 true h.symm) (am_sub_cons rfl (am_sub_cons rfl (am_sub_cons rfl (am_sub_cons rfl (am_sub_cons rfl am_sub_nil))))) rfl
    have hLt7 : ∀ tt, tt = t7 → am_Ev sc (d + 2) 13 (40, [(0, .ref 120), (1, .ref 2), (2, .int a0), (3, .int t1), (4, .int (am_b t3))], [.int tt, .int 8, .ref 121], am_SH, (f6, g)) (none, am_SH, (r, g)) := fun tt htt => by subst htt; exact hKt7
    have h := ht7
    refine am_Ev.go hcd 4 (s' := (33, [(0, .ref 120), (1, .ref 2), (2, .int a0), (3, .int t1), (4, .int (am_b t3))], [.int (am_b t3), .int 8, .ref 121], am_SH, (f6, g))) rfl ?_
    rcases am_ite h with ⟨c98, h⟩ | ⟨c98, h⟩
    · refine am_Ev.f hcd (c := am_b t3 = 0) (s1 := (34, [(0, .ref 120), (1, .ref 2), (2, .int a0), (3, .int t1), (4, .int (am_b t3))], [.int 8, .ref 121], am_SH, (f6, g))) rfl (am_b_t c98) ?_
      refine am_Ev.go hcd 3 (s' := (37, [(0, .ref 120), (1, .ref 2), (2, .int a0), (3, .int t1), (4, .int (am_b t3))], [.int t1, .ref 8, .int 8, .ref 121], am_SH, (f6, g))) rfl ?_
      obtain ⟨c101, h⟩ := am_grd h
      refine am_Ev.t hcd (o := none) (c := am_in t1 12 = true) (s1 := (38, [(0, .ref 120), (1, .ref 2), (2, .int a0), (3, .int t1), (4, .int (am_b t3))], [.int (f6 8 t1.toNatClampNeg), .int 8, .ref 121], am_SH, (f6, g))) rfl c101 ?_
      refine am_Ev.go hcd 1 (s' := (40, [(0, .ref 120), (1, .ref 2), (2, .int a0), (3, .int t1), (4, .int (am_b t3))], [.int (f6 8 t1.toNatClampNeg), .int 8, .ref 121], am_SH, (f6, g))) rfl ?_
      exact am_Ev.weak' (hLt7 (f6 8 t1.toNatClampNeg) (Option.some.inj h)) (am_sub_cons rfl (am_sub_cons rfl (am_sub_cons rfl (am_sub_cons rfl (am_sub_cons rfl am_sub_nil))))) rfl
    · refine am_Ev.t hcd (c := am_b t3 = 0) (s1 := (39, [(0, .ref 120), (1, .ref 2), (2, .int a0), (3, .int t1), (4, .int (am_b t3))], [.int 8, .ref 121], am_SH, (f6, g))) rfl (am_b_f c98) ?_
      refine am_Ev.go hcd 1 (s' := (40, [(0, .ref 120), (1, .ref 2), (2, .int a0), (3, .int t1), (4, .int (am_b t3))], [.int 0, .int 8, .ref 121], am_SH, (f6, g))) rfl ?_
      exact am_Ev.weak' (hLt7 0 (Option.some.inj h)) (am_sub_cons rfl (am_sub_cons rfl (am_sub_cons rfl (am_sub_cons rfl (am_sub_cons rfl am_sub_nil))))) rfl
  have hLt5 : ∀ tt, tt = t5 → am_Ev sc (d + 2) 13 (28, [(0, .ref 120), (1, .ref 2), (2, .int a0), (3, .int t1), (4, .int (am_b t3))], [.int tt, .int 7, .ref 121], am_SH, (f, g)) (none, am_SH, (r, g)) := fun tt htt => by subst htt; exact hKt5
  have h := ht5
  refine am_Ev.go hcd 4 (s' := (13, [(0, .ref 120), (1, .ref 2), (2, .int a0), (3, .int t1), (4, .int (am_b t3))], [.int (am_b t3), .int 7, .ref 121], am_SH, (f, g))) rfl ?_
  rcases am_ite h with ⟨c111, h⟩ | ⟨c111, h⟩
  · refine am_Ev.f hcd (c := am_b t3 = 0) (s1 := (14, [(0, .ref 120), (1, .ref 2), (2, .int a0), (3, .int t1), (4, .int (am_b t3))], [.int 7, .ref 121], am_SH, (f, g))) rfl (am_b_t c111) ?_
    refine am_Ev.go hcd 6 (s' := (20, [(0, .ref 120), (1, .ref 2), (2, .int a0), (3, .int t1), (4, .int (am_b t3))], [.int t1, .ref 9, .ref 25, .int 7, .ref 121], am_SH, (f, g))) rfl ?_
    obtain ⟨c114, h⟩ := am_grd h
    refine am_Ev.t hcd (o := none) (c := am_in t1 12 = true) (s1 := (21, [(0, .ref 120), (1, .ref 2), (2, .int a0), (3, .int t1), (4, .int (am_b t3))], [.int (f 9 t1.toNatClampNeg), .ref 25, .int 7, .ref 121], am_SH, (f, g))) rfl c114 ?_
    refine am_Ev.go hcd 3 (s' := (24, [(0, .ref 120), (1, .ref 2), (2, .int a0), (3, .int t1), (4, .int (am_b t3))], [.int a0, .ref 6, .int (f 9 t1.toNatClampNeg), .ref 25, .int 7, .ref 121], am_SH, (f, g))) rfl ?_
    obtain ⟨c117, h⟩ := am_grd h
    refine am_Ev.t hcd (o := none) (c := am_in a0 6 = true) (s1 := (25, [(0, .ref 120), (1, .ref 2), (2, .int a0), (3, .int t1), (4, .int (am_b t3))], [.int (f 6 a0.toNatClampNeg), .int (f 9 t1.toNatClampNeg), .ref 25, .int 7, .ref 121], am_SH, (f, g))) rfl c117 ?_
    obtain ⟨p4, hp4, h⟩ := am_bind_some h
    refine am_Ev.call hcd (a := 81) (s0 := (0, [(0, .ref 25), (1, .int (f 9 t1.toNatClampNeg)), (2, .int (f 6 a0.toNatClampNeg))], [], am_SH, (f, g))) (q := ((some (.int p4)), am_SH, (f, g))) (s1 := (26, [(0, .ref 120), (1, .ref 2), (2, .int a0), (3, .int t1), (4, .int (am_b t3))], [.int p4, .int 7, .ref 121], am_SH, (f, g))) rfl rfl (xn_nearness_25_ok (d) (f 9 t1.toNatClampNeg) (f 6 a0.toNatClampNeg) f g p4 hp4) ?_
    refine am_Ev.go hcd 1 (s' := (28, [(0, .ref 120), (1, .ref 2), (2, .int a0), (3, .int t1), (4, .int (am_b t3))], [.int p4, .int 7, .ref 121], am_SH, (f, g))) rfl ?_
    exact am_Ev.weak' (hLt5 p4 (Option.some.inj h)) (am_sub_cons rfl (am_sub_cons rfl (am_sub_cons rfl (am_sub_cons rfl (am_sub_cons rfl am_sub_nil))))) rfl
  · refine am_Ev.t hcd (c := am_b t3 = 0) (s1 := (27, [(0, .ref 120), (1, .ref 2), (2, .int a0), (3, .int t1), (4, .int (am_b t3))], [.int 7, .ref 121], am_SH, (f, g))) rfl (am_b_f c111) ?_
    refine am_Ev.go hcd 1 (s' := (28, [(0, .ref 120), (1, .ref 2), (2, .int a0), (3, .int t1), (4, .int (am_b t3))], [.int 0, .int 7, .ref 121], am_SH, (f, g))) rfl ?_
    exact am_Ev.weak' (hLt5 0 (Option.some.inj h)) (am_sub_cons rfl (am_sub_cons rfl (am_sub_cons rfl (am_sub_cons rfl (am_sub_cons rfl am_sub_nil))))) rfl
set_option maxRecDepth 100000 in
set_option maxHeartbeats 4000000 in
theorem xb_joined_ok {sc : Nat × (Nat → Int32)} (d : Nat) (a0 : Int32) (a1 : Int32) (a2 : Int32) (hp : am_H) (r : Int32) (h : xb_joined a0 a1 a2 = some r) : am_Ev sc (d) 16 (0, [(0, .int a0), (1, .int a1), (2, .int a2)], [], am_SH, hp) ((some (.int r)), am_SH, hp) := by
  have hcd : am_code 16 = am_c16 := rfl
  unfold xb_joined at h
  refine am_Ev.go hcd 1 (s' := (1, [(0, .int a0), (1, .int a1), (2, .int a2)], [.int a0], am_SH, hp)) rfl ?_
  refine am_Ev.one hcd (s' := (am_swt a0 [(38, 43), (42, 10), (43, 2), (45, 6), (47, 14), (60, 22), (61, 29), (62, 36)] 47, [(0, .int a0), (1, .int a1), (2, .int a2)], [], am_SH, hp)) rfl ?_
  rcases am_ite h with ⟨c4, h⟩ | ⟨c4, h⟩
  · rw [am_swt_t c4]
    refine am_Ev.go hcd 3 (s' := (46, [(0, .int a0), (1, .int a1), (2, .int a2)], [.int (a1 &&& a2)], am_SH, hp)) rfl ?_
    exact am_Ev.cast (a := ((some (.int (a1 &&& a2))), am_SH, hp)) (by cases h; rfl) (am_Ev.ret hcd rfl)
  rw [am_swt_f c4]
  rcases am_ite h with ⟨c9, h⟩ | ⟨c9, h⟩
  · rw [am_swt_t c9]
    refine am_Ev.go hcd 3 (s' := (13, [(0, .int a0), (1, .int a1), (2, .int a2)], [.int (a1 * a2)], am_SH, hp)) rfl ?_
    exact am_Ev.cast (a := ((some (.int (a1 * a2))), am_SH, hp)) (by cases h; rfl) (am_Ev.ret hcd rfl)
  rw [am_swt_f c9]
  rcases am_ite h with ⟨c14, h⟩ | ⟨c14, h⟩
  · rw [am_swt_t c14]
    refine am_Ev.go hcd 3 (s' := (5, [(0, .int a0), (1, .int a1), (2, .int a2)], [.int (a1 + a2)], am_SH, hp)) rfl ?_
    exact am_Ev.cast (a := ((some (.int (a1 + a2))), am_SH, hp)) (by cases h; rfl) (am_Ev.ret hcd rfl)
  rw [am_swt_f c14]
  rcases am_ite h with ⟨c19, h⟩ | ⟨c19, h⟩
  · rw [am_swt_t c19]
    refine am_Ev.go hcd 3 (s' := (9, [(0, .int a0), (1, .int a1), (2, .int a2)], [.int (a1 - a2)], am_SH, hp)) rfl ?_
    exact am_Ev.cast (a := ((some (.int (a1 - a2))), am_SH, hp)) (by cases h; rfl) (am_Ev.ret hcd rfl)
  rw [am_swt_f c19]
  rcases am_ite h with ⟨c24, h⟩ | ⟨c24, h⟩
  · rw [am_swt_t c24]
    refine am_Ev.go hcd 1 (s' := (15, [(0, .int a0), (1, .int a1), (2, .int a2)], [.int a2], am_SH, hp)) rfl ?_
    rcases am_ite h with ⟨c26, h⟩ | ⟨c26, h⟩
    · refine am_Ev.t hcd (c := a2 = 0) (s1 := (16, [(0, .int a0), (1, .int a1), (2, .int a2)], [], am_SH, hp)) rfl c26 ?_
      refine am_Ev.go hcd 2 (s' := (21, [(0, .int a0), (1, .int a1), (2, .int a2)], [.int 0], am_SH, hp)) rfl ?_
      exact am_Ev.cast (a := ((some (.int 0)), am_SH, hp)) (by cases h; rfl) (am_Ev.ret hcd rfl)
    · refine am_Ev.f hcd (c := a2 = 0) (s1 := (18, [(0, .int a0), (1, .int a1), (2, .int a2)], [], am_SH, hp)) rfl c26 ?_
      refine am_Ev.go hcd 2 (s' := (20, [(0, .int a0), (1, .int a1), (2, .int a2)], [.int a2, .int a1], am_SH, hp)) rfl ?_
      rcases am_ite h with ⟨c32, h⟩ | ⟨c32, h⟩
      · exact absurd h (by simp)
      · refine am_Ev.f hcd (c := a2 = 0) (s1 := (21, [(0, .int a0), (1, .int a1), (2, .int a2)], [.int (a1 / a2)], am_SH, hp)) rfl c32 ?_
        exact am_Ev.cast (a := ((some (.int (a1 / a2))), am_SH, hp)) (by cases h; rfl) (am_Ev.ret hcd rfl)
  rw [am_swt_f c24]
  rcases am_ite h with ⟨c38, h⟩ | ⟨c38, h⟩
  · rw [am_swt_t c38]
    refine am_Ev.go hcd 2 (s' := (24, [(0, .int a0), (1, .int a1), (2, .int a2)], [.int a2, .int a1], am_SH, hp)) rfl ?_
    rcases am_ite h with ⟨c40, h⟩ | ⟨c40, h⟩
    · refine am_Ev.t hcd (c := a1 < a2) (s1 := (25, [(0, .int a0), (1, .int a1), (2, .int a2)], [], am_SH, hp)) rfl c40 ?_
      refine am_Ev.go hcd 2 (s' := (28, [(0, .int a0), (1, .int a1), (2, .int a2)], [.int 1], am_SH, hp)) rfl ?_
      exact am_Ev.cast (a := ((some (.int 1)), am_SH, hp)) (by cases h; rfl) (am_Ev.ret hcd rfl)
    · refine am_Ev.f hcd (c := a1 < a2) (s1 := (27, [(0, .int a0), (1, .int a1), (2, .int a2)], [], am_SH, hp)) rfl c40 ?_
      refine am_Ev.go hcd 1 (s' := (28, [(0, .int a0), (1, .int a1), (2, .int a2)], [.int 0], am_SH, hp)) rfl ?_
      exact am_Ev.cast (a := ((some (.int 0)), am_SH, hp)) (by cases h; rfl) (am_Ev.ret hcd rfl)
  rw [am_swt_f c38]
  rcases am_ite h with ⟨c49, h⟩ | ⟨c49, h⟩
  · rw [am_swt_t c49]
    refine am_Ev.go hcd 2 (s' := (31, [(0, .int a0), (1, .int a1), (2, .int a2)], [.int a2, .int a1], am_SH, hp)) rfl ?_
    rcases am_ite h with ⟨c51, h⟩ | ⟨c51, h⟩
    · refine am_Ev.t hcd (c := a1 = a2) (s1 := (32, [(0, .int a0), (1, .int a1), (2, .int a2)], [], am_SH, hp)) rfl c51 ?_
      refine am_Ev.go hcd 2 (s' := (35, [(0, .int a0), (1, .int a1), (2, .int a2)], [.int 1], am_SH, hp)) rfl ?_
      exact am_Ev.cast (a := ((some (.int 1)), am_SH, hp)) (by cases h; rfl) (am_Ev.ret hcd rfl)
    · refine am_Ev.f hcd (c := a1 = a2) (s1 := (34, [(0, .int a0), (1, .int a1), (2, .int a2)], [], am_SH, hp)) rfl c51 ?_
      refine am_Ev.go hcd 1 (s' := (35, [(0, .int a0), (1, .int a1), (2, .int a2)], [.int 0], am_SH, hp)) rfl ?_
      exact am_Ev.cast (a := ((some (.int 0)), am_SH, hp)) (by cases h; rfl) (am_Ev.ret hcd rfl)
  rw [am_swt_f c49]
  rcases am_ite h with ⟨c60, h⟩ | ⟨c60, h⟩
  · rw [am_swt_t c60]
    refine am_Ev.go hcd 2 (s' := (38, [(0, .int a0), (1, .int a1), (2, .int a2)], [.int a2, .int a1], am_SH, hp)) rfl ?_
    rcases am_ite h with ⟨c62, h⟩ | ⟨c62, h⟩
    · refine am_Ev.t hcd (c := a2 < a1) (s1 := (39, [(0, .int a0), (1, .int a1), (2, .int a2)], [], am_SH, hp)) rfl c62 ?_
      refine am_Ev.go hcd 2 (s' := (42, [(0, .int a0), (1, .int a1), (2, .int a2)], [.int 1], am_SH, hp)) rfl ?_
      exact am_Ev.cast (a := ((some (.int 1)), am_SH, hp)) (by cases h; rfl) (am_Ev.ret hcd rfl)
    · refine am_Ev.f hcd (c := a2 < a1) (s1 := (41, [(0, .int a0), (1, .int a1), (2, .int a2)], [], am_SH, hp)) rfl c62 ?_
      refine am_Ev.go hcd 1 (s' := (42, [(0, .int a0), (1, .int a1), (2, .int a2)], [.int 0], am_SH, hp)) rfl ?_
      exact am_Ev.cast (a := ((some (.int 0)), am_SH, hp)) (by cases h; rfl) (am_Ev.ret hcd rfl)
  rw [am_swt_f c60]
  rw [am_swt_n]
  refine am_Ev.go hcd 3 (s' := (50, [(0, .int a0), (1, .int a1), (2, .int a2)], [.int (a1 ||| a2)], am_SH, hp)) rfl ?_
  exact am_Ev.cast (a := ((some (.int (a1 ||| a2))), am_SH, hp)) (by cases h; rfl) (am_Ev.ret hcd rfl)
set_option maxRecDepth 100000 in
set_option maxHeartbeats 4000000 in
theorem xb_valueOf_ok {sc : Nat × (Nat → Int32)} (d : Nat) (a0 : Int32) (a1 : Int32) (f g : (Nat → Nat → Int32)) (r : Int32 × (Nat → Nat → Int32)) (h : xb_valueOf a0 a1 f = some r) : am_Ev sc (d + 1) 15 (0, [(0, .ref 120), (1, .int a0), (2, .int a1)], [], am_SH, (f, g)) ((some (.int r.1)), am_SH, (r.2, g)) := by
  have hcd : am_code 15 = am_c15 := rfl
  unfold xb_valueOf at h
  refine am_Ev.go hcd 8 (s' := (8, [(0, .ref 120), (1, .int a0), (2, .int a1), (3, .ref 14), (4, .int 0), (5, .int a0)], [], am_SH, (f, g))) rfl ?_
  obtain ⟨e16, he16, h⟩ := am_bind_some h
  have hK1 : (fun (e16 : Int32 × (Nat → Nat → Int32)) => am_Ev sc (d + 1) 15 (96, [(0, .ref 120), (4, .int e16.1)], [], am_SH, (e16.2, g)) ((some (.int r.1)), am_SH, (r.2, g))) e16 := by
    show am_Ev sc (d + 1) 15 (96, [(0, .ref 120), (4, .int e16.1)], [], am_SH, (e16.2, g)) ((some (.int r.1)), am_SH, (r.2, g))
    refine am_Ev.go hcd 1 (s' := (97, [(0, .ref 120), (4, .int e16.1)], [.int e16.1], am_SH, (e16.2, g))) rfl ?_
    rcases am_ite h with ⟨c6, h⟩ | ⟨c6, h⟩
    · refine am_Ev.t hcd (c := 0 < e16.1) (s1 := (98, [(0, .ref 120), (4, .int e16.1)], [], am_SH, (e16.2, g))) rfl c6 ?_
      refine am_Ev.go hcd 5 (s' := (104, [(0, .ref 120), (4, .int e16.1)], [.int (e16.2 122 0)], am_SH, (e16.2, g))) rfl ?_
      exact am_Ev.cast (a := ((some (.int (e16.2 122 0, e16.2).1)), am_SH, ((e16.2 122 0, e16.2).2, g))) (by cases h; rfl) (am_Ev.ret hcd rfl)
    · refine am_Ev.f hcd (c := 0 < e16.1) (s1 := (103, [(0, .ref 120), (4, .int e16.1)], [], am_SH, (e16.2, g))) rfl c6 ?_
      refine am_Ev.go hcd 1 (s' := (104, [(0, .ref 120), (4, .int e16.1)], [.int 0], am_SH, (e16.2, g))) rfl ?_
      exact am_Ev.cast (a := ((some (.int (0, e16.2).1)), am_SH, ((0, e16.2).2, g))) (by cases h; rfl) (am_Ev.ret hcd rfl)
  refine am_Ev.weak' (am_loop_ok (G := fun (s1 : Int32 × Int32 × (Nat → Nat → Int32)) => am_Ev sc (d + 1) 15 (8, [(0, .ref 120), (2, .int a1), (3, .ref 14), (4, .int s1.1), (5, .int s1.2.1)], [], am_SH, (s1.2.2, g)) ((some (.int r.1)), am_SH, (r.2, g))) (Z := fun (e16 : Int32 × (Nat → Nat → Int32)) => am_Ev sc (d + 1) 15 (96, [(0, .ref 120), (4, .int e16.1)], [], am_SH, (e16.2, g)) ((some (.int r.1)), am_SH, (r.2, g))) ?_ am_F (0, a0, f) e16 he16 hK1) (am_sub_cons rfl (am_sub_cons rfl (am_sub_cons rfl (am_sub_cons rfl (am_sub_cons rfl am_sub_nil))))) rfl
  intro s1 q1 h hI1 hZ1
  show am_Ev sc (d + 1) 15 (8, [(0, .ref 120), (2, .int a1), (3, .ref 14), (4, .int s1.1), (5, .int s1.2.1)], [], am_SH, (s1.2.2, g)) ((some (.int r.1)), am_SH, (r.2, g))
  refine am_Ev.go hcd 2 (s' := (10, [(0, .ref 120), (2, .int a1), (3, .ref 14), (4, .int s1.1), (5, .int s1.2.1)], [.int a1, .int s1.2.1], am_SH, (s1.2.2, g))) rfl ?_
  rcases am_ite h with ⟨c17, h⟩ | ⟨c17, h⟩
  · refine am_Ev.t hcd (c := s1.2.1 < a1) (s1 := (11, [(0, .ref 120), (2, .int a1), (3, .ref 14), (4, .int s1.1), (5, .int s1.2.1)], [], am_SH, (s1.2.2, g))) rfl c17 ?_
    refine am_Ev.go hcd 3 (s' := (14, [(0, .ref 120), (2, .int a1), (3, .ref 14), (4, .int s1.1), (5, .int s1.2.1)], [.int (s1.2.2 14 1), .int s1.2.1], am_SH, (s1.2.2, g))) rfl ?_
    rcases am_ite h with ⟨c20, h⟩ | ⟨c20, h⟩
    · refine am_Ev.t hcd (c := s1.2.1 < s1.2.2 14 1) (s1 := (15, [(0, .ref 120), (2, .int a1), (3, .ref 14), (4, .int s1.1), (5, .int s1.2.1)], [], am_SH, (s1.2.2, g))) rfl c20 ?_
      refine am_Ev.go hcd 4 (s' := (19, [(0, .ref 120), (2, .int a1), (3, .ref 14), (4, .int s1.1), (5, .int s1.2.1)], [.int (nI 64), .int s1.1], am_SH, (s1.2.2, g))) rfl ?_
      rcases am_ite h with ⟨c23, h⟩ | ⟨c23, h⟩
      · refine am_Ev.t hcd (c := s1.1 < (nI 64)) (s1 := (20, [(0, .ref 120), (2, .int a1), (3, .ref 14), (4, .int s1.1), (5, .int s1.2.1)], [], am_SH, (s1.2.2, g))) rfl c23 ?_
        refine am_Ev.go hcd 3 (s' := (23, [(0, .ref 120), (2, .int a1), (3, .ref 14), (4, .int s1.1), (5, .int s1.2.1)], [.int s1.2.1, .ref 15], am_SH, (s1.2.2, g))) rfl ?_
        obtain ⟨c26, h⟩ := am_grd h
        refine am_Ev.t hcd (o := none) (c := am_in s1.2.1 400 = true) (s1 := (24, [(0, .ref 120), (2, .int a1), (3, .ref 14), (4, .int s1.1), (5, .int s1.2.1)], [.int (s1.2.2 15 s1.2.1.toNatClampNeg)], am_SH, (s1.2.2, g))) rfl c26 ?_
        obtain ⟨t2, Et2, h⟩ := am_let_eq h
        refine am_Ev.go hcd 1 (s' := (25, [(0, .ref 120), (2, .int a1), (3, .ref 14), (4, .int s1.1), (5, .int s1.2.1), (6, .int t2)], [], am_SH, (s1.2.2, g))) (by subst Et2; exact rfl) ?_
        obtain ⟨t14, ht14, kt14⟩ := am_bind_some h
        have hKt14 : am_Ev sc (d + 1) 15 (94, [(0, .ref 120), (2, .int a1), (3, .ref 14), (4, .int t14.1), (5, .int s1.2.1)], [], am_SH, (t14.2, g)) ((some (.int r.1)), am_SH, (r.2, g)) := by
          have h := kt14
          obtain ⟨t15, Et15, h⟩ := am_let_eq h
          refine am_Ev.go hcd 1 (s' := (95, [(0, .ref 120), (2, .int a1), (3, .ref 14), (4, .int t14.1), (5, .int t15)], [], am_SH, (t14.2, g))) (by subst Et15; exact rfl) ?_
          refine am_Ev.go hcd 1 (s' := (8, [(0, .ref 120), (2, .int a1), (3, .ref 14), (4, .int t14.1), (5, .int t15)], [], am_SH, (t14.2, g))) rfl ?_
          exact am_Ev.weak' (hI1 (t14.1, t15, t14.2) (Option.some.inj h).symm) (am_sub_cons rfl (am_sub_cons rfl (am_sub_cons rfl (am_sub_cons rfl (am_sub_cons rfl am_sub_nil))))) rfl
        have hLt14 : ∀ tt, tt = t14 → am_Ev sc (d + 1) 15 (94, [(0, .ref 120), (2, .int a1), (3, .ref 14), (4, .int tt.1), (5, .int s1.2.1)], [], am_SH, (tt.2, g)) ((some (.int r.1)), am_SH, (r.2, g)) := fun tt htt => by subst htt; exact hKt14
        have h := ht14
        refine am_Ev.go hcd 2 (s' := (27, [(0, .ref 120), (2, .int a1), (3, .ref 14), (4, .int s1.1), (5, .int s1.2.1), (6, .int t2)], [.int 10000, .int t2], am_SH, (s1.2.2, g))) rfl ?_
        rcases am_ite h with ⟨c40, h⟩ | ⟨c40, h⟩
        · refine am_Ev.t hcd (c := t2 < 10000) (s1 := (28, [(0, .ref 120), (2, .int a1), (3, .ref 14), (4, .int s1.1), (5, .int s1.2.1), (6, .int t2)], [], am_SH, (s1.2.2, g))) rfl c40 ?_
          refine am_Ev.go hcd 4 (s' := (32, [(0, .ref 120), (2, .int a1), (3, .ref 14), (4, .int s1.1), (5, .int s1.2.1), (6, .int t2)], [.int t2, .int s1.1, .ref 122], am_SH, (s1.2.2, g))) rfl ?_
          obtain ⟨c43, h⟩ := am_grd h
          obtain ⟨f3, Ef3, h⟩ := am_let_eq h
          refine am_Ev.t hcd (o := none) (c := am_in s1.1 64 = true) (s1 := (33, [(0, .ref 120), (2, .int a1), (3, .ref 14), (4, .int s1.1), (5, .int s1.2.1), (6, .int t2)], [], am_SH, (f3, g))) (by subst Ef3; exact rfl) c43 ?_
          obtain ⟨t4, Et4, h⟩ := am_let_eq h
          refine am_Ev.go hcd 1 (s' := (34, [(0, .ref 120), (2, .int a1), (3, .ref 14), (4, .int t4), (5, .int s1.2.1), (6, .int t2)], [], am_SH, (f3, g))) (by subst Et4; exact rfl) ?_
          refine am_Ev.go hcd 1 (s' := (94, [(0, .ref 120), (2, .int a1), (3, .ref 14), (4, .int t4), (5, .int s1.2.1), (6, .int t2)], [], am_SH, (f3, g))) rfl ?_
          exact am_Ev.weak' (hLt14 (t4, f3) (Option.some.inj h)) (am_sub_cons rfl (am_sub_cons rfl (am_sub_cons rfl (am_sub_cons rfl (am_sub_cons rfl am_sub_nil))))) rfl
        · refine am_Ev.f hcd (c := t2 < 10000) (s1 := (35, [(0, .ref 120), (2, .int a1), (3, .ref 14), (4, .int s1.1), (5, .int s1.2.1), (6, .int t2)], [], am_SH, (s1.2.2, g))) rfl c40 ?_
          refine am_Ev.go hcd 2 (s' := (37, [(0, .ref 120), (2, .int a1), (3, .ref 14), (4, .int s1.1), (5, .int s1.2.1), (6, .int t2)], [.int 20000, .int t2], am_SH, (s1.2.2, g))) rfl ?_
          rcases am_ite h with ⟨c52, h⟩ | ⟨c52, h⟩
          · refine am_Ev.t hcd (c := t2 < 20000) (s1 := (38, [(0, .ref 120), (2, .int a1), (3, .ref 14), (4, .int s1.1), (5, .int s1.2.1), (6, .int t2)], [], am_SH, (s1.2.2, g))) rfl c52 ?_
            refine am_Ev.go hcd 8 (s' := (46, [(0, .ref 120), (2, .int a1), (3, .ref 14), (4, .int s1.1), (5, .int s1.2.1), (6, .int t2)], [.int (t2 - 10000), .ref 121, .int s1.1, .ref 122], am_SH, (s1.2.2, g))) rfl ?_
            obtain ⟨c55, h⟩ := am_grd h
            refine am_Ev.t hcd (o := none) (c := am_in (t2 - 10000) 17 = true) (s1 := (47, [(0, .ref 120), (2, .int a1), (3, .ref 14), (4, .int s1.1), (5, .int s1.2.1), (6, .int t2)], [.int (s1.2.2 121 (t2 - 10000).toNatClampNeg), .int s1.1, .ref 122], am_SH, (s1.2.2, g))) rfl c55 ?_
            obtain ⟨c58, h⟩ := am_grd h
            obtain ⟨f5, Ef5, h⟩ := am_let_eq h
            refine am_Ev.t hcd (o := none) (c := am_in s1.1 64 = true) (s1 := (48, [(0, .ref 120), (2, .int a1), (3, .ref 14), (4, .int s1.1), (5, .int s1.2.1), (6, .int t2)], [], am_SH, (f5, g))) (by subst Ef5; exact rfl) c58 ?_
            obtain ⟨t6, Et6, h⟩ := am_let_eq h
            refine am_Ev.go hcd 1 (s' := (49, [(0, .ref 120), (2, .int a1), (3, .ref 14), (4, .int t6), (5, .int s1.2.1), (6, .int t2)], [], am_SH, (f5, g))) (by subst Et6; exact rfl) ?_
            refine am_Ev.go hcd 1 (s' := (94, [(0, .ref 120), (2, .int a1), (3, .ref 14), (4, .int t6), (5, .int s1.2.1), (6, .int t2)], [], am_SH, (f5, g))) rfl ?_
            exact am_Ev.weak' (hLt14 (t6, f5) (Option.some.inj h)) (am_sub_cons rfl (am_sub_cons rfl (am_sub_cons rfl (am_sub_cons rfl (am_sub_cons rfl am_sub_nil))))) rfl
          · refine am_Ev.f hcd (c := t2 < 20000) (s1 := (50, [(0, .ref 120), (2, .int a1), (3, .ref 14), (4, .int s1.1), (5, .int s1.2.1), (6, .int t2)], [], am_SH, (s1.2.2, g))) rfl c52 ?_
            refine am_Ev.go hcd 2 (s' := (52, [(0, .ref 120), (2, .int a1), (3, .ref 14), (4, .int s1.1), (5, .int s1.2.1), (6, .int t2)], [.int 20033, .int t2], am_SH, (s1.2.2, g))) rfl ?_
            rcases am_ite h with ⟨c66, h⟩ | ⟨c66, h⟩
            · refine am_Ev.t hcd (c := t2 = 20033) (s1 := (53, [(0, .ref 120), (2, .int a1), (3, .ref 14), (4, .int s1.1), (5, .int s1.2.1), (6, .int t2)], [], am_SH, (s1.2.2, g))) rfl c66 ?_
              refine am_Ev.go hcd 1 (s' := (54, [(0, .ref 120), (2, .int a1), (3, .ref 14), (4, .int s1.1), (5, .int s1.2.1), (6, .int t2)], [.int s1.1], am_SH, (s1.2.2, g))) rfl ?_
              rcases am_ite h with ⟨c69, h⟩ | ⟨c69, h⟩
              · refine am_Ev.t hcd (c := 0 < s1.1) (s1 := (55, [(0, .ref 120), (2, .int a1), (3, .ref 14), (4, .int s1.1), (5, .int s1.2.1), (6, .int t2)], [], am_SH, (s1.2.2, g))) rfl c69 ?_
                refine am_Ev.go hcd 11 (s' := (66, [(0, .ref 120), (2, .int a1), (3, .ref 14), (4, .int s1.1), (5, .int s1.2.1), (6, .int t2)], [.int (s1.1 - 1), .ref 122, .int 1, .int (s1.1 - 1), .ref 122], am_SH, (s1.2.2, g))) rfl ?_
                obtain ⟨c72, h⟩ := am_grd h
                refine am_Ev.t hcd (o := none) (c := am_in (s1.1 - 1) 64 = true) (s1 := (67, [(0, .ref 120), (2, .int a1), (3, .ref 14), (4, .int s1.1), (5, .int s1.2.1), (6, .int t2)], [.int (s1.2.2 122 (s1.1 - 1).toNatClampNeg), .int 1, .int (s1.1 - 1), .ref 122], am_SH, (s1.2.2, g))) rfl c72 ?_
                refine am_Ev.go hcd 1 (s' := (68, [(0, .ref 120), (2, .int a1), (3, .ref 14), (4, .int s1.1), (5, .int s1.2.1), (6, .int t2)], [.int (1 - (s1.2.2 122 (s1.1 - 1).toNatClampNeg)), .int (s1.1 - 1), .ref 122], am_SH, (s1.2.2, g))) rfl ?_
                obtain ⟨c75, h⟩ := am_grd h
                obtain ⟨f7, Ef7, h⟩ := am_let_eq h
                refine am_Ev.t hcd (o := none) (c := am_in (s1.1 - 1) 64 = true) (s1 := (69, [(0, .ref 120), (2, .int a1), (3, .ref 14), (4, .int s1.1), (5, .int s1.2.1), (6, .int t2)], [], am_SH, (f7, g))) (by subst Ef7; exact rfl) c75 ?_
                refine am_Ev.go hcd 1 (s' := (94, [(0, .ref 120), (2, .int a1), (3, .ref 14), (4, .int s1.1), (5, .int s1.2.1), (6, .int t2)], [], am_SH, (f7, g))) rfl ?_
                exact am_Ev.weak' (hLt14 (s1.1, f7) (Option.some.inj h)) (am_sub_cons rfl (am_sub_cons rfl (am_sub_cons rfl (am_sub_cons rfl (am_sub_cons rfl am_sub_nil))))) rfl
              · refine am_Ev.f hcd (c := 0 < s1.1) (s1 := (70, [(0, .ref 120), (2, .int a1), (3, .ref 14), (4, .int s1.1), (5, .int s1.2.1), (6, .int t2)], [], am_SH, (s1.2.2, g))) rfl c69 ?_
                refine am_Ev.go hcd 2 (s' := (72, [(0, .ref 120), (2, .int a1), (3, .ref 14), (4, .int s1.1), (5, .int s1.2.1), (6, .int t2)], [.int 1, .int s1.1], am_SH, (s1.2.2, g))) rfl ?_
                rcases am_ite h with ⟨c82, h⟩ | ⟨c82, h⟩
                · refine am_Ev.t hcd (c := 1 < s1.1) (s1 := (73, [(0, .ref 120), (2, .int a1), (3, .ref 14), (4, .int s1.1), (5, .int s1.2.1), (6, .int t2)], [], am_SH, (s1.2.2, g))) rfl c82 ?_
                  obtain ⟨t8, Et8, h⟩ := am_let_eq h
                  refine am_Ev.go hcd 1 (s' := (74, [(0, .ref 120), (2, .int a1), (3, .ref 14), (4, .int t8), (5, .int s1.2.1), (6, .int t2)], [], am_SH, (s1.2.2, g))) (by subst Et8; exact rfl) ?_
                  refine am_Ev.go hcd 13 (s' := (87, [(0, .ref 120), (2, .int a1), (3, .ref 14), (4, .int t8), (5, .int s1.2.1), (6, .int t2)], [.int (t8 - 1), .ref 122, .int (t2 - 20000), .int (t8 - 1), .ref 122], am_SH, (s1.2.2, g))) rfl ?_
                  obtain ⟨c87, h⟩ := am_grd h
                  refine am_Ev.t hcd (o := none) (c := am_in (t8 - 1) 64 = true) (s1 := (88, [(0, .ref 120), (2, .int a1), (3, .ref 14), (4, .int t8), (5, .int s1.2.1), (6, .int t2)], [.int (s1.2.2 122 (t8 - 1).toNatClampNeg), .int (t2 - 20000), .int (t8 - 1), .ref 122], am_SH, (s1.2.2, g))) rfl c87 ?_
                  refine am_Ev.go hcd 3 (s' := (91, [(0, .ref 120), (2, .int a1), (3, .ref 14), (4, .int t8), (5, .int s1.2.1), (6, .int t2)], [.int t8, .ref 122, .int (s1.2.2 122 (t8 - 1).toNatClampNeg), .int (t2 - 20000), .int (t8 - 1), .ref 122], am_SH, (s1.2.2, g))) rfl ?_
                  obtain ⟨c90, h⟩ := am_grd h
                  refine am_Ev.t hcd (o := none) (c := am_in t8 64 = true) (s1 := (92, [(0, .ref 120), (2, .int a1), (3, .ref 14), (4, .int t8), (5, .int s1.2.1), (6, .int t2)], [.int (s1.2.2 122 t8.toNatClampNeg), .int (s1.2.2 122 (t8 - 1).toNatClampNeg), .int (t2 - 20000), .int (t8 - 1), .ref 122], am_SH, (s1.2.2, g))) rfl c90 ?_
                  obtain ⟨p9, hp9, h⟩ := am_bind_some h
                  refine am_Ev.call hcd (a := 16) (s0 := (0, [(0, .int (t2 - 20000)), (1, .int (s1.2.2 122 (t8 - 1).toNatClampNeg)), (2, .int (s1.2.2 122 t8.toNatClampNeg))], [], am_SH, (s1.2.2, g))) (q := ((some (.int p9)), am_SH, (s1.2.2, g))) (s1 := (93, [(0, .ref 120), (2, .int a1), (3, .ref 14), (4, .int t8), (5, .int s1.2.1), (6, .int t2)], [.int p9, .int (t8 - 1), .ref 122], am_SH, (s1.2.2, g))) rfl rfl (xb_joined_ok (d) (t2 - 20000) (s1.2.2 122 (t8 - 1).toNatClampNeg) (s1.2.2 122 t8.toNatClampNeg) (s1.2.2, g) p9 hp9) ?_
                  obtain ⟨c95, h⟩ := am_grd h
                  obtain ⟨f10, Ef10, h⟩ := am_let_eq h
                  refine am_Ev.t hcd (o := none) (c := am_in (t8 - 1) 64 = true) (s1 := (94, [(0, .ref 120), (2, .int a1), (3, .ref 14), (4, .int t8), (5, .int s1.2.1), (6, .int t2)], [], am_SH, (f10, g))) (by subst Ef10; exact rfl) c95 ?_
                  exact am_Ev.weak' (hLt14 (t8, f10) (Option.some.inj h)) (am_sub_cons rfl (am_sub_cons rfl (am_sub_cons rfl (am_sub_cons rfl (am_sub_cons rfl am_sub_nil))))) rfl
                · refine am_Ev.f hcd (c := 1 < s1.1) (s1 := (94, [(0, .ref 120), (2, .int a1), (3, .ref 14), (4, .int s1.1), (5, .int s1.2.1), (6, .int t2)], [], am_SH, (s1.2.2, g))) rfl c82 ?_
                  exact am_Ev.weak' (hLt14 (s1.1, s1.2.2) (Option.some.inj h)) (am_sub_cons rfl (am_sub_cons rfl (am_sub_cons rfl (am_sub_cons rfl (am_sub_cons rfl am_sub_nil))))) rfl
            · refine am_Ev.f hcd (c := t2 = 20033) (s1 := (70, [(0, .ref 120), (2, .int a1), (3, .ref 14), (4, .int s1.1), (5, .int s1.2.1), (6, .int t2)], [], am_SH, (s1.2.2, g))) rfl c66 ?_
              refine am_Ev.go hcd 2 (s' := (72, [(0, .ref 120), (2, .int a1), (3, .ref 14), (4, .int s1.1), (5, .int s1.2.1), (6, .int t2)], [.int 1, .int s1.1], am_SH, (s1.2.2, g))) rfl ?_
              rcases am_ite h with ⟨c102, h⟩ | ⟨c102, h⟩
              · refine am_Ev.t hcd (c := 1 < s1.1) (s1 := (73, [(0, .ref 120), (2, .int a1), (3, .ref 14), (4, .int s1.1), (5, .int s1.2.1), (6, .int t2)], [], am_SH, (s1.2.2, g))) rfl c102 ?_
                obtain ⟨t11, Et11, h⟩ := am_let_eq h
                refine am_Ev.go hcd 1 (s' := (74, [(0, .ref 120), (2, .int a1), (3, .ref 14), (4, .int t11), (5, .int s1.2.1), (6, .int t2)], [], am_SH, (s1.2.2, g))) (by subst Et11; exact rfl) ?_
                refine am_Ev.go hcd 13 (s' := (87, [(0, .ref 120), (2, .int a1), (3, .ref 14), (4, .int t11), (5, .int s1.2.1), (6, .int t2)], [.int (t11 - 1), .ref 122, .int (t2 - 20000), .int (t11 - 1), .ref 122], am_SH, (s1.2.2, g))) rfl ?_
                obtain ⟨c107, h⟩ := am_grd h
                refine am_Ev.t hcd (o := none) (c := am_in (t11 - 1) 64 = true) (s1 := (88, [(0, .ref 120), (2, .int a1), (3, .ref 14), (4, .int t11), (5, .int s1.2.1), (6, .int t2)], [.int (s1.2.2 122 (t11 - 1).toNatClampNeg), .int (t2 - 20000), .int (t11 - 1), .ref 122], am_SH, (s1.2.2, g))) rfl c107 ?_
                refine am_Ev.go hcd 3 (s' := (91, [(0, .ref 120), (2, .int a1), (3, .ref 14), (4, .int t11), (5, .int s1.2.1), (6, .int t2)], [.int t11, .ref 122, .int (s1.2.2 122 (t11 - 1).toNatClampNeg), .int (t2 - 20000), .int (t11 - 1), .ref 122], am_SH, (s1.2.2, g))) rfl ?_
                obtain ⟨c110, h⟩ := am_grd h
                refine am_Ev.t hcd (o := none) (c := am_in t11 64 = true) (s1 := (92, [(0, .ref 120), (2, .int a1), (3, .ref 14), (4, .int t11), (5, .int s1.2.1), (6, .int t2)], [.int (s1.2.2 122 t11.toNatClampNeg), .int (s1.2.2 122 (t11 - 1).toNatClampNeg), .int (t2 - 20000), .int (t11 - 1), .ref 122], am_SH, (s1.2.2, g))) rfl c110 ?_
                obtain ⟨p12, hp12, h⟩ := am_bind_some h
                refine am_Ev.call hcd (a := 16) (s0 := (0, [(0, .int (t2 - 20000)), (1, .int (s1.2.2 122 (t11 - 1).toNatClampNeg)), (2, .int (s1.2.2 122 t11.toNatClampNeg))], [], am_SH, (s1.2.2, g))) (q := ((some (.int p12)), am_SH, (s1.2.2, g))) (s1 := (93, [(0, .ref 120), (2, .int a1), (3, .ref 14), (4, .int t11), (5, .int s1.2.1), (6, .int t2)], [.int p12, .int (t11 - 1), .ref 122], am_SH, (s1.2.2, g))) rfl rfl (xb_joined_ok (d) (t2 - 20000) (s1.2.2 122 (t11 - 1).toNatClampNeg) (s1.2.2 122 t11.toNatClampNeg) (s1.2.2, g) p12 hp12) ?_
                obtain ⟨c115, h⟩ := am_grd h
                obtain ⟨f13, Ef13, h⟩ := am_let_eq h
                refine am_Ev.t hcd (o := none) (c := am_in (t11 - 1) 64 = true) (s1 := (94, [(0, .ref 120), (2, .int a1), (3, .ref 14), (4, .int t11), (5, .int s1.2.1), (6, .int t2)], [], am_SH, (f13, g))) (by subst Ef13; exact rfl) c115 ?_
                exact am_Ev.weak' (hLt14 (t11, f13) (Option.some.inj h)) (am_sub_cons rfl (am_sub_cons rfl (am_sub_cons rfl (am_sub_cons rfl (am_sub_cons rfl am_sub_nil))))) rfl
              · refine am_Ev.f hcd (c := 1 < s1.1) (s1 := (94, [(0, .ref 120), (2, .int a1), (3, .ref 14), (4, .int s1.1), (5, .int s1.2.1), (6, .int t2)], [], am_SH, (s1.2.2, g))) rfl c102 ?_
                exact am_Ev.weak' (hLt14 (s1.1, s1.2.2) (Option.some.inj h)) (am_sub_cons rfl (am_sub_cons rfl (am_sub_cons rfl (am_sub_cons rfl (am_sub_cons rfl am_sub_nil))))) rfl
      · refine am_Ev.f hcd (c := s1.1 < (nI 64)) (s1 := (96, [(0, .ref 120), (2, .int a1), (3, .ref 14), (4, .int s1.1), (5, .int s1.2.1)], [], am_SH, (s1.2.2, g))) rfl c23 ?_
        exact am_Ev.weak' (hZ1 (s1.1, s1.2.2) (Option.some.inj h).symm) (am_sub_cons rfl (am_sub_cons rfl am_sub_nil)) rfl
    · refine am_Ev.f hcd (c := s1.2.1 < s1.2.2 14 1) (s1 := (96, [(0, .ref 120), (2, .int a1), (3, .ref 14), (4, .int s1.1), (5, .int s1.2.1)], [], am_SH, (s1.2.2, g))) rfl c20 ?_
      exact am_Ev.weak' (hZ1 (s1.1, s1.2.2) (Option.some.inj h).symm) (am_sub_cons rfl (am_sub_cons rfl am_sub_nil)) rfl
  · refine am_Ev.f hcd (c := s1.2.1 < a1) (s1 := (96, [(0, .ref 120), (2, .int a1), (3, .ref 14), (4, .int s1.1), (5, .int s1.2.1)], [], am_SH, (s1.2.2, g))) rfl c17 ?_
    exact am_Ev.weak' (hZ1 (s1.1, s1.2.2) (Option.some.inj h).symm) (am_sub_cons rfl (am_sub_cons rfl am_sub_nil)) rfl
