set_option maxRecDepth 100000 in
set_option maxHeartbeats 4000000 in
theorem xb_behold_110_ok {sc : Nat × (Nat → Int32)} (d : Nat) (a0 : Int32) (f g : (Nat → Nat → Int32)) (r : (Nat → Nat → Int32)) (h : xb_behold_110 a0 f = some r) : am_Ev sc (d + 2) 13 (0, [(0, .ref 120), (1, .ref 110), (2, .int a0)], [], am_SH, (f, g)) (none, am_SH, (r, g)) := by
  have hcd : am_code 13 = am_c13 := rfl
  unfold xb_behold_110 at h
  refine am_Ev.go hcd 3 (s' := (3, [(0, .ref 120), (1, .ref 110), (2, .int a0)], [.int a0, .ref 113], am_SH, (f, g))) rfl ?_
  obtain ⟨c2, h⟩ := am_grd h
  refine am_Ev.t hcd (o := none) (c := am_in a0 6 = true) (s1 := (4, [(0, .ref 120), (1, .ref 110), (2, .int a0)], [.int (f 113 a0.toNatClampNeg)], am_SH, (f, g))) rfl c2 ?_
  obtain ⟨t1, Et1, h⟩ := am_let_eq h
  refine am_Ev.go hcd 1 (s' := (5, [(0, .ref 120), (1, .ref 110), (2, .int a0), (3, .int t1)], [], am_SH, (f, g))) (by subst Et1; exact rfl) ?_
  refine am_Ev.go hcd 2 (s' := (7, [(0, .ref 120), (1, .ref 110), (2, .int a0), (3, .int t1)], [.int t1, .ref 110], am_SH, (f, g))) rfl ?_
  refine am_Ev.call hcd (a := 23) (s0 := (0, [(0, .ref 110), (1, .int t1)], [], am_SH, (f, g))) (q := ((some (.int (am_b (xc_hasWitness_110 t1 f)))), am_SH, (f, g))) (s1 := (8, [(0, .ref 120), (1, .ref 110), (2, .int a0), (3, .int t1)], [.int (am_b (xc_hasWitness_110 t1 f))], am_SH, (f, g))) rfl rfl (xc_hasWitness_110_ok (d + 1) t1 f g) ?_
  obtain ⟨t3, Et3, h⟩ := am_let_eq h
  refine am_Ev.go hcd 1 (s' := (9, [(0, .ref 120), (1, .ref 110), (2, .int a0), (3, .int t1), (4, .int (am_b t3))], [], am_SH, (f, g))) (by subst Et3; exact rfl) ?_
  obtain ⟨t5, ht5, kt5⟩ := am_bind_some h
  have hKt5 : am_Ev sc (d + 2) 13 (28, [(0, .ref 120), (1, .ref 110), (2, .int a0), (3, .int t1), (4, .int (am_b t3))], [.int t5, .int 7, .ref 121], am_SH, (f, g)) (none, am_SH, (r, g)) := by
    have h := kt5
    obtain ⟨f6, Ef6, h⟩ := am_let_eq h
    refine am_Ev.go hcd 1 (s' := (29, [(0, .ref 120), (1, .ref 110), (2, .int a0), (3, .int t1), (4, .int (am_b t3))], [], am_SH, (f6, g))) (by subst Ef6; exact rfl) ?_
    obtain ⟨t7, ht7, kt7⟩ := am_bind_some h
    have hKt7 : am_Ev sc (d + 2) 13 (40, [(0, .ref 120), (1, .ref 110), (2, .int a0), (3, .int t1), (4, .int (am_b t3))], [.int t7, .int 8, .ref 121], am_SH, (f6, g)) (none, am_SH, (r, g)) := by
      have h := kt7
      obtain ⟨f8, Ef8, h⟩ := am_let_eq h
      refine am_Ev.go hcd 1 (s' := (41, [(0, .ref 120), (1, .ref 110), (2, .int a0), (3, .int t1), (4, .int (am_b t3))], [], am_SH, (f8, g))) (by subst Ef8; exact rfl) ?_
      refine am_Ev.go hcd 6 (s' := (47, [(0, .ref 120), (1, .ref 110), (2, .int a0), (3, .int t1), (4, .int (am_b t3))], [.int a0, .ref 112, .int 9, .ref 121], am_SH, (f8, g))) rfl ?_
      obtain ⟨c21, h⟩ := am_grd h
      refine am_Ev.t hcd (o := none) (c := am_in a0 6 = true) (s1 := (48, [(0, .ref 120), (1, .ref 110), (2, .int a0), (3, .int t1), (4, .int (am_b t3))], [.int (f8 112 a0.toNatClampNeg), .int 9, .ref 121], am_SH, (f8, g))) rfl c21 ?_
      obtain ⟨f9, Ef9, h⟩ := am_let_eq h
      refine am_Ev.go hcd 1 (s' := (49, [(0, .ref 120), (1, .ref 110), (2, .int a0), (3, .int t1), (4, .int (am_b t3))], [], am_SH, (f9, g))) (by subst Ef9; exact rfl) ?_
      refine am_Ev.go hcd 6 (s' := (55, [(0, .ref 120), (1, .ref 110), (2, .int a0), (3, .int t1), (4, .int (am_b t3))], [.int a0, .ref 111, .int 10, .ref 121], am_SH, (f9, g))) rfl ?_
      obtain ⟨c26, h⟩ := am_grd h
      refine am_Ev.t hcd (o := none) (c := am_in a0 6 = true) (s1 := (56, [(0, .ref 120), (1, .ref 110), (2, .int a0), (3, .int t1), (4, .int (am_b t3))], [.int (f9 111 a0.toNatClampNeg), .int 10, .ref 121], am_SH, (f9, g))) rfl c26 ?_
      obtain ⟨f10, Ef10, h⟩ := am_let_eq h
      refine am_Ev.go hcd 1 (s' := (57, [(0, .ref 120), (1, .ref 110), (2, .int a0), (3, .int t1), (4, .int (am_b t3))], [], am_SH, (f10, g))) (by subst Ef10; exact rfl) ?_
      refine am_Ev.go hcd 6 (s' := (63, [(0, .ref 120), (1, .ref 110), (2, .int a0), (3, .int t1), (4, .int (am_b t3))], [.int a0, .ref 114, .int 11, .ref 121], am_SH, (f10, g))) rfl ?_
      obtain ⟨c31, h⟩ := am_grd h
      refine am_Ev.t hcd (o := none) (c := am_in a0 6 = true) (s1 := (64, [(0, .ref 120), (1, .ref 110), (2, .int a0), (3, .int t1), (4, .int (am_b t3))], [.int (f10 114 a0.toNatClampNeg), .int 11, .ref 121], am_SH, (f10, g))) rfl c31 ?_
      obtain ⟨t11, ht11, kt11⟩ := am_let_eq h
      have hKt11 : am_Ev sc (d + 2) 13 (69, [(0, .ref 120), (1, .ref 110), (2, .int a0), (3, .int t1), (4, .int (am_b t3))], [.int (am_b t11), .int 11, .ref 121], am_SH, (f10, g)) (none, am_SH, (r, g)) := by
        have h := kt11
        obtain ⟨f12, Ef12, h⟩ := am_let_eq h
        refine am_Ev.go hcd 1 (s' := (70, [(0, .ref 120), (1, .ref 110), (2, .int a0), (3, .int t1), (4, .int (am_b t3))], [], am_SH, (f12, g))) (by subst Ef12; exact rfl) ?_
        obtain ⟨t14, ht14, kt14⟩ := am_bind_some h
        have hKt14 : am_Ev sc (d + 2) 13 (82, [(0, .ref 120), (1, .ref 110), (2, .int a0), (3, .int t1), (4, .int (am_b t3))], [.int t14, .int 12, .ref 121], am_SH, (f12, g)) (none, am_SH, (r, g)) := by
          have h := kt14
          obtain ⟨f15, Ef15, h⟩ := am_let_eq h
          refine am_Ev.go hcd 1 (s' := (83, [(0, .ref 120), (1, .ref 110), (2, .int a0), (3, .int t1), (4, .int (am_b t3))], [], am_SH, (f15, g))) (by subst Ef15; exact rfl) ?_
          obtain ⟨t16, ht16, kt16⟩ := am_bind_some h
          have hKt16 : am_Ev sc (d + 2) 13 (94, [(0, .ref 120), (1, .ref 110), (2, .int a0)], [.int t16, .int 13, .ref 121], am_SH, (f15, g)) (none, am_SH, (r, g)) := by
            have h := kt16
            obtain ⟨f17, Ef17, h⟩ := am_let_eq h
            refine am_Ev.go hcd 1 (s' := (95, [(0, .ref 120), (1, .ref 110), (2, .int a0)], [], am_SH, (f17, g))) (by subst Ef17; exact rfl) ?_
            refine am_Ev.go hcd 6 (s' := (101, [(0, .ref 120), (1, .ref 110), (2, .int a0)], [.int a0, .ref 115, .int 14, .ref 121], am_SH, (f17, g))) rfl ?_
            obtain ⟨c49, h⟩ := am_grd h
            refine am_Ev.t hcd (o := none) (c := am_in a0 6 = true) (s1 := (102, [(0, .ref 120), (1, .ref 110), (2, .int a0)], [.int (f17 115 a0.toNatClampNeg), .int 14, .ref 121], am_SH, (f17, g))) rfl c49 ?_
            obtain ⟨f18, Ef18, h⟩ := am_let_eq h
            refine am_Ev.go hcd 1 (s' := (103, [(0, .ref 120), (1, .ref 110), (2, .int a0)], [], am_SH, (f18, g))) (by subst Ef18; exact rfl) ?_
            obtain ⟨f19, Ef19, h⟩ := am_let_eq h
            refine am_Ev.go hcd 5 (s' := (108, [(0, .ref 120), (1, .ref 110), (2, .int a0)], [], am_SH, (f19, g))) (by subst Ef19; exact rfl) ?_
            obtain ⟨f20, Ef20, h⟩ := am_let_eq h
            refine am_Ev.go hcd 6 (s' := (114, [(0, .ref 120), (1, .ref 110), (2, .int a0)], [], am_SH, (f20, g))) (by subst Ef20; exact rfl) ?_
            exact am_Ev.cast (a := (none, am_SH, (f20, g))) (by cases h; rfl) (am_Ev.ret hcd rfl)
          have hLt16 : ∀ tt, tt = t16 → am_Ev sc (d + 2) 13 (94, [(0, .ref 120), (1, .ref 110), (2, .int a0)], [.int tt, .int 13, .ref 121], am_SH, (f15, g)) (none, am_SH, (r, g)) := fun tt htt => by subst htt; exact hKt16
          have h := ht16
          refine am_Ev.go hcd 4 (s' := (87, [(0, .ref 120), (1, .ref 110), (2, .int a0), (3, .int t1), (4, .int (am_b t3))], [.int (am_b t3), .int 13, .ref 121], am_SH, (f15, g))) rfl ?_
          rcases am_ite h with ⟨c61, h⟩ | ⟨c61, h⟩
          · refine am_Ev.f hcd (c := am_b t3 = 0) (s1 := (88, [(0, .ref 120), (1, .ref 110), (2, .int a0), (3, .int t1), (4, .int (am_b t3))], [.int 13, .ref 121], am_SH, (f15, g))) rfl (am_b_t c61) ?_
            refine am_Ev.go hcd 3 (s' := (91, [(0, .ref 120), (1, .ref 110), (2, .int a0), (3, .int t1), (4, .int (am_b t3))], [.int t1, .ref 118, .int 13, .ref 121], am_SH, (f15, g))) rfl ?_
            obtain ⟨c64, h⟩ := am_grd h
            refine am_Ev.t hcd (o := none) (c := am_in t1 12 = true) (s1 := (92, [(0, .ref 120), (1, .ref 110), (2, .int a0), (3, .int t1), (4, .int (am_b t3))], [.int (f15 118 t1.toNatClampNeg), .int 13, .ref 121], am_SH, (f15, g))) rfl c64 ?_
            refine am_Ev.go hcd 1 (s' := (94, [(0, .ref 120), (1, .ref 110), (2, .int a0), (3, .int t1), (4, .int (am_b t3))], [.int (f15 118 t1.toNatClampNeg), .int 13, .ref 121], am_SH, (f15, g))) rfl ?_
            exact am_Ev.weak' (hLt16 (f15 118 t1.toNatClampNeg) (Option.some.inj h)) (am_sub_cons rfl (am_sub_cons rfl (am_sub_cons rfl am_sub_nil))) rfl
          · refine am_Ev.t hcd (c := am_b t3 = 0) (s1 := (93, [(0, .ref 120), (1, .ref 110), (2, .int a0), (3, .int t1), (4, .int (am_b t3))], [.int 13, .ref 121], am_SH, (f15, g))) rfl (am_b_f c61) ?_
            refine am_Ev.go hcd 1 (s' := (94, [(0, .ref 120), (1, .ref 110), (2, .int a0), (3, .int t1), (4, .int (am_b t3))], [.int 0, .int 13, .ref 121], am_SH, (f15, g))) rfl ?_
            exact am_Ev.weak' (hLt16 0 (Option.some.inj h)) (am_sub_cons rfl (am_sub_cons rfl (am_sub_cons rfl am_sub_nil))) rfl
        have hLt14 : ∀ tt, tt = t14 → am_Ev sc (d + 2) 13 (82, [(0, .ref 120), (1, .ref 110), (2, .int a0), (3, .int t1), (4, .int (am_b t3))], [.int tt, .int 12, .ref 121], am_SH, (f12, g)) (none, am_SH, (r, g)) := fun tt htt => by subst htt; exact hKt14
        have h := ht14
        refine am_Ev.go hcd 4 (s' := (74, [(0, .ref 120), (1, .ref 110), (2, .int a0), (3, .int t1), (4, .int (am_b t3))], [.int (am_b t3), .int 12, .ref 121], am_SH, (f12, g))) rfl ?_
        rcases am_ite h with ⟨c74, h⟩ | ⟨c74, h⟩
        · refine am_Ev.f hcd (c := am_b t3 = 0) (s1 := (75, [(0, .ref 120), (1, .ref 110), (2, .int a0), (3, .int t1), (4, .int (am_b t3))], [.int 12, .ref 121], am_SH, (f12, g))) rfl (am_b_t c74) ?_
          refine am_Ev.go hcd 3 (s' := (78, [(0, .ref 120), (1, .ref 110), (2, .int a0), (3, .int t1), (4, .int (am_b t3))], [.int t1, .ref 117, .int 12, .ref 121], am_SH, (f12, g))) rfl ?_
          obtain ⟨c77, h⟩ := am_grd h
          refine am_Ev.t hcd (o := none) (c := am_in t1 12 = true) (s1 := (79, [(0, .ref 120), (1, .ref 110), (2, .int a0), (3, .int t1), (4, .int (am_b t3))], [.int (f12 117 t1.toNatClampNeg), .int 12, .ref 121], am_SH, (f12, g))) rfl c77 ?_
          refine am_Ev.call hcd (a := 312) (s0 := (0, [(0, .int (f12 117 t1.toNatClampNeg))], [], am_SH, (f12, g))) (q := ((some (.int (ji_bitCount (f12 117 t1.toNatClampNeg)))), am_SH, (f12, g))) (s1 := (80, [(0, .ref 120), (1, .ref 110), (2, .int a0), (3, .int t1), (4, .int (am_b t3))], [.int (ji_bitCount (f12 117 t1.toNatClampNeg)), .int 12, .ref 121], am_SH, (f12, g))) rfl rfl (ji_bitCount_ok (d + 1) (f12 117 t1.toNatClampNeg) (f12, g)) ?_
          refine am_Ev.go hcd 1 (s' := (82, [(0, .ref 120), (1, .ref 110), (2, .int a0), (3, .int t1), (4, .int (am_b t3))], [.int (ji_bitCount (f12 117 t1.toNatClampNeg)), .int 12, .ref 121], am_SH, (f12, g))) rfl ?_
          exact am_Ev.weak' (hLt14 (ji_bitCount (f12 117 t1.toNatClampNeg)) (Option.some.inj h)) (am_sub_cons rfl (am_sub_cons rfl (am_sub_cons rfl (am_sub_cons rfl (am_sub_cons rfl am_sub_nil))))) rfl
        · refine am_Ev.t hcd (c := am_b t3 = 0) (s1 := (81, [(0, .ref 120), (1, .ref 110), (2, .int a0), (3, .int t1), (4, .int (am_b t3))], [.int 12, .ref 121], am_SH, (f12, g))) rfl (am_b_f c74) ?_
          refine am_Ev.go hcd 1 (s' := (82, [(0, .ref 120), (1, .ref 110), (2, .int a0), (3, .int t1), (4, .int (am_b t3))], [.int 0, .int 12, .ref 121], am_SH, (f12, g))) rfl ?_
          exact am_Ev.weak' (hLt14 0 (Option.some.inj h)) (am_sub_cons rfl (am_sub_cons rfl (am_sub_cons rfl (am_sub_cons rfl (am_sub_cons rfl am_sub_nil))))) rfl
      have hLt11 : ∀ tt, tt = t11 → am_Ev sc (d + 2) 13 (69, [(0, .ref 120), (1, .ref 110), (2, .int a0), (3, .int t1), (4, .int (am_b t3))], [.int (am_b tt), .int 11, .ref 121], am_SH, (f10, g)) (none, am_SH, (r, g)) := fun tt htt => by subst htt; exact hKt11
      have h := ht11
      refine am_Ev.go hcd 1 (s' := (65, [(0, .ref 120), (1, .ref 110), (2, .int a0), (3, .int t1), (4, .int (am_b t3))], [.int (-1), .int (f10 114 a0.toNatClampNeg), .int 11, .ref 121], am_SH, (f10, g))) rfl ?_
      rcases am_itv h with ⟨c88, h⟩ | ⟨c88, h⟩
      · refine am_Ev.t hcd (c := f10 114 a0.toNatClampNeg = (-1)) (s1 := (66, [(0, .ref 120), (1, .ref 110), (2, .int a0), (3, .int t1), (4, .int (am_b t3))], [.int 11, .ref 121], am_SH, (f10, g))) rfl c88 ?_
        refine am_Ev.go hcd 2 (s' := (69, [(0, .ref 120), (1, .ref 110), (2, .int a0), (3, .int t1), (4, .int (am_b t3))], [.int 0, .int 11, .ref 121], am_SH, (f10, g))) rfl ?_
        exact am_Ev.weak' (hLt11 false h.symm) (am_sub_cons rfl (am_sub_cons rfl (am_sub_cons rfl (am_sub_cons rfl (am_sub_cons rfl am_sub_nil))))) rfl
      · refine am_Ev.f hcd (c := f10 114 a0.toNatClampNeg = (-1)) (s1 := (68, [(0, .ref 120), (1, .ref 110), (2, .int a0), (3, .int t1), (4, .int (am_b t3))], [.int 11, .ref 121], am_SH, (f10, g))) rfl c88 ?_
        refine am_Ev.go hcd 1 (s' := (69, [(0, .ref 120), (1, .ref 110), (2, .int a0), (3, .int t1), (4, .int (am_b t3))], [.int 1, .int 11, .ref 121], am_SH, (f10, g))) rfl ?_
        exact am_Ev.weak' (hLt11 true h.symm) (am_sub_cons rfl (am_sub_cons rfl (am_sub_cons rfl (am_sub_cons rfl (am_sub_cons rfl am_sub_nil))))) rfl
    have hLt7 : ∀ tt, tt = t7 → am_Ev sc (d + 2) 13 (40, [(0, .ref 120), (1, .ref 110), (2, .int a0), (3, .int t1), (4, .int (am_b t3))], [.int tt, .int 8, .ref 121], am_SH, (f6, g)) (none, am_SH, (r, g)) := fun tt htt => by subst htt; exact hKt7
    have h := ht7
    refine am_Ev.go hcd 4 (s' := (33, [(0, .ref 120), (1, .ref 110), (2, .int a0), (3, .int t1), (4, .int (am_b t3))], [.int (am_b t3), .int 8, .ref 121], am_SH, (f6, g))) rfl ?_
    rcases am_ite h with ⟨c98, h⟩ | ⟨c98, h⟩
    · refine am_Ev.f hcd (c := am_b t3 = 0) (s1 := (34, [(0, .ref 120), (1, .ref 110), (2, .int a0), (3, .int t1), (4, .int (am_b t3))], [.int 8, .ref 121], am_SH, (f6, g))) rfl (am_b_t c98) ?_
      refine am_Ev.go hcd 3 (s' := (37, [(0, .ref 120), (1, .ref 110), (2, .int a0), (3, .int t1), (4, .int (am_b t3))], [.int t1, .ref 116, .int 8, .ref 121], am_SH, (f6, g))) rfl ?_
      obtain ⟨c101, h⟩ := am_grd h
      refine am_Ev.t hcd (o := none) (c := am_in t1 12 = true) (s1 := (38, [(0, .ref 120), (1, .ref 110), (2, .int a0), (3, .int t1), (4, .int (am_b t3))], [.int (f6 116 t1.toNatClampNeg), .int 8, .ref 121], am_SH, (f6, g))) rfl c101 ?_
      refine am_Ev.go hcd 1 (s' := (40, [(0, .ref 120), (1, .ref 110), (2, .int a0), (3, .int t1), (4, .int (am_b t3))], [.int (f6 116 t1.toNatClampNeg), .int 8, .ref 121], am_SH, (f6, g))) rfl ?_
      exact am_Ev.weak' (hLt7 (f6 116 t1.toNatClampNeg) (Option.some.inj h)) (am_sub_cons rfl (am_sub_cons rfl (am_sub_cons rfl (am_sub_cons rfl (am_sub_cons rfl am_sub_nil))))) rfl
    · refine am_Ev.t hcd (c := am_b t3 = 0) (s1 := (39, [(0, .ref 120), (1, .ref 110), (2, .int a0), (3, .int t1), (4, .int (am_b t3))], [.int 8, .ref 121], am_SH, (f6, g))) rfl (am_b_f c98) ?_
      refine am_Ev.go hcd 1 (s' := (40, [(0, .ref 120), (1, .ref 110), (2, .int a0), (3, .int t1), (4, .int (am_b t3))], [.int 0, .int 8, .ref 121], am_SH, (f6, g))) rfl ?_
      exact am_Ev.weak' (hLt7 0 (Option.some.inj h)) (am_sub_cons rfl (am_sub_cons rfl (am_sub_cons rfl (am_sub_cons rfl (am_sub_cons rfl am_sub_nil))))) rfl
  have hLt5 : ∀ tt, tt = t5 → am_Ev sc (d + 2) 13 (28, [(0, .ref 120), (1, .ref 110), (2, .int a0), (3, .int t1), (4, .int (am_b t3))], [.int tt, .int 7, .ref 121], am_SH, (f, g)) (none, am_SH, (r, g)) := fun tt htt => by subst htt; exact hKt5
  have h := ht5
  refine am_Ev.go hcd 4 (s' := (13, [(0, .ref 120), (1, .ref 110), (2, .int a0), (3, .int t1), (4, .int (am_b t3))], [.int (am_b t3), .int 7, .ref 121], am_SH, (f, g))) rfl ?_
  rcases am_ite h with ⟨c111, h⟩ | ⟨c111, h⟩
  · refine am_Ev.f hcd (c := am_b t3 = 0) (s1 := (14, [(0, .ref 120), (1, .ref 110), (2, .int a0), (3, .int t1), (4, .int (am_b t3))], [.int 7, .ref 121], am_SH, (f, g))) rfl (am_b_t c111) ?_
    refine am_Ev.go hcd 6 (s' := (20, [(0, .ref 120), (1, .ref 110), (2, .int a0), (3, .int t1), (4, .int (am_b t3))], [.int t1, .ref 117, .ref 25, .int 7, .ref 121], am_SH, (f, g))) rfl ?_
    obtain ⟨c114, h⟩ := am_grd h
    refine am_Ev.t hcd (o := none) (c := am_in t1 12 = true) (s1 := (21, [(0, .ref 120), (1, .ref 110), (2, .int a0), (3, .int t1), (4, .int (am_b t3))], [.int (f 117 t1.toNatClampNeg), .ref 25, .int 7, .ref 121], am_SH, (f, g))) rfl c114 ?_
    refine am_Ev.go hcd 3 (s' := (24, [(0, .ref 120), (1, .ref 110), (2, .int a0), (3, .int t1), (4, .int (am_b t3))], [.int a0, .ref 114, .int (f 117 t1.toNatClampNeg), .ref 25, .int 7, .ref 121], am_SH, (f, g))) rfl ?_
    obtain ⟨c117, h⟩ := am_grd h
    refine am_Ev.t hcd (o := none) (c := am_in a0 6 = true) (s1 := (25, [(0, .ref 120), (1, .ref 110), (2, .int a0), (3, .int t1), (4, .int (am_b t3))], [.int (f 114 a0.toNatClampNeg), .int (f 117 t1.toNatClampNeg), .ref 25, .int 7, .ref 121], am_SH, (f, g))) rfl c117 ?_
    obtain ⟨p4, hp4, h⟩ := am_bind_some h
    refine am_Ev.call hcd (a := 81) (s0 := (0, [(0, .ref 25), (1, .int (f 117 t1.toNatClampNeg)), (2, .int (f 114 a0.toNatClampNeg))], [], am_SH, (f, g))) (q := ((some (.int p4)), am_SH, (f, g))) (s1 := (26, [(0, .ref 120), (1, .ref 110), (2, .int a0), (3, .int t1), (4, .int (am_b t3))], [.int p4, .int 7, .ref 121], am_SH, (f, g))) rfl rfl (xn_nearness_25_ok (d) (f 117 t1.toNatClampNeg) (f 114 a0.toNatClampNeg) f g p4 hp4) ?_
    refine am_Ev.go hcd 1 (s' := (28, [(0, .ref 120), (1, .ref 110), (2, .int a0), (3, .int t1), (4, .int (am_b t3))], [.int p4, .int 7, .ref 121], am_SH, (f, g))) rfl ?_
    exact am_Ev.weak' (hLt5 p4 (Option.some.inj h)) (am_sub_cons rfl (am_sub_cons rfl (am_sub_cons rfl (am_sub_cons rfl (am_sub_cons rfl am_sub_nil))))) rfl
  · refine am_Ev.t hcd (c := am_b t3 = 0) (s1 := (27, [(0, .ref 120), (1, .ref 110), (2, .int a0), (3, .int t1), (4, .int (am_b t3))], [.int 7, .ref 121], am_SH, (f, g))) rfl (am_b_f c111) ?_
    refine am_Ev.go hcd 1 (s' := (28, [(0, .ref 120), (1, .ref 110), (2, .int a0), (3, .int t1), (4, .int (am_b t3))], [.int 0, .int 7, .ref 121], am_SH, (f, g))) rfl ?_
    exact am_Ev.weak' (hLt5 0 (Option.some.inj h)) (am_sub_cons rfl (am_sub_cons rfl (am_sub_cons rfl (am_sub_cons rfl (am_sub_cons rfl am_sub_nil))))) rfl
set_option maxRecDepth 100000 in
set_option maxHeartbeats 4000000 in
theorem xb_drawThousand_110_ok {sc : Nat × (Nat → Int32)} (d : Nat)  (f g : (Nat → Nat → Int32)) : am_Ev sc (d) 8 (0, [(0, .ref 110)], [], am_SH, (f, g)) ((some (.int (xb_drawThousand_110  f).1)), am_SH, ((xb_drawThousand_110  f).2, g)) := by
  have hcd : am_code 8 = am_c8 := rfl
  obtain ⟨r, h⟩ : ∃ r, r = xb_drawThousand_110  f := ⟨_, rfl⟩
  rw [← h]
  unfold xb_drawThousand_110 at h
  obtain ⟨f1, Ef1, h⟩ := am_let_eq' h
  refine am_Ev.go hcd 8 (s' := (8, [(0, .ref 110)], [], am_SH, (f1, g))) (by subst Ef1; exact rfl) ?_
  refine am_Ev.go hcd 6 (s' := (14, [(0, .ref 110)], [.int ((((f1 110 3).toUInt32 >>> ((8 : Int32).toUInt32 &&& Int32.toUInt32 31)).toInt32) - (((f1 110 3).toUInt32 >>> ((8 : Int32).toUInt32 &&& Int32.toUInt32 31)).toInt32) / 1000 * 1000)], am_SH, (f1, g))) rfl ?_
  exact am_Ev.cast (a := ((some (.int (((((f1 110 3).toUInt32 >>> ((8 : Int32).toUInt32 &&& Int32.toUInt32 31)).toInt32) - (((f1 110 3).toUInt32 >>> ((8 : Int32).toUInt32 &&& Int32.toUInt32 31)).toInt32) / 1000 * 1000), f1).1)), am_SH, ((((((f1 110 3).toUInt32 >>> ((8 : Int32).toUInt32 &&& Int32.toUInt32 31)).toInt32) - (((f1 110 3).toUInt32 >>> ((8 : Int32).toUInt32 &&& Int32.toUInt32 31)).toInt32) / 1000 * 1000), f1).2, g))) (by subst h; rfl) (am_Ev.ret hcd rfl)
set_option maxRecDepth 100000 in
set_option maxHeartbeats 4000000 in
theorem xb_slipsNow_110_ok {sc : Nat × (Nat → Int32)} (d : Nat) (a0 : Bool) (f g : (Nat → Nat → Int32)) (r : Bool × (Nat → Nat → Int32)) (h : xb_slipsNow_110 a0 f = some r) : am_Ev sc (d + 3) 7 (0, [(0, .ref 120), (1, .ref 110), (2, .int (am_b a0))], [], am_SH, (f, g)) ((some (.int (am_b r.1))), am_SH, (r.2, g)) := by
  have hcd : am_code 7 = am_c7 := rfl
  unfold xb_slipsNow_110 at h
  refine am_Ev.go hcd 2 (s' := (2, [(0, .ref 120), (1, .ref 110), (2, .int (am_b a0))], [.int 1, .ref 120], am_SH, (f, g))) rfl ?_
  obtain ⟨p1, hp1, h⟩ := am_bind_some h
  refine am_Ev.call hcd (a := 14) (s0 := (0, [(0, .ref 120), (1, .int 1)], [], am_SH, (f, g))) (q := ((some (.int p1.1)), am_SH, (p1.2, g))) (s1 := (3, [(0, .ref 120), (1, .ref 110), (2, .int (am_b a0))], [.int p1.1], am_SH, (p1.2, g))) rfl rfl (xb_told_ok (d) 1 f g p1 hp1) ?_
  refine am_Ev.go hcd 2 (s' := (5, [(0, .ref 120), (1, .ref 110), (2, .int (am_b a0)), (3, .int p1.1)], [.int (am_b a0)], am_SH, (p1.2, g))) rfl ?_
  rcases am_ite h with ⟨c5, h⟩ | ⟨c5, h⟩
  · refine am_Ev.f hcd (c := am_b a0 = 0) (s1 := (13, [(0, .ref 120), (1, .ref 110), (2, .int (am_b a0)), (3, .int p1.1)], [], am_SH, (p1.2, g))) rfl (am_b_t c5) ?_
    refine am_Ev.go hcd 1 (s' := (14, [(0, .ref 120), (1, .ref 110), (2, .int (am_b a0)), (3, .int p1.1)], [.int p1.1], am_SH, (p1.2, g))) rfl ?_
    rcases am_ite h with ⟨c8, h⟩ | ⟨c8, h⟩
    · refine am_Ev.t hcd (c := 0 < p1.1) (s1 := (15, [(0, .ref 120), (1, .ref 110), (2, .int (am_b a0)), (3, .int p1.1)], [], am_SH, (p1.2, g))) rfl c8 ?_
      refine am_Ev.go hcd 1 (s' := (16, [(0, .ref 120), (1, .ref 110), (2, .int (am_b a0)), (3, .int p1.1)], [.ref 110], am_SH, (p1.2, g))) rfl ?_
      obtain ⟨p2, Ep2, h⟩ := am_let_eq h
      refine am_Ev.call hcd (a := 8) (s0 := (0, [(0, .ref 110)], [], am_SH, (p1.2, g))) (q := ((some (.int p2.1)), am_SH, (p2.2, g))) (s1 := (17, [(0, .ref 120), (1, .ref 110), (2, .int (am_b a0)), (3, .int p1.1)], [.int p2.1], am_SH, (p2.2, g))) rfl rfl (by subst Ep2; exact xb_drawThousand_110_ok (d + 2)  p1.2 g) ?_
      refine am_Ev.go hcd 1 (s' := (18, [(0, .ref 120), (1, .ref 110), (2, .int (am_b a0)), (3, .int p1.1)], [.int p1.1, .int p2.1], am_SH, (p2.2, g))) rfl ?_
      rcases am_ite h with ⟨c14, h⟩ | ⟨c14, h⟩
      · refine am_Ev.t hcd (c := p2.1 < p1.1) (s1 := (19, [(0, .ref 120), (1, .ref 110), (2, .int (am_b a0)), (3, .int p1.1)], [], am_SH, (p2.2, g))) rfl c14 ?_
        refine am_Ev.go hcd 2 (s' := (22, [(0, .ref 120), (1, .ref 110), (2, .int (am_b a0)), (3, .int p1.1)], [.int 1], am_SH, (p2.2, g))) rfl ?_
        exact am_Ev.cast (a := ((some (.int (am_b (true, p2.2).1))), am_SH, ((true, p2.2).2, g))) (by cases h; rfl) (am_Ev.ret hcd rfl)
      · refine am_Ev.f hcd (c := p2.1 < p1.1) (s1 := (21, [(0, .ref 120), (1, .ref 110), (2, .int (am_b a0)), (3, .int p1.1)], [], am_SH, (p2.2, g))) rfl c14 ?_
        refine am_Ev.go hcd 1 (s' := (22, [(0, .ref 120), (1, .ref 110), (2, .int (am_b a0)), (3, .int p1.1)], [.int 0], am_SH, (p2.2, g))) rfl ?_
        exact am_Ev.cast (a := ((some (.int (am_b (false, p2.2).1))), am_SH, ((false, p2.2).2, g))) (by cases h; rfl) (am_Ev.ret hcd rfl)
    · refine am_Ev.f hcd (c := 0 < p1.1) (s1 := (21, [(0, .ref 120), (1, .ref 110), (2, .int (am_b a0)), (3, .int p1.1)], [], am_SH, (p1.2, g))) rfl c8 ?_
      refine am_Ev.go hcd 1 (s' := (22, [(0, .ref 120), (1, .ref 110), (2, .int (am_b a0)), (3, .int p1.1)], [.int 0], am_SH, (p1.2, g))) rfl ?_
      exact am_Ev.cast (a := ((some (.int (am_b (false, p1.2).1))), am_SH, ((false, p1.2).2, g))) (by cases h; rfl) (am_Ev.ret hcd rfl)
  · refine am_Ev.t hcd (c := am_b a0 = 0) (s1 := (6, [(0, .ref 120), (1, .ref 110), (2, .int (am_b a0)), (3, .int p1.1)], [], am_SH, (p1.2, g))) rfl (am_b_f c5) ?_
    refine am_Ev.go hcd 2 (s' := (8, [(0, .ref 120), (1, .ref 110), (2, .int (am_b a0)), (3, .int p1.1)], [.int 500, .int p1.1], am_SH, (p1.2, g))) rfl ?_
    rcases am_ite h with ⟨c26, h⟩ | ⟨c26, h⟩
    · refine am_Ev.t hcd (c := p1.1 < 500) (s1 := (11, [(0, .ref 120), (1, .ref 110), (2, .int (am_b a0)), (3, .int p1.1)], [], am_SH, (p1.2, g))) rfl c26 ?_
      refine am_Ev.go hcd 1 (s' := (12, [(0, .ref 120), (1, .ref 110), (2, .int (am_b a0)), (3, .int p1.1)], [.int 0], am_SH, (p1.2, g))) rfl ?_
      exact am_Ev.cast (a := ((some (.int (am_b (false, p1.2).1))), am_SH, ((false, p1.2).2, g))) (by cases h; rfl) (am_Ev.ret hcd rfl)
    · refine am_Ev.f hcd (c := p1.1 < 500) (s1 := (9, [(0, .ref 120), (1, .ref 110), (2, .int (am_b a0)), (3, .int p1.1)], [], am_SH, (p1.2, g))) rfl c26 ?_
      refine am_Ev.go hcd 2 (s' := (12, [(0, .ref 120), (1, .ref 110), (2, .int (am_b a0)), (3, .int p1.1)], [.int 1], am_SH, (p1.2, g))) rfl ?_
      exact am_Ev.cast (a := ((some (.int (am_b (true, p1.2).1))), am_SH, ((true, p1.2).2, g))) (by cases h; rfl) (am_Ev.ret hcd rfl)
set_option maxRecDepth 100000 in
set_option maxHeartbeats 4000000 in
theorem xb_warm_110_ok {sc : Nat × (Nat → Int32)} (d : Nat) (a0 : Int32) (a1 : Bool) (f g : (Nat → Nat → Int32)) (r : (Nat → Nat → Int32)) (h : xb_warm_110 a0 a1 f = some r) : am_Ev sc (d + 3) 9 (0, [(0, .ref 120), (1, .ref 110), (2, .int a0), (3, .int (am_b a1))], [], am_SH, (f, g)) (none, am_SH, (r, g)) := by
  have hcd : am_code 9 = am_c9 := rfl
  unfold xb_warm_110 at h
  refine am_Ev.go hcd 2 (s' := (2, [(0, .ref 120), (1, .ref 110), (2, .int a0), (3, .int (am_b a1))], [.int 0, .ref 120], am_SH, (f, g))) rfl ?_
  obtain ⟨p1, hp1, h⟩ := am_bind_some h
  refine am_Ev.call hcd (a := 14) (s0 := (0, [(0, .ref 120), (1, .int 0)], [], am_SH, (f, g))) (q := ((some (.int p1.1)), am_SH, (p1.2, g))) (s1 := (3, [(0, .ref 120), (1, .ref 110), (2, .int a0), (3, .int (am_b a1))], [.int p1.1], am_SH, (p1.2, g))) rfl rfl (xb_told_ok (d) 0 f g p1 hp1) ?_
  refine am_Ev.go hcd 5 (s' := (8, [(0, .ref 120), (1, .ref 110), (2, .int a0), (3, .int (am_b a1)), (4, .int p1.1)], [.int a0, .ref 112, .int a0, .ref 112], am_SH, (p1.2, g))) rfl ?_
  obtain ⟨c5, h⟩ := am_grd h
  refine am_Ev.t hcd (o := none) (c := am_in a0 6 = true) (s1 := (9, [(0, .ref 120), (1, .ref 110), (2, .int a0), (3, .int (am_b a1)), (4, .int p1.1)], [.int (p1.2 112 a0.toNatClampNeg), .int a0, .ref 112], am_SH, (p1.2, g))) rfl c5 ?_
  refine am_Ev.go hcd 2 (s' := (11, [(0, .ref 120), (1, .ref 110), (2, .int a0), (3, .int (am_b a1)), (4, .int p1.1)], [.int ((p1.2 112 a0.toNatClampNeg) + p1.1), .int a0, .ref 112], am_SH, (p1.2, g))) rfl ?_
  obtain ⟨c8, h⟩ := am_grd h
  obtain ⟨f2, Ef2, h⟩ := am_let_eq h
  refine am_Ev.t hcd (o := none) (c := am_in a0 6 = true) (s1 := (12, [(0, .ref 120), (1, .ref 110), (2, .int a0), (3, .int (am_b a1)), (4, .int p1.1)], [], am_SH, (f2, g))) (by subst Ef2; exact rfl) c8 ?_
  obtain ⟨t4, ht4, kt4⟩ := am_bind_some h
  have hKt4 : am_Ev sc (d + 3) 9 (31, [(0, .ref 120), (1, .ref 110), (2, .int a0), (3, .int (am_b a1)), (4, .int p1.1)], [], am_SH, (t4, g)) (none, am_SH, (r, g)) := by
    have h := kt4
    refine am_Ev.go hcd 1 (s' := (32, [(0, .ref 120), (1, .ref 110), (2, .int a0), (3, .int (am_b a1)), (4, .int p1.1)], [.int p1.1], am_SH, (t4, g))) rfl ?_
    rcases am_ite h with ⟨c15, h⟩ | ⟨c15, h⟩
    · refine am_Ev.t hcd (c := 0 < p1.1) (s1 := (33, [(0, .ref 120), (1, .ref 110), (2, .int a0), (3, .int (am_b a1)), (4, .int p1.1)], [], am_SH, (t4, g))) rfl c15 ?_
      refine am_Ev.go hcd 6 (s' := (39, [(0, .ref 120), (1, .ref 110), (2, .int a0), (3, .int (am_b a1)), (4, .int p1.1)], [.int (am_b a1), .int p1.1, .int a0, .int 2, .ref 110, .ref 120], am_SH, (t4, g))) rfl ?_
      obtain ⟨p5, hp5, h⟩ := am_bind_some h
      refine am_Ev.call hcd (a := 5) (s0 := (0, [(0, .ref 120), (1, .ref 110), (2, .int 2), (3, .int a0), (4, .int p1.1), (5, .int (am_b a1))], [], am_SH, (t4, g))) (q := (none, am_SH, (p5, g))) (s1 := (40, [(0, .ref 120), (1, .ref 110), (2, .int a0), (3, .int (am_b a1)), (4, .int p1.1)], [], am_SH, (p5, g))) rfl rfl (xb_note_110_ok (d + 1) 2 a0 p1.1 a1 t4 g p5 hp5) ?_
      exact am_Ev.cast (a := (none, am_SH, (p5, g))) (by cases h; rfl) (am_Ev.ret hcd rfl)
    · refine am_Ev.f hcd (c := 0 < p1.1) (s1 := (40, [(0, .ref 120), (1, .ref 110), (2, .int a0), (3, .int (am_b a1)), (4, .int p1.1)], [], am_SH, (t4, g))) rfl c15 ?_
      exact am_Ev.cast (a := (none, am_SH, (t4, g))) (by cases h; rfl) (am_Ev.ret hcd rfl)
  have hLt4 : ∀ tt, tt = t4 → am_Ev sc (d + 3) 9 (31, [(0, .ref 120), (1, .ref 110), (2, .int a0), (3, .int (am_b a1)), (4, .int p1.1)], [], am_SH, (tt, g)) (none, am_SH, (r, g)) := fun tt htt => by subst htt; exact hKt4
  have h := ht4
  refine am_Ev.go hcd 4 (s' := (16, [(0, .ref 120), (1, .ref 110), (2, .int a0), (3, .int (am_b a1)), (4, .int p1.1)], [.int (f2 121 7)], am_SH, (f2, g))) rfl ?_
  rcases am_ite h with ⟨c26, h⟩ | ⟨c26, h⟩
  · refine am_Ev.t hcd (c := 0 < f2 121 7) (s1 := (17, [(0, .ref 120), (1, .ref 110), (2, .int a0), (3, .int (am_b a1)), (4, .int p1.1)], [], am_SH, (f2, g))) rfl c26 ?_
    refine am_Ev.go hcd 3 (s' := (20, [(0, .ref 120), (1, .ref 110), (2, .int a0), (3, .int (am_b a1)), (4, .int p1.1)], [.int a0, .ref 111], am_SH, (f2, g))) rfl ?_
    obtain ⟨c29, h⟩ := am_grd h
    refine am_Ev.t hcd (o := none) (c := am_in a0 6 = true) (s1 := (21, [(0, .ref 120), (1, .ref 110), (2, .int a0), (3, .int (am_b a1)), (4, .int p1.1)], [.int (f2 111 a0.toNatClampNeg)], am_SH, (f2, g))) rfl c29 ?_
    refine am_Ev.go hcd 1 (s' := (22, [(0, .ref 120), (1, .ref 110), (2, .int a0), (3, .int (am_b a1)), (4, .int p1.1)], [.int 99, .int (f2 111 a0.toNatClampNeg)], am_SH, (f2, g))) rfl ?_
    rcases am_ite h with ⟨c32, h⟩ | ⟨c32, h⟩
    · refine am_Ev.t hcd (c := f2 111 a0.toNatClampNeg < 99) (s1 := (23, [(0, .ref 120), (1, .ref 110), (2, .int a0), (3, .int (am_b a1)), (4, .int p1.1)], [], am_SH, (f2, g))) rfl c32 ?_
      refine am_Ev.go hcd 4 (s' := (27, [(0, .ref 120), (1, .ref 110), (2, .int a0), (3, .int (am_b a1)), (4, .int p1.1)], [.int a0, .ref 111, .int a0, .ref 111], am_SH, (f2, g))) rfl ?_
      obtain ⟨c35, h⟩ := am_grd h
      refine am_Ev.t hcd (o := none) (c := am_in a0 6 = true) (s1 := (28, [(0, .ref 120), (1, .ref 110), (2, .int a0), (3, .int (am_b a1)), (4, .int p1.1)], [.int (f2 111 a0.toNatClampNeg), .int a0, .ref 111], am_SH, (f2, g))) rfl c35 ?_
      refine am_Ev.go hcd 2 (s' := (30, [(0, .ref 120), (1, .ref 110), (2, .int a0), (3, .int (am_b a1)), (4, .int p1.1)], [.int ((f2 111 a0.toNatClampNeg) + 1), .int a0, .ref 111], am_SH, (f2, g))) rfl ?_
      obtain ⟨c38, h⟩ := am_grd h
      obtain ⟨f3, Ef3, h⟩ := am_let_eq h
      refine am_Ev.t hcd (o := none) (c := am_in a0 6 = true) (s1 := (31, [(0, .ref 120), (1, .ref 110), (2, .int a0), (3, .int (am_b a1)), (4, .int p1.1)], [], am_SH, (f3, g))) (by subst Ef3; exact rfl) c38 ?_
      exact am_Ev.weak' (hLt4 f3 (Option.some.inj h)) (am_sub_cons rfl (am_sub_cons rfl (am_sub_cons rfl (am_sub_cons rfl (am_sub_cons rfl am_sub_nil))))) rfl
    · refine am_Ev.f hcd (c := f2 111 a0.toNatClampNeg < 99) (s1 := (31, [(0, .ref 120), (1, .ref 110), (2, .int a0), (3, .int (am_b a1)), (4, .int p1.1)], [], am_SH, (f2, g))) rfl c32 ?_
      exact am_Ev.weak' (hLt4 f2 (Option.some.inj h)) (am_sub_cons rfl (am_sub_cons rfl (am_sub_cons rfl (am_sub_cons rfl (am_sub_cons rfl am_sub_nil))))) rfl
  · refine am_Ev.f hcd (c := 0 < f2 121 7) (s1 := (31, [(0, .ref 120), (1, .ref 110), (2, .int a0), (3, .int (am_b a1)), (4, .int p1.1)], [], am_SH, (f2, g))) rfl c26 ?_
    exact am_Ev.weak' (hLt4 f2 (Option.some.inj h)) (am_sub_cons rfl (am_sub_cons rfl (am_sub_cons rfl (am_sub_cons rfl (am_sub_cons rfl am_sub_nil))))) rfl
set_option maxRecDepth 100000 in
set_option maxHeartbeats 4000000 in
theorem xb_goOffTop_110_ok {sc : Nat × (Nat → Int32)} (d : Nat) (a0 : Int32) (a1 : Bool) (f g : (Nat → Nat → Int32)) (r : (Nat → Nat → Int32)) (h : xb_goOffTop_110 a0 a1 f = some r) : am_Ev sc (d + 2) 10 (0, [(0, .ref 120), (1, .ref 110), (2, .int a0), (3, .int (am_b a1))], [], am_SH, (f, g)) (none, am_SH, (r, g)) := by
  have hcd : am_code 10 = am_c10 := rfl
  unfold xb_goOffTop_110 at h
  refine am_Ev.go hcd 3 (s' := (3, [(0, .ref 120), (1, .ref 110), (2, .int a0), (3, .int (am_b a1))], [.int a0, .ref 113], am_SH, (f, g))) rfl ?_
  obtain ⟨c2, h⟩ := am_grd h
  refine am_Ev.t hcd (o := none) (c := am_in a0 6 = true) (s1 := (4, [(0, .ref 120), (1, .ref 110), (2, .int a0), (3, .int (am_b a1))], [.int (f 113 a0.toNatClampNeg)], am_SH, (f, g))) rfl c2 ?_
  obtain ⟨t1, Et1, h⟩ := am_let_eq h
  refine am_Ev.go hcd 1 (s' := (5, [(0, .ref 120), (1, .ref 110), (2, .int a0), (3, .int (am_b a1)), (4, .int t1)], [], am_SH, (f, g))) (by subst Et1; exact rfl) ?_
  refine am_Ev.go hcd 4 (s' := (9, [(0, .ref 120), (1, .ref 110), (2, .int a0), (3, .int (am_b a1)), (4, .int t1)], [.int 420, .int a0, .ref 112], am_SH, (f, g))) rfl ?_
  obtain ⟨c7, h⟩ := am_grd h
  obtain ⟨f2, Ef2, h⟩ := am_let_eq h
  refine am_Ev.t hcd (o := none) (c := am_in a0 6 = true) (s1 := (10, [(0, .ref 120), (1, .ref 110), (2, .int a0), (3, .int (am_b a1)), (4, .int t1)], [], am_SH, (f2, g))) (by subst Ef2; exact rfl) c7 ?_
  refine am_Ev.go hcd 4 (s' := (14, [(0, .ref 120), (1, .ref 110), (2, .int a0), (3, .int (am_b a1)), (4, .int t1)], [.int a0, .ref 115, .int a0, .ref 115], am_SH, (f2, g))) rfl ?_
  obtain ⟨c11, h⟩ := am_grd h
  refine am_Ev.t hcd (o := none) (c := am_in a0 6 = true) (s1 := (15, [(0, .ref 120), (1, .ref 110), (2, .int a0), (3, .int (am_b a1)), (4, .int t1)], [.int (f2 115 a0.toNatClampNeg), .int a0, .ref 115], am_SH, (f2, g))) rfl c11 ?_
  refine am_Ev.go hcd 2 (s' := (17, [(0, .ref 120), (1, .ref 110), (2, .int a0), (3, .int (am_b a1)), (4, .int t1)], [.int ((f2 115 a0.toNatClampNeg) + 1), .int a0, .ref 115], am_SH, (f2, g))) rfl ?_
  obtain ⟨c14, h⟩ := am_grd h
  obtain ⟨f3, Ef3, h⟩ := am_let_eq h
  refine am_Ev.t hcd (o := none) (c := am_in a0 6 = true) (s1 := (18, [(0, .ref 120), (1, .ref 110), (2, .int a0), (3, .int (am_b a1)), (4, .int t1)], [], am_SH, (f3, g))) (by subst Ef3; exact rfl) c14 ?_
  refine am_Ev.go hcd 2 (s' := (20, [(0, .ref 120), (1, .ref 110), (2, .int a0), (3, .int (am_b a1)), (4, .int t1)], [.int t1, .ref 110], am_SH, (f3, g))) rfl ?_
  refine am_Ev.call hcd (a := 23) (s0 := (0, [(0, .ref 110), (1, .int t1)], [], am_SH, (f3, g))) (q := ((some (.int (am_b (xc_hasWitness_110 t1 f3)))), am_SH, (f3, g))) (s1 := (21, [(0, .ref 120), (1, .ref 110), (2, .int a0), (3, .int (am_b a1)), (4, .int t1)], [.int (am_b (xc_hasWitness_110 t1 f3))], am_SH, (f3, g))) rfl rfl (xc_hasWitness_110_ok (d + 1) t1 f3 g) ?_
  obtain ⟨t6, ht6, kt6⟩ := am_bind_some h
  have hKt6 : am_Ev sc (d + 2) 10 (30, [(0, .ref 120), (1, .ref 110), (2, .int a0), (3, .int (am_b a1)), (4, .int t1)], [], am_SH, (t6, g)) (none, am_SH, (r, g)) := by
    have h := kt6
    refine am_Ev.go hcd 4 (s' := (34, [(0, .ref 120), (1, .ref 110), (2, .int a0), (3, .int (am_b a1)), (4, .int t1)], [.int (-1), .int a0, .ref 113], am_SH, (t6, g))) rfl ?_
    obtain ⟨c23, h⟩ := am_grd h
    obtain ⟨f7, Ef7, h⟩ := am_let_eq h
    refine am_Ev.t hcd (o := none) (c := am_in a0 6 = true) (s1 := (35, [(0, .ref 120), (1, .ref 110), (2, .int a0), (3, .int (am_b a1)), (4, .int t1)], [], am_SH, (f7, g))) (by subst Ef7; exact rfl) c23 ?_
    refine am_Ev.go hcd 6 (s' := (41, [(0, .ref 120), (1, .ref 110), (2, .int a0), (3, .int (am_b a1)), (4, .int t1)], [.int (am_b a1), .int t1, .int a0, .int 4, .ref 110, .ref 120], am_SH, (f7, g))) rfl ?_
    obtain ⟨p8, hp8, h⟩ := am_bind_some h
    refine am_Ev.call hcd (a := 5) (s0 := (0, [(0, .ref 120), (1, .ref 110), (2, .int 4), (3, .int a0), (4, .int t1), (5, .int (am_b a1))], [], am_SH, (f7, g))) (q := (none, am_SH, (p8, g))) (s1 := (42, [(0, .ref 120), (1, .ref 110), (2, .int a0), (3, .int (am_b a1)), (4, .int t1)], [], am_SH, (p8, g))) rfl rfl (xb_note_110_ok (d) 4 a0 t1 a1 f7 g p8 hp8) ?_
    exact am_Ev.cast (a := (none, am_SH, (p8, g))) (by cases h; rfl) (am_Ev.ret hcd rfl)
  have hLt6 : ∀ tt, tt = t6 → am_Ev sc (d + 2) 10 (30, [(0, .ref 120), (1, .ref 110), (2, .int a0), (3, .int (am_b a1)), (4, .int t1)], [], am_SH, (tt, g)) (none, am_SH, (r, g)) := fun tt htt => by subst htt; exact hKt6
  have h := ht6
  rcases am_ite h with ⟨c33, h⟩ | ⟨c33, h⟩
  · refine am_Ev.f hcd (c := am_b (xc_hasWitness_110 t1 f3) = 0) (s1 := (22, [(0, .ref 120), (1, .ref 110), (2, .int a0), (3, .int (am_b a1)), (4, .int t1)], [], am_SH, (f3, g))) rfl (am_b_t c33) ?_
    refine am_Ev.go hcd 4 (s' := (26, [(0, .ref 120), (1, .ref 110), (2, .int a0), (3, .int (am_b a1)), (4, .int t1)], [.int t1, .ref 119, .int t1, .ref 119], am_SH, (f3, g))) rfl ?_
    obtain ⟨c35, h⟩ := am_grd h
    refine am_Ev.t hcd (o := none) (c := am_in t1 12 = true) (s1 := (27, [(0, .ref 120), (1, .ref 110), (2, .int a0), (3, .int (am_b a1)), (4, .int t1)], [.int (f3 119 t1.toNatClampNeg), .int t1, .ref 119], am_SH, (f3, g))) rfl c35 ?_
    refine am_Ev.go hcd 2 (s' := (29, [(0, .ref 120), (1, .ref 110), (2, .int a0), (3, .int (am_b a1)), (4, .int t1)], [.int ((f3 119 t1.toNatClampNeg) + 1), .int t1, .ref 119], am_SH, (f3, g))) rfl ?_
    obtain ⟨c38, h⟩ := am_grd h
    obtain ⟨f5, Ef5, h⟩ := am_let_eq h
    refine am_Ev.t hcd (o := none) (c := am_in t1 12 = true) (s1 := (30, [(0, .ref 120), (1, .ref 110), (2, .int a0), (3, .int (am_b a1)), (4, .int t1)], [], am_SH, (f5, g))) (by subst Ef5; exact rfl) c38 ?_
    exact am_Ev.weak' (hLt6 f5 (Option.some.inj h)) (am_sub_cons rfl (am_sub_cons rfl (am_sub_cons rfl (am_sub_cons rfl (am_sub_cons rfl am_sub_nil))))) rfl
  · refine am_Ev.t hcd (c := am_b (xc_hasWitness_110 t1 f3) = 0) (s1 := (30, [(0, .ref 120), (1, .ref 110), (2, .int a0), (3, .int (am_b a1)), (4, .int t1)], [], am_SH, (f3, g))) rfl (am_b_f c33) ?_
    exact am_Ev.weak' (hLt6 f3 (Option.some.inj h)) (am_sub_cons rfl (am_sub_cons rfl (am_sub_cons rfl (am_sub_cons rfl (am_sub_cons rfl am_sub_nil))))) rfl
set_option maxRecDepth 100000 in
set_option maxHeartbeats 4000000 in
theorem xb_passGlass_110_ok {sc : Nat × (Nat → Int32)} (d : Nat) (a0 : Int32) (a1 : Bool) (f g : (Nat → Nat → Int32)) (r : Bool × (Nat → Nat → Int32)) (h : xb_passGlass_110 a0 a1 f = some r) : am_Ev sc (d + 4) 6 (0, [(0, .ref 120), (1, .ref 110), (2, .int a0), (3, .int (am_b a1))], [], am_SH, (f, g)) ((some (.int (am_b r.1))), am_SH, (r.2, g)) := by
  have hcd : am_code 6 = am_c6 := rfl
  unfold xb_passGlass_110 at h
  refine am_Ev.go hcd 3 (s' := (3, [(0, .ref 120), (1, .ref 110), (2, .int a0), (3, .int (am_b a1))], [.int a0, .ref 110, .ref 120], am_SH, (f, g))) rfl ?_
  obtain ⟨p1, hp1, h⟩ := am_bind_some h
  refine am_Ev.call hcd (a := 13) (s0 := (0, [(0, .ref 120), (1, .ref 110), (2, .int a0)], [], am_SH, (f, g))) (q := (none, am_SH, (p1, g))) (s1 := (4, [(0, .ref 120), (1, .ref 110), (2, .int a0), (3, .int (am_b a1))], [], am_SH, (p1, g))) rfl rfl (xb_behold_110_ok (d + 1) a0 f g p1 hp1) ?_
  refine am_Ev.go hcd 3 (s' := (7, [(0, .ref 120), (1, .ref 110), (2, .int a0), (3, .int (am_b a1))], [.int (am_b a1), .ref 110, .ref 120], am_SH, (p1, g))) rfl ?_
  obtain ⟨p2, hp2, h⟩ := am_bind_some h
  refine am_Ev.call hcd (a := 7) (s0 := (0, [(0, .ref 120), (1, .ref 110), (2, .int (am_b a1))], [], am_SH, (p1, g))) (q := ((some (.int (am_b p2.1))), am_SH, (p2.2, g))) (s1 := (8, [(0, .ref 120), (1, .ref 110), (2, .int a0), (3, .int (am_b a1))], [.int (am_b p2.1)], am_SH, (p2.2, g))) rfl rfl (xb_slipsNow_110_ok (d) a1 p1 g p2 hp2) ?_
  obtain ⟨t8, ht8, kt8⟩ := am_bind_some h
  have hKt8 : am_Ev sc (d + 4) 6 (51, [(0, .ref 120), (1, .ref 110), (2, .int a0), (3, .int (am_b a1))], [], am_SH, (t8, g)) ((some (.int (am_b r.1))), am_SH, (r.2, g)) := by
    have h := kt8
    refine am_Ev.go hcd 3 (s' := (54, [(0, .ref 120), (1, .ref 110), (2, .int a0), (3, .int (am_b a1))], [.int a0, .ref 112], am_SH, (t8, g))) rfl ?_
    obtain ⟨c11, h⟩ := am_grd h
    refine am_Ev.t hcd (o := none) (c := am_in a0 6 = true) (s1 := (55, [(0, .ref 120), (1, .ref 110), (2, .int a0), (3, .int (am_b a1))], [.int (t8 112 a0.toNatClampNeg)], am_SH, (t8, g))) rfl c11 ?_
    refine am_Ev.go hcd 1 (s' := (56, [(0, .ref 120), (1, .ref 110), (2, .int a0), (3, .int (am_b a1))], [.int 420, .int (t8 112 a0.toNatClampNeg)], am_SH, (t8, g))) rfl ?_
    rcases am_ite h with ⟨c14, h⟩ | ⟨c14, h⟩
    · refine am_Ev.t hcd (c := 420 < t8 112 a0.toNatClampNeg) (s1 := (59, [(0, .ref 120), (1, .ref 110), (2, .int a0), (3, .int (am_b a1))], [], am_SH, (t8, g))) rfl c14 ?_
      refine am_Ev.go hcd 4 (s' := (63, [(0, .ref 120), (1, .ref 110), (2, .int a0), (3, .int (am_b a1))], [.int (am_b a1), .int a0, .ref 110, .ref 120], am_SH, (t8, g))) rfl ?_
      obtain ⟨p9, hp9, h⟩ := am_bind_some h
      refine am_Ev.call hcd (a := 10) (s0 := (0, [(0, .ref 120), (1, .ref 110), (2, .int a0), (3, .int (am_b a1))], [], am_SH, (t8, g))) (q := (none, am_SH, (p9, g))) (s1 := (64, [(0, .ref 120), (1, .ref 110), (2, .int a0), (3, .int (am_b a1))], [], am_SH, (p9, g))) rfl rfl (xb_goOffTop_110_ok (d + 1) a0 a1 t8 g p9 hp9) ?_
      refine am_Ev.go hcd 1 (s' := (65, [(0, .ref 120), (1, .ref 110), (2, .int a0), (3, .int (am_b a1))], [.int 1], am_SH, (p9, g))) rfl ?_
      exact am_Ev.cast (a := ((some (.int (am_b (true, p9).1))), am_SH, ((true, p9).2, g))) (by cases h; rfl) (am_Ev.ret hcd rfl)
    · refine am_Ev.f hcd (c := 420 < t8 112 a0.toNatClampNeg) (s1 := (57, [(0, .ref 120), (1, .ref 110), (2, .int a0), (3, .int (am_b a1))], [], am_SH, (t8, g))) rfl c14 ?_
      refine am_Ev.go hcd 1 (s' := (58, [(0, .ref 120), (1, .ref 110), (2, .int a0), (3, .int (am_b a1))], [.int 0], am_SH, (t8, g))) rfl ?_
      exact am_Ev.cast (a := ((some (.int (am_b (false, t8).1))), am_SH, ((false, t8).2, g))) (by cases h; rfl) (am_Ev.ret hcd rfl)
  have hLt8 : ∀ tt, tt = t8 → am_Ev sc (d + 4) 6 (51, [(0, .ref 120), (1, .ref 110), (2, .int a0), (3, .int (am_b a1))], [], am_SH, (tt, g)) ((some (.int (am_b r.1))), am_SH, (r.2, g)) := fun tt htt => by subst htt; exact hKt8
  have h := ht8
  rcases am_ite h with ⟨c27, h⟩ | ⟨c27, h⟩
  · refine am_Ev.f hcd (c := am_b p2.1 = 0) (s1 := (9, [(0, .ref 120), (1, .ref 110), (2, .int a0), (3, .int (am_b a1))], [], am_SH, (p2.2, g))) rfl (am_b_t c27) ?_
    refine am_Ev.go hcd 7 (s' := (16, [(0, .ref 120), (1, .ref 110), (2, .int a0), (3, .int (am_b a1))], [.int a0, .ref 112, .int a0, .int 3, .ref 110, .ref 120], am_SH, (p2.2, g))) rfl ?_
    obtain ⟨c29, h⟩ := am_grd h
    refine am_Ev.t hcd (o := none) (c := am_in a0 6 = true) (s1 := (17, [(0, .ref 120), (1, .ref 110), (2, .int a0), (3, .int (am_b a1))], [.int (p2.2 112 a0.toNatClampNeg), .int a0, .int 3, .ref 110, .ref 120], am_SH, (p2.2, g))) rfl c29 ?_
    refine am_Ev.go hcd 1 (s' := (18, [(0, .ref 120), (1, .ref 110), (2, .int a0), (3, .int (am_b a1))], [.int (am_b a1), .int (p2.2 112 a0.toNatClampNeg), .int a0, .int 3, .ref 110, .ref 120], am_SH, (p2.2, g))) rfl ?_
    obtain ⟨p3, hp3, h⟩ := am_bind_some h
    refine am_Ev.call hcd (a := 5) (s0 := (0, [(0, .ref 120), (1, .ref 110), (2, .int 3), (3, .int a0), (4, .int (p2.2 112 a0.toNatClampNeg)), (5, .int (am_b a1))], [], am_SH, (p2.2, g))) (q := (none, am_SH, (p3, g))) (s1 := (19, [(0, .ref 120), (1, .ref 110), (2, .int a0), (3, .int (am_b a1))], [], am_SH, (p3, g))) rfl rfl (xb_note_110_ok (d + 2) 3 a0 (p2.2 112 a0.toNatClampNeg) a1 p2.2 g p3 hp3) ?_
    refine am_Ev.go hcd 4 (s' := (23, [(0, .ref 120), (1, .ref 110), (2, .int a0), (3, .int (am_b a1))], [.int 300, .int a0, .ref 112], am_SH, (p3, g))) rfl ?_
    obtain ⟨c35, h⟩ := am_grd h
    obtain ⟨f4, Ef4, h⟩ := am_let_eq h
    refine am_Ev.t hcd (o := none) (c := am_in a0 6 = true) (s1 := (24, [(0, .ref 120), (1, .ref 110), (2, .int a0), (3, .int (am_b a1))], [], am_SH, (f4, g))) (by subst Ef4; exact rfl) c35 ?_
    refine am_Ev.go hcd 1 (s' := (51, [(0, .ref 120), (1, .ref 110), (2, .int a0), (3, .int (am_b a1))], [], am_SH, (f4, g))) rfl ?_
    exact am_Ev.weak' (hLt8 f4 (Option.some.inj h)) (am_sub_cons rfl (am_sub_cons rfl (am_sub_cons rfl (am_sub_cons rfl am_sub_nil)))) rfl
  · refine am_Ev.t hcd (c := am_b p2.1 = 0) (s1 := (25, [(0, .ref 120), (1, .ref 110), (2, .int a0), (3, .int (am_b a1))], [], am_SH, (p2.2, g))) rfl (am_b_f c27) ?_
    refine am_Ev.go hcd 3 (s' := (28, [(0, .ref 120), (1, .ref 110), (2, .int a0), (3, .int (am_b a1))], [.int a0, .ref 114], am_SH, (p2.2, g))) rfl ?_
    obtain ⟨c42, h⟩ := am_grd h
    refine am_Ev.t hcd (o := none) (c := am_in a0 6 = true) (s1 := (29, [(0, .ref 120), (1, .ref 110), (2, .int a0), (3, .int (am_b a1))], [.int (p2.2 114 a0.toNatClampNeg)], am_SH, (p2.2, g))) rfl c42 ?_
    refine am_Ev.go hcd 1 (s' := (30, [(0, .ref 120), (1, .ref 110), (2, .int a0), (3, .int (am_b a1))], [.int (-1), .int (p2.2 114 a0.toNatClampNeg)], am_SH, (p2.2, g))) rfl ?_
    rcases am_ite h with ⟨c45, h⟩ | ⟨c45, h⟩
    · refine am_Ev.t hcd (c := p2.2 114 a0.toNatClampNeg = (-1)) (s1 := (37, [(0, .ref 120), (1, .ref 110), (2, .int a0), (3, .int (am_b a1))], [], am_SH, (p2.2, g))) rfl c45 ?_
      refine am_Ev.go hcd 7 (s' := (44, [(0, .ref 120), (1, .ref 110), (2, .int a0), (3, .int (am_b a1))], [.int a0, .ref 112, .int 300, .int a0, .ref 112], am_SH, (p2.2, g))) rfl ?_
      obtain ⟨c48, h⟩ := am_grd h
      refine am_Ev.t hcd (o := none) (c := am_in a0 6 = true) (s1 := (45, [(0, .ref 120), (1, .ref 110), (2, .int a0), (3, .int (am_b a1))], [.int (p2.2 112 a0.toNatClampNeg), .int 300, .int a0, .ref 112], am_SH, (p2.2, g))) rfl c48 ?_
      refine am_Ev.go hcd 2 (s' := (47, [(0, .ref 120), (1, .ref 110), (2, .int a0), (3, .int (am_b a1))], [.int 2, .ref 120, .int (p2.2 112 a0.toNatClampNeg), .int 300, .int a0, .ref 112], am_SH, (p2.2, g))) rfl ?_
      obtain ⟨p5, hp5, h⟩ := am_bind_some h
      refine am_Ev.call hcd (a := 14) (s0 := (0, [(0, .ref 120), (1, .int 2)], [], am_SH, (p2.2, g))) (q := ((some (.int p5.1)), am_SH, (p5.2, g))) (s1 := (48, [(0, .ref 120), (1, .ref 110), (2, .int a0), (3, .int (am_b a1))], [.int p5.1, .int (p2.2 112 a0.toNatClampNeg), .int 300, .int a0, .ref 112], am_SH, (p5.2, g))) rfl rfl (xb_told_ok (d + 1) 2 p2.2 g p5 hp5) ?_
      refine am_Ev.go hcd 1 (s' := (49, [(0, .ref 120), (1, .ref 110), (2, .int a0), (3, .int (am_b a1))], [.int ((p2.2 112 a0.toNatClampNeg) - p5.1), .int 300, .int a0, .ref 112], am_SH, (p5.2, g))) rfl ?_
      refine am_Ev.jdk hcd (s1 := (50, [(0, .ref 120), (1, .ref 110), (2, .int a0), (3, .int (am_b a1))], [.int (am_max 300 ((p2.2 112 a0.toNatClampNeg) - p5.1)), .int a0, .ref 112], am_SH, (p5.2, g))) rfl ?_
      obtain ⟨c56, h⟩ := am_grd h
      obtain ⟨f6, Ef6, h⟩ := am_let_eq h
      refine am_Ev.t hcd (o := none) (c := am_in a0 6 = true) (s1 := (51, [(0, .ref 120), (1, .ref 110), (2, .int a0), (3, .int (am_b a1))], [], am_SH, (f6, g))) (by subst Ef6; exact rfl) c56 ?_
      exact am_Ev.weak' (hLt8 f6 (Option.some.inj h)) (am_sub_cons rfl (am_sub_cons rfl (am_sub_cons rfl (am_sub_cons rfl am_sub_nil)))) rfl
    · refine am_Ev.f hcd (c := p2.2 114 a0.toNatClampNeg = (-1)) (s1 := (31, [(0, .ref 120), (1, .ref 110), (2, .int a0), (3, .int (am_b a1))], [], am_SH, (p2.2, g))) rfl c45 ?_
      refine am_Ev.go hcd 4 (s' := (35, [(0, .ref 120), (1, .ref 110), (2, .int a0), (3, .int (am_b a1))], [.int (am_b a1), .int a0, .ref 110, .ref 120], am_SH, (p2.2, g))) rfl ?_
      obtain ⟨p7, hp7, h⟩ := am_bind_some h
      refine am_Ev.call hcd (a := 9) (s0 := (0, [(0, .ref 120), (1, .ref 110), (2, .int a0), (3, .int (am_b a1))], [], am_SH, (p2.2, g))) (q := (none, am_SH, (p7, g))) (s1 := (36, [(0, .ref 120), (1, .ref 110), (2, .int a0), (3, .int (am_b a1))], [], am_SH, (p7, g))) rfl rfl (xb_warm_110_ok (d) a0 a1 p2.2 g p7 hp7) ?_
      refine am_Ev.go hcd 1 (s' := (51, [(0, .ref 120), (1, .ref 110), (2, .int a0), (3, .int (am_b a1))], [], am_SH, (p7, g))) rfl ?_
      exact am_Ev.weak' (hLt8 p7 (Option.some.inj h)) (am_sub_cons rfl (am_sub_cons rfl (am_sub_cons rfl (am_sub_cons rfl am_sub_nil)))) rfl
