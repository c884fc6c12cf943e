set_option maxRecDepth 100000 in
set_option maxHeartbeats 4000000 in
theorem x_warmth_ok {sc : Nat × (Nat → Int32)} (d : Nat) (a0 : Int32) (a1 : Int32) (f g : (Nat → Nat → Int32)) (r : Int32 × (Nat → Nat → Int32)) (h : x_warmth a0 a1 f = some r) : am_Ev sc (d + 2) 144 (0, [(0, .ref 0), (1, .int a0), (2, .int a1)], [], am_SH, (f, g)) ((some (.int r.1)), am_SH, (r.2, g)) := by
  have hcd : am_code 144 = am_c144 := rfl
  unfold x_warmth at h
  refine am_Ev.go hcd 2 (s' := (2, [(0, .ref 0), (1, .int a0), (2, .int a1)], [.int (-1), .int a0], am_SH, (f, g))) rfl ?_
  rcases am_ite h with ⟨c2, h⟩ | ⟨c2, h⟩
  · refine am_Ev.t hcd (c := a0 = (-1)) (s1 := (3, [(0, .ref 0), (1, .int a0), (2, .int a1)], [], am_SH, (f, g))) rfl c2 ?_
    refine am_Ev.go hcd 3 (s' := (6, [(0, .ref 0), (1, .int a0), (2, .int a1)], [.ref 27], am_SH, (f, g))) rfl ?_
    obtain ⟨p1, Ep1, h⟩ := am_let_eq h
    refine am_Ev.call hcd (a := 86) (s0 := (0, [(0, .ref 27)], [], am_SH, (f, g))) (q := ((some (.int p1.1)), am_SH, (p1.2, g))) (s1 := (7, [(0, .ref 0), (1, .int a0), (2, .int a1)], [.int p1.1], am_SH, (p1.2, g))) rfl rfl (by subst Ep1; exact xr_clearAll_27_ok (d + 1)  f g) ?_
    exact am_Ev.cast (a := ((some (.int (p1.1, p1.2).1)), am_SH, ((p1.1, p1.2).2, g))) (by cases h; rfl) (am_Ev.ret hcd rfl)
  · refine am_Ev.f hcd (c := a0 = (-1)) (s1 := (8, [(0, .ref 0), (1, .int a0), (2, .int a1)], [], am_SH, (f, g))) rfl c2 ?_
    refine am_Ev.go hcd 1 (s' := (9, [(0, .ref 0), (1, .int a0), (2, .int a1)], [.int a0], am_SH, (f, g))) rfl ?_
    refine am_Ev.call hcd (a := 171) (s0 := (0, [(0, .int a0)], [], am_SH, (f, g))) (q := ((some (.int (am_b (x_isTopic a0)))), am_SH, (f, g))) (s1 := (10, [(0, .ref 0), (1, .int a0), (2, .int a1)], [.int (am_b (x_isTopic a0))], am_SH, (f, g))) rfl rfl (x_isTopic_ok (d) a0 (f, g)) ?_
    rcases am_ite h with ⟨c12, h⟩ | ⟨c12, h⟩
    · refine am_Ev.f hcd (c := am_b (x_isTopic a0) = 0) (s1 := (11, [(0, .ref 0), (1, .int a0), (2, .int a1)], [], am_SH, (f, g))) rfl (am_b_t c12) ?_
      refine am_Ev.go hcd 3 (s' := (14, [(0, .ref 0), (1, .int a0), (2, .int a1)], [.int 10, .int 0, .int a1], am_SH, (f, g))) rfl ?_
      refine am_Ev.call hcd (a := 170) (s0 := (0, [(0, .int a1), (1, .int 0), (2, .int 10)], [], am_SH, (f, g))) (q := ((some (.int (am_b (x_within a1 0 10)))), am_SH, (f, g))) (s1 := (15, [(0, .ref 0), (1, .int a0), (2, .int a1)], [.int (am_b (x_within a1 0 10))], am_SH, (f, g))) rfl rfl (x_within_ok (d + 1) a1 0 10 (f, g)) ?_
      rcases am_ite h with ⟨c16, h⟩ | ⟨c16, h⟩
      · refine am_Ev.f hcd (c := am_b (x_within a1 0 10) = 0) (s1 := (18, [(0, .ref 0), (1, .int a0), (2, .int a1)], [], am_SH, (f, g))) rfl (am_b_t c16) ?_
        refine am_Ev.go hcd 5 (s' := (23, [(0, .ref 0), (1, .int a0), (2, .int a1)], [.int a1, .int a0, .ref 27], am_SH, (f, g))) rfl ?_
        obtain ⟨p4, hp4, h⟩ := am_bind_some h
        refine am_Ev.call hcd (a := 85) (s0 := (0, [(0, .ref 27), (1, .int a0), (2, .int a1)], [], am_SH, (f, g))) (q := ((some (.int p4.1)), am_SH, (p4.2, g))) (s1 := (24, [(0, .ref 0), (1, .int a0), (2, .int a1)], [.int p4.1], am_SH, (p4.2, g))) rfl rfl (xr_append_27_ok (d + 1) a0 a1 f g p4 hp4) ?_
        exact am_Ev.cast (a := ((some (.int (p4.1, p4.2).1)), am_SH, ((p4.1, p4.2).2, g))) (by cases h; rfl) (am_Ev.ret hcd rfl)
      · refine am_Ev.t hcd (c := am_b (x_within a1 0 10) = 0) (s1 := (16, [(0, .ref 0), (1, .int a0), (2, .int a1)], [], am_SH, (f, g))) rfl (am_b_f c16) ?_
        refine am_Ev.go hcd 1 (s' := (17, [(0, .ref 0), (1, .int a0), (2, .int a1)], [.int (-1)], am_SH, (f, g))) rfl ?_
        exact am_Ev.cast (a := ((some (.int ((-1), f).1)), am_SH, (((-1), f).2, g))) (by cases h; rfl) (am_Ev.ret hcd rfl)
    · refine am_Ev.t hcd (c := am_b (x_isTopic a0) = 0) (s1 := (16, [(0, .ref 0), (1, .int a0), (2, .int a1)], [], am_SH, (f, g))) rfl (am_b_f c12) ?_
      refine am_Ev.go hcd 1 (s' := (17, [(0, .ref 0), (1, .int a0), (2, .int a1)], [.int (-1)], am_SH, (f, g))) rfl ?_
      exact am_Ev.cast (a := ((some (.int ((-1), f).1)), am_SH, (((-1), f).2, g))) (by cases h; rfl) (am_Ev.ret hcd rfl)
set_option maxRecDepth 100000 in
set_option maxHeartbeats 4000000 in
theorem xm_fitsAll_27_25_ok {sc : Nat × (Nat → Int32)} (d : Nat) (a0 : Int32) (f g : (Nat → Nat → Int32)) (r : Bool) (h : xm_fitsAll_27_25 a0 f = some r) : am_Ev sc (d + 2) 37 (0, [(0, .ref 27), (1, .ref 25), (2, .int a0)], [], am_SH, (f, g)) ((some (.int (am_b r))), am_SH, (f, g)) := by
  have hcd : am_code 37 = am_c37 := rfl
  unfold xm_fitsAll_27_25 at h
  refine am_Ev.go hcd 2 (s' := (2, [(0, .ref 27), (1, .ref 25), (2, .int a0), (3, .int 0)], [], am_SH, (f, g))) rfl ?_
  refine am_Ev.weak' (am_loop_ok (G := fun (s1 : Int32) => am_Ev sc (d + 2) 37 (2, [(0, .ref 27), (1, .ref 25), (2, .int a0), (3, .int s1)], [], am_SH, (f, g)) ((some (.int (am_b r))), am_SH, (f, g))) (Z := fun (v : Bool) => (((some (.int (am_b v))), am_SH, (f, g)) : am_R) = ((some (.int (am_b r))), am_SH, (f, g))) ?_ am_F 0 r h rfl) (am_sub_cons rfl (am_sub_cons rfl (am_sub_cons rfl (am_sub_cons rfl am_sub_nil)))) rfl
  intro s1 q1 h hI1 hZ1
  show am_Ev sc (d + 2) 37 (2, [(0, .ref 27), (1, .ref 25), (2, .int a0), (3, .int s1)], [], am_SH, (f, g)) ((some (.int (am_b r))), am_SH, (f, g))
  refine am_Ev.go hcd 3 (s' := (5, [(0, .ref 27), (1, .ref 25), (2, .int a0), (3, .int s1)], [.int (f 27 0), .int s1], am_SH, (f, g))) rfl ?_
  rcases am_ite h with ⟨c6, h⟩ | ⟨c6, h⟩
  · refine am_Ev.t hcd (c := s1 < f 27 0) (s1 := (6, [(0, .ref 27), (1, .ref 25), (2, .int a0), (3, .int s1)], [], am_SH, (f, g))) rfl c6 ?_
    refine am_Ev.go hcd 5 (s' := (11, [(0, .ref 27), (1, .ref 25), (2, .int a0), (3, .int s1)], [.int s1, .ref 28, .int a0, .ref 25], am_SH, (f, g))) rfl ?_
    obtain ⟨c9, h⟩ := am_grd h
    refine am_Ev.t hcd (o := none) (c := am_in s1 8 = true) (s1 := (12, [(0, .ref 27), (1, .ref 25), (2, .int a0), (3, .int s1)], [.int (f 28 s1.toNatClampNeg), .int a0, .ref 25], am_SH, (f, g))) rfl c9 ?_
    obtain ⟨p2, hp2, h⟩ := am_bind_some h
    refine am_Ev.call hcd (a := 81) (s0 := (0, [(0, .ref 25), (1, .int a0), (2, .int (f 28 s1.toNatClampNeg))], [], am_SH, (f, g))) (q := ((some (.int p2)), am_SH, (f, g))) (s1 := (13, [(0, .ref 27), (1, .ref 25), (2, .int a0), (3, .int s1)], [.int p2], am_SH, (f, g))) rfl rfl (xn_nearness_25_ok (d) a0 (f 28 s1.toNatClampNeg) f g p2 hp2) ?_
    refine am_Ev.go hcd 3 (s' := (16, [(0, .ref 27), (1, .ref 25), (2, .int a0), (3, .int s1)], [.int s1, .ref 29, .int p2], am_SH, (f, g))) rfl ?_
    obtain ⟨c14, h⟩ := am_grd h
    refine am_Ev.t hcd (o := none) (c := am_in s1 8 = true) (s1 := (17, [(0, .ref 27), (1, .ref 25), (2, .int a0), (3, .int s1)], [.int (f 29 s1.toNatClampNeg), .int p2], am_SH, (f, g))) rfl c14 ?_
    rcases am_ite h with ⟨c17, h⟩ | ⟨c17, h⟩
    · refine am_Ev.t hcd (c := p2 = f 29 s1.toNatClampNeg) (s1 := (20, [(0, .ref 27), (1, .ref 25), (2, .int a0), (3, .int s1)], [], am_SH, (f, g))) rfl c17 ?_
      obtain ⟨t3, Et3, h⟩ := am_let_eq h
      refine am_Ev.go hcd 1 (s' := (21, [(0, .ref 27), (1, .ref 25), (2, .int a0), (3, .int t3)], [], am_SH, (f, g))) (by subst Et3; exact rfl) ?_
      refine am_Ev.go hcd 1 (s' := (2, [(0, .ref 27), (1, .ref 25), (2, .int a0), (3, .int t3)], [], am_SH, (f, g))) rfl ?_
      exact am_Ev.weak' (hI1 t3 (Option.some.inj h).symm) (am_sub_cons rfl (am_sub_cons rfl (am_sub_cons rfl (am_sub_cons rfl am_sub_nil)))) rfl
    · refine am_Ev.f hcd (c := p2 = f 29 s1.toNatClampNeg) (s1 := (18, [(0, .ref 27), (1, .ref 25), (2, .int a0), (3, .int s1)], [], am_SH, (f, g))) rfl c17 ?_
      refine am_Ev.go hcd 1 (s' := (19, [(0, .ref 27), (1, .ref 25), (2, .int a0), (3, .int s1)], [.int 0], am_SH, (f, g))) rfl ?_
      exact am_Ev.cast (a := ((some (.int (am_b false))), am_SH, (f, g))) (hZ1 _ (Option.some.inj h).symm) (am_Ev.ret hcd rfl)
  · refine am_Ev.f hcd (c := s1 < f 27 0) (s1 := (22, [(0, .ref 27), (1, .ref 25), (2, .int a0), (3, .int s1)], [], am_SH, (f, g))) rfl c6 ?_
    refine am_Ev.go hcd 1 (s' := (23, [(0, .ref 27), (1, .ref 25), (2, .int a0), (3, .int s1)], [.int 1], am_SH, (f, g))) rfl ?_
    exact am_Ev.cast (a := ((some (.int (am_b true))), am_SH, (f, g))) (hZ1 _ (Option.some.inj h).symm) (am_Ev.ret hcd rfl)
set_option maxRecDepth 100000 in
set_option maxHeartbeats 4000000 in
theorem ji_numberOfTrailingZeros_ok {sc : Nat × (Nat → Int32)} (d : Nat) (a0 : Int32) (hp : am_H) : am_Ev sc (d) 311 (0, [(0, .int a0)], [], am_SH, hp) ((some (.int (ji_numberOfTrailingZeros a0))), am_SH, hp) := by
  have hcd : am_code 311 = am_c311 := rfl
  obtain ⟨r, h⟩ : ∃ r, r = ji_numberOfTrailingZeros a0 := ⟨_, rfl⟩
  rw [← h]
  unfold ji_numberOfTrailingZeros at h
  obtain ⟨t1, Et1, h⟩ := am_let_eq' h
  refine am_Ev.go hcd 8 (s' := (8, [(0, .int t1)], [], am_SH, hp)) (by subst Et1; exact rfl) ?_
  refine am_Ev.go hcd 1 (s' := (9, [(0, .int t1)], [.int t1], am_SH, hp)) rfl ?_
  rcases am_itv h with ⟨c6, h⟩ | ⟨c6, h⟩
  · refine am_Ev.t hcd (c := 0 < t1) (s1 := (14, [(0, .int t1)], [], am_SH, hp)) rfl c6 ?_
    obtain ⟨t4, ht4, kt4⟩ := am_let_eq' h
    have hKt4 : am_Ev sc (d) 311 (24, [(0, .int t4.1), (1, .int t4.2)], [], am_SH, hp) ((some (.int r)), am_SH, hp) := by
      have h := kt4
      obtain ⟨t7, ht7, kt7⟩ := am_let_eq' h
      have hKt7 : am_Ev sc (d) 311 (32, [(0, .int t7.1), (1, .int t7.2)], [], am_SH, hp) ((some (.int r)), am_SH, hp) := by
        have h := kt7
        obtain ⟨t10, ht10, kt10⟩ := am_let_eq' h
        have hKt10 : am_Ev sc (d) 311 (40, [(0, .int t10.1), (1, .int t10.2)], [], am_SH, hp) ((some (.int r)), am_SH, hp) := by
          have h := kt10
          obtain ⟨t13, ht13, kt13⟩ := am_let_eq' h
          have hKt13 : am_Ev sc (d) 311 (48, [(0, .int t13.1), (1, .int t13.2)], [], am_SH, hp) ((some (.int r)), am_SH, hp) := by
            have h := kt13
            refine am_Ev.go hcd 5 (s' := (53, [(0, .int t13.1), (1, .int t13.2)], [.int (t13.2 + ((t13.1.toUInt32 >>> ((1 : Int32).toUInt32 &&& Int32.toUInt32 31)).toInt32))], am_SH, hp)) rfl ?_
            exact am_Ev.cast (a := ((some (.int (t13.2 + ((t13.1.toUInt32 >>> ((1 : Int32).toUInt32 &&& Int32.toUInt32 31)).toInt32)))), am_SH, hp)) (by subst h; rfl) (am_Ev.ret hcd rfl)
          have hLt13 : ∀ tt, tt = t13 → am_Ev sc (d) 311 (48, [(0, .int tt.1), (1, .int tt.2)], [], am_SH, hp) ((some (.int r)), am_SH, hp) := fun tt htt => by subst htt; exact hKt13
          have h := ht13
          refine am_Ev.go hcd 2 (s' := (42, [(0, .int t10.1), (1, .int t10.2)], [.int 4, .int t10.1], am_SH, hp)) rfl ?_
          rcases am_itv h with ⟨c25, h⟩ | ⟨c25, h⟩
          · refine am_Ev.t hcd (c := 4 < t10.1) (s1 := (43, [(0, .int t10.1), (1, .int t10.2)], [], am_SH, hp)) rfl c25 ?_
            obtain ⟨t11, Et11, h⟩ := am_let_eq' h
            refine am_Ev.go hcd 1 (s' := (44, [(0, .int t10.1), (1, .int t11)], [], am_SH, hp)) (by subst Et11; exact rfl) ?_
            obtain ⟨t12, Et12, h⟩ := am_let_eq' h
            refine am_Ev.go hcd 4 (s' := (48, [(0, .int t12), (1, .int t11)], [], am_SH, hp)) (by subst Et12; exact rfl) ?_
            exact am_Ev.weak' (hLt13 (t12, t11) h.symm) (am_sub_cons rfl (am_sub_cons rfl am_sub_nil)) rfl
          · refine am_Ev.f hcd (c := 4 < t10.1) (s1 := (48, [(0, .int t10.1), (1, .int t10.2)], [], am_SH, hp)) rfl c25 ?_
            exact am_Ev.weak' (hLt13 (t10.1, t10.2) h.symm) (am_sub_cons rfl (am_sub_cons rfl am_sub_nil)) rfl
        have hLt10 : ∀ tt, tt = t10 → am_Ev sc (d) 311 (40, [(0, .int tt.1), (1, .int tt.2)], [], am_SH, hp) ((some (.int r)), am_SH, hp) := fun tt htt => by subst htt; exact hKt10
        have h := ht10
        refine am_Ev.go hcd 2 (s' := (34, [(0, .int t7.1), (1, .int t7.2)], [.int 16, .int t7.1], am_SH, hp)) rfl ?_
        rcases am_itv h with ⟨c37, h⟩ | ⟨c37, h⟩
        · refine am_Ev.t hcd (c := 16 < t7.1) (s1 := (35, [(0, .int t7.1), (1, .int t7.2)], [], am_SH, hp)) rfl c37 ?_
          obtain ⟨t8, Et8, h⟩ := am_let_eq' h
          refine am_Ev.go hcd 1 (s' := (36, [(0, .int t7.1), (1, .int t8)], [], am_SH, hp)) (by subst Et8; exact rfl) ?_
          obtain ⟨t9, Et9, h⟩ := am_let_eq' h
          refine am_Ev.go hcd 4 (s' := (40, [(0, .int t9), (1, .int t8)], [], am_SH, hp)) (by subst Et9; exact rfl) ?_
          exact am_Ev.weak' (hLt10 (t9, t8) h.symm) (am_sub_cons rfl (am_sub_cons rfl am_sub_nil)) rfl
        · refine am_Ev.f hcd (c := 16 < t7.1) (s1 := (40, [(0, .int t7.1), (1, .int t7.2)], [], am_SH, hp)) rfl c37 ?_
          exact am_Ev.weak' (hLt10 (t7.1, t7.2) h.symm) (am_sub_cons rfl (am_sub_cons rfl am_sub_nil)) rfl
      have hLt7 : ∀ tt, tt = t7 → am_Ev sc (d) 311 (32, [(0, .int tt.1), (1, .int tt.2)], [], am_SH, hp) ((some (.int r)), am_SH, hp) := fun tt htt => by subst htt; exact hKt7
      have h := ht7
      refine am_Ev.go hcd 2 (s' := (26, [(0, .int t4.1), (1, .int t4.2)], [.int 256, .int t4.1], am_SH, hp)) rfl ?_
      rcases am_itv h with ⟨c49, h⟩ | ⟨c49, h⟩
      · refine am_Ev.t hcd (c := 256 < t4.1) (s1 := (27, [(0, .int t4.1), (1, .int t4.2)], [], am_SH, hp)) rfl c49 ?_
        obtain ⟨t5, Et5, h⟩ := am_let_eq' h
        refine am_Ev.go hcd 1 (s' := (28, [(0, .int t4.1), (1, .int t5)], [], am_SH, hp)) (by subst Et5; exact rfl) ?_
        obtain ⟨t6, Et6, h⟩ := am_let_eq' h
        refine am_Ev.go hcd 4 (s' := (32, [(0, .int t6), (1, .int t5)], [], am_SH, hp)) (by subst Et6; exact rfl) ?_
        exact am_Ev.weak' (hLt7 (t6, t5) h.symm) (am_sub_cons rfl (am_sub_cons rfl am_sub_nil)) rfl
      · refine am_Ev.f hcd (c := 256 < t4.1) (s1 := (32, [(0, .int t4.1), (1, .int t4.2)], [], am_SH, hp)) rfl c49 ?_
        exact am_Ev.weak' (hLt7 (t4.1, t4.2) h.symm) (am_sub_cons rfl (am_sub_cons rfl am_sub_nil)) rfl
    have hLt4 : ∀ tt, tt = t4 → am_Ev sc (d) 311 (24, [(0, .int tt.1), (1, .int tt.2)], [], am_SH, hp) ((some (.int r)), am_SH, hp) := fun tt htt => by subst htt; exact hKt4
    have h := ht4
    refine am_Ev.go hcd 4 (s' := (18, [(0, .int t1), (1, .int 1)], [.int 65536, .int t1], am_SH, hp)) rfl ?_
    rcases am_itv h with ⟨c61, h⟩ | ⟨c61, h⟩
    · refine am_Ev.t hcd (c := 65536 < t1) (s1 := (19, [(0, .int t1), (1, .int 1)], [], am_SH, hp)) rfl c61 ?_
      obtain ⟨t2, Et2, h⟩ := am_let_eq' h
      refine am_Ev.go hcd 1 (s' := (20, [(0, .int t1), (1, .int t2)], [], am_SH, hp)) (by subst Et2; exact rfl) ?_
      obtain ⟨t3, Et3, h⟩ := am_let_eq' h
      refine am_Ev.go hcd 4 (s' := (24, [(0, .int t3), (1, .int t2)], [], am_SH, hp)) (by subst Et3; exact rfl) ?_
      exact am_Ev.weak' (hLt4 (t3, t2) h.symm) (am_sub_cons rfl (am_sub_cons rfl am_sub_nil)) rfl
    · refine am_Ev.f hcd (c := 65536 < t1) (s1 := (24, [(0, .int t1), (1, .int 1)], [], am_SH, hp)) rfl c61 ?_
      exact am_Ev.weak' (hLt4 (t1, 1) h.symm) (am_sub_cons rfl (am_sub_cons rfl am_sub_nil)) rfl
  · refine am_Ev.f hcd (c := 0 < t1) (s1 := (10, [(0, .int t1)], [], am_SH, hp)) rfl c6 ?_
    refine am_Ev.go hcd 3 (s' := (13, [(0, .int t1)], [.int (t1 &&& 32)], am_SH, hp)) rfl ?_
    exact am_Ev.cast (a := ((some (.int (t1 &&& 32))), am_SH, hp)) (by subst h; rfl) (am_Ev.ret hcd rfl)
set_option maxRecDepth 100000 in
set_option maxHeartbeats 4000000 in
theorem xm_nextSet_ok {sc : Nat × (Nat → Int32)} (d : Nat) (a0 : Int32) (hp : am_H) : am_Ev sc (d + 1) 36 (0, [(0, .int a0)], [], am_SH, hp) ((some (.int (xm_nextSet a0))), am_SH, hp) := by
  have hcd : am_code 36 = am_c36 := rfl
  obtain ⟨r, h⟩ : ∃ r, r = xm_nextSet a0 := ⟨_, rfl⟩
  rw [← h]
  unfold xm_nextSet at h
  obtain ⟨t1, Et1, h⟩ := am_let_eq' h
  refine am_Ev.go hcd 5 (s' := (5, [(0, .int a0), (1, .int t1)], [], am_SH, hp)) (by subst Et1; exact rfl) ?_
  obtain ⟨t2, Et2, h⟩ := am_let_eq' h
  refine am_Ev.go hcd 4 (s' := (9, [(0, .int a0), (1, .int t1), (2, .int t2)], [], am_SH, hp)) (by subst Et2; exact rfl) ?_
  refine am_Ev.go hcd 6 (s' := (15, [(0, .int a0), (1, .int t1), (2, .int t2)], [.int t1, .int 2, .int (a0 ^^^ t2), .int t2], am_SH, hp)) rfl ?_
  refine am_Ev.call hcd (a := 311) (s0 := (0, [(0, .int t1)], [], am_SH, hp)) (q := ((some (.int (ji_numberOfTrailingZeros t1))), am_SH, hp)) (s1 := (16, [(0, .int a0), (1, .int t1), (2, .int t2)], [.int (ji_numberOfTrailingZeros t1), .int 2, .int (a0 ^^^ t2), .int t2], am_SH, hp)) rfl rfl (ji_numberOfTrailingZeros_ok (d) t1 hp) ?_
  refine am_Ev.go hcd 3 (s' := (19, [(0, .int a0), (1, .int t1), (2, .int t2)], [.int (t2 ||| (((a0 ^^^ t2).toUInt32 >>> ((2 + (ji_numberOfTrailingZeros t1)).toUInt32 &&& Int32.toUInt32 31)).toInt32))], am_SH, hp)) rfl ?_
  exact am_Ev.cast (a := ((some (.int (t2 ||| (((a0 ^^^ t2).toUInt32 >>> ((2 + (ji_numberOfTrailingZeros t1)).toUInt32 &&& Int32.toUInt32 31)).toInt32)))), am_SH, hp)) (by subst h; rfl) (am_Ev.ret hcd rfl)
set_option maxRecDepth 100000 in
set_option maxHeartbeats 4000000 in
theorem xm_fitting_27_25_ok {sc : Nat × (Nat → Int32)} (d : Nat) (a0 : Int32) (a1 : Int32) (f g : (Nat → Nat → Int32)) (r : Int32) (h : xm_fitting_27_25 a0 a1 f = some r) : am_Ev sc (d + 3) 35 (0, [(0, .ref 143), (1, .ref 27), (2, .ref 25), (3, .int a0), (4, .int a1)], [], am_SH, (f, g)) ((some (.int r)), am_SH, (f, g)) := by
  have hcd : am_code 35 = am_c35 := rfl
  unfold xm_fitting_27_25 at h
  obtain ⟨t1, Et1, h⟩ := am_let_eq h
  refine am_Ev.go hcd 10 (s' := (10, [(0, .ref 143), (1, .ref 27), (2, .ref 25), (3, .int a0), (4, .int a1), (5, .int 0), (6, .int (-1)), (7, .int t1)], [], am_SH, (f, g))) (by subst Et1; exact rfl) ?_
  refine am_Ev.go hcd 2 (s' := (12, [(0, .ref 143), (1, .ref 27), (2, .ref 25), (3, .int a0), (4, .int a1), (5, .int 0), (6, .int (-1)), (7, .int t1), (8, .int 0)], [], am_SH, (f, g))) rfl ?_
  obtain ⟨e9, he9, h⟩ := am_bind_some h
  have hK2 : (fun (e9 : Int32 × Int32) => am_Ev sc (d + 3) 35 (34, [(4, .int a1), (5, .int e9.1), (6, .int e9.2)], [], am_SH, (f, g)) ((some (.int r)), am_SH, (f, g))) e9 := by
    show am_Ev sc (d + 3) 35 (34, [(4, .int a1), (5, .int e9.1), (6, .int e9.2)], [], am_SH, (f, g)) ((some (.int r)), am_SH, (f, g))
    refine am_Ev.go hcd 1 (s' := (35, [(4, .int a1), (5, .int e9.1), (6, .int e9.2)], [.int a1], am_SH, (f, g))) rfl ?_
    rcases am_ite h with ⟨c8, h⟩ | ⟨c8, h⟩
    · refine am_Ev.t hcd (c := a1 = 0) (s1 := (36, [(4, .int a1), (5, .int e9.1), (6, .int e9.2)], [], am_SH, (f, g))) rfl c8 ?_
      refine am_Ev.go hcd 2 (s' := (39, [(4, .int a1), (5, .int e9.1), (6, .int e9.2)], [.int e9.1], am_SH, (f, g))) rfl ?_
      exact am_Ev.cast (a := ((some (.int e9.1)), am_SH, (f, g))) (by cases h; rfl) (am_Ev.ret hcd rfl)
    · refine am_Ev.f hcd (c := a1 = 0) (s1 := (38, [(4, .int a1), (5, .int e9.1), (6, .int e9.2)], [], am_SH, (f, g))) rfl c8 ?_
      refine am_Ev.go hcd 1 (s' := (39, [(4, .int a1), (5, .int e9.1), (6, .int e9.2)], [.int e9.2], am_SH, (f, g))) rfl ?_
      exact am_Ev.cast (a := ((some (.int e9.2)), am_SH, (f, g))) (by cases h; rfl) (am_Ev.ret hcd rfl)
  refine am_Ev.weak' (am_loop_ok (G := fun (s2 : Int32 × Int32 × Int32 × Int32) => am_Ev sc (d + 3) 35 (12, [(1, .ref 27), (2, .ref 25), (4, .int a1), (5, .int s2.1), (6, .int s2.2.1), (7, .int s2.2.2.1), (8, .int s2.2.2.2)], [], am_SH, (f, g)) ((some (.int r)), am_SH, (f, g))) (Z := fun (e9 : Int32 × Int32) => am_Ev sc (d + 3) 35 (34, [(4, .int a1), (5, .int e9.1), (6, .int e9.2)], [], am_SH, (f, g)) ((some (.int r)), am_SH, (f, g))) ?_ am_F (0, (-1), t1, 0) e9 he9 hK2) (am_sub_cons rfl (am_sub_cons rfl (am_sub_cons rfl (am_sub_cons rfl (am_sub_cons rfl (am_sub_cons rfl (am_sub_cons rfl am_sub_nil))))))) rfl
  intro s2 q2 h hI2 hZ2
  show am_Ev sc (d + 3) 35 (12, [(1, .ref 27), (2, .ref 25), (4, .int a1), (5, .int s2.1), (6, .int s2.2.1), (7, .int s2.2.2.1), (8, .int s2.2.2.2)], [], am_SH, (f, g)) ((some (.int r)), am_SH, (f, g))
  refine am_Ev.go hcd 2 (s' := (14, [(1, .ref 27), (2, .ref 25), (4, .int a1), (5, .int s2.1), (6, .int s2.2.1), (7, .int s2.2.2.1), (8, .int s2.2.2.2)], [.int 560, .int s2.2.2.2], am_SH, (f, g))) rfl ?_
  rcases am_ite h with ⟨c19, h⟩ | ⟨c19, h⟩
  · refine am_Ev.t hcd (c := s2.2.2.2 < 560) (s1 := (15, [(1, .ref 27), (2, .ref 25), (4, .int a1), (5, .int s2.1), (6, .int s2.2.1), (7, .int s2.2.2.1), (8, .int s2.2.2.2)], [], am_SH, (f, g))) rfl c19 ?_
    refine am_Ev.go hcd 2 (s' := (17, [(1, .ref 27), (2, .ref 25), (4, .int a1), (5, .int s2.1), (6, .int s2.2.1), (7, .int s2.2.2.1), (8, .int s2.2.2.2)], [.int 65536, .int s2.2.2.1], am_SH, (f, g))) rfl ?_
    rcases am_ite h with ⟨c22, h⟩ | ⟨c22, h⟩
    · refine am_Ev.t hcd (c := s2.2.2.1 < 65536) (s1 := (18, [(1, .ref 27), (2, .ref 25), (4, .int a1), (5, .int s2.1), (6, .int s2.2.1), (7, .int s2.2.2.1), (8, .int s2.2.2.2)], [], am_SH, (f, g))) rfl c22 ?_
      refine am_Ev.go hcd 3 (s' := (21, [(1, .ref 27), (2, .ref 25), (4, .int a1), (5, .int s2.1), (6, .int s2.2.1), (7, .int s2.2.2.1), (8, .int s2.2.2.2)], [.int s2.2.2.1, .ref 25, .ref 27], am_SH, (f, g))) rfl ?_
      obtain ⟨p3, hp3, h⟩ := am_bind_some h
      refine am_Ev.call hcd (a := 37) (s0 := (0, [(0, .ref 27), (1, .ref 25), (2, .int s2.2.2.1)], [], am_SH, (f, g))) (q := ((some (.int (am_b p3))), am_SH, (f, g))) (s1 := (22, [(1, .ref 27), (2, .ref 25), (4, .int a1), (5, .int s2.1), (6, .int s2.2.1), (7, .int s2.2.2.1), (8, .int s2.2.2.2)], [.int (am_b p3)], am_SH, (f, g))) rfl rfl (xm_fitsAll_27_25_ok (d) s2.2.2.1 f g p3 hp3) ?_
      obtain ⟨t5, ht5, kt5⟩ := am_let_eq h
      have hKt5 : am_Ev sc (d + 3) 35 (29, [(1, .ref 27), (2, .ref 25), (4, .int a1), (5, .int t5.1), (6, .int t5.2), (7, .int s2.2.2.1), (8, .int s2.2.2.2)], [], am_SH, (f, g)) ((some (.int r)), am_SH, (f, g)) := by
        have h := kt5
        refine am_Ev.go hcd 1 (s' := (30, [(1, .ref 27), (2, .ref 25), (4, .int a1), (5, .int t5.1), (6, .int t5.2), (7, .int s2.2.2.1), (8, .int s2.2.2.2)], [.int s2.2.2.1], am_SH, (f, g))) rfl ?_
        refine am_Ev.call hcd (a := 36) (s0 := (0, [(0, .int s2.2.2.1)], [], am_SH, (f, g))) (q := ((some (.int (xm_nextSet s2.2.2.1))), am_SH, (f, g))) (s1 := (31, [(1, .ref 27), (2, .ref 25), (4, .int a1), (5, .int t5.1), (6, .int t5.2), (7, .int s2.2.2.1), (8, .int s2.2.2.2)], [.int (xm_nextSet s2.2.2.1)], am_SH, (f, g))) rfl rfl (xm_nextSet_ok (d + 1) s2.2.2.1 (f, g)) ?_
        obtain ⟨t7, Et7, h⟩ := am_let_eq h
        refine am_Ev.go hcd 1 (s' := (32, [(1, .ref 27), (2, .ref 25), (4, .int a1), (5, .int t5.1), (6, .int t5.2), (7, .int t7), (8, .int s2.2.2.2)], [], am_SH, (f, g))) (by subst Et7; exact rfl) ?_
        obtain ⟨t8, Et8, h⟩ := am_let_eq h
        refine am_Ev.go hcd 1 (s' := (33, [(1, .ref 27), (2, .ref 25), (4, .int a1), (5, .int t5.1), (6, .int t5.2), (7, .int t7), (8, .int t8)], [], am_SH, (f, g))) (by subst Et8; exact rfl) ?_
        refine am_Ev.go hcd 1 (s' := (12, [(1, .ref 27), (2, .ref 25), (4, .int a1), (5, .int t5.1), (6, .int t5.2), (7, .int t7), (8, .int t8)], [], am_SH, (f, g))) rfl ?_
        exact am_Ev.weak' (hI2 (t5.1, t5.2, t7, t8) (Option.some.inj h).symm) (am_sub_cons rfl (am_sub_cons rfl (am_sub_cons rfl (am_sub_cons rfl (am_sub_cons rfl (am_sub_cons rfl (am_sub_cons rfl am_sub_nil))))))) rfl
      have hLt5 : ∀ tt, tt = t5 → am_Ev sc (d + 3) 35 (29, [(1, .ref 27), (2, .ref 25), (4, .int a1), (5, .int tt.1), (6, .int tt.2), (7, .int s2.2.2.1), (8, .int s2.2.2.2)], [], am_SH, (f, g)) ((some (.int r)), am_SH, (f, g)) := fun tt htt => by subst htt; exact hKt5
      have h := ht5
      rcases am_itv h with ⟨c41, h⟩ | ⟨c41, h⟩
      · refine am_Ev.f hcd (c := am_b p3 = 0) (s1 := (23, [(1, .ref 27), (2, .ref 25), (4, .int a1), (5, .int s2.1), (6, .int s2.2.1), (7, .int s2.2.2.1), (8, .int s2.2.2.2)], [], am_SH, (f, g))) rfl (am_b_t c41) ?_
        obtain ⟨t4, Et4, h⟩ := am_let_eq' h
        refine am_Ev.go hcd 1 (s' := (24, [(1, .ref 27), (2, .ref 25), (4, .int a1), (5, .int t4), (6, .int s2.2.1), (7, .int s2.2.2.1), (8, .int s2.2.2.2)], [], am_SH, (f, g))) (by subst Et4; exact rfl) ?_
        refine am_Ev.go hcd 2 (s' := (26, [(1, .ref 27), (2, .ref 25), (4, .int a1), (5, .int t4), (6, .int s2.2.1), (7, .int s2.2.2.1), (8, .int s2.2.2.2)], [.int (-1), .int s2.2.1], am_SH, (f, g))) rfl ?_
        rcases am_itv h with ⟨c45, h⟩ | ⟨c45, h⟩
        · refine am_Ev.t hcd (c := s2.2.1 = (-1)) (s1 := (27, [(1, .ref 27), (2, .ref 25), (4, .int a1), (5, .int t4), (6, .int s2.2.1), (7, .int s2.2.2.1), (8, .int s2.2.2.2)], [], am_SH, (f, g))) rfl c45 ?_
          refine am_Ev.go hcd 2 (s' := (29, [(1, .ref 27), (2, .ref 25), (4, .int a1), (5, .int t4), (6, .int s2.2.2.1), (7, .int s2.2.2.1), (8, .int s2.2.2.2)], [], am_SH, (f, g))) rfl ?_
          exact am_Ev.weak' (hLt5 (t4, s2.2.2.1) h.symm) (am_sub_cons rfl (am_sub_cons rfl (am_sub_cons rfl (am_sub_cons rfl (am_sub_cons rfl (am_sub_cons rfl (am_sub_cons rfl am_sub_nil))))))) rfl
        · refine am_Ev.f hcd (c := s2.2.1 = (-1)) (s1 := (29, [(1, .ref 27), (2, .ref 25), (4, .int a1), (5, .int t4), (6, .int s2.2.1), (7, .int s2.2.2.1), (8, .int s2.2.2.2)], [], am_SH, (f, g))) rfl c45 ?_
          exact am_Ev.weak' (hLt5 (t4, s2.2.1) h.symm) (am_sub_cons rfl (am_sub_cons rfl (am_sub_cons rfl (am_sub_cons rfl (am_sub_cons rfl (am_sub_cons rfl (am_sub_cons rfl am_sub_nil))))))) rfl
      · refine am_Ev.t hcd (c := am_b p3 = 0) (s1 := (29, [(1, .ref 27), (2, .ref 25), (4, .int a1), (5, .int s2.1), (6, .int s2.2.1), (7, .int s2.2.2.1), (8, .int s2.2.2.2)], [], am_SH, (f, g))) rfl (am_b_f c41) ?_
        exact am_Ev.weak' (hLt5 (s2.1, s2.2.1) h.symm) (am_sub_cons rfl (am_sub_cons rfl (am_sub_cons rfl (am_sub_cons rfl (am_sub_cons rfl (am_sub_cons rfl (am_sub_cons rfl am_sub_nil))))))) rfl
    · refine am_Ev.f hcd (c := s2.2.2.1 < 65536) (s1 := (34, [(1, .ref 27), (2, .ref 25), (4, .int a1), (5, .int s2.1), (6, .int s2.2.1), (7, .int s2.2.2.1), (8, .int s2.2.2.2)], [], am_SH, (f, g))) rfl c22 ?_
      exact am_Ev.weak' (hZ2 (s2.1, s2.2.1) (Option.some.inj h).symm) (am_sub_cons rfl (am_sub_cons rfl (am_sub_cons rfl am_sub_nil))) rfl
  · refine am_Ev.f hcd (c := s2.2.2.2 < 560) (s1 := (34, [(1, .ref 27), (2, .ref 25), (4, .int a1), (5, .int s2.1), (6, .int s2.2.1), (7, .int s2.2.2.1), (8, .int s2.2.2.2)], [], am_SH, (f, g))) rfl c19 ?_
    exact am_Ev.weak' (hZ2 (s2.1, s2.2.1) (Option.some.inj h).symm) (am_sub_cons rfl (am_sub_cons rfl (am_sub_cons rfl am_sub_nil))) rfl
set_option maxRecDepth 100000 in
set_option maxHeartbeats 4000000 in
theorem x_fits_ok {sc : Nat × (Nat → Int32)} (d : Nat) (a0 : Int32) (a1 : Int32) (f g : (Nat → Nat → Int32)) (r : Int32) (h : x_fits a0 a1 f = some r) : am_Ev sc (d + 4) 145 (0, [(0, .ref 0), (1, .int a0), (2, .int a1)], [], am_SH, (f, g)) ((some (.int r)), am_SH, (f, g)) := by
  have hcd : am_code 145 = am_c145 := rfl
  unfold x_fits at h
  refine am_Ev.go hcd 3 (s' := (3, [(0, .ref 0), (1, .int a0), (2, .int a1)], [.int 3, .int 1, .int a0], am_SH, (f, g))) rfl ?_
  refine am_Ev.call hcd (a := 170) (s0 := (0, [(0, .int a0), (1, .int 1), (2, .int 3)], [], am_SH, (f, g))) (q := ((some (.int (am_b (x_within a0 1 3)))), am_SH, (f, g))) (s1 := (4, [(0, .ref 0), (1, .int a0), (2, .int a1)], [.int (am_b (x_within a0 1 3))], am_SH, (f, g))) rfl rfl (x_within_ok (d + 3) a0 1 3 (f, g)) ?_
  rcases am_ite h with ⟨c4, h⟩ | ⟨c4, h⟩
  · refine am_Ev.f hcd (c := am_b (x_within a0 1 3) = 0) (s1 := (5, [(0, .ref 0), (1, .int a0), (2, .int a1)], [], am_SH, (f, g))) rfl (am_b_t c4) ?_
    refine am_Ev.go hcd 3 (s' := (8, [(0, .ref 0), (1, .int a0), (2, .int a1)], [.int 1, .int 0, .int a1], am_SH, (f, g))) rfl ?_
    refine am_Ev.call hcd (a := 170) (s0 := (0, [(0, .int a1), (1, .int 0), (2, .int 1)], [], am_SH, (f, g))) (q := ((some (.int (am_b (x_within a1 0 1)))), am_SH, (f, g))) (s1 := (9, [(0, .ref 0), (1, .int a0), (2, .int a1)], [.int (am_b (x_within a1 0 1))], am_SH, (f, g))) rfl rfl (x_within_ok (d + 3) a1 0 1 (f, g)) ?_
    rcases am_ite h with ⟨c8, h⟩ | ⟨c8, h⟩
    · refine am_Ev.f hcd (c := am_b (x_within a1 0 1) = 0) (s1 := (12, [(0, .ref 0), (1, .int a0), (2, .int a1)], [], am_SH, (f, g))) rfl (am_b_t c8) ?_
      refine am_Ev.go hcd 10 (s' := (22, [(0, .ref 0), (1, .int a0), (2, .int a1)], [.int a1, .int a0, .ref 25, .ref 27, .ref 143], am_SH, (f, g))) rfl ?_
      obtain ⟨p3, hp3, h⟩ := am_bind_some h
      refine am_Ev.call hcd (a := 35) (s0 := (0, [(0, .ref 143), (1, .ref 27), (2, .ref 25), (3, .int a0), (4, .int a1)], [], am_SH, (f, g))) (q := ((some (.int p3)), am_SH, (f, g))) (s1 := (23, [(0, .ref 0), (1, .int a0), (2, .int a1)], [.int p3], am_SH, (f, g))) rfl rfl (xm_fitting_27_25_ok (d) a0 a1 f g p3 hp3) ?_
      exact am_Ev.cast (a := ((some (.int p3)), am_SH, (f, g))) (by cases h; rfl) (am_Ev.ret hcd rfl)
    · refine am_Ev.t hcd (c := am_b (x_within a1 0 1) = 0) (s1 := (10, [(0, .ref 0), (1, .int a0), (2, .int a1)], [], am_SH, (f, g))) rfl (am_b_f c8) ?_
      refine am_Ev.go hcd 1 (s' := (11, [(0, .ref 0), (1, .int a0), (2, .int a1)], [.int (-1)], am_SH, (f, g))) rfl ?_
      exact am_Ev.cast (a := ((some (.int (-1))), am_SH, (f, g))) (by cases h; rfl) (am_Ev.ret hcd rfl)
  · refine am_Ev.t hcd (c := am_b (x_within a0 1 3) = 0) (s1 := (10, [(0, .ref 0), (1, .int a0), (2, .int a1)], [], am_SH, (f, g))) rfl (am_b_f c4) ?_
    refine am_Ev.go hcd 1 (s' := (11, [(0, .ref 0), (1, .int a0), (2, .int a1)], [.int (-1)], am_SH, (f, g))) rfl ?_
    exact am_Ev.cast (a := ((some (.int (-1))), am_SH, (f, g))) (by cases h; rfl) (am_Ev.ret hcd rfl)
set_option maxRecDepth 100000 in
set_option maxHeartbeats 4000000 in
theorem xm_listCandidates_ok {sc : Nat × (Nat → Int32)} (d : Nat) (a0 : Int32) (f g : (Nat → Nat → Int32)) (r : Int32 × (Nat → Nat → Int32)) (h : xm_listCandidates a0 f = some r) : am_Ev sc (d) 39 (0, [(0, .ref 143), (1, .int a0)], [], am_SH, (f, g)) ((some (.int r.1)), am_SH, (r.2, g)) := by
  have hcd : am_code 39 = am_c39 := rfl
  unfold xm_listCandidates at h
  refine am_Ev.go hcd 4 (s' := (4, [(0, .ref 143), (1, .int a0), (2, .int 0), (3, .int 0)], [], am_SH, (f, g))) rfl ?_
  refine am_Ev.weak' (am_loop_ok (G := fun (s1 : Int32 × Int32 × (Nat → Nat → Int32)) => am_Ev sc (d) 39 (4, [(0, .ref 143), (1, .int a0), (2, .int s1.1), (3, .int s1.2.1)], [], am_SH, (s1.2.2, g)) ((some (.int r.1)), am_SH, (r.2, g))) (Z := fun (v : Int32 × (Nat → Nat → Int32)) => (((some (.int v.1)), am_SH, (v.2, g)) : am_R) = ((some (.int r.1)), am_SH, (r.2, g))) ?_ am_F (0, 0, f) r h rfl) (am_sub_cons rfl (am_sub_cons rfl (am_sub_cons rfl (am_sub_cons rfl am_sub_nil)))) rfl
  intro s1 q1 h hI1 hZ1
  show am_Ev sc (d) 39 (4, [(0, .ref 143), (1, .int a0), (2, .int s1.1), (3, .int s1.2.1)], [], am_SH, (s1.2.2, g)) ((some (.int r.1)), am_SH, (r.2, g))
  refine am_Ev.go hcd 2 (s' := (6, [(0, .ref 143), (1, .int a0), (2, .int s1.1), (3, .int s1.2.1)], [.int 16, .int s1.2.1], am_SH, (s1.2.2, g))) rfl ?_
  rcases am_ite h with ⟨c6, h⟩ | ⟨c6, h⟩
  · refine am_Ev.t hcd (c := s1.2.1 < 16) (s1 := (7, [(0, .ref 143), (1, .int a0), (2, .int s1.1), (3, .int s1.2.1)], [], am_SH, (s1.2.2, g))) rfl c6 ?_
    refine am_Ev.go hcd 4 (s' := (11, [(0, .ref 143), (1, .int a0), (2, .int s1.1), (3, .int s1.2.1)], [.int (nI 8), .int s1.1], am_SH, (s1.2.2, g))) rfl ?_
    rcases am_ite h with ⟨c9, h⟩ | ⟨c9, h⟩
    · refine am_Ev.t hcd (c := s1.1 < (nI 8)) (s1 := (12, [(0, .ref 143), (1, .int a0), (2, .int s1.1), (3, .int s1.2.1)], [], am_SH, (s1.2.2, g))) rfl c9 ?_
      obtain ⟨t4, ht4, kt4⟩ := am_bind_some h
      have hKt4 : am_Ev sc (d) 39 (25, [(0, .ref 143), (1, .int a0), (2, .int t4.1), (3, .int s1.2.1)], [], am_SH, (t4.2, g)) ((some (.int r.1)), am_SH, (r.2, g)) := by
        have h := kt4
        obtain ⟨t5, Et5, h⟩ := am_let_eq h
        refine am_Ev.go hcd 1 (s' := (26, [(0, .ref 143), (1, .int a0), (2, .int t4.1), (3, .int t5)], [], am_SH, (t4.2, g))) (by subst Et5; exact rfl) ?_
        refine am_Ev.go hcd 1 (s' := (4, [(0, .ref 143), (1, .int a0), (2, .int t4.1), (3, .int t5)], [], am_SH, (t4.2, g))) rfl ?_
        exact am_Ev.weak' (hI1 (t4.1, t5, t4.2) (Option.some.inj h).symm) (am_sub_cons rfl (am_sub_cons rfl (am_sub_cons rfl (am_sub_cons rfl am_sub_nil)))) rfl
      have hLt4 : ∀ tt, tt = t4 → am_Ev sc (d) 39 (25, [(0, .ref 143), (1, .int a0), (2, .int tt.1), (3, .int s1.2.1)], [], am_SH, (tt.2, g)) ((some (.int r.1)), am_SH, (r.2, g)) := fun tt htt => by subst htt; exact hKt4
      have h := ht4
      refine am_Ev.go hcd 6 (s' := (18, [(0, .ref 143), (1, .int a0), (2, .int s1.1), (3, .int s1.2.1)], [.int 1, .int ((a0 >>> (s1.2.1 &&& 31)) &&& 1)], am_SH, (s1.2.2, g))) rfl ?_
      rcases am_ite h with ⟨c21, h⟩ | ⟨c21, h⟩
      · refine am_Ev.t hcd (c := ((a0 >>> (s1.2.1 &&& 31)) &&& 1) = 1) (s1 := (19, [(0, .ref 143), (1, .int a0), (2, .int s1.1), (3, .int s1.2.1)], [], am_SH, (s1.2.2, g))) rfl c21 ?_
        refine am_Ev.go hcd 4 (s' := (23, [(0, .ref 143), (1, .int a0), (2, .int s1.1), (3, .int s1.2.1)], [.int s1.2.1, .int s1.1, .ref 145], am_SH, (s1.2.2, g))) rfl ?_
        obtain ⟨c24, h⟩ := am_grd h
        obtain ⟨f2, Ef2, h⟩ := am_let_eq h
        refine am_Ev.t hcd (o := none) (c := am_in s1.1 8 = true) (s1 := (24, [(0, .ref 143), (1, .int a0), (2, .int s1.1), (3, .int s1.2.1)], [], am_SH, (f2, g))) (by subst Ef2; exact rfl) c24 ?_
        obtain ⟨t3, Et3, h⟩ := am_let_eq h
        refine am_Ev.go hcd 1 (s' := (25, [(0, .ref 143), (1, .int a0), (2, .int t3), (3, .int s1.2.1)], [], am_SH, (f2, g))) (by subst Et3; exact rfl) ?_
        exact am_Ev.weak' (hLt4 (t3, f2) (Option.some.inj h)) (am_sub_cons rfl (am_sub_cons rfl (am_sub_cons rfl (am_sub_cons rfl am_sub_nil)))) rfl
      · refine am_Ev.f hcd (c := ((a0 >>> (s1.2.1 &&& 31)) &&& 1) = 1) (s1 := (25, [(0, .ref 143), (1, .int a0), (2, .int s1.1), (3, .int s1.2.1)], [], am_SH, (s1.2.2, g))) rfl c21 ?_
        exact am_Ev.weak' (hLt4 (s1.1, s1.2.2) (Option.some.inj h)) (am_sub_cons rfl (am_sub_cons rfl (am_sub_cons rfl (am_sub_cons rfl am_sub_nil)))) rfl
    · refine am_Ev.f hcd (c := s1.1 < (nI 8)) (s1 := (27, [(0, .ref 143), (1, .int a0), (2, .int s1.1), (3, .int s1.2.1)], [], am_SH, (s1.2.2, g))) rfl c9 ?_
      refine am_Ev.go hcd 1 (s' := (28, [(0, .ref 143), (1, .int a0), (2, .int s1.1), (3, .int s1.2.1)], [.int s1.1], am_SH, (s1.2.2, g))) rfl ?_
      exact am_Ev.cast (a := ((some (.int (s1.1, s1.2.2).1)), am_SH, ((s1.1, s1.2.2).2, g))) (hZ1 _ (Option.some.inj h).symm) (am_Ev.ret hcd rfl)
  · refine am_Ev.f hcd (c := s1.2.1 < 16) (s1 := (27, [(0, .ref 143), (1, .int a0), (2, .int s1.1), (3, .int s1.2.1)], [], am_SH, (s1.2.2, g))) rfl c6 ?_
    refine am_Ev.go hcd 1 (s' := (28, [(0, .ref 143), (1, .int a0), (2, .int s1.1), (3, .int s1.2.1)], [.int s1.1], am_SH, (s1.2.2, g))) rfl ?_
    exact am_Ev.cast (a := ((some (.int (s1.1, s1.2.2).1)), am_SH, ((s1.1, s1.2.2).2, g))) (hZ1 _ (Option.some.inj h).symm) (am_Ev.ret hcd rfl)
set_option maxRecDepth 100000 in
set_option maxHeartbeats 4000000 in
theorem xm_sortByNearness_25_ok {sc : Nat × (Nat → Int32)} (d : Nat) (a0 : Int32) (f g : (Nat → Nat → Int32)) (r : (Nat → Nat → Int32)) (h : xm_sortByNearness_25 a0 f = some r) : am_Ev sc (d + 2) 40 (0, [(0, .ref 143), (1, .ref 25), (2, .int a0)], [], am_SH, (f, g)) (none, am_SH, (r, g)) := by
  have hcd : am_code 40 = am_c40 := rfl
  unfold xm_sortByNearness_25 at h
  refine am_Ev.go hcd 2 (s' := (2, [(0, .ref 143), (1, .ref 25), (2, .int a0), (3, .int 0)], [], am_SH, (f, g))) rfl ?_
  obtain ⟨e4, he4, h⟩ := am_bind_some h
  have hK1 : (fun (e4 : (Nat → Nat → Int32)) => am_Ev sc (d + 2) 40 (14, [(0, .ref 143), (1, .ref 25), (2, .int a0)], [], am_SH, (e4, g)) (none, am_SH, (r, g))) e4 := by
    show am_Ev sc (d + 2) 40 (14, [(0, .ref 143), (1, .ref 25), (2, .int a0)], [], am_SH, (e4, g)) (none, am_SH, (r, g))
    refine am_Ev.go hcd 2 (s' := (16, [(0, .ref 143), (1, .ref 25), (2, .int a0), (3, .int 0)], [], am_SH, (e4, g))) rfl ?_
    refine am_Ev.weak' (am_loop_ok (G := fun (s5 : Int32 × (Nat → Nat → Int32)) => am_Ev sc (d + 2) 40 (16, [(0, .ref 143), (1, .ref 25), (2, .int a0), (3, .int s5.1)], [], am_SH, (s5.2, g)) (none, am_SH, (r, g))) (Z := fun (v : (Nat → Nat → Int32)) => ((none, am_SH, (v, g)) : am_R) = (none, am_SH, (r, g))) ?_ am_F (0, e4) r h rfl) (am_sub_cons rfl (am_sub_cons rfl (am_sub_cons rfl (am_sub_cons rfl am_sub_nil)))) rfl
    intro s5 q5 h hI5 hZ5
    show am_Ev sc (d + 2) 40 (16, [(0, .ref 143), (1, .ref 25), (2, .int a0), (3, .int s5.1)], [], am_SH, (s5.2, g)) (none, am_SH, (r, g))
    refine am_Ev.go hcd 2 (s' := (18, [(0, .ref 143), (1, .ref 25), (2, .int a0), (3, .int s5.1)], [.int 16, .int s5.1], am_SH, (s5.2, g))) rfl ?_
    rcases am_ite h with ⟨c10, h⟩ | ⟨c10, h⟩
    · refine am_Ev.t hcd (c := s5.1 < 16) (s1 := (19, [(0, .ref 143), (1, .ref 25), (2, .int a0), (3, .int s5.1)], [], am_SH, (s5.2, g))) rfl c10 ?_
      refine am_Ev.go hcd 2 (s' := (21, [(0, .ref 143), (1, .ref 25), (2, .int a0), (3, .int s5.1), (4, .int 0)], [], am_SH, (s5.2, g))) rfl ?_
      obtain ⟨e10, he10, h⟩ := am_bind_some h
      have hK6 : (fun (e10 : (Nat → Nat → Int32)) => am_Ev sc (d + 2) 40 (50, [(0, .ref 143), (1, .ref 25), (2, .int a0), (3, .int s5.1)], [], am_SH, (e10, g)) (none, am_SH, (r, g))) e10 := by
        show am_Ev sc (d + 2) 40 (50, [(0, .ref 143), (1, .ref 25), (2, .int a0), (3, .int s5.1)], [], am_SH, (e10, g)) (none, am_SH, (r, g))
        obtain ⟨t11, Et11, h⟩ := am_let_eq h
        refine am_Ev.go hcd 1 (s' := (51, [(0, .ref 143), (1, .ref 25), (2, .int a0), (3, .int t11)], [], am_SH, (e10, g))) (by subst Et11; exact rfl) ?_
        refine am_Ev.go hcd 1 (s' := (16, [(0, .ref 143), (1, .ref 25), (2, .int a0), (3, .int t11)], [], am_SH, (e10, g))) rfl ?_
        exact am_Ev.weak' (hI5 (t11, e10) (Option.some.inj h).symm) (am_sub_cons rfl (am_sub_cons rfl (am_sub_cons rfl (am_sub_cons rfl am_sub_nil)))) rfl
      refine am_Ev.weak' (am_loop_ok (G := fun (s6 : Int32 × (Nat → Nat → Int32)) => am_Ev sc (d + 2) 40 (21, [(0, .ref 143), (1, .ref 25), (2, .int a0), (3, .int s5.1), (4, .int s6.1)], [], am_SH, (s6.2, g)) (none, am_SH, (r, g))) (Z := fun (e10 : (Nat → Nat → Int32)) => am_Ev sc (d + 2) 40 (50, [(0, .ref 143), (1, .ref 25), (2, .int a0), (3, .int s5.1)], [], am_SH, (e10, g)) (none, am_SH, (r, g))) ?_ am_F (0, s5.2) e10 he10 hK6) (am_sub_cons rfl (am_sub_cons rfl (am_sub_cons rfl (am_sub_cons rfl (am_sub_cons rfl am_sub_nil))))) rfl
      intro s6 q6 h hI6 hZ6
      show am_Ev sc (d + 2) 40 (21, [(0, .ref 143), (1, .ref 25), (2, .int a0), (3, .int s5.1), (4, .int s6.1)], [], am_SH, (s6.2, g)) (none, am_SH, (r, g))
      refine am_Ev.go hcd 2 (s' := (23, [(0, .ref 143), (1, .ref 25), (2, .int a0), (3, .int s5.1), (4, .int s6.1)], [.int a0, .int s6.1], am_SH, (s6.2, g))) rfl ?_
      rcases am_ite h with ⟨c24, h⟩ | ⟨c24, h⟩
      · refine am_Ev.t hcd (c := s6.1 < a0) (s1 := (24, [(0, .ref 143), (1, .ref 25), (2, .int a0), (3, .int s5.1), (4, .int s6.1)], [], am_SH, (s6.2, g))) rfl c24 ?_
        refine am_Ev.go hcd 5 (s' := (29, [(0, .ref 143), (1, .ref 25), (2, .int a0), (3, .int s5.1), (4, .int s6.1)], [.int s6.1, .ref 145, .int 1, .ref 25], am_SH, (s6.2, g))) rfl ?_
        obtain ⟨c27, h⟩ := am_grd h
        refine am_Ev.t hcd (o := none) (c := am_in s6.1 8 = true) (s1 := (30, [(0, .ref 143), (1, .ref 25), (2, .int a0), (3, .int s5.1), (4, .int s6.1)], [.int (s6.2 145 s6.1.toNatClampNeg), .int 1, .ref 25], am_SH, (s6.2, g))) rfl c27 ?_
        refine am_Ev.go hcd 2 (s' := (32, [(0, .ref 143), (1, .ref 25), (2, .int a0), (3, .int s5.1), (4, .int s6.1)], [.int s5.1, .int (1 <<< ((s6.2 145 s6.1.toNatClampNeg) &&& 31)), .ref 25], am_SH, (s6.2, g))) rfl ?_
        obtain ⟨p7, hp7, h⟩ := am_bind_some h
        refine am_Ev.call hcd (a := 81) (s0 := (0, [(0, .ref 25), (1, .int (1 <<< ((s6.2 145 s6.1.toNatClampNeg) &&& 31))), (2, .int s5.1)], [], am_SH, (s6.2, g))) (q := ((some (.int p7)), am_SH, (s6.2, g))) (s1 := (33, [(0, .ref 143), (1, .ref 25), (2, .int a0), (3, .int s5.1), (4, .int s6.1)], [.int p7], am_SH, (s6.2, g))) rfl rfl (xn_nearness_25_ok (d) (1 <<< ((s6.2 145 s6.1.toNatClampNeg) &&& 31)) s5.1 s6.2 g p7 hp7) ?_
        refine am_Ev.go hcd 9 (s' := (42, [(0, .ref 143), (1, .ref 25), (2, .int a0), (3, .int s5.1), (4, .int s6.1), (5, .int p7)], [.int ((s5.1 * 11) + p7), .ref 146, .int ((s5.1 * 11) + p7), .ref 146], am_SH, (s6.2, g))) rfl ?_
        obtain ⟨c33, h⟩ := am_grd h
        refine am_Ev.t hcd (o := none) (c := am_in ((s5.1 * 11) + p7) 176 = true) (s1 := (43, [(0, .ref 143), (1, .ref 25), (2, .int a0), (3, .int s5.1), (4, .int s6.1), (5, .int p7)], [.int (s6.2 146 ((s5.1 * 11) + p7).toNatClampNeg), .int ((s5.1 * 11) + p7), .ref 146], am_SH, (s6.2, g))) rfl c33 ?_
        refine am_Ev.go hcd 4 (s' := (47, [(0, .ref 143), (1, .ref 25), (2, .int a0), (3, .int s5.1), (4, .int s6.1), (5, .int p7)], [.int ((s6.2 146 ((s5.1 * 11) + p7).toNatClampNeg) ||| (1 <<< (s6.1 &&& 31))), .int ((s5.1 * 11) + p7), .ref 146], am_SH, (s6.2, g))) rfl ?_
        obtain ⟨c36, h⟩ := am_grd h
        obtain ⟨f8, Ef8, h⟩ := am_let_eq h
        refine am_Ev.t hcd (o := none) (c := am_in ((s5.1 * 11) + p7) 176 = true) (s1 := (48, [(0, .ref 143), (1, .ref 25), (2, .int a0), (3, .int s5.1), (4, .int s6.1), (5, .int p7)], [], am_SH, (f8, g))) (by subst Ef8; exact rfl) c36 ?_
        obtain ⟨t9, Et9, h⟩ := am_let_eq h
        refine am_Ev.go hcd 1 (s' := (49, [(0, .ref 143), (1, .ref 25), (2, .int a0), (3, .int s5.1), (4, .int t9), (5, .int p7)], [], am_SH, (f8, g))) (by subst Et9; exact rfl) ?_
        refine am_Ev.go hcd 1 (s' := (21, [(0, .ref 143), (1, .ref 25), (2, .int a0), (3, .int s5.1), (4, .int t9), (5, .int p7)], [], am_SH, (f8, g))) rfl ?_
        exact am_Ev.weak' (hI6 (t9, f8) (Option.some.inj h).symm) (am_sub_cons rfl (am_sub_cons rfl (am_sub_cons rfl (am_sub_cons rfl (am_sub_cons rfl am_sub_nil))))) rfl
      · refine am_Ev.f hcd (c := s6.1 < a0) (s1 := (50, [(0, .ref 143), (1, .ref 25), (2, .int a0), (3, .int s5.1), (4, .int s6.1)], [], am_SH, (s6.2, g))) rfl c24 ?_
        exact am_Ev.weak' (hZ6 s6.2 (Option.some.inj h).symm) (am_sub_cons rfl (am_sub_cons rfl (am_sub_cons rfl (am_sub_cons rfl am_sub_nil)))) rfl
    · refine am_Ev.f hcd (c := s5.1 < 16) (s1 := (52, [(0, .ref 143), (1, .ref 25), (2, .int a0), (3, .int s5.1)], [], am_SH, (s5.2, g))) rfl c10 ?_
      exact am_Ev.cast (a := (none, am_SH, (s5.2, g))) (hZ5 _ (Option.some.inj h).symm) (am_Ev.ret hcd rfl)
  refine am_Ev.weak' (am_loop_ok (G := fun (s1 : Int32 × (Nat → Nat → Int32)) => am_Ev sc (d + 2) 40 (2, [(0, .ref 143), (1, .ref 25), (2, .int a0), (3, .int s1.1)], [], am_SH, (s1.2, g)) (none, am_SH, (r, g))) (Z := fun (e4 : (Nat → Nat → Int32)) => am_Ev sc (d + 2) 40 (14, [(0, .ref 143), (1, .ref 25), (2, .int a0)], [], am_SH, (e4, g)) (none, am_SH, (r, g))) ?_ am_F (0, f) e4 he4 hK1) (am_sub_cons rfl (am_sub_cons rfl (am_sub_cons rfl (am_sub_cons rfl am_sub_nil)))) rfl
  intro s1 q1 h hI1 hZ1
  show am_Ev sc (d + 2) 40 (2, [(0, .ref 143), (1, .ref 25), (2, .int a0), (3, .int s1.1)], [], am_SH, (s1.2, g)) (none, am_SH, (r, g))
  refine am_Ev.go hcd 4 (s' := (6, [(0, .ref 143), (1, .ref 25), (2, .int a0), (3, .int s1.1)], [.int (nI 176), .int s1.1], am_SH, (s1.2, g))) rfl ?_
  rcases am_ite h with ⟨c51, h⟩ | ⟨c51, h⟩
  · refine am_Ev.t hcd (c := s1.1 < (nI 176)) (s1 := (7, [(0, .ref 143), (1, .ref 25), (2, .int a0), (3, .int s1.1)], [], am_SH, (s1.2, g))) rfl c51 ?_
    refine am_Ev.go hcd 4 (s' := (11, [(0, .ref 143), (1, .ref 25), (2, .int a0), (3, .int s1.1)], [.int 0, .int s1.1, .ref 146], am_SH, (s1.2, g))) rfl ?_
    obtain ⟨c54, h⟩ := am_grd h
    obtain ⟨f2, Ef2, h⟩ := am_let_eq h
    refine am_Ev.t hcd (o := none) (c := am_in s1.1 176 = true) (s1 := (12, [(0, .ref 143), (1, .ref 25), (2, .int a0), (3, .int s1.1)], [], am_SH, (f2, g))) (by subst Ef2; exact rfl) c54 ?_
    obtain ⟨t3, Et3, h⟩ := am_let_eq h
    refine am_Ev.go hcd 1 (s' := (13, [(0, .ref 143), (1, .ref 25), (2, .int a0), (3, .int t3)], [], am_SH, (f2, g))) (by subst Et3; exact rfl) ?_
    refine am_Ev.go hcd 1 (s' := (2, [(0, .ref 143), (1, .ref 25), (2, .int a0), (3, .int t3)], [], am_SH, (f2, g))) rfl ?_
    exact am_Ev.weak' (hI1 (t3, f2) (Option.some.inj h).symm) (am_sub_cons rfl (am_sub_cons rfl (am_sub_cons rfl (am_sub_cons rfl am_sub_nil)))) rfl
  · refine am_Ev.f hcd (c := s1.1 < (nI 176)) (s1 := (14, [(0, .ref 143), (1, .ref 25), (2, .int a0), (3, .int s1.1)], [], am_SH, (s1.2, g))) rfl c51 ?_
    exact am_Ev.weak' (hZ1 s1.2 (Option.some.inj h).symm) (am_sub_cons rfl (am_sub_cons rfl (am_sub_cons rfl am_sub_nil))) rfl
set_option maxRecDepth 100000 in
set_option maxHeartbeats 4000000 in
theorem xm_wordsAfter_ok {sc : Nat × (Nat → Int32)} (d : Nat) (a0 : Int32) (a1 : Int32) (f g : (Nat → Nat → Int32)) (r : Int32) (h : xm_wordsAfter a0 a1 f = some r) : am_Ev sc (d + 1) 42 (0, [(0, .ref 143), (1, .int a0), (2, .int a1)], [], am_SH, (f, g)) ((some (.int r)), am_SH, (f, g)) := by
  have hcd : am_code 42 = am_c42 := rfl
  unfold xm_wordsAfter at h
  refine am_Ev.go hcd 4 (s' := (4, [(0, .ref 143), (1, .int a0), (2, .int a1), (3, .int 0), (4, .int 0)], [], am_SH, (f, g))) rfl ?_
  refine am_Ev.weak' (am_loop_ok (G := fun (s1 : Int32 × Int32) => am_Ev sc (d + 1) 42 (4, [(0, .ref 143), (1, .int a0), (2, .int a1), (3, .int s1.1), (4, .int s1.2)], [], am_SH, (f, g)) ((some (.int r)), am_SH, (f, g))) (Z := fun (v : Int32) => (((some (.int v)), am_SH, (f, g)) : am_R) = ((some (.int r)), am_SH, (f, g))) ?_ am_F (0, 0) r h rfl) (am_sub_cons rfl (am_sub_cons rfl (am_sub_cons rfl (am_sub_cons rfl (am_sub_cons rfl am_sub_nil))))) rfl
  intro s1 q1 h hI1 hZ1
  show am_Ev sc (d + 1) 42 (4, [(0, .ref 143), (1, .int a0), (2, .int a1), (3, .int s1.1), (4, .int s1.2)], [], am_SH, (f, g)) ((some (.int r)), am_SH, (f, g))
  refine am_Ev.go hcd 2 (s' := (6, [(0, .ref 143), (1, .int a0), (2, .int a1), (3, .int s1.1), (4, .int s1.2)], [.int 10, .int s1.2], am_SH, (f, g))) rfl ?_
  rcases am_ite h with ⟨c6, h⟩ | ⟨c6, h⟩
  · refine am_Ev.t hcd (c := 10 < s1.2) (s1 := (32, [(0, .ref 143), (1, .int a0), (2, .int a1), (3, .int s1.1), (4, .int s1.2)], [], am_SH, (f, g))) rfl c6 ?_
    refine am_Ev.go hcd 3 (s' := (35, [(0, .ref 143), (1, .int a0), (2, .int a1), (3, .int s1.1), (4, .int s1.2)], [.int (s1.1 + 1)], am_SH, (f, g))) rfl ?_
    exact am_Ev.cast (a := ((some (.int (s1.1 + 1))), am_SH, (f, g))) (hZ1 _ (Option.some.inj h).symm) (am_Ev.ret hcd rfl)
  · refine am_Ev.f hcd (c := 10 < s1.2) (s1 := (7, [(0, .ref 143), (1, .int a0), (2, .int a1), (3, .int s1.1), (4, .int s1.2)], [], am_SH, (f, g))) rfl c6 ?_
    refine am_Ev.go hcd 8 (s' := (15, [(0, .ref 143), (1, .int a0), (2, .int a1), (3, .int s1.1), (4, .int s1.2)], [.int ((a0 * 11) + s1.2), .ref 146, .int a1], am_SH, (f, g))) rfl ?_
    obtain ⟨c12, h⟩ := am_grd h
    refine am_Ev.t hcd (o := none) (c := am_in ((a0 * 11) + s1.2) 176 = true) (s1 := (16, [(0, .ref 143), (1, .int a0), (2, .int a1), (3, .int s1.1), (4, .int s1.2)], [.int (f 146 ((a0 * 11) + s1.2).toNatClampNeg), .int a1], am_SH, (f, g))) rfl c12 ?_
    obtain ⟨t2, Et2, h⟩ := am_let_eq h
    refine am_Ev.go hcd 2 (s' := (18, [(0, .ref 143), (1, .int a0), (2, .int a1), (3, .int s1.1), (4, .int s1.2), (5, .int t2)], [], am_SH, (f, g))) (by subst Et2; exact rfl) ?_
    refine am_Ev.go hcd 2 (s' := (20, [(0, .ref 143), (1, .int a0), (2, .int a1), (3, .int s1.1), (4, .int s1.2), (5, .int t2)], [.int a1, .int t2], am_SH, (f, g))) rfl ?_
    rcases am_ite h with ⟨c17, h⟩ | ⟨c17, h⟩
    · refine am_Ev.t hcd (c := t2 = a1) (s1 := (21, [(0, .ref 143), (1, .int a0), (2, .int a1), (3, .int s1.1), (4, .int s1.2), (5, .int t2)], [], am_SH, (f, g))) rfl c17 ?_
      refine am_Ev.go hcd 1 (s' := (22, [(0, .ref 143), (1, .int a0), (2, .int a1), (3, .int s1.1), (4, .int s1.2), (5, .int t2)], [.int 1000000], am_SH, (f, g))) rfl ?_
      exact am_Ev.cast (a := ((some (.int 1000000)), am_SH, (f, g))) (hZ1 _ (Option.some.inj h).symm) (am_Ev.ret hcd rfl)
    · refine am_Ev.f hcd (c := t2 = a1) (s1 := (23, [(0, .ref 143), (1, .int a0), (2, .int a1), (3, .int s1.1), (4, .int s1.2), (5, .int t2)], [], am_SH, (f, g))) rfl c17 ?_
      refine am_Ev.go hcd 4 (s' := (27, [(0, .ref 143), (1, .int a0), (2, .int a1), (3, .int s1.1), (4, .int s1.2), (5, .int t2)], [.int t2, .ref 144, .int s1.1], am_SH, (f, g))) rfl ?_
      obtain ⟨c23, h⟩ := am_grd h
      refine am_Ev.t hcd (o := none) (c := am_in t2 256 = true) (s1 := (28, [(0, .ref 143), (1, .int a0), (2, .int a1), (3, .int s1.1), (4, .int s1.2), (5, .int t2)], [.int (f 144 t2.toNatClampNeg), .int s1.1], am_SH, (f, g))) rfl c23 ?_
      refine am_Ev.jdk hcd (s1 := (29, [(0, .ref 143), (1, .int a0), (2, .int a1), (3, .int s1.1), (4, .int s1.2), (5, .int t2)], [.int (am_max s1.1 (f 144 t2.toNatClampNeg))], am_SH, (f, g))) rfl ?_
      obtain ⟨t3, Et3, h⟩ := am_let_eq h
      refine am_Ev.go hcd 1 (s' := (30, [(0, .ref 143), (1, .int a0), (2, .int a1), (3, .int t3), (4, .int s1.2), (5, .int t2)], [], am_SH, (f, g))) (by subst Et3; exact rfl) ?_
      obtain ⟨t4, Et4, h⟩ := am_let_eq h
      refine am_Ev.go hcd 1 (s' := (31, [(0, .ref 143), (1, .int a0), (2, .int a1), (3, .int t3), (4, .int t4), (5, .int t2)], [], am_SH, (f, g))) (by subst Et4; exact rfl) ?_
      refine am_Ev.go hcd 1 (s' := (4, [(0, .ref 143), (1, .int a0), (2, .int a1), (3, .int t3), (4, .int t4), (5, .int t2)], [], am_SH, (f, g))) rfl ?_
      exact am_Ev.weak' (hI1 (t3, t4) (Option.some.inj h).symm) (am_sub_cons rfl (am_sub_cons rfl (am_sub_cons rfl (am_sub_cons rfl (am_sub_cons rfl am_sub_nil))))) rfl
