set_option maxRecDepth 100000 in
set_option maxHeartbeats 4000000 in
theorem xb_passMinute_2_ok {sc : Nat × (Nat → Int32)} (d : Nat) (a0 : Bool) (f g : (Nat → Nat → Int32)) (r : Int32 × (Nat → Nat → Int32)) (h : xb_passMinute_2 a0 f = some r) : am_Ev sc (d + 5) 1 (0, [(0, .ref 120), (1, .ref 2), (2, .int (am_b a0))], [], am_SH, (f, g)) ((some (.int r.1)), am_SH, (r.2, g)) := by
  have hcd : am_code 1 = am_c1 := rfl
  unfold xb_passMinute_2 at h
  refine am_Ev.go hcd 6 (s' := (6, [(0, .ref 120), (1, .ref 2), (2, .int (am_b a0)), (3, .ref 20), (4, .int 0)], [], am_SH, (f, g))) rfl ?_
  obtain ⟨e6, he6, h⟩ := am_bind_some h
  have hK1 : (fun (e6 : (Nat → Nat → Int32)) => am_Ev sc (d + 5) 1 (31, [(0, .ref 120), (1, .ref 2), (2, .int (am_b a0))], [], am_SH, (e6, g)) ((some (.int r.1)), am_SH, (r.2, g))) e6 := by
    show am_Ev sc (d + 5) 1 (31, [(0, .ref 120), (1, .ref 2), (2, .int (am_b a0))], [], am_SH, (e6, g)) ((some (.int r.1)), am_SH, (r.2, g))
    refine am_Ev.go hcd 4 (s' := (35, [(0, .ref 120), (1, .ref 2), (2, .int (am_b a0)), (4, .int 0), (5, .int 0)], [], am_SH, (e6, g))) rfl ?_
    obtain ⟨e12, he12, h⟩ := am_bind_some h
    have hK7 : (fun (e12 : Int32 × (Nat → Nat → Int32)) => am_Ev sc (d + 5) 1 (54, [(1, .ref 2), (4, .int e12.1)], [], am_SH, (e12.2, g)) ((some (.int r.1)), am_SH, (r.2, g))) e12 := by
      show am_Ev sc (d + 5) 1 (54, [(1, .ref 2), (4, .int e12.1)], [], am_SH, (e12.2, g)) ((some (.int r.1)), am_SH, (r.2, g))
      refine am_Ev.go hcd 2 (s' := (56, [(1, .ref 2), (4, .int e12.1), (5, .int 0)], [], am_SH, (e12.2, g))) rfl ?_
      obtain ⟨e16, he16, h⟩ := am_bind_some h
      have hK13 : (fun (e16 : (Nat → Nat → Int32)) => am_Ev sc (d + 5) 1 (67, [(1, .ref 2), (4, .int e12.1)], [], am_SH, (e16, g)) ((some (.int r.1)), am_SH, (r.2, g))) e16 := by
        show am_Ev sc (d + 5) 1 (67, [(1, .ref 2), (4, .int e12.1)], [], am_SH, (e16, g)) ((some (.int r.1)), am_SH, (r.2, g))
        obtain ⟨f17, Ef17, h⟩ := am_let_eq h
        refine am_Ev.go hcd 6 (s' := (73, [(1, .ref 2), (4, .int e12.1)], [], am_SH, (f17, g))) (by subst Ef17; exact rfl) ?_
        refine am_Ev.go hcd 1 (s' := (74, [(1, .ref 2), (4, .int e12.1)], [.int e12.1], am_SH, (f17, g))) rfl ?_
        exact am_Ev.cast (a := ((some (.int (e12.1, f17).1)), am_SH, ((e12.1, f17).2, g))) (by cases h; rfl) (am_Ev.ret hcd rfl)
      refine am_Ev.weak' (am_loop_ok (G := fun (s13 : Int32 × (Nat → Nat → Int32)) => am_Ev sc (d + 5) 1 (56, [(1, .ref 2), (4, .int e12.1), (5, .int s13.1)], [], am_SH, (s13.2, g)) ((some (.int r.1)), am_SH, (r.2, g))) (Z := fun (e16 : (Nat → Nat → Int32)) => am_Ev sc (d + 5) 1 (67, [(1, .ref 2), (4, .int e12.1)], [], am_SH, (e16, g)) ((some (.int r.1)), am_SH, (r.2, g))) ?_ am_F (0, e12.2) e16 he16 hK13) (am_sub_cons rfl (am_sub_cons rfl (am_sub_cons rfl am_sub_nil))) rfl
      intro s13 q13 h hI13 hZ13
      show am_Ev sc (d + 5) 1 (56, [(1, .ref 2), (4, .int e12.1), (5, .int s13.1)], [], am_SH, (s13.2, g)) ((some (.int r.1)), am_SH, (r.2, g))
      refine am_Ev.go hcd 3 (s' := (59, [(1, .ref 2), (4, .int e12.1), (5, .int s13.1)], [.int (s13.2 2 0), .int s13.1], am_SH, (s13.2, g))) rfl ?_
      rcases am_ite h with ⟨c21, h⟩ | ⟨c21, h⟩
      · refine am_Ev.t hcd (c := s13.1 < s13.2 2 0) (s1 := (60, [(1, .ref 2), (4, .int e12.1), (5, .int s13.1)], [], am_SH, (s13.2, g))) rfl c21 ?_
        refine am_Ev.go hcd 4 (s' := (64, [(1, .ref 2), (4, .int e12.1), (5, .int s13.1)], [.int (-1), .int s13.1, .ref 6], am_SH, (s13.2, g))) rfl ?_
        obtain ⟨c24, h⟩ := am_grd h
        obtain ⟨f14, Ef14, h⟩ := am_let_eq h
        refine am_Ev.t hcd (o := none) (c := am_in s13.1 6 = true) (s1 := (65, [(1, .ref 2), (4, .int e12.1), (5, .int s13.1)], [], am_SH, (f14, g))) (by subst Ef14; exact rfl) c24 ?_
        obtain ⟨t15, Et15, h⟩ := am_let_eq h
        refine am_Ev.go hcd 1 (s' := (66, [(1, .ref 2), (4, .int e12.1), (5, .int t15)], [], am_SH, (f14, g))) (by subst Et15; exact rfl) ?_
        refine am_Ev.go hcd 1 (s' := (56, [(1, .ref 2), (4, .int e12.1), (5, .int t15)], [], am_SH, (f14, g))) rfl ?_
        exact am_Ev.weak' (hI13 (t15, f14) (Option.some.inj h).symm) (am_sub_cons rfl (am_sub_cons rfl (am_sub_cons rfl am_sub_nil))) rfl
      · refine am_Ev.f hcd (c := s13.1 < s13.2 2 0) (s1 := (67, [(1, .ref 2), (4, .int e12.1), (5, .int s13.1)], [], am_SH, (s13.2, g))) rfl c21 ?_
        exact am_Ev.weak' (hZ13 s13.2 (Option.some.inj h).symm) (am_sub_cons rfl (am_sub_cons rfl am_sub_nil)) rfl
    refine am_Ev.weak' (am_loop_ok (G := fun (s7 : Int32 × Int32 × (Nat → Nat → Int32)) => am_Ev sc (d + 5) 1 (35, [(0, .ref 120), (1, .ref 2), (2, .int (am_b a0)), (4, .int s7.1), (5, .int s7.2.1)], [], am_SH, (s7.2.2, g)) ((some (.int r.1)), am_SH, (r.2, g))) (Z := fun (e12 : Int32 × (Nat → Nat → Int32)) => am_Ev sc (d + 5) 1 (54, [(1, .ref 2), (4, .int e12.1)], [], am_SH, (e12.2, g)) ((some (.int r.1)), am_SH, (r.2, g))) ?_ am_F (0, 0, e6) e12 he12 hK7) (am_sub_cons rfl (am_sub_cons rfl (am_sub_cons rfl (am_sub_cons rfl (am_sub_cons rfl am_sub_nil))))) rfl
    intro s7 q7 h hI7 hZ7
    show am_Ev sc (d + 5) 1 (35, [(0, .ref 120), (1, .ref 2), (2, .int (am_b a0)), (4, .int s7.1), (5, .int s7.2.1)], [], am_SH, (s7.2.2, g)) ((some (.int r.1)), am_SH, (r.2, g))
    refine am_Ev.go hcd 3 (s' := (38, [(0, .ref 120), (1, .ref 2), (2, .int (am_b a0)), (4, .int s7.1), (5, .int s7.2.1)], [.int (s7.2.2 2 0), .int s7.2.1], am_SH, (s7.2.2, g))) rfl ?_
    rcases am_ite h with ⟨c37, h⟩ | ⟨c37, h⟩
    · refine am_Ev.t hcd (c := s7.2.1 < s7.2.2 2 0) (s1 := (39, [(0, .ref 120), (1, .ref 2), (2, .int (am_b a0)), (4, .int s7.1), (5, .int s7.2.1)], [], am_SH, (s7.2.2, g))) rfl c37 ?_
      refine am_Ev.go hcd 3 (s' := (42, [(0, .ref 120), (1, .ref 2), (2, .int (am_b a0)), (4, .int s7.1), (5, .int s7.2.1)], [.int s7.2.1, .ref 5], am_SH, (s7.2.2, g))) rfl ?_
      obtain ⟨c40, h⟩ := am_grd h
      refine am_Ev.t hcd (o := none) (c := am_in s7.2.1 6 = true) (s1 := (43, [(0, .ref 120), (1, .ref 2), (2, .int (am_b a0)), (4, .int s7.1), (5, .int s7.2.1)], [.int (s7.2.2 5 s7.2.1.toNatClampNeg)], am_SH, (s7.2.2, g))) rfl c40 ?_
      obtain ⟨t10, ht10, kt10⟩ := am_bind_some h
      have hKt10 : am_Ev sc (d + 5) 1 (52, [(0, .ref 120), (1, .ref 2), (2, .int (am_b a0)), (4, .int t10.1), (5, .int s7.2.1)], [], am_SH, (t10.2, g)) ((some (.int r.1)), am_SH, (r.2, g)) := by
        have h := kt10
        obtain ⟨t11, Et11, h⟩ := am_let_eq h
        refine am_Ev.go hcd 1 (s' := (53, [(0, .ref 120), (1, .ref 2), (2, .int (am_b a0)), (4, .int t10.1), (5, .int t11)], [], am_SH, (t10.2, g))) (by subst Et11; exact rfl) ?_
        refine am_Ev.go hcd 1 (s' := (35, [(0, .ref 120), (1, .ref 2), (2, .int (am_b a0)), (4, .int t10.1), (5, .int t11)], [], am_SH, (t10.2, g))) rfl ?_
        exact am_Ev.weak' (hI7 (t10.1, t11, t10.2) (Option.some.inj h).symm) (am_sub_cons rfl (am_sub_cons rfl (am_sub_cons rfl (am_sub_cons rfl (am_sub_cons rfl am_sub_nil))))) rfl
      have hLt10 : ∀ tt, tt = t10 → am_Ev sc (d + 5) 1 (52, [(0, .ref 120), (1, .ref 2), (2, .int (am_b a0)), (4, .int tt.1), (5, .int s7.2.1)], [], am_SH, (tt.2, g)) ((some (.int r.1)), am_SH, (r.2, g)) := fun tt htt => by subst htt; exact hKt10
      have h := ht10
      refine am_Ev.go hcd 1 (s' := (44, [(0, .ref 120), (1, .ref 2), (2, .int (am_b a0)), (4, .int s7.1), (5, .int s7.2.1)], [.int (-1), .int (s7.2.2 5 s7.2.1.toNatClampNeg)], am_SH, (s7.2.2, g))) rfl ?_
      rcases am_ite h with ⟨c52, h⟩ | ⟨c52, h⟩
      · refine am_Ev.t hcd (c := s7.2.2 5 s7.2.1.toNatClampNeg = (-1)) (s1 := (52, [(0, .ref 120), (1, .ref 2), (2, .int (am_b a0)), (4, .int s7.1), (5, .int s7.2.1)], [], am_SH, (s7.2.2, g))) rfl c52 ?_
        exact am_Ev.weak' (hLt10 (s7.1, s7.2.2) (Option.some.inj h)) (am_sub_cons rfl (am_sub_cons rfl (am_sub_cons rfl (am_sub_cons rfl (am_sub_cons rfl am_sub_nil))))) rfl
      · refine am_Ev.f hcd (c := s7.2.2 5 s7.2.1.toNatClampNeg = (-1)) (s1 := (45, [(0, .ref 120), (1, .ref 2), (2, .int (am_b a0)), (4, .int s7.1), (5, .int s7.2.1)], [], am_SH, (s7.2.2, g))) rfl c52 ?_
        refine am_Ev.go hcd 4 (s' := (49, [(0, .ref 120), (1, .ref 2), (2, .int (am_b a0)), (4, .int s7.1), (5, .int s7.2.1)], [.int (am_b a0), .int s7.2.1, .ref 2, .ref 120], am_SH, (s7.2.2, g))) rfl ?_
        obtain ⟨p8, hp8, h⟩ := am_bind_some h
        refine am_Ev.call hcd (a := 6) (s0 := (0, [(0, .ref 120), (1, .ref 2), (2, .int s7.2.1), (3, .int (am_b a0))], [], am_SH, (s7.2.2, g))) (q := ((some (.int (am_b p8.1))), am_SH, (p8.2, g))) (s1 := (50, [(0, .ref 120), (1, .ref 2), (2, .int (am_b a0)), (4, .int s7.1), (5, .int s7.2.1)], [.int (am_b p8.1)], am_SH, (p8.2, g))) rfl rfl (xb_passGlass_2_ok (d) s7.2.1 a0 s7.2.2 g p8 hp8) ?_
        rcases am_ite h with ⟨c60, h⟩ | ⟨c60, h⟩
        · refine am_Ev.f hcd (c := am_b p8.1 = 0) (s1 := (51, [(0, .ref 120), (1, .ref 2), (2, .int (am_b a0)), (4, .int s7.1), (5, .int s7.2.1)], [], am_SH, (p8.2, g))) rfl (am_b_t c60) ?_
          obtain ⟨t9, Et9, h⟩ := am_let_eq h
          refine am_Ev.go hcd 1 (s' := (52, [(0, .ref 120), (1, .ref 2), (2, .int (am_b a0)), (4, .int t9), (5, .int s7.2.1)], [], am_SH, (p8.2, g))) (by subst Et9; exact rfl) ?_
          exact am_Ev.weak' (hLt10 (t9, p8.2) (Option.some.inj h)) (am_sub_cons rfl (am_sub_cons rfl (am_sub_cons rfl (am_sub_cons rfl (am_sub_cons rfl am_sub_nil))))) rfl
        · refine am_Ev.t hcd (c := am_b p8.1 = 0) (s1 := (52, [(0, .ref 120), (1, .ref 2), (2, .int (am_b a0)), (4, .int s7.1), (5, .int s7.2.1)], [], am_SH, (p8.2, g))) rfl (am_b_f c60) ?_
          exact am_Ev.weak' (hLt10 (s7.1, p8.2) (Option.some.inj h)) (am_sub_cons rfl (am_sub_cons rfl (am_sub_cons rfl (am_sub_cons rfl (am_sub_cons rfl am_sub_nil))))) rfl
    · refine am_Ev.f hcd (c := s7.2.1 < s7.2.2 2 0) (s1 := (54, [(0, .ref 120), (1, .ref 2), (2, .int (am_b a0)), (4, .int s7.1), (5, .int s7.2.1)], [], am_SH, (s7.2.2, g))) rfl c37 ?_
      exact am_Ev.weak' (hZ7 (s7.1, s7.2.2) (Option.some.inj h).symm) (am_sub_cons rfl (am_sub_cons rfl am_sub_nil)) rfl
  refine am_Ev.weak' (am_loop_ok (G := fun (s1 : Int32 × (Nat → Nat → Int32)) => am_Ev sc (d + 5) 1 (6, [(0, .ref 120), (1, .ref 2), (2, .int (am_b a0)), (3, .ref 20), (4, .int s1.1)], [], am_SH, (s1.2, g)) ((some (.int r.1)), am_SH, (r.2, g))) (Z := fun (e6 : (Nat → Nat → Int32)) => am_Ev sc (d + 5) 1 (31, [(0, .ref 120), (1, .ref 2), (2, .int (am_b a0))], [], am_SH, (e6, g)) ((some (.int r.1)), am_SH, (r.2, g))) ?_ am_F (0, f) e6 he6 hK1) (am_sub_cons rfl (am_sub_cons rfl (am_sub_cons rfl (am_sub_cons rfl (am_sub_cons rfl am_sub_nil))))) rfl
  intro s1 q1 h hI1 hZ1
  show am_Ev sc (d + 5) 1 (6, [(0, .ref 120), (1, .ref 2), (2, .int (am_b a0)), (3, .ref 20), (4, .int s1.1)], [], am_SH, (s1.2, g)) ((some (.int r.1)), am_SH, (r.2, g))
  refine am_Ev.go hcd 3 (s' := (9, [(0, .ref 120), (1, .ref 2), (2, .int (am_b a0)), (3, .ref 20), (4, .int s1.1)], [.int (s1.2 20 0), .int s1.1], am_SH, (s1.2, g))) rfl ?_
  rcases am_ite h with ⟨c72, h⟩ | ⟨c72, h⟩
  · refine am_Ev.t hcd (c := s1.1 < s1.2 20 0) (s1 := (10, [(0, .ref 120), (1, .ref 2), (2, .int (am_b a0)), (3, .ref 20), (4, .int s1.1)], [], am_SH, (s1.2, g))) rfl c72 ?_
    refine am_Ev.go hcd 3 (s' := (13, [(0, .ref 120), (1, .ref 2), (2, .int (am_b a0)), (3, .ref 20), (4, .int s1.1)], [.int s1.1, .ref 21], am_SH, (s1.2, g))) rfl ?_
    obtain ⟨c75, h⟩ := am_grd h
    refine am_Ev.t hcd (o := none) (c := am_in s1.1 16 = true) (s1 := (14, [(0, .ref 120), (1, .ref 2), (2, .int (am_b a0)), (3, .ref 20), (4, .int s1.1)], [.int (s1.2 21 s1.1.toNatClampNeg)], am_SH, (s1.2, g))) rfl c75 ?_
    obtain ⟨t4, ht4, kt4⟩ := am_bind_some h
    have hKt4 : am_Ev sc (d + 5) 1 (29, [(0, .ref 120), (1, .ref 2), (2, .int (am_b a0)), (3, .ref 20), (4, .int s1.1)], [], am_SH, (t4, g)) ((some (.int r.1)), am_SH, (r.2, g)) := by
      have h := kt4
      obtain ⟨t5, Et5, h⟩ := am_let_eq h
      refine am_Ev.go hcd 1 (s' := (30, [(0, .ref 120), (1, .ref 2), (2, .int (am_b a0)), (3, .ref 20), (4, .int t5)], [], am_SH, (t4, g))) (by subst Et5; exact rfl) ?_
      refine am_Ev.go hcd 1 (s' := (6, [(0, .ref 120), (1, .ref 2), (2, .int (am_b a0)), (3, .ref 20), (4, .int t5)], [], am_SH, (t4, g))) rfl ?_
      exact am_Ev.weak' (hI1 (t5, t4) (Option.some.inj h).symm) (am_sub_cons rfl (am_sub_cons rfl (am_sub_cons rfl (am_sub_cons rfl (am_sub_cons rfl am_sub_nil))))) rfl
    have hLt4 : ∀ tt, tt = t4 → am_Ev sc (d + 5) 1 (29, [(0, .ref 120), (1, .ref 2), (2, .int (am_b a0)), (3, .ref 20), (4, .int s1.1)], [], am_SH, (tt, g)) ((some (.int r.1)), am_SH, (r.2, g)) := fun tt htt => by subst htt; exact hKt4
    have h := ht4
    refine am_Ev.go hcd 2 (s' := (16, [(0, .ref 120), (1, .ref 2), (2, .int (am_b a0)), (3, .ref 20), (4, .int s1.1)], [.int (s1.2 2 2), .int (s1.2 21 s1.1.toNatClampNeg)], am_SH, (s1.2, g))) rfl ?_
    rcases am_ite h with ⟨c87, h⟩ | ⟨c87, h⟩
    · refine am_Ev.t hcd (c := s1.2 21 s1.1.toNatClampNeg = s1.2 2 2) (s1 := (17, [(0, .ref 120), (1, .ref 2), (2, .int (am_b a0)), (3, .ref 20), (4, .int s1.1)], [], am_SH, (s1.2, g))) rfl c87 ?_
      refine am_Ev.go hcd 4 (s' := (21, [(0, .ref 120), (1, .ref 2), (2, .int (am_b a0)), (3, .ref 20), (4, .int s1.1)], [.int s1.1, .ref 22, .ref 2], am_SH, (s1.2, g))) rfl ?_
      obtain ⟨c90, h⟩ := am_grd h
      refine am_Ev.t hcd (o := none) (c := am_in s1.1 16 = true) (s1 := (22, [(0, .ref 120), (1, .ref 2), (2, .int (am_b a0)), (3, .ref 20), (4, .int s1.1)], [.int (s1.2 22 s1.1.toNatClampNeg), .ref 2], am_SH, (s1.2, g))) rfl c90 ?_
      refine am_Ev.call hcd (a := 22) (s0 := (0, [(0, .ref 2), (1, .int (s1.2 22 s1.1.toNatClampNeg))], [], am_SH, (s1.2, g))) (q := ((some (.int (am_b (xc_hasGlass_2 (s1.2 22 s1.1.toNatClampNeg) s1.2)))), am_SH, (s1.2, g))) (s1 := (23, [(0, .ref 120), (1, .ref 2), (2, .int (am_b a0)), (3, .ref 20), (4, .int s1.1)], [.int (am_b (xc_hasGlass_2 (s1.2 22 s1.1.toNatClampNeg) s1.2))], am_SH, (s1.2, g))) rfl rfl (xc_hasGlass_2_ok (d + 4) (s1.2 22 s1.1.toNatClampNeg) s1.2 g) ?_
      rcases am_ite h with ⟨c94, h⟩ | ⟨c94, h⟩
      · refine am_Ev.f hcd (c := am_b (xc_hasGlass_2 (s1.2 22 s1.1.toNatClampNeg) s1.2) = 0) (s1 := (24, [(0, .ref 120), (1, .ref 2), (2, .int (am_b a0)), (3, .ref 20), (4, .int s1.1)], [], am_SH, (s1.2, g))) rfl (am_b_t c94) ?_
        refine am_Ev.go hcd 4 (s' := (28, [(0, .ref 120), (1, .ref 2), (2, .int (am_b a0)), (3, .ref 20), (4, .int s1.1)], [.int (am_b a0), .int s1.1, .ref 2, .ref 120], am_SH, (s1.2, g))) rfl ?_
        obtain ⟨p3, hp3, h⟩ := am_bind_some h
        refine am_Ev.call hcd (a := 2) (s0 := (0, [(0, .ref 120), (1, .ref 2), (2, .int s1.1), (3, .int (am_b a0))], [], am_SH, (s1.2, g))) (q := (none, am_SH, (p3, g))) (s1 := (29, [(0, .ref 120), (1, .ref 2), (2, .int (am_b a0)), (3, .ref 20), (4, .int s1.1)], [], am_SH, (p3, g))) rfl rfl (xb_walkLine_2_ok (d + 1) s1.1 a0 s1.2 g p3 hp3) ?_
        exact am_Ev.weak' (hLt4 p3 (Option.some.inj h)) (am_sub_cons rfl (am_sub_cons rfl (am_sub_cons rfl (am_sub_cons rfl (am_sub_cons rfl am_sub_nil))))) rfl
      · refine am_Ev.t hcd (c := am_b (xc_hasGlass_2 (s1.2 22 s1.1.toNatClampNeg) s1.2) = 0) (s1 := (29, [(0, .ref 120), (1, .ref 2), (2, .int (am_b a0)), (3, .ref 20), (4, .int s1.1)], [], am_SH, (s1.2, g))) rfl (am_b_f c94) ?_
        exact am_Ev.weak' (hLt4 s1.2 (Option.some.inj h)) (am_sub_cons rfl (am_sub_cons rfl (am_sub_cons rfl (am_sub_cons rfl (am_sub_cons rfl am_sub_nil))))) rfl
    · refine am_Ev.f hcd (c := s1.2 21 s1.1.toNatClampNeg = s1.2 2 2) (s1 := (29, [(0, .ref 120), (1, .ref 2), (2, .int (am_b a0)), (3, .ref 20), (4, .int s1.1)], [], am_SH, (s1.2, g))) rfl c87 ?_
      exact am_Ev.weak' (hLt4 s1.2 (Option.some.inj h)) (am_sub_cons rfl (am_sub_cons rfl (am_sub_cons rfl (am_sub_cons rfl (am_sub_cons rfl am_sub_nil))))) rfl
  · refine am_Ev.f hcd (c := s1.1 < s1.2 20 0) (s1 := (31, [(0, .ref 120), (1, .ref 2), (2, .int (am_b a0)), (3, .ref 20), (4, .int s1.1)], [], am_SH, (s1.2, g))) rfl c72 ?_
    exact am_Ev.weak' (hZ1 s1.2 (Option.some.inj h).symm) (am_sub_cons rfl (am_sub_cons rfl (am_sub_cons rfl am_sub_nil))) rfl
set_option maxRecDepth 100000 in
set_option maxHeartbeats 4000000 in
theorem x_minutes_ok {sc : Nat × (Nat → Int32)} (d : Nat) (a0 : Int32) (f g : (Nat → Nat → Int32)) (r : Int32 × (Nat → Nat → Int32)) (h : x_minutes a0 f = some r) : am_Ev sc (d + 6) 132 (0, [(0, .ref 0), (1, .int a0)], [], am_SH, (f, g)) ((some (.int r.1)), am_SH, (r.2, g)) := by
  have hcd : am_code 132 = am_c132 := rfl
  unfold x_minutes at h
  refine am_Ev.go hcd 7 (s' := (7, [(0, .ref 0), (1, .int a0), (2, .ref 2)], [.int 60, .int 1, .int a0], am_SH, (f, g))) rfl ?_
  refine am_Ev.call hcd (a := 170) (s0 := (0, [(0, .int a0), (1, .int 1), (2, .int 60)], [], am_SH, (f, g))) (q := ((some (.int (am_b (x_within a0 1 60)))), am_SH, (f, g))) (s1 := (8, [(0, .ref 0), (1, .int a0), (2, .ref 2)], [.int (am_b (x_within a0 1 60))], am_SH, (f, g))) rfl rfl (x_within_ok (d + 5) a0 1 60 (f, g)) ?_
  rcases am_ite h with ⟨c4, h⟩ | ⟨c4, h⟩
  · refine am_Ev.f hcd (c := am_b (x_within a0 1 60) = 0) (s1 := (9, [(0, .ref 0), (1, .int a0), (2, .ref 2)], [], am_SH, (f, g))) rfl (am_b_t c4) ?_
    refine am_Ev.go hcd 5 (s' := (14, [(0, .ref 0), (1, .int a0), (2, .ref 2)], [.int 9999, .int ((f 2 2) + a0)], am_SH, (f, g))) rfl ?_
    rcases am_ite h with ⟨c6, h⟩ | ⟨c6, h⟩
    · refine am_Ev.t hcd (c := 9999 < ((f 2 2) + a0)) (s1 := (15, [(0, .ref 0), (1, .int a0), (2, .ref 2)], [], am_SH, (f, g))) rfl c6 ?_
      refine am_Ev.go hcd 1 (s' := (16, [(0, .ref 0), (1, .int a0), (2, .ref 2)], [.int (-1)], am_SH, (f, g))) rfl ?_
      exact am_Ev.cast (a := ((some (.int ((-1), f).1)), am_SH, (((-1), f).2, g))) (by cases h; rfl) (am_Ev.ret hcd rfl)
    · refine am_Ev.f hcd (c := 9999 < ((f 2 2) + a0)) (s1 := (17, [(0, .ref 0), (1, .int a0), (2, .ref 2)], [], am_SH, (f, g))) rfl c6 ?_
      refine am_Ev.go hcd 4 (s' := (21, [(0, .ref 0), (1, .int a0), (2, .ref 2), (3, .int 0), (4, .int 0)], [], am_SH, (f, g))) rfl ?_
      refine am_Ev.weak' (am_loop_ok (G := fun (s2 : Int32 × Int32 × (Nat → Nat → Int32)) => am_Ev sc (d + 6) 132 (21, [(0, .ref 0), (1, .int a0), (2, .ref 2), (3, .int s2.1), (4, .int s2.2.1)], [], am_SH, (s2.2.2, g)) ((some (.int r.1)), am_SH, (r.2, g))) (Z := fun (v : Int32 × (Nat → Nat → Int32)) => (((some (.int v.1)), am_SH, (v.2, g)) : am_R) = ((some (.int r.1)), am_SH, (r.2, g))) ?_ am_F (0, 0, f) r h rfl) (am_sub_cons rfl (am_sub_cons rfl (am_sub_cons rfl (am_sub_cons rfl (am_sub_cons rfl am_sub_nil))))) rfl
      intro s2 q2 h hI2 hZ2
      show am_Ev sc (d + 6) 132 (21, [(0, .ref 0), (1, .int a0), (2, .ref 2), (3, .int s2.1), (4, .int s2.2.1)], [], am_SH, (s2.2.2, g)) ((some (.int r.1)), am_SH, (r.2, g))
      refine am_Ev.go hcd 2 (s' := (23, [(0, .ref 0), (1, .int a0), (2, .ref 2), (3, .int s2.1), (4, .int s2.2.1)], [.int a0, .int s2.2.1], am_SH, (s2.2.2, g))) rfl ?_
      rcases am_ite h with ⟨c16, h⟩ | ⟨c16, h⟩
      · refine am_Ev.t hcd (c := s2.2.1 < a0) (s1 := (24, [(0, .ref 0), (1, .int a0), (2, .ref 2), (3, .int s2.1), (4, .int s2.2.1)], [], am_SH, (s2.2.2, g))) rfl c16 ?_
        refine am_Ev.go hcd 1 (s' := (25, [(0, .ref 0), (1, .int a0), (2, .ref 2), (3, .int s2.1), (4, .int s2.2.1)], [.ref 0], am_SH, (s2.2.2, g))) rfl ?_
        obtain ⟨p3, hp3, h⟩ := am_bind_some h
        refine am_Ev.call hcd (a := 174) (s0 := (0, [(0, .ref 0)], [], am_SH, (s2.2.2, g))) (q := (none, am_SH, (p3, g))) (s1 := (26, [(0, .ref 0), (1, .int a0), (2, .ref 2), (3, .int s2.1), (4, .int s2.2.1)], [], am_SH, (p3, g))) rfl rfl (x_keepPast_ok (d + 2)  s2.2.2 g p3 hp3) ?_
        refine am_Ev.go hcd 5 (s' := (31, [(0, .ref 0), (1, .int a0), (2, .ref 2), (3, .int s2.1), (4, .int s2.2.1)], [.int 1, .ref 2, .ref 120, .int s2.1], am_SH, (p3, g))) rfl ?_
        obtain ⟨p4, hp4, h⟩ := am_bind_some h
        refine am_Ev.call hcd (a := 1) (s0 := (0, [(0, .ref 120), (1, .ref 2), (2, .int (am_b true))], [], am_SH, (p3, g))) (q := ((some (.int p4.1)), am_SH, (p4.2, g))) (s1 := (32, [(0, .ref 0), (1, .int a0), (2, .ref 2), (3, .int s2.1), (4, .int s2.2.1)], [.int p4.1, .int s2.1], am_SH, (p4.2, g))) rfl rfl (xb_passMinute_2_ok (d) true p3 g p4 hp4) ?_
        obtain ⟨t5, Et5, h⟩ := am_let_eq h
        refine am_Ev.go hcd 2 (s' := (34, [(0, .ref 0), (1, .int a0), (2, .ref 2), (3, .int t5), (4, .int s2.2.1)], [], am_SH, (p4.2, g))) (by subst Et5; exact rfl) ?_
        obtain ⟨t6, Et6, h⟩ := am_let_eq h
        refine am_Ev.go hcd 1 (s' := (35, [(0, .ref 0), (1, .int a0), (2, .ref 2), (3, .int t5), (4, .int t6)], [], am_SH, (p4.2, g))) (by subst Et6; exact rfl) ?_
        refine am_Ev.go hcd 1 (s' := (21, [(0, .ref 0), (1, .int a0), (2, .ref 2), (3, .int t5), (4, .int t6)], [], am_SH, (p4.2, g))) rfl ?_
        exact am_Ev.weak' (hI2 (t5, t6, p4.2) (Option.some.inj h).symm) (am_sub_cons rfl (am_sub_cons rfl (am_sub_cons rfl (am_sub_cons rfl (am_sub_cons rfl am_sub_nil))))) rfl
      · refine am_Ev.f hcd (c := s2.2.1 < a0) (s1 := (36, [(0, .ref 0), (1, .int a0), (2, .ref 2), (3, .int s2.1), (4, .int s2.2.1)], [], am_SH, (s2.2.2, g))) rfl c16 ?_
        refine am_Ev.go hcd 1 (s' := (37, [(0, .ref 0), (1, .int a0), (2, .ref 2), (3, .int s2.1), (4, .int s2.2.1)], [.int s2.1], am_SH, (s2.2.2, g))) rfl ?_
        exact am_Ev.cast (a := ((some (.int (s2.1, s2.2.2).1)), am_SH, ((s2.1, s2.2.2).2, g))) (hZ2 _ (Option.some.inj h).symm) (am_Ev.ret hcd rfl)
  · refine am_Ev.t hcd (c := am_b (x_within a0 1 60) = 0) (s1 := (15, [(0, .ref 0), (1, .int a0), (2, .ref 2)], [], am_SH, (f, g))) rfl (am_b_f c4) ?_
    refine am_Ev.go hcd 1 (s' := (16, [(0, .ref 0), (1, .int a0), (2, .ref 2)], [.int (-1)], am_SH, (f, g))) rfl ?_
    exact am_Ev.cast (a := ((some (.int ((-1), f).1)), am_SH, (((-1), f).2, g))) (by cases h; rfl) (am_Ev.ret hcd rfl)
set_option maxRecDepth 100000 in
set_option maxHeartbeats 4000000 in
theorem xt_put_ok {sc : Nat × (Nat → Int32)} (d : Nat) (a0 : Int32) (f g : (Nat → Nat → Int32)) (r : (Nat → Nat → Int32)) (h : xt_put a0 f = some r) : am_Ev sc (d) 109 (0, [(0, .ref 123), (1, .int a0)], [], am_SH, (f, g)) (none, am_SH, (r, g)) := by
  have hcd : am_code 109 = am_c109 := rfl
  unfold xt_put at h
  refine am_Ev.go hcd 2 (s' := (2, [(0, .ref 123), (1, .int a0), (2, .int 24)], [], am_SH, (f, g))) rfl ?_
  refine am_Ev.weak' (am_loop_ok (G := fun (s1 : Int32 × (Nat → Nat → Int32)) => am_Ev sc (d) 109 (2, [(0, .ref 123), (1, .int a0), (2, .int s1.1)], [], am_SH, (s1.2, g)) (none, am_SH, (r, g))) (Z := fun (v : (Nat → Nat → Int32)) => ((none, am_SH, (v, g)) : am_R) = (none, am_SH, (r, g))) ?_ am_F (24, f) r h rfl) (am_sub_cons rfl (am_sub_cons rfl (am_sub_cons rfl am_sub_nil))) rfl
  intro s1 q1 h hI1 hZ1
  show am_Ev sc (d) 109 (2, [(0, .ref 123), (1, .int a0), (2, .int s1.1)], [], am_SH, (s1.2, g)) (none, am_SH, (r, g))
  refine am_Ev.go hcd 1 (s' := (3, [(0, .ref 123), (1, .int a0), (2, .int s1.1)], [.int s1.1], am_SH, (s1.2, g))) rfl ?_
  rcases am_ite h with ⟨c6, h⟩ | ⟨c6, h⟩
  · refine am_Ev.t hcd (c := s1.1 < 0) (s1 := (26, [(0, .ref 123), (1, .int a0), (2, .int s1.1)], [], am_SH, (s1.2, g))) rfl c6 ?_
    exact am_Ev.cast (a := (none, am_SH, (s1.2, g))) (hZ1 _ (Option.some.inj h).symm) (am_Ev.ret hcd rfl)
  · refine am_Ev.f hcd (c := s1.1 < 0) (s1 := (4, [(0, .ref 123), (1, .int a0), (2, .int s1.1)], [], am_SH, (s1.2, g))) rfl c6 ?_
    refine am_Ev.go hcd 3 (s' := (7, [(0, .ref 123), (1, .int a0), (2, .int s1.1)], [.int 400, .int (s1.2 123 0)], am_SH, (s1.2, g))) rfl ?_
    rcases am_ite h with ⟨c11, h⟩ | ⟨c11, h⟩
    · refine am_Ev.t hcd (c := s1.2 123 0 < 400) (s1 := (8, [(0, .ref 123), (1, .int a0), (2, .int s1.1)], [], am_SH, (s1.2, g))) rfl c11 ?_
      refine am_Ev.go hcd 9 (s' := (17, [(0, .ref 123), (1, .int a0), (2, .int s1.1)], [.int (((a0.toUInt32 >>> (s1.1.toUInt32 &&& Int32.toUInt32 31)).toInt32) &&& 255), .int (s1.2 123 0), .ref 124], am_SH, (s1.2, g))) rfl ?_
      obtain ⟨c14, h⟩ := am_grd h
      obtain ⟨f2, Ef2, h⟩ := am_let_eq h
      refine am_Ev.t hcd (o := none) (c := am_in (s1.2 123 0) 400 = true) (s1 := (18, [(0, .ref 123), (1, .int a0), (2, .int s1.1)], [], am_SH, (f2, g))) (by subst Ef2; exact rfl) c14 ?_
      obtain ⟨f3, Ef3, h⟩ := am_let_eq h
      refine am_Ev.go hcd 6 (s' := (24, [(0, .ref 123), (1, .int a0), (2, .int s1.1)], [], am_SH, (f3, g))) (by subst Ef3; exact rfl) ?_
      obtain ⟨t4, Et4, h⟩ := am_let_eq h
      refine am_Ev.go hcd 1 (s' := (25, [(0, .ref 123), (1, .int a0), (2, .int t4)], [], am_SH, (f3, g))) (by subst Et4; exact rfl) ?_
      refine am_Ev.go hcd 1 (s' := (2, [(0, .ref 123), (1, .int a0), (2, .int t4)], [], am_SH, (f3, g))) rfl ?_
      exact am_Ev.weak' (hI1 (t4, f3) (Option.some.inj h).symm) (am_sub_cons rfl (am_sub_cons rfl (am_sub_cons rfl am_sub_nil))) rfl
    · refine am_Ev.f hcd (c := s1.2 123 0 < 400) (s1 := (26, [(0, .ref 123), (1, .int a0), (2, .int s1.1)], [], am_SH, (s1.2, g))) rfl c11 ?_
      exact am_Ev.cast (a := (none, am_SH, (s1.2, g))) (hZ1 _ (Option.some.inj h).symm) (am_Ev.ret hcd rfl)
set_option maxRecDepth 100000 in
set_option maxHeartbeats 4000000 in
theorem x_feed_ok {sc : Nat × (Nat → Int32)} (d : Nat) (a0 : Int32) (a1 : Int32) (a2 : Int32) (a3 : Int32) (a4 : Int32) (f g : (Nat → Nat → Int32)) (r : Int32 × (Nat → Nat → Int32)) (h : x_feed a0 a1 a2 a3 a4 f = some r) : am_Ev sc (d + 1) 133 (0, [(0, .ref 0), (1, .int a0), (2, .int a1), (3, .int a2), (4, .int a3), (5, .int a4)], [], am_SH, (f, g)) ((some (.int r.1)), am_SH, (r.2, g)) := by
  have hcd : am_code 133 = am_c133 := rfl
  unfold x_feed at h
  refine am_Ev.go hcd 6 (s' := (6, [(0, .ref 0), (1, .int a0), (2, .int a1), (3, .int a2), (4, .int a3), (5, .int a4)], [.int 400, .int ((f 123 0) + 20)], am_SH, (f, g))) rfl ?_
  rcases am_ite h with ⟨c2, h⟩ | ⟨c2, h⟩
  · refine am_Ev.t hcd (c := 400 < ((f 123 0) + 20)) (s1 := (7, [(0, .ref 0), (1, .int a0), (2, .int a1), (3, .int a2), (4, .int a3), (5, .int a4)], [], am_SH, (f, g))) rfl c2 ?_
    refine am_Ev.go hcd 1 (s' := (8, [(0, .ref 0), (1, .int a0), (2, .int a1), (3, .int a2), (4, .int a3), (5, .int a4)], [.int (-1)], am_SH, (f, g))) rfl ?_
    exact am_Ev.cast (a := ((some (.int ((-1), f).1)), am_SH, (((-1), f).2, g))) (by cases h; rfl) (am_Ev.ret hcd rfl)
  · refine am_Ev.f hcd (c := 400 < ((f 123 0) + 20)) (s1 := (9, [(0, .ref 0), (1, .int a0), (2, .int a1), (3, .int a2), (4, .int a3), (5, .int a4)], [], am_SH, (f, g))) rfl c2 ?_
    refine am_Ev.go hcd 3 (s' := (12, [(0, .ref 0), (1, .int a0), (2, .int a1), (3, .int a2), (4, .int a3), (5, .int a4)], [.int a0, .ref 123], am_SH, (f, g))) rfl ?_
    obtain ⟨p1, hp1, h⟩ := am_bind_some h
    refine am_Ev.call hcd (a := 109) (s0 := (0, [(0, .ref 123), (1, .int a0)], [], am_SH, (f, g))) (q := (none, am_SH, (p1, g))) (s1 := (13, [(0, .ref 0), (1, .int a0), (2, .int a1), (3, .int a2), (4, .int a3), (5, .int a4)], [], am_SH, (p1, g))) rfl rfl (xt_put_ok (d) a0 f g p1 hp1) ?_
    refine am_Ev.go hcd 3 (s' := (16, [(0, .ref 0), (1, .int a0), (2, .int a1), (3, .int a2), (4, .int a3), (5, .int a4)], [.int a1, .ref 123], am_SH, (p1, g))) rfl ?_
    obtain ⟨p2, hp2, h⟩ := am_bind_some h
    refine am_Ev.call hcd (a := 109) (s0 := (0, [(0, .ref 123), (1, .int a1)], [], am_SH, (p1, g))) (q := (none, am_SH, (p2, g))) (s1 := (17, [(0, .ref 0), (1, .int a0), (2, .int a1), (3, .int a2), (4, .int a3), (5, .int a4)], [], am_SH, (p2, g))) rfl rfl (xt_put_ok (d) a1 p1 g p2 hp2) ?_
    refine am_Ev.go hcd 3 (s' := (20, [(0, .ref 0), (1, .int a0), (2, .int a1), (3, .int a2), (4, .int a3), (5, .int a4)], [.int a2, .ref 123], am_SH, (p2, g))) rfl ?_
    obtain ⟨p3, hp3, h⟩ := am_bind_some h
    refine am_Ev.call hcd (a := 109) (s0 := (0, [(0, .ref 123), (1, .int a2)], [], am_SH, (p2, g))) (q := (none, am_SH, (p3, g))) (s1 := (21, [(0, .ref 0), (1, .int a0), (2, .int a1), (3, .int a2), (4, .int a3), (5, .int a4)], [], am_SH, (p3, g))) rfl rfl (xt_put_ok (d) a2 p2 g p3 hp3) ?_
    refine am_Ev.go hcd 3 (s' := (24, [(0, .ref 0), (1, .int a0), (2, .int a1), (3, .int a2), (4, .int a3), (5, .int a4)], [.int a3, .ref 123], am_SH, (p3, g))) rfl ?_
    obtain ⟨p4, hp4, h⟩ := am_bind_some h
    refine am_Ev.call hcd (a := 109) (s0 := (0, [(0, .ref 123), (1, .int a3)], [], am_SH, (p3, g))) (q := (none, am_SH, (p4, g))) (s1 := (25, [(0, .ref 0), (1, .int a0), (2, .int a1), (3, .int a2), (4, .int a3), (5, .int a4)], [], am_SH, (p4, g))) rfl rfl (xt_put_ok (d) a3 p3 g p4 hp4) ?_
    refine am_Ev.go hcd 3 (s' := (28, [(0, .ref 0), (1, .int a0), (2, .int a1), (3, .int a2), (4, .int a3), (5, .int a4)], [.int a4, .ref 123], am_SH, (p4, g))) rfl ?_
    obtain ⟨p5, hp5, h⟩ := am_bind_some h
    refine am_Ev.call hcd (a := 109) (s0 := (0, [(0, .ref 123), (1, .int a4)], [], am_SH, (p4, g))) (q := (none, am_SH, (p5, g))) (s1 := (29, [(0, .ref 0), (1, .int a0), (2, .int a1), (3, .int a2), (4, .int a3), (5, .int a4)], [], am_SH, (p5, g))) rfl rfl (xt_put_ok (d) a4 p4 g p5 hp5) ?_
    refine am_Ev.go hcd 3 (s' := (32, [(0, .ref 0), (1, .int a0), (2, .int a1), (3, .int a2), (4, .int a3), (5, .int a4)], [.int (p5 123 0)], am_SH, (p5, g))) rfl ?_
    exact am_Ev.cast (a := ((some (.int (p5 123 0, p5).1)), am_SH, ((p5 123 0, p5).2, g))) (by cases h; rfl) (am_Ev.ret hcd rfl)
set_option maxRecDepth 100000 in
set_option maxHeartbeats 4000000 in
theorem x_end_ok {sc : Nat × (Nat → Int32)} (d : Nat) (a0 : Int32) (f g : (Nat → Nat → Int32)) : am_Ev sc (d + 1) 134 (0, [(0, .ref 0), (1, .int a0)], [], am_SH, (f, g)) ((some (.int (am_b (x_end a0 f).1))), am_SH, ((x_end a0 f).2, g)) := by
  have hcd : am_code 134 = am_c134 := rfl
  obtain ⟨r, h⟩ : ∃ r, r = x_end a0 f := ⟨_, rfl⟩
  rw [← h]
  unfold x_end at h
  refine am_Ev.go hcd 5 (s' := (5, [(0, .ref 0), (1, .int a0)], [.int (f 123 0), .int 0, .int a0], am_SH, (f, g))) rfl ?_
  refine am_Ev.call hcd (a := 170) (s0 := (0, [(0, .int a0), (1, .int 0), (2, .int (f 123 0))], [], am_SH, (f, g))) (q := ((some (.int (am_b (x_within a0 0 (f 123 0))))), am_SH, (f, g))) (s1 := (6, [(0, .ref 0), (1, .int a0)], [.int (am_b (x_within a0 0 (f 123 0)))], am_SH, (f, g))) rfl rfl (x_within_ok (d) a0 0 (f 123 0) (f, g)) ?_
  rcases am_itv h with ⟨c6, h⟩ | ⟨c6, h⟩
  · refine am_Ev.f hcd (c := am_b (x_within a0 0 (f 123 0)) = 0) (s1 := (9, [(0, .ref 0), (1, .int a0)], [], am_SH, (f, g))) rfl (am_b_t c6) ?_
    obtain ⟨f2, Ef2, h⟩ := am_let_eq' h
    refine am_Ev.go hcd 4 (s' := (13, [(0, .ref 0), (1, .int a0)], [], am_SH, (f2, g))) (by subst Ef2; exact rfl) ?_
    refine am_Ev.go hcd 1 (s' := (14, [(0, .ref 0), (1, .int a0)], [.int 1], am_SH, (f2, g))) rfl ?_
    exact am_Ev.cast (a := ((some (.int (am_b (true, f2).1))), am_SH, ((true, f2).2, g))) (by subst h; rfl) (am_Ev.ret hcd rfl)
  · refine am_Ev.t hcd (c := am_b (x_within a0 0 (f 123 0)) = 0) (s1 := (7, [(0, .ref 0), (1, .int a0)], [], am_SH, (f, g))) rfl (am_b_f c6) ?_
    refine am_Ev.go hcd 1 (s' := (8, [(0, .ref 0), (1, .int a0)], [.int 0], am_SH, (f, g))) rfl ?_
    exact am_Ev.cast (a := ((some (.int (am_b (false, f).1))), am_SH, ((false, f).2, g))) (by subst h; rfl) (am_Ev.ret hcd rfl)
set_option maxRecDepth 100000 in
set_option maxHeartbeats 4000000 in
theorem xn_clearAll_140_ok {sc : Nat × (Nat → Int32)} (d : Nat)  (f g : (Nat → Nat → Int32)) (r : (Nat → Nat → Int32)) (h : xn_clearAll_140  f = some r) : am_Ev sc (d) 82 (0, [(0, .ref 140)], [], am_SH, (f, g)) (none, am_SH, (r, g)) := by
  have hcd : am_code 82 = am_c82 := rfl
  unfold xn_clearAll_140 at h
  obtain ⟨f1, Ef1, h⟩ := am_let_eq h
  refine am_Ev.go hcd 3 (s' := (3, [(0, .ref 140)], [], am_SH, (f1, g))) (by subst Ef1; exact rfl) ?_
  refine am_Ev.go hcd 2 (s' := (5, [(0, .ref 140), (1, .int 0)], [], am_SH, (f1, g))) rfl ?_
  refine am_Ev.weak' (am_loop_ok (G := fun (s2 : Int32 × (Nat → Nat → Int32)) => am_Ev sc (d) 82 (5, [(0, .ref 140), (1, .int s2.1)], [], am_SH, (s2.2, g)) (none, am_SH, (r, g))) (Z := fun (v : (Nat → Nat → Int32)) => ((none, am_SH, (v, g)) : am_R) = (none, am_SH, (r, g))) ?_ am_F (0, f1) r h rfl) (am_sub_cons rfl (am_sub_cons rfl am_sub_nil)) rfl
  intro s2 q2 h hI2 hZ2
  show am_Ev sc (d) 82 (5, [(0, .ref 140), (1, .int s2.1)], [], am_SH, (s2.2, g)) (none, am_SH, (r, g))
  refine am_Ev.go hcd 4 (s' := (9, [(0, .ref 140), (1, .int s2.1)], [.int (nI 256), .int s2.1], am_SH, (s2.2, g))) rfl ?_
  rcases am_ite h with ⟨c8, h⟩ | ⟨c8, h⟩
  · refine am_Ev.t hcd (c := s2.1 < (nI 256)) (s1 := (10, [(0, .ref 140), (1, .int s2.1)], [], am_SH, (s2.2, g))) rfl c8 ?_
    refine am_Ev.go hcd 4 (s' := (14, [(0, .ref 140), (1, .int s2.1)], [.int 0, .int s2.1, .ref 141], am_SH, (s2.2, g))) rfl ?_
    obtain ⟨c11, h⟩ := am_grd h
    obtain ⟨f3, Ef3, h⟩ := am_let_eq h
    refine am_Ev.t hcd (o := none) (c := am_in s2.1 256 = true) (s1 := (15, [(0, .ref 140), (1, .int s2.1)], [], am_SH, (f3, g))) (by subst Ef3; exact rfl) c11 ?_
    obtain ⟨t4, Et4, h⟩ := am_let_eq h
    refine am_Ev.go hcd 1 (s' := (16, [(0, .ref 140), (1, .int t4)], [], am_SH, (f3, g))) (by subst Et4; exact rfl) ?_
    refine am_Ev.go hcd 1 (s' := (5, [(0, .ref 140), (1, .int t4)], [], am_SH, (f3, g))) rfl ?_
    exact am_Ev.weak' (hI2 (t4, f3) (Option.some.inj h).symm) (am_sub_cons rfl (am_sub_cons rfl am_sub_nil)) rfl
  · refine am_Ev.f hcd (c := s2.1 < (nI 256)) (s1 := (17, [(0, .ref 140), (1, .int s2.1)], [], am_SH, (s2.2, g))) rfl c8 ?_
    exact am_Ev.cast (a := (none, am_SH, (s2.2, g))) (hZ2 _ (Option.some.inj h).symm) (am_Ev.ret hcd rfl)
set_option maxRecDepth 100000 in
set_option maxHeartbeats 4000000 in
theorem xs_wordsOf_ok {sc : Nat × (Nat → Int32)} (d : Nat) (a0 : Int32) (hp : am_H) : am_Ev sc (d) 91 (0, [(0, .int a0)], [], am_SH, hp) ((some (.retAddr (xs_wordsOf a0))), am_SH, hp) := by
  have hcd : am_code 91 = am_c91 := rfl
  obtain ⟨r, h⟩ : ∃ r, r = xs_wordsOf a0 := ⟨_, rfl⟩
  rw [← h]
  unfold xs_wordsOf at h
  refine am_Ev.go hcd 1 (s' := (1, [(0, .int a0)], [.int a0], am_SH, hp)) rfl ?_
  refine am_Ev.one hcd (s' := (am_swt a0 [(0, 2), (1, 4), (2, 6)] 8, [(0, .int a0)], [], am_SH, hp)) rfl ?_
  rcases am_itv h with ⟨c6, h⟩ | ⟨c6, h⟩
  · rw [am_swt_t c6]
    refine am_Ev.go hcd 1 (s' := (3, [(0, .int a0)], [.retAddr 0], am_SH, hp)) rfl ?_
    exact am_Ev.cast (a := ((some (.retAddr 0)), am_SH, hp)) (by subst h; rfl) (am_Ev.ret hcd rfl)
  rw [am_swt_f c6]
  rcases am_itv h with ⟨c11, h⟩ | ⟨c11, h⟩
  · rw [am_swt_t c11]
    refine am_Ev.go hcd 1 (s' := (5, [(0, .int a0)], [.retAddr 1], am_SH, hp)) rfl ?_
    exact am_Ev.cast (a := ((some (.retAddr 1)), am_SH, hp)) (by subst h; rfl) (am_Ev.ret hcd rfl)
  rw [am_swt_f c11]
  rcases am_itv h with ⟨c16, h⟩ | ⟨c16, h⟩
  · rw [am_swt_t c16]
    refine am_Ev.go hcd 1 (s' := (7, [(0, .int a0)], [.retAddr 2], am_SH, hp)) rfl ?_
    exact am_Ev.cast (a := ((some (.retAddr 2)), am_SH, hp)) (by subst h; rfl) (am_Ev.ret hcd rfl)
  rw [am_swt_f c16]
  rw [am_swt_n]
  refine am_Ev.go hcd 1 (s' := (9, [(0, .int a0)], [.retAddr 3], am_SH, hp)) rfl ?_
  exact am_Ev.cast (a := ((some (.retAddr 3)), am_SH, hp)) (by subst h; rfl) (am_Ev.ret hcd rfl)
set_option maxRecDepth 100000 in
set_option maxHeartbeats 4000000 in
theorem xt_isMark_ok {sc : Nat × (Nat → Int32)} (d : Nat) (a0 : Int32) (hp : am_H) : am_Ev sc (d) 121 (0, [(0, .int a0)], [], am_SH, hp) ((some (.int (am_b (xt_isMark a0)))), am_SH, hp) := by
  have hcd : am_code 121 = am_c121 := rfl
  obtain ⟨r, h⟩ : ∃ r, r = xt_isMark a0 := ⟨_, rfl⟩
  rw [← h]
  unfold xt_isMark at h
  refine am_Ev.go hcd 2 (s' := (2, [(0, .int a0)], [.int 59, .int a0], am_SH, hp)) rfl ?_
  rcases am_itv h with ⟨c4, h⟩ | ⟨c4, h⟩
  · refine am_Ev.t hcd (c := a0 = 59) (s1 := (21, [(0, .int a0)], [], am_SH, hp)) rfl c4 ?_
    refine am_Ev.go hcd 2 (s' := (24, [(0, .int a0)], [.int 1], am_SH, hp)) rfl ?_
    exact am_Ev.cast (a := ((some (.int (am_b true))), am_SH, hp)) (by subst h; rfl) (am_Ev.ret hcd rfl)
  · refine am_Ev.f hcd (c := a0 = 59) (s1 := (3, [(0, .int a0)], [], am_SH, hp)) rfl c4 ?_
    refine am_Ev.go hcd 2 (s' := (5, [(0, .int a0)], [.int 40, .int a0], am_SH, hp)) rfl ?_
    rcases am_itv h with ⟨c10, h⟩ | ⟨c10, h⟩
    · refine am_Ev.t hcd (c := a0 < 40) (s1 := (9, [(0, .int a0)], [], am_SH, hp)) rfl c10 ?_
      refine am_Ev.go hcd 2 (s' := (11, [(0, .int a0)], [.int 45, .int a0], am_SH, hp)) rfl ?_
      rcases am_itv h with ⟨c13, h⟩ | ⟨c13, h⟩
      · refine am_Ev.t hcd (c := a0 = 45) (s1 := (21, [(0, .int a0)], [], am_SH, hp)) rfl c13 ?_
        refine am_Ev.go hcd 2 (s' := (24, [(0, .int a0)], [.int 1], am_SH, hp)) rfl ?_
        exact am_Ev.cast (a := ((some (.int (am_b true))), am_SH, hp)) (by subst h; rfl) (am_Ev.ret hcd rfl)
      · refine am_Ev.f hcd (c := a0 = 45) (s1 := (12, [(0, .int a0)], [], am_SH, hp)) rfl c13 ?_
        refine am_Ev.go hcd 2 (s' := (14, [(0, .int a0)], [.int 47, .int a0], am_SH, hp)) rfl ?_
        rcases am_itv h with ⟨c19, h⟩ | ⟨c19, h⟩
        · refine am_Ev.t hcd (c := a0 = 47) (s1 := (21, [(0, .int a0)], [], am_SH, hp)) rfl c19 ?_
          refine am_Ev.go hcd 2 (s' := (24, [(0, .int a0)], [.int 1], am_SH, hp)) rfl ?_
          exact am_Ev.cast (a := ((some (.int (am_b true))), am_SH, hp)) (by subst h; rfl) (am_Ev.ret hcd rfl)
        · refine am_Ev.f hcd (c := a0 = 47) (s1 := (15, [(0, .int a0)], [], am_SH, hp)) rfl c19 ?_
          refine am_Ev.go hcd 2 (s' := (17, [(0, .int a0)], [.int 60, .int a0], am_SH, hp)) rfl ?_
          rcases am_itv h with ⟨c25, h⟩ | ⟨c25, h⟩
          · refine am_Ev.t hcd (c := a0 < 60) (s1 := (23, [(0, .int a0)], [], am_SH, hp)) rfl c25 ?_
            refine am_Ev.go hcd 1 (s' := (24, [(0, .int a0)], [.int 0], am_SH, hp)) rfl ?_
            exact am_Ev.cast (a := ((some (.int (am_b false))), am_SH, hp)) (by subst h; rfl) (am_Ev.ret hcd rfl)
          · refine am_Ev.f hcd (c := a0 < 60) (s1 := (18, [(0, .int a0)], [], am_SH, hp)) rfl c25 ?_
            refine am_Ev.go hcd 2 (s' := (20, [(0, .int a0)], [.int 62, .int a0], am_SH, hp)) rfl ?_
            rcases am_itv h with ⟨c31, h⟩ | ⟨c31, h⟩
            · refine am_Ev.t hcd (c := 62 < a0) (s1 := (23, [(0, .int a0)], [], am_SH, hp)) rfl c31 ?_
              refine am_Ev.go hcd 1 (s' := (24, [(0, .int a0)], [.int 0], am_SH, hp)) rfl ?_
              exact am_Ev.cast (a := ((some (.int (am_b false))), am_SH, hp)) (by subst h; rfl) (am_Ev.ret hcd rfl)
            · refine am_Ev.f hcd (c := 62 < a0) (s1 := (21, [(0, .int a0)], [], am_SH, hp)) rfl c31 ?_
              refine am_Ev.go hcd 2 (s' := (24, [(0, .int a0)], [.int 1], am_SH, hp)) rfl ?_
              exact am_Ev.cast (a := ((some (.int (am_b true))), am_SH, hp)) (by subst h; rfl) (am_Ev.ret hcd rfl)
    · refine am_Ev.f hcd (c := a0 < 40) (s1 := (6, [(0, .int a0)], [], am_SH, hp)) rfl c10 ?_
      refine am_Ev.go hcd 2 (s' := (8, [(0, .int a0)], [.int 43, .int a0], am_SH, hp)) rfl ?_
      rcases am_itv h with ⟨c40, h⟩ | ⟨c40, h⟩
      · refine am_Ev.t hcd (c := 43 < a0) (s1 := (9, [(0, .int a0)], [], am_SH, hp)) rfl c40 ?_
        refine am_Ev.go hcd 2 (s' := (11, [(0, .int a0)], [.int 45, .int a0], am_SH, hp)) rfl ?_
        rcases am_itv h with ⟨c43, h⟩ | ⟨c43, h⟩
        · refine am_Ev.t hcd (c := a0 = 45) (s1 := (21, [(0, .int a0)], [], am_SH, hp)) rfl c43 ?_
          refine am_Ev.go hcd 2 (s' := (24, [(0, .int a0)], [.int 1], am_SH, hp)) rfl ?_
          exact am_Ev.cast (a := ((some (.int (am_b true))), am_SH, hp)) (by subst h; rfl) (am_Ev.ret hcd rfl)
        · refine am_Ev.f hcd (c := a0 = 45) (s1 := (12, [(0, .int a0)], [], am_SH, hp)) rfl c43 ?_
          refine am_Ev.go hcd 2 (s' := (14, [(0, .int a0)], [.int 47, .int a0], am_SH, hp)) rfl ?_
          rcases am_itv h with ⟨c49, h⟩ | ⟨c49, h⟩
          · refine am_Ev.t hcd (c := a0 = 47) (s1 := (21, [(0, .int a0)], [], am_SH, hp)) rfl c49 ?_
            refine am_Ev.go hcd 2 (s' := (24, [(0, .int a0)], [.int 1], am_SH, hp)) rfl ?_
            exact am_Ev.cast (a := ((some (.int (am_b true))), am_SH, hp)) (by subst h; rfl) (am_Ev.ret hcd rfl)
          · refine am_Ev.f hcd (c := a0 = 47) (s1 := (15, [(0, .int a0)], [], am_SH, hp)) rfl c49 ?_
            refine am_Ev.go hcd 2 (s' := (17, [(0, .int a0)], [.int 60, .int a0], am_SH, hp)) rfl ?_
            rcases am_itv h with ⟨c55, h⟩ | ⟨c55, h⟩
            · refine am_Ev.t hcd (c := a0 < 60) (s1 := (23, [(0, .int a0)], [], am_SH, hp)) rfl c55 ?_
              refine am_Ev.go hcd 1 (s' := (24, [(0, .int a0)], [.int 0], am_SH, hp)) rfl ?_
              exact am_Ev.cast (a := ((some (.int (am_b false))), am_SH, hp)) (by subst h; rfl) (am_Ev.ret hcd rfl)
            · refine am_Ev.f hcd (c := a0 < 60) (s1 := (18, [(0, .int a0)], [], am_SH, hp)) rfl c55 ?_
              refine am_Ev.go hcd 2 (s' := (20, [(0, .int a0)], [.int 62, .int a0], am_SH, hp)) rfl ?_
              rcases am_itv h with ⟨c61, h⟩ | ⟨c61, h⟩
              · refine am_Ev.t hcd (c := 62 < a0) (s1 := (23, [(0, .int a0)], [], am_SH, hp)) rfl c61 ?_
                refine am_Ev.go hcd 1 (s' := (24, [(0, .int a0)], [.int 0], am_SH, hp)) rfl ?_
                exact am_Ev.cast (a := ((some (.int (am_b false))), am_SH, hp)) (by subst h; rfl) (am_Ev.ret hcd rfl)
              · refine am_Ev.f hcd (c := 62 < a0) (s1 := (21, [(0, .int a0)], [], am_SH, hp)) rfl c61 ?_
                refine am_Ev.go hcd 2 (s' := (24, [(0, .int a0)], [.int 1], am_SH, hp)) rfl ?_
                exact am_Ev.cast (a := ((some (.int (am_b true))), am_SH, hp)) (by subst h; rfl) (am_Ev.ret hcd rfl)
      · refine am_Ev.f hcd (c := 43 < a0) (s1 := (21, [(0, .int a0)], [], am_SH, hp)) rfl c40 ?_
        refine am_Ev.go hcd 2 (s' := (24, [(0, .int a0)], [.int 1], am_SH, hp)) rfl ?_
        exact am_Ev.cast (a := ((some (.int (am_b true))), am_SH, hp)) (by subst h; rfl) (am_Ev.ret hcd rfl)
set_option maxRecDepth 100000 in
set_option maxHeartbeats 4000000 in
theorem xt_isLetter_ok {sc : Nat × (Nat → Int32)} (d : Nat) (a0 : Int32) (hp : am_H) : am_Ev sc (d) 119 (0, [(0, .int a0)], [], am_SH, hp) ((some (.int (am_b (xt_isLetter a0)))), am_SH, hp) := by
  have hcd : am_code 119 = am_c119 := rfl
  obtain ⟨r, h⟩ : ∃ r, r = xt_isLetter a0 := ⟨_, rfl⟩
  rw [← h]
  unfold xt_isLetter at h
  refine am_Ev.go hcd 2 (s' := (2, [(0, .int a0)], [.int 97, .int a0], am_SH, hp)) rfl ?_
  rcases am_itv h with ⟨c4, h⟩ | ⟨c4, h⟩
  · refine am_Ev.t hcd (c := a0 < 97) (s1 := (6, [(0, .int a0)], [], am_SH, hp)) rfl c4 ?_
    refine am_Ev.go hcd 2 (s' := (8, [(0, .int a0)], [.int 65, .int a0], am_SH, hp)) rfl ?_
    rcases am_itv h with ⟨c7, h⟩ | ⟨c7, h⟩
    · refine am_Ev.t hcd (c := a0 < 65) (s1 := (14, [(0, .int a0)], [], am_SH, hp)) rfl c7 ?_
      refine am_Ev.go hcd 1 (s' := (15, [(0, .int a0)], [.int 0], am_SH, hp)) rfl ?_
      exact am_Ev.cast (a := ((some (.int (am_b false))), am_SH, hp)) (by subst h; rfl) (am_Ev.ret hcd rfl)
    · refine am_Ev.f hcd (c := a0 < 65) (s1 := (9, [(0, .int a0)], [], am_SH, hp)) rfl c7 ?_
      refine am_Ev.go hcd 2 (s' := (11, [(0, .int a0)], [.int 90, .int a0], am_SH, hp)) rfl ?_
      rcases am_itv h with ⟨c13, h⟩ | ⟨c13, h⟩
      · refine am_Ev.t hcd (c := 90 < a0) (s1 := (14, [(0, .int a0)], [], am_SH, hp)) rfl c13 ?_
        refine am_Ev.go hcd 1 (s' := (15, [(0, .int a0)], [.int 0], am_SH, hp)) rfl ?_
        exact am_Ev.cast (a := ((some (.int (am_b false))), am_SH, hp)) (by subst h; rfl) (am_Ev.ret hcd rfl)
      · refine am_Ev.f hcd (c := 90 < a0) (s1 := (12, [(0, .int a0)], [], am_SH, hp)) rfl c13 ?_
        refine am_Ev.go hcd 2 (s' := (15, [(0, .int a0)], [.int 1], am_SH, hp)) rfl ?_
        exact am_Ev.cast (a := ((some (.int (am_b true))), am_SH, hp)) (by subst h; rfl) (am_Ev.ret hcd rfl)
  · refine am_Ev.f hcd (c := a0 < 97) (s1 := (3, [(0, .int a0)], [], am_SH, hp)) rfl c4 ?_
    refine am_Ev.go hcd 2 (s' := (5, [(0, .int a0)], [.int 122, .int a0], am_SH, hp)) rfl ?_
    rcases am_itv h with ⟨c22, h⟩ | ⟨c22, h⟩
    · refine am_Ev.t hcd (c := 122 < a0) (s1 := (6, [(0, .int a0)], [], am_SH, hp)) rfl c22 ?_
      refine am_Ev.go hcd 2 (s' := (8, [(0, .int a0)], [.int 65, .int a0], am_SH, hp)) rfl ?_
      rcases am_itv h with ⟨c25, h⟩ | ⟨c25, h⟩
      · refine am_Ev.t hcd (c := a0 < 65) (s1 := (14, [(0, .int a0)], [], am_SH, hp)) rfl c25 ?_
        refine am_Ev.go hcd 1 (s' := (15, [(0, .int a0)], [.int 0], am_SH, hp)) rfl ?_
        exact am_Ev.cast (a := ((some (.int (am_b false))), am_SH, hp)) (by subst h; rfl) (am_Ev.ret hcd rfl)
      · refine am_Ev.f hcd (c := a0 < 65) (s1 := (9, [(0, .int a0)], [], am_SH, hp)) rfl c25 ?_
        refine am_Ev.go hcd 2 (s' := (11, [(0, .int a0)], [.int 90, .int a0], am_SH, hp)) rfl ?_
        rcases am_itv h with ⟨c31, h⟩ | ⟨c31, h⟩
        · refine am_Ev.t hcd (c := 90 < a0) (s1 := (14, [(0, .int a0)], [], am_SH, hp)) rfl c31 ?_
          refine am_Ev.go hcd 1 (s' := (15, [(0, .int a0)], [.int 0], am_SH, hp)) rfl ?_
          exact am_Ev.cast (a := ((some (.int (am_b false))), am_SH, hp)) (by subst h; rfl) (am_Ev.ret hcd rfl)
        · refine am_Ev.f hcd (c := 90 < a0) (s1 := (12, [(0, .int a0)], [], am_SH, hp)) rfl c31 ?_
          refine am_Ev.go hcd 2 (s' := (15, [(0, .int a0)], [.int 1], am_SH, hp)) rfl ?_
          exact am_Ev.cast (a := ((some (.int (am_b true))), am_SH, hp)) (by subst h; rfl) (am_Ev.ret hcd rfl)
    · refine am_Ev.f hcd (c := 122 < a0) (s1 := (12, [(0, .int a0)], [], am_SH, hp)) rfl c22 ?_
      refine am_Ev.go hcd 2 (s' := (15, [(0, .int a0)], [.int 1], am_SH, hp)) rfl ?_
      exact am_Ev.cast (a := ((some (.int (am_b true))), am_SH, hp)) (by subst h; rfl) (am_Ev.ret hcd rfl)
set_option maxRecDepth 100000 in
set_option maxHeartbeats 4000000 in
theorem xt_endOfLetters_ok {sc : Nat × (Nat → Int32)} (d : Nat) (a0 : Int32) (f g : (Nat → Nat → Int32)) (r : Int32) (h : xt_endOfLetters a0 f = some r) : am_Ev sc (d + 1) 115 (0, [(0, .ref 123), (1, .int a0)], [], am_SH, (f, g)) ((some (.int r)), am_SH, (f, g)) := by
  have hcd : am_code 115 = am_c115 := rfl
  unfold xt_endOfLetters at h
  refine am_Ev.go hcd 2 (s' := (2, [(0, .ref 123), (1, .int a0), (2, .int a0)], [], am_SH, (f, g))) rfl ?_
  refine am_Ev.weak' (am_loop_ok (G := fun (s1 : Int32) => am_Ev sc (d + 1) 115 (2, [(0, .ref 123), (2, .int s1)], [], am_SH, (f, g)) ((some (.int r)), am_SH, (f, g))) (Z := fun (v : Int32) => (((some (.int v)), am_SH, (f, g)) : am_R) = ((some (.int r)), am_SH, (f, g))) ?_ am_F a0 r h rfl) (am_sub_cons rfl (am_sub_cons rfl am_sub_nil)) rfl
  intro s1 q1 h hI1 hZ1
  show am_Ev sc (d + 1) 115 (2, [(0, .ref 123), (2, .int s1)], [], am_SH, (f, g)) ((some (.int r)), am_SH, (f, g))
  refine am_Ev.go hcd 3 (s' := (5, [(0, .ref 123), (2, .int s1)], [.int (f 123 0), .int s1], am_SH, (f, g))) rfl ?_
  rcases am_ite h with ⟨c6, h⟩ | ⟨c6, h⟩
  · refine am_Ev.t hcd (c := s1 < f 123 0) (s1 := (6, [(0, .ref 123), (2, .int s1)], [], am_SH, (f, g))) rfl c6 ?_
    refine am_Ev.go hcd 3 (s' := (9, [(0, .ref 123), (2, .int s1)], [.int s1, .ref 124], am_SH, (f, g))) rfl ?_
    obtain ⟨c9, h⟩ := am_grd h
    refine am_Ev.t hcd (o := none) (c := am_in s1 400 = true) (s1 := (10, [(0, .ref 123), (2, .int s1)], [.int (f 124 s1.toNatClampNeg)], am_SH, (f, g))) rfl c9 ?_
    refine am_Ev.call hcd (a := 119) (s0 := (0, [(0, .int (f 124 s1.toNatClampNeg))], [], am_SH, (f, g))) (q := ((some (.int (am_b (xt_isLetter (f 124 s1.toNatClampNeg))))), am_SH, (f, g))) (s1 := (11, [(0, .ref 123), (2, .int s1)], [.int (am_b (xt_isLetter (f 124 s1.toNatClampNeg)))], am_SH, (f, g))) rfl rfl (xt_isLetter_ok (d) (f 124 s1.toNatClampNeg) (f, g)) ?_
    rcases am_ite h with ⟨c13, h⟩ | ⟨c13, h⟩
    · refine am_Ev.f hcd (c := am_b (xt_isLetter (f 124 s1.toNatClampNeg)) = 0) (s1 := (12, [(0, .ref 123), (2, .int s1)], [], am_SH, (f, g))) rfl (am_b_t c13) ?_
      obtain ⟨t3, Et3, h⟩ := am_let_eq h
      refine am_Ev.go hcd 1 (s' := (13, [(0, .ref 123), (2, .int t3)], [], am_SH, (f, g))) (by subst Et3; exact rfl) ?_
      refine am_Ev.go hcd 1 (s' := (2, [(0, .ref 123), (2, .int t3)], [], am_SH, (f, g))) rfl ?_
      exact am_Ev.weak' (hI1 t3 (Option.some.inj h).symm) (am_sub_cons rfl (am_sub_cons rfl am_sub_nil)) rfl
    · refine am_Ev.t hcd (c := am_b (xt_isLetter (f 124 s1.toNatClampNeg)) = 0) (s1 := (14, [(0, .ref 123), (2, .int s1)], [], am_SH, (f, g))) rfl (am_b_f c13) ?_
      refine am_Ev.go hcd 1 (s' := (15, [(0, .ref 123), (2, .int s1)], [.int s1], am_SH, (f, g))) rfl ?_
      exact am_Ev.cast (a := ((some (.int s1)), am_SH, (f, g))) (hZ1 _ (Option.some.inj h).symm) (am_Ev.ret hcd rfl)
  · refine am_Ev.f hcd (c := s1 < f 123 0) (s1 := (14, [(0, .ref 123), (2, .int s1)], [], am_SH, (f, g))) rfl c6 ?_
    refine am_Ev.go hcd 1 (s' := (15, [(0, .ref 123), (2, .int s1)], [.int s1], am_SH, (f, g))) rfl ?_
    exact am_Ev.cast (a := ((some (.int s1)), am_SH, (f, g))) (hZ1 _ (Option.some.inj h).symm) (am_Ev.ret hcd rfl)
