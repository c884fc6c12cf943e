set_option maxRecDepth 100000 in
set_option maxHeartbeats 4000000 in
theorem xb_passMinute_110_ok {sc : Nat × (Nat → Int32)} (d : Nat) (a0 : Bool) (f g : (Nat → Nat → Int32)) (r : Int32 × (Nat → Nat → Int32)) (h : xb_passMinute_110 a0 f = some r) : am_Ev sc (d + 5) 1 (0, [(0, .ref 120), (1, .ref 110), (2, .int (am_b a0))], [], am_SH, (f, g)) ((some (.int r.1)), am_SH, (r.2, g)) := by
  have hcd : am_code 1 = am_c1 := rfl
  unfold xb_passMinute_110 at h
  refine am_Ev.go hcd 6 (s' := (6, [(0, .ref 120), (1, .ref 110), (2, .int (am_b a0)), (3, .ref 20), (4, .int 0)], [], am_SH, (f, g))) rfl ?_
  obtain ⟨e6, he6, h⟩ := am_bind_some h
  have hK1 : (fun (e6 : (Nat → Nat → Int32)) => am_Ev sc (d + 5) 1 (31, [(0, .ref 120), (1, .ref 110), (2, .int (am_b a0))], [], am_SH, (e6, g)) ((some (.int r.1)), am_SH, (r.2, g))) e6 := by
    show am_Ev sc (d + 5) 1 (31, [(0, .ref 120), (1, .ref 110), (2, .int (am_b a0))], [], am_SH, (e6, g)) ((some (.int r.1)), am_SH, (r.2, g))
    refine am_Ev.go hcd 4 (s' := (35, [(0, .ref 120), (1, .ref 110), (2, .int (am_b a0)), (4, .int 0), (5, .int 0)], [], am_SH, (e6, g))) rfl ?_
    obtain ⟨e12, he12, h⟩ := am_bind_some h
    have hK7 : (fun (e12 : Int32 × (Nat → Nat → Int32)) => am_Ev sc (d + 5) 1 (54, [(1, .ref 110), (4, .int e12.1)], [], am_SH, (e12.2, g)) ((some (.int r.1)), am_SH, (r.2, g))) e12 := by
      show am_Ev sc (d + 5) 1 (54, [(1, .ref 110), (4, .int e12.1)], [], am_SH, (e12.2, g)) ((some (.int r.1)), am_SH, (r.2, g))
      refine am_Ev.go hcd 2 (s' := (56, [(1, .ref 110), (4, .int e12.1), (5, .int 0)], [], am_SH, (e12.2, g))) rfl ?_
      obtain ⟨e16, he16, h⟩ := am_bind_some h
      have hK13 : (fun (e16 : (Nat → Nat → Int32)) => am_Ev sc (d + 5) 1 (67, [(1, .ref 110), (4, .int e12.1)], [], am_SH, (e16, g)) ((some (.int r.1)), am_SH, (r.2, g))) e16 := by
        show am_Ev sc (d + 5) 1 (67, [(1, .ref 110), (4, .int e12.1)], [], am_SH, (e16, g)) ((some (.int r.1)), am_SH, (r.2, g))
        obtain ⟨f17, Ef17, h⟩ := am_let_eq h
        refine am_Ev.go hcd 6 (s' := (73, [(1, .ref 110), (4, .int e12.1)], [], am_SH, (f17, g))) (by subst Ef17; exact rfl) ?_
        refine am_Ev.go hcd 1 (s' := (74, [(1, .ref 110), (4, .int e12.1)], [.int e12.1], am_SH, (f17, g))) rfl ?_
        exact am_Ev.cast (a := ((some (.int (e12.1, f17).1)), am_SH, ((e12.1, f17).2, g))) (by cases h; rfl) (am_Ev.ret hcd rfl)
      refine am_Ev.weak' (am_loop_ok (G := fun (s13 : Int32 × (Nat → Nat → Int32)) => am_Ev sc (d + 5) 1 (56, [(1, .ref 110), (4, .int e12.1), (5, .int s13.1)], [], am_SH, (s13.2, g)) ((some (.int r.1)), am_SH, (r.2, g))) (Z := fun (e16 : (Nat → Nat → Int32)) => am_Ev sc (d + 5) 1 (67, [(1, .ref 110), (4, .int e12.1)], [], am_SH, (e16, g)) ((some (.int r.1)), am_SH, (r.2, g))) ?_ am_F (0, e12.2) e16 he16 hK13) (am_sub_cons rfl (am_sub_cons rfl (am_sub_cons rfl am_sub_nil))) rfl
      intro s13 q13 h hI13 hZ13
      show am_Ev sc (d + 5) 1 (56, [(1, .ref 110), (4, .int e12.1), (5, .int s13.1)], [], am_SH, (s13.2, g)) ((some (.int r.1)), am_SH, (r.2, g))
      refine am_Ev.go hcd 3 (s' := (59, [(1, .ref 110), (4, .int e12.1), (5, .int s13.1)], [.int (s13.2 110 0), .int s13.1], am_SH, (s13.2, g))) rfl ?_
      rcases am_ite h with ⟨c21, h⟩ | ⟨c21, h⟩
      · refine am_Ev.t hcd (c := s13.1 < s13.2 110 0) (s1 := (60, [(1, .ref 110), (4, .int e12.1), (5, .int s13.1)], [], am_SH, (s13.2, g))) rfl c21 ?_
        refine am_Ev.go hcd 4 (s' := (64, [(1, .ref 110), (4, .int e12.1), (5, .int s13.1)], [.int (-1), .int s13.1, .ref 114], am_SH, (s13.2, g))) rfl ?_
        obtain ⟨c24, h⟩ := am_grd h
        obtain ⟨f14, Ef14, h⟩ := am_let_eq h
        refine am_Ev.t hcd (o := none) (c := am_in s13.1 6 = true) (s1 := (65, [(1, .ref 110), (4, .int e12.1), (5, .int s13.1)], [], am_SH, (f14, g))) (by subst Ef14; exact rfl) c24 ?_
        obtain ⟨t15, Et15, h⟩ := am_let_eq h
        refine am_Ev.go hcd 1 (s' := (66, [(1, .ref 110), (4, .int e12.1), (5, .int t15)], [], am_SH, (f14, g))) (by subst Et15; exact rfl) ?_
        refine am_Ev.go hcd 1 (s' := (56, [(1, .ref 110), (4, .int e12.1), (5, .int t15)], [], am_SH, (f14, g))) rfl ?_
        exact am_Ev.weak' (hI13 (t15, f14) (Option.some.inj h).symm) (am_sub_cons rfl (am_sub_cons rfl (am_sub_cons rfl am_sub_nil))) rfl
      · refine am_Ev.f hcd (c := s13.1 < s13.2 110 0) (s1 := (67, [(1, .ref 110), (4, .int e12.1), (5, .int s13.1)], [], am_SH, (s13.2, g))) rfl c21 ?_
        exact am_Ev.weak' (hZ13 s13.2 (Option.some.inj h).symm) (am_sub_cons rfl (am_sub_cons rfl am_sub_nil)) rfl
    refine am_Ev.weak' (am_loop_ok (G := fun (s7 : Int32 × Int32 × (Nat → Nat → Int32)) => am_Ev sc (d + 5) 1 (35, [(0, .ref 120), (1, .ref 110), (2, .int (am_b a0)), (4, .int s7.1), (5, .int s7.2.1)], [], am_SH, (s7.2.2, g)) ((some (.int r.1)), am_SH, (r.2, g))) (Z := fun (e12 : Int32 × (Nat → Nat → Int32)) => am_Ev sc (d + 5) 1 (54, [(1, .ref 110), (4, .int e12.1)], [], am_SH, (e12.2, g)) ((some (.int r.1)), am_SH, (r.2, g))) ?_ am_F (0, 0, e6) e12 he12 hK7) (am_sub_cons rfl (am_sub_cons rfl (am_sub_cons rfl (am_sub_cons rfl (am_sub_cons rfl am_sub_nil))))) rfl
    intro s7 q7 h hI7 hZ7
    show am_Ev sc (d + 5) 1 (35, [(0, .ref 120), (1, .ref 110), (2, .int (am_b a0)), (4, .int s7.1), (5, .int s7.2.1)], [], am_SH, (s7.2.2, g)) ((some (.int r.1)), am_SH, (r.2, g))
    refine am_Ev.go hcd 3 (s' := (38, [(0, .ref 120), (1, .ref 110), (2, .int (am_b a0)), (4, .int s7.1), (5, .int s7.2.1)], [.int (s7.2.2 110 0), .int s7.2.1], am_SH, (s7.2.2, g))) rfl ?_
    rcases am_ite h with ⟨c37, h⟩ | ⟨c37, h⟩
    · refine am_Ev.t hcd (c := s7.2.1 < s7.2.2 110 0) (s1 := (39, [(0, .ref 120), (1, .ref 110), (2, .int (am_b a0)), (4, .int s7.1), (5, .int s7.2.1)], [], am_SH, (s7.2.2, g))) rfl c37 ?_
      refine am_Ev.go hcd 3 (s' := (42, [(0, .ref 120), (1, .ref 110), (2, .int (am_b a0)), (4, .int s7.1), (5, .int s7.2.1)], [.int s7.2.1, .ref 113], am_SH, (s7.2.2, g))) rfl ?_
      obtain ⟨c40, h⟩ := am_grd h
      refine am_Ev.t hcd (o := none) (c := am_in s7.2.1 6 = true) (s1 := (43, [(0, .ref 120), (1, .ref 110), (2, .int (am_b a0)), (4, .int s7.1), (5, .int s7.2.1)], [.int (s7.2.2 113 s7.2.1.toNatClampNeg)], am_SH, (s7.2.2, g))) rfl c40 ?_
      obtain ⟨t10, ht10, kt10⟩ := am_bind_some h
      have hKt10 : am_Ev sc (d + 5) 1 (52, [(0, .ref 120), (1, .ref 110), (2, .int (am_b a0)), (4, .int t10.1), (5, .int s7.2.1)], [], am_SH, (t10.2, g)) ((some (.int r.1)), am_SH, (r.2, g)) := by
        have h := kt10
        obtain ⟨t11, Et11, h⟩ := am_let_eq h
        refine am_Ev.go hcd 1 (s' := (53, [(0, .ref 120), (1, .ref 110), (2, .int (am_b a0)), (4, .int t10.1), (5, .int t11)], [], am_SH, (t10.2, g))) (by subst Et11; exact rfl) ?_
        refine am_Ev.go hcd 1 (s' := (35, [(0, .ref 120), (1, .ref 110), (2, .int (am_b a0)), (4, .int t10.1), (5, .int t11)], [], am_SH, (t10.2, g))) rfl ?_
        exact am_Ev.weak' (hI7 (t10.1, t11, t10.2) (Option.some.inj h).symm) (am_sub_cons rfl (am_sub_cons rfl (am_sub_cons rfl (am_sub_cons rfl (am_sub_cons rfl am_sub_nil))))) rfl
      have hLt10 : ∀ tt, tt = t10 → am_Ev sc (d + 5) 1 (52, [(0, .ref 120), (1, .ref 110), (2, .int (am_b a0)), (4, .int tt.1), (5, .int s7.2.1)], [], am_SH, (tt.2, g)) ((some (.int r.1)), am_SH, (r.2, g)) := fun tt htt => by subst htt; exact hKt10
      have h := ht10
      refine am_Ev.go hcd 1 (s' := (44, [(0, .ref 120), (1, .ref 110), (2, .int (am_b a0)), (4, .int s7.1), (5, .int s7.2.1)], [.int (-1), .int (s7.2.2 113 s7.2.1.toNatClampNeg)], am_SH, (s7.2.2, g))) rfl ?_
      rcases am_ite h with ⟨c52, h⟩ | ⟨c52, h⟩
      · refine am_Ev.t hcd (c := s7.2.2 113 s7.2.1.toNatClampNeg = (-1)) (s1 := (52, [(0, .ref 120), (1, .ref 110), (2, .int (am_b a0)), (4, .int s7.1), (5, .int s7.2.1)], [], am_SH, (s7.2.2, g))) rfl c52 ?_
        exact am_Ev.weak' (hLt10 (s7.1, s7.2.2) (Option.some.inj h)) (am_sub_cons rfl (am_sub_cons rfl (am_sub_cons rfl (am_sub_cons rfl (am_sub_cons rfl am_sub_nil))))) rfl
      · refine am_Ev.f hcd (c := s7.2.2 113 s7.2.1.toNatClampNeg = (-1)) (s1 := (45, [(0, .ref 120), (1, .ref 110), (2, .int (am_b a0)), (4, .int s7.1), (5, .int s7.2.1)], [], am_SH, (s7.2.2, g))) rfl c52 ?_
        refine am_Ev.go hcd 4 (s' := (49, [(0, .ref 120), (1, .ref 110), (2, .int (am_b a0)), (4, .int s7.1), (5, .int s7.2.1)], [.int (am_b a0), .int s7.2.1, .ref 110, .ref 120], am_SH, (s7.2.2, g))) rfl ?_
        obtain ⟨p8, hp8, h⟩ := am_bind_some h
        refine am_Ev.call hcd (a := 6) (s0 := (0, [(0, .ref 120), (1, .ref 110), (2, .int s7.2.1), (3, .int (am_b a0))], [], am_SH, (s7.2.2, g))) (q := ((some (.int (am_b p8.1))), am_SH, (p8.2, g))) (s1 := (50, [(0, .ref 120), (1, .ref 110), (2, .int (am_b a0)), (4, .int s7.1), (5, .int s7.2.1)], [.int (am_b p8.1)], am_SH, (p8.2, g))) rfl rfl (xb_passGlass_110_ok (d) s7.2.1 a0 s7.2.2 g p8 hp8) ?_
        rcases am_ite h with ⟨c60, h⟩ | ⟨c60, h⟩
        · refine am_Ev.f hcd (c := am_b p8.1 = 0) (s1 := (51, [(0, .ref 120), (1, .ref 110), (2, .int (am_b a0)), (4, .int s7.1), (5, .int s7.2.1)], [], am_SH, (p8.2, g))) rfl (am_b_t c60) ?_
          obtain ⟨t9, Et9, h⟩ := am_let_eq h
          refine am_Ev.go hcd 1 (s' := (52, [(0, .ref 120), (1, .ref 110), (2, .int (am_b a0)), (4, .int t9), (5, .int s7.2.1)], [], am_SH, (p8.2, g))) (by subst Et9; exact rfl) ?_
          exact am_Ev.weak' (hLt10 (t9, p8.2) (Option.some.inj h)) (am_sub_cons rfl (am_sub_cons rfl (am_sub_cons rfl (am_sub_cons rfl (am_sub_cons rfl am_sub_nil))))) rfl
        · refine am_Ev.t hcd (c := am_b p8.1 = 0) (s1 := (52, [(0, .ref 120), (1, .ref 110), (2, .int (am_b a0)), (4, .int s7.1), (5, .int s7.2.1)], [], am_SH, (p8.2, g))) rfl (am_b_f c60) ?_
          exact am_Ev.weak' (hLt10 (s7.1, p8.2) (Option.some.inj h)) (am_sub_cons rfl (am_sub_cons rfl (am_sub_cons rfl (am_sub_cons rfl (am_sub_cons rfl am_sub_nil))))) rfl
    · refine am_Ev.f hcd (c := s7.2.1 < s7.2.2 110 0) (s1 := (54, [(0, .ref 120), (1, .ref 110), (2, .int (am_b a0)), (4, .int s7.1), (5, .int s7.2.1)], [], am_SH, (s7.2.2, g))) rfl c37 ?_
      exact am_Ev.weak' (hZ7 (s7.1, s7.2.2) (Option.some.inj h).symm) (am_sub_cons rfl (am_sub_cons rfl am_sub_nil)) rfl
  refine am_Ev.weak' (am_loop_ok (G := fun (s1 : Int32 × (Nat → Nat → Int32)) => am_Ev sc (d + 5) 1 (6, [(0, .ref 120), (1, .ref 110), (2, .int (am_b a0)), (3, .ref 20), (4, .int s1.1)], [], am_SH, (s1.2, g)) ((some (.int r.1)), am_SH, (r.2, g))) (Z := fun (e6 : (Nat → Nat → Int32)) => am_Ev sc (d + 5) 1 (31, [(0, .ref 120), (1, .ref 110), (2, .int (am_b a0))], [], am_SH, (e6, g)) ((some (.int r.1)), am_SH, (r.2, g))) ?_ am_F (0, f) e6 he6 hK1) (am_sub_cons rfl (am_sub_cons rfl (am_sub_cons rfl (am_sub_cons rfl (am_sub_cons rfl am_sub_nil))))) rfl
  intro s1 q1 h hI1 hZ1
  show am_Ev sc (d + 5) 1 (6, [(0, .ref 120), (1, .ref 110), (2, .int (am_b a0)), (3, .ref 20), (4, .int s1.1)], [], am_SH, (s1.2, g)) ((some (.int r.1)), am_SH, (r.2, g))
  refine am_Ev.go hcd 3 (s' := (9, [(0, .ref 120), (1, .ref 110), (2, .int (am_b a0)), (3, .ref 20), (4, .int s1.1)], [.int (s1.2 20 0), .int s1.1], am_SH, (s1.2, g))) rfl ?_
  rcases am_ite h with ⟨c72, h⟩ | ⟨c72, h⟩
  · refine am_Ev.t hcd (c := s1.1 < s1.2 20 0) (s1 := (10, [(0, .ref 120), (1, .ref 110), (2, .int (am_b a0)), (3, .ref 20), (4, .int s1.1)], [], am_SH, (s1.2, g))) rfl c72 ?_
    refine am_Ev.go hcd 3 (s' := (13, [(0, .ref 120), (1, .ref 110), (2, .int (am_b a0)), (3, .ref 20), (4, .int s1.1)], [.int s1.1, .ref 21], am_SH, (s1.2, g))) rfl ?_
    obtain ⟨c75, h⟩ := am_grd h
    refine am_Ev.t hcd (o := none) (c := am_in s1.1 16 = true) (s1 := (14, [(0, .ref 120), (1, .ref 110), (2, .int (am_b a0)), (3, .ref 20), (4, .int s1.1)], [.int (s1.2 21 s1.1.toNatClampNeg)], am_SH, (s1.2, g))) rfl c75 ?_
    obtain ⟨t4, ht4, kt4⟩ := am_bind_some h
    have hKt4 : am_Ev sc (d + 5) 1 (29, [(0, .ref 120), (1, .ref 110), (2, .int (am_b a0)), (3, .ref 20), (4, .int s1.1)], [], am_SH, (t4, g)) ((some (.int r.1)), am_SH, (r.2, g)) := by
      have h := kt4
      obtain ⟨t5, Et5, h⟩ := am_let_eq h
      refine am_Ev.go hcd 1 (s' := (30, [(0, .ref 120), (1, .ref 110), (2, .int (am_b a0)), (3, .ref 20), (4, .int t5)], [], am_SH, (t4, g))) (by subst Et5; exact rfl) ?_
      refine am_Ev.go hcd 1 (s' := (6, [(0, .ref 120), (1, .ref 110), (2, .int (am_b a0)), (3, .ref 20), (4, .int t5)], [], am_SH, (t4, g))) rfl ?_
      exact am_Ev.weak' (hI1 (t5, t4) (Option.some.inj h).symm) (am_sub_cons rfl (am_sub_cons rfl (am_sub_cons rfl (am_sub_cons rfl (am_sub_cons rfl am_sub_nil))))) rfl
    have hLt4 : ∀ tt, tt = t4 → am_Ev sc (d + 5) 1 (29, [(0, .ref 120), (1, .ref 110), (2, .int (am_b a0)), (3, .ref 20), (4, .int s1.1)], [], am_SH, (tt, g)) ((some (.int r.1)), am_SH, (r.2, g)) := fun tt htt => by subst htt; exact hKt4
    have h := ht4
    refine am_Ev.go hcd 2 (s' := (16, [(0, .ref 120), (1, .ref 110), (2, .int (am_b a0)), (3, .ref 20), (4, .int s1.1)], [.int (s1.2 110 2), .int (s1.2 21 s1.1.toNatClampNeg)], am_SH, (s1.2, g))) rfl ?_
    rcases am_ite h with ⟨c87, h⟩ | ⟨c87, h⟩
    · refine am_Ev.t hcd (c := s1.2 21 s1.1.toNatClampNeg = s1.2 110 2) (s1 := (17, [(0, .ref 120), (1, .ref 110), (2, .int (am_b a0)), (3, .ref 20), (4, .int s1.1)], [], am_SH, (s1.2, g))) rfl c87 ?_
      refine am_Ev.go hcd 4 (s' := (21, [(0, .ref 120), (1, .ref 110), (2, .int (am_b a0)), (3, .ref 20), (4, .int s1.1)], [.int s1.1, .ref 22, .ref 110], am_SH, (s1.2, g))) rfl ?_
      obtain ⟨c90, h⟩ := am_grd h
      refine am_Ev.t hcd (o := none) (c := am_in s1.1 16 = true) (s1 := (22, [(0, .ref 120), (1, .ref 110), (2, .int (am_b a0)), (3, .ref 20), (4, .int s1.1)], [.int (s1.2 22 s1.1.toNatClampNeg), .ref 110], am_SH, (s1.2, g))) rfl c90 ?_
      refine am_Ev.call hcd (a := 22) (s0 := (0, [(0, .ref 110), (1, .int (s1.2 22 s1.1.toNatClampNeg))], [], am_SH, (s1.2, g))) (q := ((some (.int (am_b (xc_hasGlass_110 (s1.2 22 s1.1.toNatClampNeg) s1.2)))), am_SH, (s1.2, g))) (s1 := (23, [(0, .ref 120), (1, .ref 110), (2, .int (am_b a0)), (3, .ref 20), (4, .int s1.1)], [.int (am_b (xc_hasGlass_110 (s1.2 22 s1.1.toNatClampNeg) s1.2))], am_SH, (s1.2, g))) rfl rfl (xc_hasGlass_110_ok (d + 4) (s1.2 22 s1.1.toNatClampNeg) s1.2 g) ?_
      rcases am_ite h with ⟨c94, h⟩ | ⟨c94, h⟩
      · refine am_Ev.f hcd (c := am_b (xc_hasGlass_110 (s1.2 22 s1.1.toNatClampNeg) s1.2) = 0) (s1 := (24, [(0, .ref 120), (1, .ref 110), (2, .int (am_b a0)), (3, .ref 20), (4, .int s1.1)], [], am_SH, (s1.2, g))) rfl (am_b_t c94) ?_
        refine am_Ev.go hcd 4 (s' := (28, [(0, .ref 120), (1, .ref 110), (2, .int (am_b a0)), (3, .ref 20), (4, .int s1.1)], [.int (am_b a0), .int s1.1, .ref 110, .ref 120], am_SH, (s1.2, g))) rfl ?_
        obtain ⟨p3, hp3, h⟩ := am_bind_some h
        refine am_Ev.call hcd (a := 2) (s0 := (0, [(0, .ref 120), (1, .ref 110), (2, .int s1.1), (3, .int (am_b a0))], [], am_SH, (s1.2, g))) (q := (none, am_SH, (p3, g))) (s1 := (29, [(0, .ref 120), (1, .ref 110), (2, .int (am_b a0)), (3, .ref 20), (4, .int s1.1)], [], am_SH, (p3, g))) rfl rfl (xb_walkLine_110_ok (d + 1) s1.1 a0 s1.2 g p3 hp3) ?_
        exact am_Ev.weak' (hLt4 p3 (Option.some.inj h)) (am_sub_cons rfl (am_sub_cons rfl (am_sub_cons rfl (am_sub_cons rfl (am_sub_cons rfl am_sub_nil))))) rfl
      · refine am_Ev.t hcd (c := am_b (xc_hasGlass_110 (s1.2 22 s1.1.toNatClampNeg) s1.2) = 0) (s1 := (29, [(0, .ref 120), (1, .ref 110), (2, .int (am_b a0)), (3, .ref 20), (4, .int s1.1)], [], am_SH, (s1.2, g))) rfl (am_b_f c94) ?_
        exact am_Ev.weak' (hLt4 s1.2 (Option.some.inj h)) (am_sub_cons rfl (am_sub_cons rfl (am_sub_cons rfl (am_sub_cons rfl (am_sub_cons rfl am_sub_nil))))) rfl
    · refine am_Ev.f hcd (c := s1.2 21 s1.1.toNatClampNeg = s1.2 110 2) (s1 := (29, [(0, .ref 120), (1, .ref 110), (2, .int (am_b a0)), (3, .ref 20), (4, .int s1.1)], [], am_SH, (s1.2, g))) rfl c87 ?_
      exact am_Ev.weak' (hLt4 s1.2 (Option.some.inj h)) (am_sub_cons rfl (am_sub_cons rfl (am_sub_cons rfl (am_sub_cons rfl (am_sub_cons rfl am_sub_nil))))) rfl
  · refine am_Ev.f hcd (c := s1.1 < s1.2 20 0) (s1 := (31, [(0, .ref 120), (1, .ref 110), (2, .int (am_b a0)), (3, .ref 20), (4, .int s1.1)], [], am_SH, (s1.2, g))) rfl c72 ?_
    exact am_Ev.weak' (hZ1 s1.2 (Option.some.inj h).symm) (am_sub_cons rfl (am_sub_cons rfl (am_sub_cons rfl am_sub_nil))) rfl
set_option maxRecDepth 100000 in
set_option maxHeartbeats 4000000 in
theorem xc_sumOf_110_ok {sc : Nat × (Nat → Int32)} (d : Nat) (a0 : Int32) (f g : (Nat → Nat → Int32)) (r : Int32) (h : xc_sumOf_110 a0 f = some r) : am_Ev sc (d) 29 (0, [(0, .ref 110), (1, .int a0)], [], am_SH, (f, g)) ((some (.int r)), am_SH, (f, g)) := by
  have hcd : am_code 29 = am_c29 := rfl
  unfold xc_sumOf_110 at h
  refine am_Ev.go hcd 4 (s' := (4, [(0, .ref 110), (1, .int a0), (2, .int 0)], [.int 3, .int a0], am_SH, (f, g))) rfl ?_
  rcases am_ite h with ⟨c2, h⟩ | ⟨c2, h⟩
  · refine am_Ev.t hcd (c := a0 = 3) (s1 := (5, [(0, .ref 110), (1, .int a0), (2, .int 0)], [], am_SH, (f, g))) rfl c2 ?_
    refine am_Ev.go hcd 2 (s' := (7, [(0, .ref 110), (1, .int a0), (2, .int 0), (3, .int 0)], [], am_SH, (f, g))) rfl ?_
    refine am_Ev.weak' (am_loop_ok (G := fun (s1 : Int32 × Int32) => am_Ev sc (d) 29 (7, [(0, .ref 110), (2, .int s1.1), (3, .int s1.2)], [], am_SH, (f, g)) ((some (.int r)), am_SH, (f, g))) (Z := fun (v : Int32) => (((some (.int v)), am_SH, (f, g)) : am_R) = ((some (.int r)), am_SH, (f, g))) ?_ am_F (0, 0) r h rfl) (am_sub_cons rfl (am_sub_cons rfl (am_sub_cons rfl am_sub_nil))) rfl
    intro s1 q1 h hI1 hZ1
    show am_Ev sc (d) 29 (7, [(0, .ref 110), (2, .int s1.1), (3, .int s1.2)], [], am_SH, (f, g)) ((some (.int r)), am_SH, (f, g))
    refine am_Ev.go hcd 3 (s' := (10, [(0, .ref 110), (2, .int s1.1), (3, .int s1.2)], [.int (f 110 1), .int s1.2], am_SH, (f, g))) rfl ?_
    rcases am_ite h with ⟨c9, h⟩ | ⟨c9, h⟩
    · refine am_Ev.t hcd (c := s1.2 < f 110 1) (s1 := (11, [(0, .ref 110), (2, .int s1.1), (3, .int s1.2)], [], am_SH, (f, g))) rfl c9 ?_
      refine am_Ev.go hcd 4 (s' := (15, [(0, .ref 110), (2, .int s1.1), (3, .int s1.2)], [.int s1.2, .ref 119, .int s1.1], am_SH, (f, g))) rfl ?_
      obtain ⟨c12, h⟩ := am_grd h
      refine am_Ev.t hcd (o := none) (c := am_in s1.2 12 = true) (s1 := (16, [(0, .ref 110), (2, .int s1.1), (3, .int s1.2)], [.int (f 119 s1.2.toNatClampNeg), .int s1.1], am_SH, (f, g))) rfl c12 ?_
      obtain ⟨t2, Et2, h⟩ := am_let_eq h
      refine am_Ev.go hcd 2 (s' := (18, [(0, .ref 110), (2, .int t2), (3, .int s1.2)], [], am_SH, (f, g))) (by subst Et2; exact rfl) ?_
      obtain ⟨t3, Et3, h⟩ := am_let_eq h
      refine am_Ev.go hcd 1 (s' := (19, [(0, .ref 110), (2, .int t2), (3, .int t3)], [], am_SH, (f, g))) (by subst Et3; exact rfl) ?_
      refine am_Ev.go hcd 1 (s' := (7, [(0, .ref 110), (2, .int t2), (3, .int t3)], [], am_SH, (f, g))) rfl ?_
      exact am_Ev.weak' (hI1 (t2, t3) (Option.some.inj h).symm) (am_sub_cons rfl (am_sub_cons rfl (am_sub_cons rfl am_sub_nil))) rfl
    · refine am_Ev.f hcd (c := s1.2 < f 110 1) (s1 := (20, [(0, .ref 110), (2, .int s1.1), (3, .int s1.2)], [], am_SH, (f, g))) rfl c9 ?_
      refine am_Ev.go hcd 1 (s' := (21, [(0, .ref 110), (2, .int s1.1), (3, .int s1.2)], [.int s1.1], am_SH, (f, g))) rfl ?_
      exact am_Ev.cast (a := ((some (.int s1.1)), am_SH, (f, g))) (hZ1 _ (Option.some.inj h).symm) (am_Ev.ret hcd rfl)
  · refine am_Ev.f hcd (c := a0 = 3) (s1 := (22, [(0, .ref 110), (1, .int a0), (2, .int 0)], [], am_SH, (f, g))) rfl c2 ?_
    refine am_Ev.go hcd 2 (s' := (24, [(0, .ref 110), (1, .int a0), (2, .int 0), (3, .int 0)], [], am_SH, (f, g))) rfl ?_
    refine am_Ev.weak' (am_loop_ok (G := fun (s5 : Int32 × Int32) => am_Ev sc (d) 29 (24, [(0, .ref 110), (1, .int a0), (2, .int s5.1), (3, .int s5.2)], [], am_SH, (f, g)) ((some (.int r)), am_SH, (f, g))) (Z := fun (v : Int32) => (((some (.int v)), am_SH, (f, g)) : am_R) = ((some (.int r)), am_SH, (f, g))) ?_ am_F (0, 0) r h rfl) (am_sub_cons rfl (am_sub_cons rfl (am_sub_cons rfl (am_sub_cons rfl am_sub_nil)))) rfl
    intro s5 q5 h hI5 hZ5
    show am_Ev sc (d) 29 (24, [(0, .ref 110), (1, .int a0), (2, .int s5.1), (3, .int s5.2)], [], am_SH, (f, g)) ((some (.int r)), am_SH, (f, g))
    refine am_Ev.go hcd 3 (s' := (27, [(0, .ref 110), (1, .int a0), (2, .int s5.1), (3, .int s5.2)], [.int (f 110 0), .int s5.2], am_SH, (f, g))) rfl ?_
    rcases am_ite h with ⟨c29, h⟩ | ⟨c29, h⟩
    · refine am_Ev.t hcd (c := s5.2 < f 110 0) (s1 := (28, [(0, .ref 110), (1, .int a0), (2, .int s5.1), (3, .int s5.2)], [], am_SH, (f, g))) rfl c29 ?_
      obtain ⟨t9, ht9, kt9⟩ := am_bind_some h
      have hKt9 : am_Ev sc (d) 29 (56, [(0, .ref 110), (1, .int a0), (2, .int t9), (3, .int s5.2)], [], am_SH, (f, g)) ((some (.int r)), am_SH, (f, g)) := by
        have h := kt9
        obtain ⟨t10, Et10, h⟩ := am_let_eq h
        refine am_Ev.go hcd 1 (s' := (57, [(0, .ref 110), (1, .int a0), (2, .int t9), (3, .int t10)], [], am_SH, (f, g))) (by subst Et10; exact rfl) ?_
        refine am_Ev.go hcd 1 (s' := (24, [(0, .ref 110), (1, .int a0), (2, .int t9), (3, .int t10)], [], am_SH, (f, g))) rfl ?_
        exact am_Ev.weak' (hI5 (t9, t10) (Option.some.inj h).symm) (am_sub_cons rfl (am_sub_cons rfl (am_sub_cons rfl (am_sub_cons rfl am_sub_nil)))) rfl
      have hLt9 : ∀ tt, tt = t9 → am_Ev sc (d) 29 (56, [(0, .ref 110), (1, .int a0), (2, .int tt), (3, .int s5.2)], [], am_SH, (f, g)) ((some (.int r)), am_SH, (f, g)) := fun tt htt => by subst htt; exact hKt9
      have h := ht9
      refine am_Ev.go hcd 1 (s' := (29, [(0, .ref 110), (1, .int a0), (2, .int s5.1), (3, .int s5.2)], [.int a0], am_SH, (f, g))) rfl ?_
      rcases am_ite h with ⟨c41, h⟩ | ⟨c41, h⟩
      · refine am_Ev.t hcd (c := a0 = 0) (s1 := (30, [(0, .ref 110), (1, .int a0), (2, .int s5.1), (3, .int s5.2)], [], am_SH, (f, g))) rfl c41 ?_
        refine am_Ev.go hcd 4 (s' := (34, [(0, .ref 110), (1, .int a0), (2, .int s5.1), (3, .int s5.2)], [.int s5.2, .ref 112, .int s5.1], am_SH, (f, g))) rfl ?_
        obtain ⟨c44, h⟩ := am_grd h
        refine am_Ev.t hcd (o := none) (c := am_in s5.2 6 = true) (s1 := (35, [(0, .ref 110), (1, .int a0), (2, .int s5.1), (3, .int s5.2)], [.int (f 112 s5.2.toNatClampNeg), .int s5.1], am_SH, (f, g))) rfl c44 ?_
        obtain ⟨t6, Et6, h⟩ := am_let_eq h
        refine am_Ev.go hcd 2 (s' := (37, [(0, .ref 110), (1, .int a0), (2, .int t6), (3, .int s5.2)], [], am_SH, (f, g))) (by subst Et6; exact rfl) ?_
        refine am_Ev.go hcd 1 (s' := (56, [(0, .ref 110), (1, .int a0), (2, .int t6), (3, .int s5.2)], [], am_SH, (f, g))) rfl ?_
        exact am_Ev.weak' (hLt9 t6 (Option.some.inj h)) (am_sub_cons rfl (am_sub_cons rfl (am_sub_cons rfl (am_sub_cons rfl am_sub_nil)))) rfl
      · refine am_Ev.f hcd (c := a0 = 0) (s1 := (38, [(0, .ref 110), (1, .int a0), (2, .int s5.1), (3, .int s5.2)], [], am_SH, (f, g))) rfl c41 ?_
        refine am_Ev.go hcd 2 (s' := (40, [(0, .ref 110), (1, .int a0), (2, .int s5.1), (3, .int s5.2)], [.int 1, .int a0], am_SH, (f, g))) rfl ?_
        rcases am_ite h with ⟨c52, h⟩ | ⟨c52, h⟩
        · refine am_Ev.t hcd (c := a0 = 1) (s1 := (41, [(0, .ref 110), (1, .int a0), (2, .int s5.1), (3, .int s5.2)], [], am_SH, (f, g))) rfl c52 ?_
          refine am_Ev.go hcd 4 (s' := (45, [(0, .ref 110), (1, .int a0), (2, .int s5.1), (3, .int s5.2)], [.int s5.2, .ref 115, .int s5.1], am_SH, (f, g))) rfl ?_
          obtain ⟨c55, h⟩ := am_grd h
          refine am_Ev.t hcd (o := none) (c := am_in s5.2 6 = true) (s1 := (46, [(0, .ref 110), (1, .int a0), (2, .int s5.1), (3, .int s5.2)], [.int (f 115 s5.2.toNatClampNeg), .int s5.1], am_SH, (f, g))) rfl c55 ?_
          obtain ⟨t7, Et7, h⟩ := am_let_eq h
          refine am_Ev.go hcd 2 (s' := (48, [(0, .ref 110), (1, .int a0), (2, .int t7), (3, .int s5.2)], [], am_SH, (f, g))) (by subst Et7; exact rfl) ?_
          refine am_Ev.go hcd 1 (s' := (56, [(0, .ref 110), (1, .int a0), (2, .int t7), (3, .int s5.2)], [], am_SH, (f, g))) rfl ?_
          exact am_Ev.weak' (hLt9 t7 (Option.some.inj h)) (am_sub_cons rfl (am_sub_cons rfl (am_sub_cons rfl (am_sub_cons rfl am_sub_nil)))) rfl
        · refine am_Ev.f hcd (c := a0 = 1) (s1 := (49, [(0, .ref 110), (1, .int a0), (2, .int s5.1), (3, .int s5.2)], [], am_SH, (f, g))) rfl c52 ?_
          refine am_Ev.go hcd 4 (s' := (53, [(0, .ref 110), (1, .int a0), (2, .int s5.1), (3, .int s5.2)], [.int s5.2, .ref 111, .int s5.1], am_SH, (f, g))) rfl ?_
          obtain ⟨c63, h⟩ := am_grd h
          refine am_Ev.t hcd (o := none) (c := am_in s5.2 6 = true) (s1 := (54, [(0, .ref 110), (1, .int a0), (2, .int s5.1), (3, .int s5.2)], [.int (f 111 s5.2.toNatClampNeg), .int s5.1], am_SH, (f, g))) rfl c63 ?_
          obtain ⟨t8, Et8, h⟩ := am_let_eq h
          refine am_Ev.go hcd 2 (s' := (56, [(0, .ref 110), (1, .int a0), (2, .int t8), (3, .int s5.2)], [], am_SH, (f, g))) (by subst Et8; exact rfl) ?_
          exact am_Ev.weak' (hLt9 t8 (Option.some.inj h)) (am_sub_cons rfl (am_sub_cons rfl (am_sub_cons rfl (am_sub_cons rfl am_sub_nil)))) rfl
    · refine am_Ev.f hcd (c := s5.2 < f 110 0) (s1 := (58, [(0, .ref 110), (1, .int a0), (2, .int s5.1), (3, .int s5.2)], [], am_SH, (f, g))) rfl c29 ?_
      refine am_Ev.go hcd 1 (s' := (59, [(0, .ref 110), (1, .int a0), (2, .int s5.1), (3, .int s5.2)], [.int s5.1], am_SH, (f, g))) rfl ?_
      exact am_Ev.cast (a := ((some (.int s5.1)), am_SH, (f, g))) (hZ5 _ (Option.some.inj h).symm) (am_Ev.ret hcd rfl)
set_option maxRecDepth 100000 in
set_option maxHeartbeats 4000000 in
theorem x_goes_ok {sc : Nat × (Nat → Int32)} (d : Nat) (a0 : Int32) (a1 : Int32) (f g : (Nat → Nat → Int32)) (r : Int32 × (Nat → Nat → Int32)) (h : x_goes a0 a1 f = some r) : am_Ev sc (d + 6) 141 (0, [(0, .ref 0), (1, .int a0), (2, .int a1)], [], am_SH, (f, g)) ((some (.int r.1)), am_SH, (r.2, g)) := by
  have hcd : am_code 141 = am_c141 := rfl
  unfold x_goes at h
  refine am_Ev.go hcd 3 (s' := (3, [(0, .ref 0), (1, .int a0), (2, .int a1)], [.int 60, .int 1, .int a0], am_SH, (f, g))) rfl ?_
  refine am_Ev.call hcd (a := 170) (s0 := (0, [(0, .int a0), (1, .int 1), (2, .int 60)], [], am_SH, (f, g))) (q := ((some (.int (am_b (x_within a0 1 60)))), am_SH, (f, g))) (s1 := (4, [(0, .ref 0), (1, .int a0), (2, .int a1)], [.int (am_b (x_within a0 1 60))], am_SH, (f, g))) rfl rfl (x_within_ok (d + 5) a0 1 60 (f, g)) ?_
  rcases am_ite h with ⟨c4, h⟩ | ⟨c4, h⟩
  · refine am_Ev.f hcd (c := am_b (x_within a0 1 60) = 0) (s1 := (5, [(0, .ref 0), (1, .int a0), (2, .int a1)], [], am_SH, (f, g))) rfl (am_b_t c4) ?_
    refine am_Ev.go hcd 3 (s' := (8, [(0, .ref 0), (1, .int a0), (2, .int a1)], [.int 3, .int 0, .int a1], am_SH, (f, g))) rfl ?_
    refine am_Ev.call hcd (a := 170) (s0 := (0, [(0, .int a1), (1, .int 0), (2, .int 3)], [], am_SH, (f, g))) (q := ((some (.int (am_b (x_within a1 0 3)))), am_SH, (f, g))) (s1 := (9, [(0, .ref 0), (1, .int a0), (2, .int a1)], [.int (am_b (x_within a1 0 3))], am_SH, (f, g))) rfl rfl (x_within_ok (d + 5) a1 0 3 (f, g)) ?_
    rcases am_ite h with ⟨c8, h⟩ | ⟨c8, h⟩
    · refine am_Ev.f hcd (c := am_b (x_within a1 0 3) = 0) (s1 := (12, [(0, .ref 0), (1, .int a0), (2, .int a1)], [], am_SH, (f, g))) rfl (am_b_t c8) ?_
      refine am_Ev.go hcd 5 (s' := (17, [(0, .ref 0), (1, .int a0), (2, .int a1)], [.ref 2, .ref 110], am_SH, (f, g))) rfl ?_
      obtain ⟨p3, Ep3, h⟩ := am_let_eq h
      refine am_Ev.call hcd (a := 30) (s0 := (0, [(0, .ref 110), (1, .ref 2)], [], am_SH, (f, g))) (q := (none, am_SH, (p3, g))) (s1 := (18, [(0, .ref 0), (1, .int a0), (2, .int a1)], [], am_SH, (p3, g))) rfl rfl (by subst Ep3; exact xc_takeFrom_110_2_ok (d + 4)  f g) ?_
      refine am_Ev.go hcd 2 (s' := (20, [(0, .ref 0), (1, .int a0), (2, .int a1), (3, .int 0)], [], am_SH, (p3, g))) rfl ?_
      obtain ⟨e7, he7, h⟩ := am_bind_some h
      have hK4 : (fun (e7 : (Nat → Nat → Int32)) => am_Ev sc (d + 6) 141 (32, [(0, .ref 0), (2, .int a1)], [], am_SH, (e7, g)) ((some (.int r.1)), am_SH, (r.2, g))) e7 := by
        show am_Ev sc (d + 6) 141 (32, [(0, .ref 0), (2, .int a1)], [], am_SH, (e7, g)) ((some (.int r.1)), am_SH, (r.2, g))
        refine am_Ev.go hcd 3 (s' := (35, [(0, .ref 0), (2, .int a1)], [.int a1, .ref 110], am_SH, (e7, g))) rfl ?_
        obtain ⟨p8, hp8, h⟩ := am_bind_some h
        refine am_Ev.call hcd (a := 29) (s0 := (0, [(0, .ref 110), (1, .int a1)], [], am_SH, (e7, g))) (q := ((some (.int p8)), am_SH, (e7, g))) (s1 := (36, [(0, .ref 0), (2, .int a1)], [.int p8], am_SH, (e7, g))) rfl rfl (xc_sumOf_110_ok (d + 5) a1 e7 g p8 hp8) ?_
        exact am_Ev.cast (a := ((some (.int (p8, e7).1)), am_SH, ((p8, e7).2, g))) (by cases h; rfl) (am_Ev.ret hcd rfl)
      refine am_Ev.weak' (am_loop_ok (G := fun (s4 : Int32 × (Nat → Nat → Int32)) => am_Ev sc (d + 6) 141 (20, [(0, .ref 0), (1, .int a0), (2, .int a1), (3, .int s4.1)], [], am_SH, (s4.2, g)) ((some (.int r.1)), am_SH, (r.2, g))) (Z := fun (e7 : (Nat → Nat → Int32)) => am_Ev sc (d + 6) 141 (32, [(0, .ref 0), (2, .int a1)], [], am_SH, (e7, g)) ((some (.int r.1)), am_SH, (r.2, g))) ?_ am_F (0, p3) e7 he7 hK4) (am_sub_cons rfl (am_sub_cons rfl (am_sub_cons rfl (am_sub_cons rfl am_sub_nil)))) rfl
      intro s4 q4 h hI4 hZ4
      show am_Ev sc (d + 6) 141 (20, [(0, .ref 0), (1, .int a0), (2, .int a1), (3, .int s4.1)], [], am_SH, (s4.2, g)) ((some (.int r.1)), am_SH, (r.2, g))
      refine am_Ev.go hcd 2 (s' := (22, [(0, .ref 0), (1, .int a0), (2, .int a1), (3, .int s4.1)], [.int a0, .int s4.1], am_SH, (s4.2, g))) rfl ?_
      rcases am_ite h with ⟨c24, h⟩ | ⟨c24, h⟩
      · refine am_Ev.t hcd (c := s4.1 < a0) (s1 := (23, [(0, .ref 0), (1, .int a0), (2, .int a1), (3, .int s4.1)], [], am_SH, (s4.2, g))) rfl c24 ?_
        refine am_Ev.go hcd 5 (s' := (28, [(0, .ref 0), (1, .int a0), (2, .int a1), (3, .int s4.1)], [.int 0, .ref 110, .ref 120], am_SH, (s4.2, g))) rfl ?_
        obtain ⟨p5, hp5, h⟩ := am_bind_some h
        refine am_Ev.call hcd (a := 1) (s0 := (0, [(0, .ref 120), (1, .ref 110), (2, .int (am_b false))], [], am_SH, (s4.2, g))) (q := ((some (.int p5.1)), am_SH, (p5.2, g))) (s1 := (29, [(0, .ref 0), (1, .int a0), (2, .int a1), (3, .int s4.1)], [.int p5.1], am_SH, (p5.2, g))) rfl rfl (xb_passMinute_110_ok (d) false s4.2 g p5 hp5) ?_
        obtain ⟨t6, Et6, h⟩ := am_let_eq h
        refine am_Ev.go hcd 2 (s' := (31, [(0, .ref 0), (1, .int a0), (2, .int a1), (3, .int t6)], [], am_SH, (p5.2, g))) (by subst Et6; exact rfl) ?_
        refine am_Ev.go hcd 1 (s' := (20, [(0, .ref 0), (1, .int a0), (2, .int a1), (3, .int t6)], [], am_SH, (p5.2, g))) rfl ?_
        exact am_Ev.weak' (hI4 (t6, p5.2) (Option.some.inj h).symm) (am_sub_cons rfl (am_sub_cons rfl (am_sub_cons rfl (am_sub_cons rfl am_sub_nil)))) rfl
      · refine am_Ev.f hcd (c := s4.1 < a0) (s1 := (32, [(0, .ref 0), (1, .int a0), (2, .int a1), (3, .int s4.1)], [], am_SH, (s4.2, g))) rfl c24 ?_
        exact am_Ev.weak' (hZ4 s4.2 (Option.some.inj h).symm) (am_sub_cons rfl (am_sub_cons rfl am_sub_nil)) rfl
    · refine am_Ev.t hcd (c := am_b (x_within a1 0 3) = 0) (s1 := (10, [(0, .ref 0), (1, .int a0), (2, .int a1)], [], am_SH, (f, g))) rfl (am_b_f c8) ?_
      refine am_Ev.go hcd 1 (s' := (11, [(0, .ref 0), (1, .int a0), (2, .int a1)], [.int (-1)], am_SH, (f, g))) rfl ?_
      exact am_Ev.cast (a := ((some (.int ((-1), f).1)), am_SH, (((-1), f).2, g))) (by cases h; rfl) (am_Ev.ret hcd rfl)
  · refine am_Ev.t hcd (c := am_b (x_within a0 1 60) = 0) (s1 := (10, [(0, .ref 0), (1, .int a0), (2, .int a1)], [], am_SH, (f, g))) rfl (am_b_f c4) ?_
    refine am_Ev.go hcd 1 (s' := (11, [(0, .ref 0), (1, .int a0), (2, .int a1)], [.int (-1)], am_SH, (f, g))) rfl ?_
    exact am_Ev.cast (a := ((some (.int ((-1), f).1)), am_SH, (((-1), f).2, g))) (by cases h; rfl) (am_Ev.ret hcd rfl)
set_option maxRecDepth 100000 in
set_option maxHeartbeats 4000000 in
theorem x_top_ok {sc : Nat × (Nat → Int32)} (d : Nat) (a0 : Int32) (f g : (Nat → Nat → Int32)) (r : Int32 × (Nat → Nat → Int32)) (h : x_top a0 f = some r) : am_Ev sc (d + 6) 142 (0, [(0, .ref 0), (1, .int a0)], [], am_SH, (f, g)) ((some (.int r.1)), am_SH, (r.2, g)) := by
  have hcd : am_code 142 = am_c142 := rfl
  unfold x_top at h
  refine am_Ev.go hcd 4 (s' := (4, [(0, .ref 0), (1, .int a0)], [.int a0, .ref 2], am_SH, (f, g))) rfl ?_
  refine am_Ev.call hcd (a := 22) (s0 := (0, [(0, .ref 2), (1, .int a0)], [], am_SH, (f, g))) (q := ((some (.int (am_b (xc_hasGlass_2 a0 f)))), am_SH, (f, g))) (s1 := (5, [(0, .ref 0), (1, .int a0)], [.int (am_b (xc_hasGlass_2 a0 f))], am_SH, (f, g))) rfl rfl (xc_hasGlass_2_ok (d + 5) a0 f g) ?_
  rcases am_ite h with ⟨c4, h⟩ | ⟨c4, h⟩
  · refine am_Ev.f hcd (c := am_b (xc_hasGlass_2 a0 f) = 0) (s1 := (8, [(0, .ref 0), (1, .int a0)], [], am_SH, (f, g))) rfl (am_b_t c4) ?_
    refine am_Ev.go hcd 5 (s' := (13, [(0, .ref 0), (1, .int a0)], [.ref 2, .ref 110], am_SH, (f, g))) rfl ?_
    obtain ⟨p2, Ep2, h⟩ := am_let_eq h
    refine am_Ev.call hcd (a := 30) (s0 := (0, [(0, .ref 110), (1, .ref 2)], [], am_SH, (f, g))) (q := (none, am_SH, (p2, g))) (s1 := (14, [(0, .ref 0), (1, .int a0)], [], am_SH, (p2, g))) rfl rfl (by subst Ep2; exact xc_takeFrom_110_2_ok (d + 4)  f g) ?_
    refine am_Ev.go hcd 2 (s' := (16, [(0, .ref 0), (1, .int a0), (2, .int 1)], [], am_SH, (p2, g))) rfl ?_
    refine am_Ev.weak' (am_loop_ok (G := fun (s3 : Int32 × (Nat → Nat → Int32)) => am_Ev sc (d + 6) 142 (16, [(0, .ref 0), (1, .int a0), (2, .int s3.1)], [], am_SH, (s3.2, g)) ((some (.int r.1)), am_SH, (r.2, g))) (Z := fun (v : Int32 × (Nat → Nat → Int32)) => (((some (.int v.1)), am_SH, (v.2, g)) : am_R) = ((some (.int r.1)), am_SH, (r.2, g))) ?_ am_F (1, p2) r h rfl) (am_sub_cons rfl (am_sub_cons rfl (am_sub_cons rfl am_sub_nil))) rfl
    intro s3 q3 h hI3 hZ3
    show am_Ev sc (d + 6) 142 (16, [(0, .ref 0), (1, .int a0), (2, .int s3.1)], [], am_SH, (s3.2, g)) ((some (.int r.1)), am_SH, (r.2, g))
    refine am_Ev.go hcd 2 (s' := (18, [(0, .ref 0), (1, .int a0), (2, .int s3.1)], [.int 60, .int s3.1], am_SH, (s3.2, g))) rfl ?_
    rcases am_ite h with ⟨c13, h⟩ | ⟨c13, h⟩
    · refine am_Ev.t hcd (c := 60 < s3.1) (s1 := (42, [(0, .ref 0), (1, .int a0), (2, .int s3.1)], [], am_SH, (s3.2, g))) rfl c13 ?_
      refine am_Ev.go hcd 1 (s' := (43, [(0, .ref 0), (1, .int a0), (2, .int s3.1)], [.int (-1)], am_SH, (s3.2, g))) rfl ?_
      exact am_Ev.cast (a := ((some (.int ((-1), s3.2).1)), am_SH, (((-1), s3.2).2, g))) (hZ3 _ (Option.some.inj h).symm) (am_Ev.ret hcd rfl)
    · refine am_Ev.f hcd (c := 60 < s3.1) (s1 := (19, [(0, .ref 0), (1, .int a0), (2, .int s3.1)], [], am_SH, (s3.2, g))) rfl c13 ?_
      refine am_Ev.go hcd 5 (s' := (24, [(0, .ref 0), (1, .int a0), (2, .int s3.1)], [.int 0, .ref 110, .ref 120], am_SH, (s3.2, g))) rfl ?_
      obtain ⟨p4, hp4, h⟩ := am_bind_some h
      refine am_Ev.call hcd (a := 1) (s0 := (0, [(0, .ref 120), (1, .ref 110), (2, .int (am_b false))], [], am_SH, (s3.2, g))) (q := ((some (.int p4.1)), am_SH, (p4.2, g))) (s1 := (25, [(0, .ref 0), (1, .int a0), (2, .int s3.1)], [.int p4.1], am_SH, (p4.2, g))) rfl rfl (xb_passMinute_110_ok (d) false s3.2 g p4 hp4) ?_
      refine am_Ev.go hcd 5 (s' := (30, [(0, .ref 0), (1, .int a0), (2, .int s3.1)], [.int a0, .ref 115], am_SH, (p4.2, g))) rfl ?_
      obtain ⟨c22, h⟩ := am_grd h
      refine am_Ev.t hcd (o := none) (c := am_in a0 6 = true) (s1 := (31, [(0, .ref 0), (1, .int a0), (2, .int s3.1)], [.int (p4.2 115 a0.toNatClampNeg)], am_SH, (p4.2, g))) rfl c22 ?_
      refine am_Ev.go hcd 5 (s' := (36, [(0, .ref 0), (1, .int a0), (2, .int s3.1)], [.int a0, .ref 7, .int (p4.2 115 a0.toNatClampNeg)], am_SH, (p4.2, g))) rfl ?_
      obtain ⟨c25, h⟩ := am_grd h
      refine am_Ev.t hcd (o := none) (c := am_in a0 6 = true) (s1 := (37, [(0, .ref 0), (1, .int a0), (2, .int s3.1)], [.int (p4.2 7 a0.toNatClampNeg), .int (p4.2 115 a0.toNatClampNeg)], am_SH, (p4.2, g))) rfl c25 ?_
      rcases am_ite h with ⟨c28, h⟩ | ⟨c28, h⟩
      · refine am_Ev.t hcd (c := p4.2 115 a0.toNatClampNeg = p4.2 7 a0.toNatClampNeg) (s1 := (40, [(0, .ref 0), (1, .int a0), (2, .int s3.1)], [], am_SH, (p4.2, g))) rfl c28 ?_
        obtain ⟨t5, Et5, h⟩ := am_let_eq h
        refine am_Ev.go hcd 1 (s' := (41, [(0, .ref 0), (1, .int a0), (2, .int t5)], [], am_SH, (p4.2, g))) (by subst Et5; exact rfl) ?_
        refine am_Ev.go hcd 1 (s' := (16, [(0, .ref 0), (1, .int a0), (2, .int t5)], [], am_SH, (p4.2, g))) rfl ?_
        exact am_Ev.weak' (hI3 (t5, p4.2) (Option.some.inj h).symm) (am_sub_cons rfl (am_sub_cons rfl (am_sub_cons rfl am_sub_nil))) rfl
      · refine am_Ev.f hcd (c := p4.2 115 a0.toNatClampNeg = p4.2 7 a0.toNatClampNeg) (s1 := (38, [(0, .ref 0), (1, .int a0), (2, .int s3.1)], [], am_SH, (p4.2, g))) rfl c28 ?_
        refine am_Ev.go hcd 1 (s' := (39, [(0, .ref 0), (1, .int a0), (2, .int s3.1)], [.int s3.1], am_SH, (p4.2, g))) rfl ?_
        exact am_Ev.cast (a := ((some (.int (s3.1, p4.2).1)), am_SH, ((s3.1, p4.2).2, g))) (hZ3 _ (Option.some.inj h).symm) (am_Ev.ret hcd rfl)
  · refine am_Ev.t hcd (c := am_b (xc_hasGlass_2 a0 f) = 0) (s1 := (6, [(0, .ref 0), (1, .int a0)], [], am_SH, (f, g))) rfl (am_b_f c4) ?_
    refine am_Ev.go hcd 1 (s' := (7, [(0, .ref 0), (1, .int a0)], [.int (-1)], am_SH, (f, g))) rfl ?_
    exact am_Ev.cast (a := ((some (.int ((-1), f).1)), am_SH, (((-1), f).2, g))) (by cases h; rfl) (am_Ev.ret hcd rfl)
set_option maxRecDepth 100000 in
set_option maxHeartbeats 4000000 in
theorem xb_lawTells_110_ok {sc : Nat × (Nat → Int32)} (d : Nat) (a0 : Int32) (a1 : Int32) (f g : (Nat → Nat → Int32)) (r : Int32 × (Nat → Nat → Int32)) (h : xb_lawTells_110 a0 a1 f = some r) : am_Ev sc (d + 3) 11 (0, [(0, .ref 120), (1, .ref 110), (2, .int a0), (3, .int a1)], [], am_SH, (f, g)) ((some (.int r.1)), am_SH, (r.2, g)) := by
  have hcd : am_code 11 = am_c11 := rfl
  unfold xb_lawTells_110 at h
  refine am_Ev.go hcd 3 (s' := (3, [(0, .ref 120), (1, .ref 110), (2, .int a0), (3, .int a1)], [.int a0, .ref 110, .ref 120], am_SH, (f, g))) rfl ?_
  obtain ⟨p1, hp1, h⟩ := am_bind_some h
  refine am_Ev.call hcd (a := 13) (s0 := (0, [(0, .ref 120), (1, .ref 110), (2, .int a0)], [], am_SH, (f, g))) (q := (none, am_SH, (p1, g))) (s1 := (4, [(0, .ref 120), (1, .ref 110), (2, .int a0), (3, .int a1)], [], am_SH, (p1, g))) rfl rfl (xb_behold_110_ok (d) a0 f g p1 hp1) ?_
  refine am_Ev.go hcd 2 (s' := (6, [(0, .ref 120), (1, .ref 110), (2, .int a0), (3, .int a1)], [.int a1, .ref 120], am_SH, (p1, g))) rfl ?_
  obtain ⟨p2, hp2, h⟩ := am_bind_some h
  refine am_Ev.call hcd (a := 14) (s0 := (0, [(0, .ref 120), (1, .int a1)], [], am_SH, (p1, g))) (q := ((some (.int p2.1)), am_SH, (p2.2, g))) (s1 := (7, [(0, .ref 120), (1, .ref 110), (2, .int a0), (3, .int a1)], [.int p2.1], am_SH, (p2.2, g))) rfl rfl (xb_told_ok (d) a1 p1 g p2 hp2) ?_
  exact am_Ev.cast (a := ((some (.int (p2.1, p2.2).1)), am_SH, ((p2.1, p2.2).2, g))) (by cases h; rfl) (am_Ev.ret hcd rfl)
set_option maxRecDepth 100000 in
set_option maxHeartbeats 4000000 in
theorem x_hottest_ok {sc : Nat × (Nat → Int32)} (d : Nat) (a0 : Int32) (a1 : Int32) (f g : (Nat → Nat → Int32)) (r : Int32 × (Nat → Nat → Int32)) (h : x_hottest a0 a1 f = some r) : am_Ev sc (d + 4) 143 (0, [(0, .ref 0), (1, .int a0), (2, .int a1)], [], am_SH, (f, g)) ((some (.int r.1)), am_SH, (r.2, g)) := by
  have hcd : am_code 143 = am_c143 := rfl
  unfold x_hottest at h
  refine am_Ev.go hcd 4 (s' := (4, [(0, .ref 0), (1, .int a0), (2, .int a1)], [.int a0, .ref 2], am_SH, (f, g))) rfl ?_
  refine am_Ev.call hcd (a := 22) (s0 := (0, [(0, .ref 2), (1, .int a0)], [], am_SH, (f, g))) (q := ((some (.int (am_b (xc_hasGlass_2 a0 f)))), am_SH, (f, g))) (s1 := (5, [(0, .ref 0), (1, .int a0), (2, .int a1)], [.int (am_b (xc_hasGlass_2 a0 f))], am_SH, (f, g))) rfl rfl (xc_hasGlass_2_ok (d + 3) a0 f g) ?_
  rcases am_ite h with ⟨c4, h⟩ | ⟨c4, h⟩
  · refine am_Ev.f hcd (c := am_b (xc_hasGlass_2 a0 f) = 0) (s1 := (6, [(0, .ref 0), (1, .int a0), (2, .int a1)], [], am_SH, (f, g))) rfl (am_b_t c4) ?_
    refine am_Ev.go hcd 5 (s' := (11, [(0, .ref 0), (1, .int a0), (2, .int a1)], [.int a0, .ref 5], am_SH, (f, g))) rfl ?_
    obtain ⟨c6, h⟩ := am_grd h
    refine am_Ev.t hcd (o := none) (c := am_in a0 6 = true) (s1 := (12, [(0, .ref 0), (1, .int a0), (2, .int a1)], [.int (f 5 a0.toNatClampNeg)], am_SH, (f, g))) rfl c6 ?_
    refine am_Ev.go hcd 1 (s' := (13, [(0, .ref 0), (1, .int a0), (2, .int a1)], [.int (-1), .int (f 5 a0.toNatClampNeg)], am_SH, (f, g))) rfl ?_
    rcases am_ite h with ⟨c9, h⟩ | ⟨c9, h⟩
    · refine am_Ev.t hcd (c := f 5 a0.toNatClampNeg = (-1)) (s1 := (19, [(0, .ref 0), (1, .int a0), (2, .int a1)], [], am_SH, (f, g))) rfl c9 ?_
      refine am_Ev.go hcd 1 (s' := (20, [(0, .ref 0), (1, .int a0), (2, .int a1)], [.int (-1)], am_SH, (f, g))) rfl ?_
      exact am_Ev.cast (a := ((some (.int ((-1), f).1)), am_SH, (((-1), f).2, g))) (by cases h; rfl) (am_Ev.ret hcd rfl)
    · refine am_Ev.f hcd (c := f 5 a0.toNatClampNeg = (-1)) (s1 := (14, [(0, .ref 0), (1, .int a0), (2, .int a1)], [], am_SH, (f, g))) rfl c9 ?_
      refine am_Ev.go hcd 3 (s' := (17, [(0, .ref 0), (1, .int a0), (2, .int a1)], [.int 1, .int 0, .int a1], am_SH, (f, g))) rfl ?_
      refine am_Ev.call hcd (a := 170) (s0 := (0, [(0, .int a1), (1, .int 0), (2, .int 1)], [], am_SH, (f, g))) (q := ((some (.int (am_b (x_within a1 0 1)))), am_SH, (f, g))) (s1 := (18, [(0, .ref 0), (1, .int a0), (2, .int a1)], [.int (am_b (x_within a1 0 1))], am_SH, (f, g))) rfl rfl (x_within_ok (d + 3) a1 0 1 (f, g)) ?_
      rcases am_ite h with ⟨c17, h⟩ | ⟨c17, h⟩
      · refine am_Ev.f hcd (c := am_b (x_within a1 0 1) = 0) (s1 := (21, [(0, .ref 0), (1, .int a0), (2, .int a1)], [], am_SH, (f, g))) rfl (am_b_t c17) ?_
        refine am_Ev.go hcd 5 (s' := (26, [(0, .ref 0), (1, .int a0), (2, .int a1)], [.ref 2, .ref 110], am_SH, (f, g))) rfl ?_
        obtain ⟨p3, Ep3, h⟩ := am_let_eq h
        refine am_Ev.call hcd (a := 30) (s0 := (0, [(0, .ref 110), (1, .ref 2)], [], am_SH, (f, g))) (q := (none, am_SH, (p3, g))) (s1 := (27, [(0, .ref 0), (1, .int a0), (2, .int a1)], [], am_SH, (p3, g))) rfl rfl (by subst Ep3; exact xc_takeFrom_110_2_ok (d + 2)  f g) ?_
        refine am_Ev.go hcd 6 (s' := (33, [(0, .ref 0), (1, .int a0), (2, .int a1), (3, .int (-1)), (4, .int (-1)), (5, .int 0)], [], am_SH, (p3, g))) rfl ?_
        obtain ⟨e9, he9, h⟩ := am_bind_some h
        have hK4 : (fun (e9 : Int32 × Int32 × (Nat → Nat → Int32)) => am_Ev sc (d + 4) 143 (59, [(2, .int a1), (3, .int e9.1), (4, .int e9.2.1)], [], am_SH, (e9.2.2, g)) ((some (.int r.1)), am_SH, (r.2, g))) e9 := by
          show am_Ev sc (d + 4) 143 (59, [(2, .int a1), (3, .int e9.1), (4, .int e9.2.1)], [], am_SH, (e9.2.2, g)) ((some (.int r.1)), am_SH, (r.2, g))
          refine am_Ev.go hcd 1 (s' := (60, [(2, .int a1), (3, .int e9.1), (4, .int e9.2.1)], [.int a1], am_SH, (e9.2.2, g))) rfl ?_
          rcases am_ite h with ⟨c26, h⟩ | ⟨c26, h⟩
          · refine am_Ev.t hcd (c := a1 = 0) (s1 := (61, [(2, .int a1), (3, .int e9.1), (4, .int e9.2.1)], [], am_SH, (e9.2.2, g))) rfl c26 ?_
            refine am_Ev.go hcd 2 (s' := (64, [(2, .int a1), (3, .int e9.1), (4, .int e9.2.1)], [.int e9.2.1], am_SH, (e9.2.2, g))) rfl ?_
            exact am_Ev.cast (a := ((some (.int (e9.2.1, e9.2.2).1)), am_SH, ((e9.2.1, e9.2.2).2, g))) (by cases h; rfl) (am_Ev.ret hcd rfl)
          · refine am_Ev.f hcd (c := a1 = 0) (s1 := (63, [(2, .int a1), (3, .int e9.1), (4, .int e9.2.1)], [], am_SH, (e9.2.2, g))) rfl c26 ?_
            refine am_Ev.go hcd 1 (s' := (64, [(2, .int a1), (3, .int e9.1), (4, .int e9.2.1)], [.int e9.1], am_SH, (e9.2.2, g))) rfl ?_
            exact am_Ev.cast (a := ((some (.int (e9.1, e9.2.2).1)), am_SH, ((e9.1, e9.2.2).2, g))) (by cases h; rfl) (am_Ev.ret hcd rfl)
        refine am_Ev.weak' (am_loop_ok (G := fun (s4 : Int32 × Int32 × Int32 × (Nat → Nat → Int32)) => am_Ev sc (d + 4) 143 (33, [(0, .ref 0), (1, .int a0), (2, .int a1), (3, .int s4.1), (4, .int s4.2.1), (5, .int s4.2.2.1)], [], am_SH, (s4.2.2.2, g)) ((some (.int r.1)), am_SH, (r.2, g))) (Z := fun (e9 : Int32 × Int32 × (Nat → Nat → Int32)) => am_Ev sc (d + 4) 143 (59, [(2, .int a1), (3, .int e9.1), (4, .int e9.2.1)], [], am_SH, (e9.2.2, g)) ((some (.int r.1)), am_SH, (r.2, g))) ?_ am_F ((-1), (-1), 0, p3) e9 he9 hK4) (am_sub_cons rfl (am_sub_cons rfl (am_sub_cons rfl (am_sub_cons rfl (am_sub_cons rfl (am_sub_cons rfl am_sub_nil)))))) rfl
        intro s4 q4 h hI4 hZ4
        show am_Ev sc (d + 4) 143 (33, [(0, .ref 0), (1, .int a0), (2, .int a1), (3, .int s4.1), (4, .int s4.2.1), (5, .int s4.2.2.1)], [], am_SH, (s4.2.2.2, g)) ((some (.int r.1)), am_SH, (r.2, g))
        refine am_Ev.go hcd 2 (s' := (35, [(0, .ref 0), (1, .int a0), (2, .int a1), (3, .int s4.1), (4, .int s4.2.1), (5, .int s4.2.2.1)], [.int 16, .int s4.2.2.1], am_SH, (s4.2.2.2, g))) rfl ?_
        rcases am_ite h with ⟨c37, h⟩ | ⟨c37, h⟩
        · refine am_Ev.t hcd (c := s4.2.2.1 < 16) (s1 := (36, [(0, .ref 0), (1, .int a0), (2, .int a1), (3, .int s4.1), (4, .int s4.2.1), (5, .int s4.2.2.1)], [], am_SH, (s4.2.2.2, g))) rfl c37 ?_
          refine am_Ev.go hcd 5 (s' := (41, [(0, .ref 0), (1, .int a0), (2, .int a1), (3, .int s4.1), (4, .int s4.2.1), (5, .int s4.2.2.1)], [.int s4.2.2.1, .int a0, .ref 114], am_SH, (s4.2.2.2, g))) rfl ?_
          obtain ⟨c40, h⟩ := am_grd h
          obtain ⟨f5, Ef5, h⟩ := am_let_eq h
          refine am_Ev.t hcd (o := none) (c := am_in a0 6 = true) (s1 := (42, [(0, .ref 0), (1, .int a0), (2, .int a1), (3, .int s4.1), (4, .int s4.2.1), (5, .int s4.2.2.1)], [], am_SH, (f5, g))) (by subst Ef5; exact rfl) c40 ?_
          refine am_Ev.go hcd 6 (s' := (48, [(0, .ref 0), (1, .int a0), (2, .int a1), (3, .int s4.1), (4, .int s4.2.1), (5, .int s4.2.2.1)], [.int 0, .int a0, .ref 110, .ref 120], am_SH, (f5, g))) rfl ?_
          obtain ⟨p6, hp6, h⟩ := am_bind_some h
          refine am_Ev.call hcd (a := 11) (s0 := (0, [(0, .ref 120), (1, .ref 110), (2, .int a0), (3, .int 0)], [], am_SH, (f5, g))) (q := ((some (.int p6.1)), am_SH, (p6.2, g))) (s1 := (49, [(0, .ref 0), (1, .int a0), (2, .int a1), (3, .int s4.1), (4, .int s4.2.1), (5, .int s4.2.2.1)], [.int p6.1], am_SH, (p6.2, g))) rfl rfl (xb_lawTells_110_ok (d) a0 0 f5 g p6 hp6) ?_
          obtain ⟨t7, ht7, kt7⟩ := am_let_eq h
          have hKt7 : am_Ev sc (d + 4) 143 (57, [(0, .ref 0), (1, .int a0), (2, .int a1), (3, .int t7.1), (4, .int t7.2), (5, .int s4.2.2.1)], [], am_SH, (p6.2, g)) ((some (.int r.1)), am_SH, (r.2, g)) := by
            have h := kt7
            obtain ⟨t8, Et8, h⟩ := am_let_eq h
            refine am_Ev.go hcd 1 (s' := (58, [(0, .ref 0), (1, .int a0), (2, .int a1), (3, .int t7.1), (4, .int t7.2), (5, .int t8)], [], am_SH, (p6.2, g))) (by subst Et8; exact rfl) ?_
            refine am_Ev.go hcd 1 (s' := (33, [(0, .ref 0), (1, .int a0), (2, .int a1), (3, .int t7.1), (4, .int t7.2), (5, .int t8)], [], am_SH, (p6.2, g))) rfl ?_
            exact am_Ev.weak' (hI4 (t7.1, t7.2, t8, p6.2) (Option.some.inj h).symm) (am_sub_cons rfl (am_sub_cons rfl (am_sub_cons rfl (am_sub_cons rfl (am_sub_cons rfl (am_sub_cons rfl am_sub_nil)))))) rfl
          have hLt7 : ∀ tt, tt = t7 → am_Ev sc (d + 4) 143 (57, [(0, .ref 0), (1, .int a0), (2, .int a1), (3, .int tt.1), (4, .int tt.2), (5, .int s4.2.2.1)], [], am_SH, (p6.2, g)) ((some (.int r.1)), am_SH, (r.2, g)) := fun tt htt => by subst htt; exact hKt7
          have h := ht7
          refine am_Ev.go hcd 3 (s' := (52, [(0, .ref 0), (1, .int a0), (2, .int a1), (3, .int s4.1), (4, .int s4.2.1), (5, .int s4.2.2.1), (6, .int p6.1)], [.int s4.1, .int p6.1], am_SH, (p6.2, g))) rfl ?_
          rcases am_itv h with ⟨c56, h⟩ | ⟨c56, h⟩
          · refine am_Ev.t hcd (c := s4.1 < p6.1) (s1 := (53, [(0, .ref 0), (1, .int a0), (2, .int a1), (3, .int s4.1), (4, .int s4.2.1), (5, .int s4.2.2.1), (6, .int p6.1)], [], am_SH, (p6.2, g))) rfl c56 ?_
            refine am_Ev.go hcd 4 (s' := (57, [(0, .ref 0), (1, .int a0), (2, .int a1), (3, .int p6.1), (4, .int s4.2.2.1), (5, .int s4.2.2.1), (6, .int p6.1)], [], am_SH, (p6.2, g))) rfl ?_
            exact am_Ev.weak' (hLt7 (p6.1, s4.2.2.1) h.symm) (am_sub_cons rfl (am_sub_cons rfl (am_sub_cons rfl (am_sub_cons rfl (am_sub_cons rfl (am_sub_cons rfl am_sub_nil)))))) rfl
          · refine am_Ev.f hcd (c := s4.1 < p6.1) (s1 := (57, [(0, .ref 0), (1, .int a0), (2, .int a1), (3, .int s4.1), (4, .int s4.2.1), (5, .int s4.2.2.1), (6, .int p6.1)], [], am_SH, (p6.2, g))) rfl c56 ?_
            exact am_Ev.weak' (hLt7 (s4.1, s4.2.1) h.symm) (am_sub_cons rfl (am_sub_cons rfl (am_sub_cons rfl (am_sub_cons rfl (am_sub_cons rfl (am_sub_cons rfl am_sub_nil)))))) rfl
        · refine am_Ev.f hcd (c := s4.2.2.1 < 16) (s1 := (59, [(0, .ref 0), (1, .int a0), (2, .int a1), (3, .int s4.1), (4, .int s4.2.1), (5, .int s4.2.2.1)], [], am_SH, (s4.2.2.2, g))) rfl c37 ?_
          exact am_Ev.weak' (hZ4 (s4.1, s4.2.1, s4.2.2.2) (Option.some.inj h).symm) (am_sub_cons rfl (am_sub_cons rfl (am_sub_cons rfl am_sub_nil))) rfl
      · refine am_Ev.t hcd (c := am_b (x_within a1 0 1) = 0) (s1 := (19, [(0, .ref 0), (1, .int a0), (2, .int a1)], [], am_SH, (f, g))) rfl (am_b_f c17) ?_
        refine am_Ev.go hcd 1 (s' := (20, [(0, .ref 0), (1, .int a0), (2, .int a1)], [.int (-1)], am_SH, (f, g))) rfl ?_
        exact am_Ev.cast (a := ((some (.int ((-1), f).1)), am_SH, (((-1), f).2, g))) (by cases h; rfl) (am_Ev.ret hcd rfl)
  · refine am_Ev.t hcd (c := am_b (xc_hasGlass_2 a0 f) = 0) (s1 := (19, [(0, .ref 0), (1, .int a0), (2, .int a1)], [], am_SH, (f, g))) rfl (am_b_f c4) ?_
    refine am_Ev.go hcd 1 (s' := (20, [(0, .ref 0), (1, .int a0), (2, .int a1)], [.int (-1)], am_SH, (f, g))) rfl ?_
    exact am_Ev.cast (a := ((some (.int ((-1), f).1)), am_SH, (((-1), f).2, g))) (by cases h; rfl) (am_Ev.ret hcd rfl)
set_option maxRecDepth 100000 in
set_option maxHeartbeats 4000000 in
theorem xr_clearAll_27_ok {sc : Nat × (Nat → Int32)} (d : Nat)  (f g : (Nat → Nat → Int32)) : am_Ev sc (d) 86 (0, [(0, .ref 27)], [], am_SH, (f, g)) ((some (.int (xr_clearAll_27  f).1)), am_SH, ((xr_clearAll_27  f).2, g)) := by
  have hcd : am_code 86 = am_c86 := rfl
  obtain ⟨r, h⟩ : ∃ r, r = xr_clearAll_27  f := ⟨_, rfl⟩
  rw [← h]
  unfold xr_clearAll_27 at h
  obtain ⟨f1, Ef1, h⟩ := am_let_eq' h
  refine am_Ev.go hcd 3 (s' := (3, [(0, .ref 27)], [], am_SH, (f1, g))) (by subst Ef1; exact rfl) ?_
  refine am_Ev.go hcd 2 (s' := (5, [(0, .ref 27)], [.int (f1 27 0)], am_SH, (f1, g))) rfl ?_
  exact am_Ev.cast (a := ((some (.int (f1 27 0, f1).1)), am_SH, ((f1 27 0, f1).2, g))) (by subst h; rfl) (am_Ev.ret hcd rfl)
set_option maxRecDepth 100000 in
set_option maxHeartbeats 4000000 in
theorem xr_append_27_ok {sc : Nat × (Nat → Int32)} (d : Nat) (a0 : Int32) (a1 : Int32) (f g : (Nat → Nat → Int32)) (r : Int32 × (Nat → Nat → Int32)) (h : xr_append_27 a0 a1 f = some r) : am_Ev sc (d) 85 (0, [(0, .ref 27), (1, .int a0), (2, .int a1)], [], am_SH, (f, g)) ((some (.int r.1)), am_SH, (r.2, g)) := by
  have hcd : am_code 85 = am_c85 := rfl
  unfold xr_append_27 at h
  refine am_Ev.go hcd 5 (s' := (5, [(0, .ref 27), (1, .int a0), (2, .int a1)], [.int (nI 8), .int (f 27 0)], am_SH, (f, g))) rfl ?_
  rcases am_ite h with ⟨c2, h⟩ | ⟨c2, h⟩
  · refine am_Ev.t hcd (c := f 27 0 < (nI 8)) (s1 := (8, [(0, .ref 27), (1, .int a0), (2, .int a1)], [], am_SH, (f, g))) rfl c2 ?_
    refine am_Ev.go hcd 5 (s' := (13, [(0, .ref 27), (1, .int a0), (2, .int a1)], [.int a0, .int (f 27 0), .ref 28], am_SH, (f, g))) rfl ?_
    obtain ⟨c5, h⟩ := am_grd h
    obtain ⟨f1, Ef1, h⟩ := am_let_eq h
    refine am_Ev.t hcd (o := none) (c := am_in (f 27 0) 8 = true) (s1 := (14, [(0, .ref 27), (1, .int a0), (2, .int a1)], [], am_SH, (f1, g))) (by subst Ef1; exact rfl) c5 ?_
    refine am_Ev.go hcd 5 (s' := (19, [(0, .ref 27), (1, .int a0), (2, .int a1)], [.int a1, .int (f1 27 0), .ref 29], am_SH, (f1, g))) rfl ?_
    obtain ⟨c9, h⟩ := am_grd h
    obtain ⟨f2, Ef2, h⟩ := am_let_eq h
    refine am_Ev.t hcd (o := none) (c := am_in (f1 27 0) 8 = true) (s1 := (20, [(0, .ref 27), (1, .int a0), (2, .int a1)], [], am_SH, (f2, g))) (by subst Ef2; exact rfl) c9 ?_
    obtain ⟨f3, Ef3, h⟩ := am_let_eq h
    refine am_Ev.go hcd 6 (s' := (26, [(0, .ref 27), (1, .int a0), (2, .int a1)], [], am_SH, (f3, g))) (by subst Ef3; exact rfl) ?_
    refine am_Ev.go hcd 2 (s' := (28, [(0, .ref 27), (1, .int a0), (2, .int a1)], [.int (f3 27 0)], am_SH, (f3, g))) rfl ?_
    exact am_Ev.cast (a := ((some (.int (f3 27 0, f3).1)), am_SH, ((f3 27 0, f3).2, g))) (by cases h; rfl) (am_Ev.ret hcd rfl)
  · refine am_Ev.f hcd (c := f 27 0 < (nI 8)) (s1 := (6, [(0, .ref 27), (1, .int a0), (2, .int a1)], [], am_SH, (f, g))) rfl c2 ?_
    refine am_Ev.go hcd 1 (s' := (7, [(0, .ref 27), (1, .int a0), (2, .int a1)], [.int (-1)], am_SH, (f, g))) rfl ?_
    exact am_Ev.cast (a := ((some (.int ((-1), f).1)), am_SH, (((-1), f).2, g))) (by cases h; rfl) (am_Ev.ret hcd rfl)
