set_option maxRecDepth 100000 in
set_option maxHeartbeats 4000000 in
theorem xb_told_ok {sc : Nat × (Nat → Int32)} (d : Nat) (a0 : Int32) (f g : (Nat → Nat → Int32)) (r : Int32 × (Nat → Nat → Int32)) (h : xb_told a0 f = some r) : am_Ev sc (d + 2) 14 (0, [(0, .ref 120), (1, .int a0)], [], am_SH, (f, g)) ((some (.int r.1)), am_SH, (r.2, g)) := by
  have hcd : am_code 14 = am_c14 := rfl
  unfold xb_told at h
  obtain ⟨t1, ht1, kt1⟩ := am_let_eq h
  have hKt1 : am_Ev sc (d + 2) 14 (6, [(0, .ref 120), (1, .int a0)], [.int t1], am_SH, (f, g)) ((some (.int r.1)), am_SH, (r.2, g)) := by
    have h := kt1
    refine am_Ev.go hcd 7 (s' := (13, [(0, .ref 120), (1, .int a0), (2, .int t1), (3, .ref 14), (4, .int 0)], [], am_SH, (f, g))) rfl ?_
    obtain ⟨e9, he9, h⟩ := am_bind_some h
    have hK2 : (fun (v : (Int32 × (Nat → Nat → Int32)) ⊕ ((Nat → Nat → Int32))) => v.elim (fun (v : Int32 × (Nat → Nat → Int32)) => (((some (.int v.1)), am_SH, (v.2, g)) : am_R) = ((some (.int r.1)), am_SH, (r.2, g))) (fun (e10 : (Nat → Nat → Int32)) => am_Ev sc (d + 2) 14 (66, [(0, .ref 120), (1, .int a0)], [], am_SH, (e10, g)) ((some (.int r.1)), am_SH, (r.2, g)))) e9 := by
      cases e9 with
      | inl v => exact (by cases h; rfl)
      | inr e10 =>
        have h := am_elim_r h
        show am_Ev sc (d + 2) 14 (66, [(0, .ref 120), (1, .int a0)], [], am_SH, (e10, g)) ((some (.int r.1)), am_SH, (r.2, g))
        refine am_Ev.go hcd 1 (s' := (67, [(0, .ref 120), (1, .int a0)], [.int a0], am_SH, (e10, g))) rfl ?_
        rcases am_ite h with ⟨c13, h⟩ | ⟨c13, h⟩
        · refine am_Ev.t hcd (c := a0 = 0) (s1 := (68, [(0, .ref 120), (1, .int a0)], [], am_SH, (e10, g))) rfl c13 ?_
          refine am_Ev.go hcd 14 (s' := (82, [(0, .ref 120), (1, .int a0)], [.int ((3 * (e10 121 7)) - (2 * (e10 121 8))), .int 0], am_SH, (e10, g))) rfl ?_
          refine am_Ev.jdk hcd (s1 := (83, [(0, .ref 120), (1, .int a0)], [.int (am_max 0 ((3 * (e10 121 7)) - (2 * (e10 121 8))))], am_SH, (e10, g))) rfl ?_
          exact am_Ev.cast (a := ((some (.int ((am_max 0 ((3 * (e10 121 7)) - (2 * (e10 121 8)))), e10).1)), am_SH, (((am_max 0 ((3 * (e10 121 7)) - (2 * (e10 121 8)))), e10).2, g))) (by cases h; rfl) (am_Ev.ret hcd rfl)
        · refine am_Ev.f hcd (c := a0 = 0) (s1 := (84, [(0, .ref 120), (1, .int a0)], [], am_SH, (e10, g))) rfl c13 ?_
          refine am_Ev.go hcd 2 (s' := (86, [(0, .ref 120), (1, .int a0)], [.int 1, .int a0], am_SH, (e10, g))) rfl ?_
          rcases am_ite h with ⟨c20, h⟩ | ⟨c20, h⟩
          · refine am_Ev.t hcd (c := a0 = 1) (s1 := (87, [(0, .ref 120), (1, .int a0)], [], am_SH, (e10, g))) rfl c20 ?_
            refine am_Ev.go hcd 2 (s' := (90, [(0, .ref 120), (1, .int a0)], [.int 0], am_SH, (e10, g))) rfl ?_
            exact am_Ev.cast (a := ((some (.int (0, e10).1)), am_SH, ((0, e10).2, g))) (by cases h; rfl) (am_Ev.ret hcd rfl)
          · refine am_Ev.f hcd (c := a0 = 1) (s1 := (89, [(0, .ref 120), (1, .int a0)], [], am_SH, (e10, g))) rfl c20 ?_
            refine am_Ev.go hcd 1 (s' := (90, [(0, .ref 120), (1, .int a0)], [.int 5], am_SH, (e10, g))) rfl ?_
            exact am_Ev.cast (a := ((some (.int (5, e10).1)), am_SH, ((5, e10).2, g))) (by cases h; rfl) (am_Ev.ret hcd rfl)
    refine am_Ev.weak' (am_loop_ok (G := fun (s2 : Int32 × (Nat → Nat → Int32)) => am_Ev sc (d + 2) 14 (13, [(0, .ref 120), (1, .int a0), (2, .int t1), (3, .ref 14), (4, .int s2.1)], [], am_SH, (s2.2, g)) ((some (.int r.1)), am_SH, (r.2, g))) (Z := fun (v : (Int32 × (Nat → Nat → Int32)) ⊕ ((Nat → Nat → Int32))) => v.elim (fun (v : Int32 × (Nat → Nat → Int32)) => (((some (.int v.1)), am_SH, (v.2, g)) : am_R) = ((some (.int r.1)), am_SH, (r.2, g))) (fun (e10 : (Nat → Nat → Int32)) => am_Ev sc (d + 2) 14 (66, [(0, .ref 120), (1, .int a0)], [], am_SH, (e10, g)) ((some (.int r.1)), am_SH, (r.2, g)))) ?_ am_F (0, f) e9 he9 hK2) (am_sub_cons rfl (am_sub_cons rfl (am_sub_cons rfl (am_sub_cons rfl (am_sub_cons rfl am_sub_nil))))) rfl
    intro s2 q2 h hI2 hZ2
    show am_Ev sc (d + 2) 14 (13, [(0, .ref 120), (1, .int a0), (2, .int t1), (3, .ref 14), (4, .int s2.1)], [], am_SH, (s2.2, g)) ((some (.int r.1)), am_SH, (r.2, g))
    refine am_Ev.go hcd 3 (s' := (16, [(0, .ref 120), (1, .int a0), (2, .int t1), (3, .ref 14), (4, .int s2.1)], [.int (s2.2 14 0), .int s2.1], am_SH, (s2.2, g))) rfl ?_
    rcases am_ite h with ⟨c31, h⟩ | ⟨c31, h⟩
    · refine am_Ev.t hcd (c := s2.1 < s2.2 14 0) (s1 := (17, [(0, .ref 120), (1, .int a0), (2, .int t1), (3, .ref 14), (4, .int s2.1)], [], am_SH, (s2.2, g))) rfl c31 ?_
      refine am_Ev.go hcd 3 (s' := (20, [(0, .ref 120), (1, .int a0), (2, .int t1), (3, .ref 14), (4, .int s2.1)], [.int s2.1, .ref 16], am_SH, (s2.2, g))) rfl ?_
      obtain ⟨c34, h⟩ := am_grd h
      refine am_Ev.t hcd (o := none) (c := am_in s2.1 16 = true) (s1 := (21, [(0, .ref 120), (1, .int a0), (2, .int t1), (3, .ref 14), (4, .int s2.1)], [.int (s2.2 16 s2.1.toNatClampNeg)], am_SH, (s2.2, g))) rfl c34 ?_
      obtain ⟨t3, ht3, kt3⟩ := am_let_eq h
      have hKt3 : am_Ev sc (d + 2) 14 (26, [(0, .ref 120), (1, .int a0), (2, .int t1), (3, .ref 14), (4, .int s2.1)], [.int (am_b t3)], am_SH, (s2.2, g)) ((some (.int r.1)), am_SH, (r.2, g)) := by
        have h := kt3
        refine am_Ev.go hcd 2 (s' := (28, [(0, .ref 120), (1, .int a0), (2, .int t1), (3, .ref 14), (4, .int s2.1), (5, .int (am_b t3))], [.int (am_b t3)], am_SH, (s2.2, g))) rfl ?_
        rcases am_ite h with ⟨c40, h⟩ | ⟨c40, h⟩
        · refine am_Ev.f hcd (c := am_b t3 = 0) (s1 := (29, [(0, .ref 120), (1, .int a0), (2, .int t1), (3, .ref 14), (4, .int s2.1), (5, .int (am_b t3))], [], am_SH, (s2.2, g))) rfl (am_b_t c40) ?_
          refine am_Ev.go hcd 3 (s' := (32, [(0, .ref 120), (1, .int a0), (2, .int t1), (3, .ref 14), (4, .int s2.1), (5, .int (am_b t3))], [.int s2.1, .ref 18], am_SH, (s2.2, g))) rfl ?_
          obtain ⟨c43, h⟩ := am_grd h
          refine am_Ev.t hcd (o := none) (c := am_in s2.1 16 = true) (s1 := (33, [(0, .ref 120), (1, .int a0), (2, .int t1), (3, .ref 14), (4, .int s2.1), (5, .int (am_b t3))], [.int (s2.2 18 s2.1.toNatClampNeg)], am_SH, (s2.2, g))) rfl c43 ?_
          refine am_Ev.go hcd 3 (s' := (36, [(0, .ref 120), (1, .int a0), (2, .int t1), (3, .ref 14), (4, .int s2.1), (5, .int (am_b t3))], [.int s2.1, .ref 19, .int (s2.2 18 s2.1.toNatClampNeg)], am_SH, (s2.2, g))) rfl ?_
          obtain ⟨c46, h⟩ := am_grd h
          refine am_Ev.t hcd (o := none) (c := am_in s2.1 16 = true) (s1 := (37, [(0, .ref 120), (1, .int a0), (2, .int t1), (3, .ref 14), (4, .int s2.1), (5, .int (am_b t3))], [.int (s2.2 19 s2.1.toNatClampNeg), .int (s2.2 18 s2.1.toNatClampNeg)], am_SH, (s2.2, g))) rfl c46 ?_
          rcases am_ite h with ⟨c49, h⟩ | ⟨c49, h⟩
          · refine am_Ev.t hcd (c := s2.2 18 s2.1.toNatClampNeg = s2.2 19 s2.1.toNatClampNeg) (s1 := (49, [(0, .ref 120), (1, .int a0), (2, .int t1), (3, .ref 14), (4, .int s2.1), (5, .int (am_b t3))], [], am_SH, (s2.2, g))) rfl c49 ?_
            refine am_Ev.go hcd 6 (s' := (55, [(0, .ref 120), (1, .int a0), (2, .int t1), (3, .ref 14), (4, .int s2.1), (5, .int (am_b t3))], [.int s2.1, .ref 17, .ref 120, .int t1, .int 0], am_SH, (s2.2, g))) rfl ?_
            obtain ⟨c51, h⟩ := am_grd h
            refine am_Ev.t hcd (o := none) (c := am_in s2.1 16 = true) (s1 := (56, [(0, .ref 120), (1, .int a0), (2, .int t1), (3, .ref 14), (4, .int s2.1), (5, .int (am_b t3))], [.int (s2.2 17 s2.1.toNatClampNeg), .ref 120, .int t1, .int 0], am_SH, (s2.2, g))) rfl c51 ?_
            refine am_Ev.go hcd 3 (s' := (59, [(0, .ref 120), (1, .int a0), (2, .int t1), (3, .ref 14), (4, .int s2.1), (5, .int (am_b t3))], [.int s2.1, .ref 18, .int (s2.2 17 s2.1.toNatClampNeg), .ref 120, .int t1, .int 0], am_SH, (s2.2, g))) rfl ?_
            obtain ⟨c54, h⟩ := am_grd h
            refine am_Ev.t hcd (o := none) (c := am_in s2.1 16 = true) (s1 := (60, [(0, .ref 120), (1, .int a0), (2, .int t1), (3, .ref 14), (4, .int s2.1), (5, .int (am_b t3))], [.int (s2.2 18 s2.1.toNatClampNeg), .int (s2.2 17 s2.1.toNatClampNeg), .ref 120, .int t1, .int 0], am_SH, (s2.2, g))) rfl c54 ?_
            obtain ⟨p4, hp4, h⟩ := am_bind_some h
            refine am_Ev.call hcd (a := 15) (s0 := (0, [(0, .ref 120), (1, .int (s2.2 17 s2.1.toNatClampNeg)), (2, .int (s2.2 18 s2.1.toNatClampNeg))], [], am_SH, (s2.2, g))) (q := ((some (.int p4.1)), am_SH, (p4.2, g))) (s1 := (61, [(0, .ref 120), (1, .int a0), (2, .int t1), (3, .ref 14), (4, .int s2.1), (5, .int (am_b t3))], [.int p4.1, .int t1, .int 0], am_SH, (p4.2, g))) rfl rfl (xb_valueOf_ok (d) (s2.2 17 s2.1.toNatClampNeg) (s2.2 18 s2.1.toNatClampNeg) s2.2 g p4 hp4) ?_
            refine am_Ev.jdk hcd (s1 := (62, [(0, .ref 120), (1, .int a0), (2, .int t1), (3, .ref 14), (4, .int s2.1), (5, .int (am_b t3))], [.int (am_min t1 p4.1), .int 0], am_SH, (p4.2, g))) rfl ?_
            refine am_Ev.jdk hcd (s1 := (63, [(0, .ref 120), (1, .int a0), (2, .int t1), (3, .ref 14), (4, .int s2.1), (5, .int (am_b t3))], [.int (am_max 0 (am_min t1 p4.1))], am_SH, (p4.2, g))) rfl ?_
            exact am_Ev.cast (a := ((some (.int ((am_max 0 (am_min t1 p4.1)), p4.2).1)), am_SH, (((am_max 0 (am_min t1 p4.1)), p4.2).2, g))) (hZ2 _ (Option.some.inj h).symm) (am_Ev.ret hcd rfl)
          · refine am_Ev.f hcd (c := s2.2 18 s2.1.toNatClampNeg = s2.2 19 s2.1.toNatClampNeg) (s1 := (38, [(0, .ref 120), (1, .int a0), (2, .int t1), (3, .ref 14), (4, .int s2.1), (5, .int (am_b t3))], [], am_SH, (s2.2, g))) rfl c49 ?_
            refine am_Ev.go hcd 4 (s' := (42, [(0, .ref 120), (1, .int a0), (2, .int t1), (3, .ref 14), (4, .int s2.1), (5, .int (am_b t3))], [.int s2.1, .ref 18, .ref 120], am_SH, (s2.2, g))) rfl ?_
            obtain ⟨c63, h⟩ := am_grd h
            refine am_Ev.t hcd (o := none) (c := am_in s2.1 16 = true) (s1 := (43, [(0, .ref 120), (1, .int a0), (2, .int t1), (3, .ref 14), (4, .int s2.1), (5, .int (am_b t3))], [.int (s2.2 18 s2.1.toNatClampNeg), .ref 120], am_SH, (s2.2, g))) rfl c63 ?_
            refine am_Ev.go hcd 3 (s' := (46, [(0, .ref 120), (1, .int a0), (2, .int t1), (3, .ref 14), (4, .int s2.1), (5, .int (am_b t3))], [.int s2.1, .ref 19, .int (s2.2 18 s2.1.toNatClampNeg), .ref 120], am_SH, (s2.2, g))) rfl ?_
            obtain ⟨c66, h⟩ := am_grd h
            refine am_Ev.t hcd (o := none) (c := am_in s2.1 16 = true) (s1 := (47, [(0, .ref 120), (1, .int a0), (2, .int t1), (3, .ref 14), (4, .int s2.1), (5, .int (am_b t3))], [.int (s2.2 19 s2.1.toNatClampNeg), .int (s2.2 18 s2.1.toNatClampNeg), .ref 120], am_SH, (s2.2, g))) rfl c66 ?_
            obtain ⟨p5, hp5, h⟩ := am_bind_some h
            refine am_Ev.call hcd (a := 15) (s0 := (0, [(0, .ref 120), (1, .int (s2.2 18 s2.1.toNatClampNeg)), (2, .int (s2.2 19 s2.1.toNatClampNeg))], [], am_SH, (s2.2, g))) (q := ((some (.int p5.1)), am_SH, (p5.2, g))) (s1 := (48, [(0, .ref 120), (1, .int a0), (2, .int t1), (3, .ref 14), (4, .int s2.1), (5, .int (am_b t3))], [.int p5.1], am_SH, (p5.2, g))) rfl rfl (xb_valueOf_ok (d) (s2.2 18 s2.1.toNatClampNeg) (s2.2 19 s2.1.toNatClampNeg) s2.2 g p5 hp5) ?_
            rcases am_ite h with ⟨c71, h⟩ | ⟨c71, h⟩
            · refine am_Ev.t hcd (c := p5.1 = 0) (s1 := (64, [(0, .ref 120), (1, .int a0), (2, .int t1), (3, .ref 14), (4, .int s2.1), (5, .int (am_b t3))], [], am_SH, (p5.2, g))) rfl c71 ?_
              obtain ⟨t6, Et6, h⟩ := am_let_eq h
              refine am_Ev.go hcd 1 (s' := (65, [(0, .ref 120), (1, .int a0), (2, .int t1), (3, .ref 14), (4, .int t6), (5, .int (am_b t3))], [], am_SH, (p5.2, g))) (by subst Et6; exact rfl) ?_
              refine am_Ev.go hcd 1 (s' := (13, [(0, .ref 120), (1, .int a0), (2, .int t1), (3, .ref 14), (4, .int t6), (5, .int (am_b t3))], [], am_SH, (p5.2, g))) rfl ?_
              exact am_Ev.weak' (hI2 (t6, p5.2) (Option.some.inj h).symm) (am_sub_cons rfl (am_sub_cons rfl (am_sub_cons rfl (am_sub_cons rfl (am_sub_cons rfl am_sub_nil))))) rfl
            · refine am_Ev.f hcd (c := p5.1 = 0) (s1 := (49, [(0, .ref 120), (1, .int a0), (2, .int t1), (3, .ref 14), (4, .int s2.1), (5, .int (am_b t3))], [], am_SH, (p5.2, g))) rfl c71 ?_
              refine am_Ev.go hcd 6 (s' := (55, [(0, .ref 120), (1, .int a0), (2, .int t1), (3, .ref 14), (4, .int s2.1), (5, .int (am_b t3))], [.int s2.1, .ref 17, .ref 120, .int t1, .int 0], am_SH, (p5.2, g))) rfl ?_
              obtain ⟨c78, h⟩ := am_grd h
              refine am_Ev.t hcd (o := none) (c := am_in s2.1 16 = true) (s1 := (56, [(0, .ref 120), (1, .int a0), (2, .int t1), (3, .ref 14), (4, .int s2.1), (5, .int (am_b t3))], [.int (p5.2 17 s2.1.toNatClampNeg), .ref 120, .int t1, .int 0], am_SH, (p5.2, g))) rfl c78 ?_
              refine am_Ev.go hcd 3 (s' := (59, [(0, .ref 120), (1, .int a0), (2, .int t1), (3, .ref 14), (4, .int s2.1), (5, .int (am_b t3))], [.int s2.1, .ref 18, .int (p5.2 17 s2.1.toNatClampNeg), .ref 120, .int t1, .int 0], am_SH, (p5.2, g))) rfl ?_
              obtain ⟨c81, h⟩ := am_grd h
              refine am_Ev.t hcd (o := none) (c := am_in s2.1 16 = true) (s1 := (60, [(0, .ref 120), (1, .int a0), (2, .int t1), (3, .ref 14), (4, .int s2.1), (5, .int (am_b t3))], [.int (p5.2 18 s2.1.toNatClampNeg), .int (p5.2 17 s2.1.toNatClampNeg), .ref 120, .int t1, .int 0], am_SH, (p5.2, g))) rfl c81 ?_
              obtain ⟨p7, hp7, h⟩ := am_bind_some h
              refine am_Ev.call hcd (a := 15) (s0 := (0, [(0, .ref 120), (1, .int (p5.2 17 s2.1.toNatClampNeg)), (2, .int (p5.2 18 s2.1.toNatClampNeg))], [], am_SH, (p5.2, g))) (q := ((some (.int p7.1)), am_SH, (p7.2, g))) (s1 := (61, [(0, .ref 120), (1, .int a0), (2, .int t1), (3, .ref 14), (4, .int s2.1), (5, .int (am_b t3))], [.int p7.1, .int t1, .int 0], am_SH, (p7.2, g))) rfl rfl (xb_valueOf_ok (d) (p5.2 17 s2.1.toNatClampNeg) (p5.2 18 s2.1.toNatClampNeg) p5.2 g p7 hp7) ?_
              refine am_Ev.jdk hcd (s1 := (62, [(0, .ref 120), (1, .int a0), (2, .int t1), (3, .ref 14), (4, .int s2.1), (5, .int (am_b t3))], [.int (am_min t1 p7.1), .int 0], am_SH, (p7.2, g))) rfl ?_
              refine am_Ev.jdk hcd (s1 := (63, [(0, .ref 120), (1, .int a0), (2, .int t1), (3, .ref 14), (4, .int s2.1), (5, .int (am_b t3))], [.int (am_max 0 (am_min t1 p7.1))], am_SH, (p7.2, g))) rfl ?_
              exact am_Ev.cast (a := ((some (.int ((am_max 0 (am_min t1 p7.1)), p7.2).1)), am_SH, (((am_max 0 (am_min t1 p7.1)), p7.2).2, g))) (hZ2 _ (Option.some.inj h).symm) (am_Ev.ret hcd rfl)
        · refine am_Ev.t hcd (c := am_b t3 = 0) (s1 := (64, [(0, .ref 120), (1, .int a0), (2, .int t1), (3, .ref 14), (4, .int s2.1), (5, .int (am_b t3))], [], am_SH, (s2.2, g))) rfl (am_b_f c40) ?_
          obtain ⟨t8, Et8, h⟩ := am_let_eq h
          refine am_Ev.go hcd 1 (s' := (65, [(0, .ref 120), (1, .int a0), (2, .int t1), (3, .ref 14), (4, .int t8), (5, .int (am_b t3))], [], am_SH, (s2.2, g))) (by subst Et8; exact rfl) ?_
          refine am_Ev.go hcd 1 (s' := (13, [(0, .ref 120), (1, .int a0), (2, .int t1), (3, .ref 14), (4, .int t8), (5, .int (am_b t3))], [], am_SH, (s2.2, g))) rfl ?_
          exact am_Ev.weak' (hI2 (t8, s2.2) (Option.some.inj h).symm) (am_sub_cons rfl (am_sub_cons rfl (am_sub_cons rfl (am_sub_cons rfl (am_sub_cons rfl am_sub_nil))))) rfl
      have hLt3 : ∀ tt, tt = t3 → am_Ev sc (d + 2) 14 (26, [(0, .ref 120), (1, .int a0), (2, .int t1), (3, .ref 14), (4, .int s2.1)], [.int (am_b tt)], am_SH, (s2.2, g)) ((some (.int r.1)), am_SH, (r.2, g)) := fun tt htt => by subst htt; exact hKt3
      have h := ht3
      refine am_Ev.go hcd 1 (s' := (22, [(0, .ref 120), (1, .int a0), (2, .int t1), (3, .ref 14), (4, .int s2.1)], [.int a0, .int (s2.2 16 s2.1.toNatClampNeg)], am_SH, (s2.2, g))) rfl ?_
      rcases am_itv h with ⟨c96, h⟩ | ⟨c96, h⟩
      · refine am_Ev.t hcd (c := s2.2 16 s2.1.toNatClampNeg = a0) (s1 := (23, [(0, .ref 120), (1, .int a0), (2, .int t1), (3, .ref 14), (4, .int s2.1)], [], am_SH, (s2.2, g))) rfl c96 ?_
        refine am_Ev.go hcd 2 (s' := (26, [(0, .ref 120), (1, .int a0), (2, .int t1), (3, .ref 14), (4, .int s2.1)], [.int 1], am_SH, (s2.2, g))) rfl ?_
        exact am_Ev.weak' (hLt3 true h.symm) (am_sub_cons rfl (am_sub_cons rfl (am_sub_cons rfl (am_sub_cons rfl (am_sub_cons rfl am_sub_nil))))) rfl
      · refine am_Ev.f hcd (c := s2.2 16 s2.1.toNatClampNeg = a0) (s1 := (25, [(0, .ref 120), (1, .int a0), (2, .int t1), (3, .ref 14), (4, .int s2.1)], [], am_SH, (s2.2, g))) rfl c96 ?_
        refine am_Ev.go hcd 1 (s' := (26, [(0, .ref 120), (1, .int a0), (2, .int t1), (3, .ref 14), (4, .int s2.1)], [.int 0], am_SH, (s2.2, g))) rfl ?_
        exact am_Ev.weak' (hLt3 false h.symm) (am_sub_cons rfl (am_sub_cons rfl (am_sub_cons rfl (am_sub_cons rfl (am_sub_cons rfl am_sub_nil))))) rfl
    · refine am_Ev.f hcd (c := s2.1 < s2.2 14 0) (s1 := (66, [(0, .ref 120), (1, .int a0), (2, .int t1), (3, .ref 14), (4, .int s2.1)], [], am_SH, (s2.2, g))) rfl c31 ?_
      exact am_Ev.weak' (hZ2 (.inr s2.2) (Option.some.inj h).symm) (am_sub_cons rfl (am_sub_cons rfl am_sub_nil)) rfl
  have hLt1 : ∀ tt, tt = t1 → am_Ev sc (d + 2) 14 (6, [(0, .ref 120), (1, .int a0)], [.int tt], am_SH, (f, g)) ((some (.int r.1)), am_SH, (r.2, g)) := fun tt htt => by subst htt; exact hKt1
  have h := ht1
  refine am_Ev.go hcd 2 (s' := (2, [(0, .ref 120), (1, .int a0)], [.int 1, .int a0], am_SH, (f, g))) rfl ?_
  rcases am_itv h with ⟨c108, h⟩ | ⟨c108, h⟩
  · refine am_Ev.t hcd (c := a0 = 1) (s1 := (3, [(0, .ref 120), (1, .int a0)], [], am_SH, (f, g))) rfl c108 ?_
    refine am_Ev.go hcd 2 (s' := (6, [(0, .ref 120), (1, .int a0)], [.int 1000], am_SH, (f, g))) rfl ?_
    exact am_Ev.weak' (hLt1 1000 h.symm) (am_sub_cons rfl (am_sub_cons rfl am_sub_nil)) rfl
  · refine am_Ev.f hcd (c := a0 = 1) (s1 := (5, [(0, .ref 120), (1, .int a0)], [], am_SH, (f, g))) rfl c108 ?_
    refine am_Ev.go hcd 1 (s' := (6, [(0, .ref 120), (1, .int a0)], [.int 99], am_SH, (f, g))) rfl ?_
    exact am_Ev.weak' (hLt1 99 h.symm) (am_sub_cons rfl (am_sub_cons rfl am_sub_nil)) rfl
set_option maxRecDepth 100000 in
set_option maxHeartbeats 4000000 in
theorem xb_drawThousand_2_ok {sc : Nat × (Nat → Int32)} (d : Nat)  (f g : (Nat → Nat → Int32)) : am_Ev sc (d) 8 (0, [(0, .ref 2)], [], am_SH, (f, g)) ((some (.int (xb_drawThousand_2  f).1)), am_SH, ((xb_drawThousand_2  f).2, g)) := by
  have hcd : am_code 8 = am_c8 := rfl
  obtain ⟨r, h⟩ : ∃ r, r = xb_drawThousand_2  f := ⟨_, rfl⟩
  rw [← h]
  unfold xb_drawThousand_2 at h
  obtain ⟨f1, Ef1, h⟩ := am_let_eq' h
  refine am_Ev.go hcd 8 (s' := (8, [(0, .ref 2)], [], am_SH, (f1, g))) (by subst Ef1; exact rfl) ?_
  refine am_Ev.go hcd 6 (s' := (14, [(0, .ref 2)], [.int ((((f1 2 3).toUInt32 >>> ((8 : Int32).toUInt32 &&& Int32.toUInt32 31)).toInt32) - (((f1 2 3).toUInt32 >>> ((8 : Int32).toUInt32 &&& Int32.toUInt32 31)).toInt32) / 1000 * 1000)], am_SH, (f1, g))) rfl ?_
  exact am_Ev.cast (a := ((some (.int (((((f1 2 3).toUInt32 >>> ((8 : Int32).toUInt32 &&& Int32.toUInt32 31)).toInt32) - (((f1 2 3).toUInt32 >>> ((8 : Int32).toUInt32 &&& Int32.toUInt32 31)).toInt32) / 1000 * 1000), f1).1)), am_SH, ((((((f1 2 3).toUInt32 >>> ((8 : Int32).toUInt32 &&& Int32.toUInt32 31)).toInt32) - (((f1 2 3).toUInt32 >>> ((8 : Int32).toUInt32 &&& Int32.toUInt32 31)).toInt32) / 1000 * 1000), f1).2, g))) (by subst h; rfl) (am_Ev.ret hcd rfl)
set_option maxRecDepth 100000 in
set_option maxHeartbeats 4000000 in
theorem xb_slipsNow_2_ok {sc : Nat × (Nat → Int32)} (d : Nat) (a0 : Bool) (f g : (Nat → Nat → Int32)) (r : Bool × (Nat → Nat → Int32)) (h : xb_slipsNow_2 a0 f = some r) : am_Ev sc (d + 3) 7 (0, [(0, .ref 120), (1, .ref 2), (2, .int (am_b a0))], [], am_SH, (f, g)) ((some (.int (am_b r.1))), am_SH, (r.2, g)) := by
  have hcd : am_code 7 = am_c7 := rfl
  unfold xb_slipsNow_2 at h
  refine am_Ev.go hcd 2 (s' := (2, [(0, .ref 120), (1, .ref 2), (2, .int (am_b a0))], [.int 1, .ref 120], am_SH, (f, g))) rfl ?_
  obtain ⟨p1, hp1, h⟩ := am_bind_some h
  refine am_Ev.call hcd (a := 14) (s0 := (0, [(0, .ref 120), (1, .int 1)], [], am_SH, (f, g))) (q := ((some (.int p1.1)), am_SH, (p1.2, g))) (s1 := (3, [(0, .ref 120), (1, .ref 2), (2, .int (am_b a0))], [.int p1.1], am_SH, (p1.2, g))) rfl rfl (xb_told_ok (d) 1 f g p1 hp1) ?_
  refine am_Ev.go hcd 2 (s' := (5, [(0, .ref 120), (1, .ref 2), (2, .int (am_b a0)), (3, .int p1.1)], [.int (am_b a0)], am_SH, (p1.2, g))) rfl ?_
  rcases am_ite h with ⟨c5, h⟩ | ⟨c5, h⟩
  · refine am_Ev.f hcd (c := am_b a0 = 0) (s1 := (13, [(0, .ref 120), (1, .ref 2), (2, .int (am_b a0)), (3, .int p1.1)], [], am_SH, (p1.2, g))) rfl (am_b_t c5) ?_
    refine am_Ev.go hcd 1 (s' := (14, [(0, .ref 120), (1, .ref 2), (2, .int (am_b a0)), (3, .int p1.1)], [.int p1.1], am_SH, (p1.2, g))) rfl ?_
    rcases am_ite h with ⟨c8, h⟩ | ⟨c8, h⟩
    · refine am_Ev.t hcd (c := 0 < p1.1) (s1 := (15, [(0, .ref 120), (1, .ref 2), (2, .int (am_b a0)), (3, .int p1.1)], [], am_SH, (p1.2, g))) rfl c8 ?_
      refine am_Ev.go hcd 1 (s' := (16, [(0, .ref 120), (1, .ref 2), (2, .int (am_b a0)), (3, .int p1.1)], [.ref 2], am_SH, (p1.2, g))) rfl ?_
      obtain ⟨p2, Ep2, h⟩ := am_let_eq h
      refine am_Ev.call hcd (a := 8) (s0 := (0, [(0, .ref 2)], [], am_SH, (p1.2, g))) (q := ((some (.int p2.1)), am_SH, (p2.2, g))) (s1 := (17, [(0, .ref 120), (1, .ref 2), (2, .int (am_b a0)), (3, .int p1.1)], [.int p2.1], am_SH, (p2.2, g))) rfl rfl (by subst Ep2; exact xb_drawThousand_2_ok (d + 2)  p1.2 g) ?_
      refine am_Ev.go hcd 1 (s' := (18, [(0, .ref 120), (1, .ref 2), (2, .int (am_b a0)), (3, .int p1.1)], [.int p1.1, .int p2.1], am_SH, (p2.2, g))) rfl ?_
      rcases am_ite h with ⟨c14, h⟩ | ⟨c14, h⟩
      · refine am_Ev.t hcd (c := p2.1 < p1.1) (s1 := (19, [(0, .ref 120), (1, .ref 2), (2, .int (am_b a0)), (3, .int p1.1)], [], am_SH, (p2.2, g))) rfl c14 ?_
        refine am_Ev.go hcd 2 (s' := (22, [(0, .ref 120), (1, .ref 2), (2, .int (am_b a0)), (3, .int p1.1)], [.int 1], am_SH, (p2.2, g))) rfl ?_
        exact am_Ev.cast (a := ((some (.int (am_b (true, p2.2).1))), am_SH, ((true, p2.2).2, g))) (by cases h; rfl) (am_Ev.ret hcd rfl)
      · refine am_Ev.f hcd (c := p2.1 < p1.1) (s1 := (21, [(0, .ref 120), (1, .ref 2), (2, .int (am_b a0)), (3, .int p1.1)], [], am_SH, (p2.2, g))) rfl c14 ?_
        refine am_Ev.go hcd 1 (s' := (22, [(0, .ref 120), (1, .ref 2), (2, .int (am_b a0)), (3, .int p1.1)], [.int 0], am_SH, (p2.2, g))) rfl ?_
        exact am_Ev.cast (a := ((some (.int (am_b (false, p2.2).1))), am_SH, ((false, p2.2).2, g))) (by cases h; rfl) (am_Ev.ret hcd rfl)
    · refine am_Ev.f hcd (c := 0 < p1.1) (s1 := (21, [(0, .ref 120), (1, .ref 2), (2, .int (am_b a0)), (3, .int p1.1)], [], am_SH, (p1.2, g))) rfl c8 ?_
      refine am_Ev.go hcd 1 (s' := (22, [(0, .ref 120), (1, .ref 2), (2, .int (am_b a0)), (3, .int p1.1)], [.int 0], am_SH, (p1.2, g))) rfl ?_
      exact am_Ev.cast (a := ((some (.int (am_b (false, p1.2).1))), am_SH, ((false, p1.2).2, g))) (by cases h; rfl) (am_Ev.ret hcd rfl)
  · refine am_Ev.t hcd (c := am_b a0 = 0) (s1 := (6, [(0, .ref 120), (1, .ref 2), (2, .int (am_b a0)), (3, .int p1.1)], [], am_SH, (p1.2, g))) rfl (am_b_f c5) ?_
    refine am_Ev.go hcd 2 (s' := (8, [(0, .ref 120), (1, .ref 2), (2, .int (am_b a0)), (3, .int p1.1)], [.int 500, .int p1.1], am_SH, (p1.2, g))) rfl ?_
    rcases am_ite h with ⟨c26, h⟩ | ⟨c26, h⟩
    · refine am_Ev.t hcd (c := p1.1 < 500) (s1 := (11, [(0, .ref 120), (1, .ref 2), (2, .int (am_b a0)), (3, .int p1.1)], [], am_SH, (p1.2, g))) rfl c26 ?_
      refine am_Ev.go hcd 1 (s' := (12, [(0, .ref 120), (1, .ref 2), (2, .int (am_b a0)), (3, .int p1.1)], [.int 0], am_SH, (p1.2, g))) rfl ?_
      exact am_Ev.cast (a := ((some (.int (am_b (false, p1.2).1))), am_SH, ((false, p1.2).2, g))) (by cases h; rfl) (am_Ev.ret hcd rfl)
    · refine am_Ev.f hcd (c := p1.1 < 500) (s1 := (9, [(0, .ref 120), (1, .ref 2), (2, .int (am_b a0)), (3, .int p1.1)], [], am_SH, (p1.2, g))) rfl c26 ?_
      refine am_Ev.go hcd 2 (s' := (12, [(0, .ref 120), (1, .ref 2), (2, .int (am_b a0)), (3, .int p1.1)], [.int 1], am_SH, (p1.2, g))) rfl ?_
      exact am_Ev.cast (a := ((some (.int (am_b (true, p1.2).1))), am_SH, ((true, p1.2).2, g))) (by cases h; rfl) (am_Ev.ret hcd rfl)
set_option maxRecDepth 100000 in
set_option maxHeartbeats 4000000 in
theorem xb_warm_2_ok {sc : Nat × (Nat → Int32)} (d : Nat) (a0 : Int32) (a1 : Bool) (f g : (Nat → Nat → Int32)) (r : (Nat → Nat → Int32)) (h : xb_warm_2 a0 a1 f = some r) : am_Ev sc (d + 3) 9 (0, [(0, .ref 120), (1, .ref 2), (2, .int a0), (3, .int (am_b a1))], [], am_SH, (f, g)) (none, am_SH, (r, g)) := by
  have hcd : am_code 9 = am_c9 := rfl
  unfold xb_warm_2 at h
  refine am_Ev.go hcd 2 (s' := (2, [(0, .ref 120), (1, .ref 2), (2, .int a0), (3, .int (am_b a1))], [.int 0, .ref 120], am_SH, (f, g))) rfl ?_
  obtain ⟨p1, hp1, h⟩ := am_bind_some h
  refine am_Ev.call hcd (a := 14) (s0 := (0, [(0, .ref 120), (1, .int 0)], [], am_SH, (f, g))) (q := ((some (.int p1.1)), am_SH, (p1.2, g))) (s1 := (3, [(0, .ref 120), (1, .ref 2), (2, .int a0), (3, .int (am_b a1))], [.int p1.1], am_SH, (p1.2, g))) rfl rfl (xb_told_ok (d) 0 f g p1 hp1) ?_
  refine am_Ev.go hcd 5 (s' := (8, [(0, .ref 120), (1, .ref 2), (2, .int a0), (3, .int (am_b a1)), (4, .int p1.1)], [.int a0, .ref 4, .int a0, .ref 4], am_SH, (p1.2, g))) rfl ?_
  obtain ⟨c5, h⟩ := am_grd h
  refine am_Ev.t hcd (o := none) (c := am_in a0 6 = true) (s1 := (9, [(0, .ref 120), (1, .ref 2), (2, .int a0), (3, .int (am_b a1)), (4, .int p1.1)], [.int (p1.2 4 a0.toNatClampNeg), .int a0, .ref 4], am_SH, (p1.2, g))) rfl c5 ?_
  refine am_Ev.go hcd 2 (s' := (11, [(0, .ref 120), (1, .ref 2), (2, .int a0), (3, .int (am_b a1)), (4, .int p1.1)], [.int ((p1.2 4 a0.toNatClampNeg) + p1.1), .int a0, .ref 4], am_SH, (p1.2, g))) rfl ?_
  obtain ⟨c8, h⟩ := am_grd h
  obtain ⟨f2, Ef2, h⟩ := am_let_eq h
  refine am_Ev.t hcd (o := none) (c := am_in a0 6 = true) (s1 := (12, [(0, .ref 120), (1, .ref 2), (2, .int a0), (3, .int (am_b a1)), (4, .int p1.1)], [], am_SH, (f2, g))) (by subst Ef2; exact rfl) c8 ?_
  obtain ⟨t4, ht4, kt4⟩ := am_bind_some h
  have hKt4 : am_Ev sc (d + 3) 9 (31, [(0, .ref 120), (1, .ref 2), (2, .int a0), (3, .int (am_b a1)), (4, .int p1.1)], [], am_SH, (t4, g)) (none, am_SH, (r, g)) := by
    have h := kt4
    refine am_Ev.go hcd 1 (s' := (32, [(0, .ref 120), (1, .ref 2), (2, .int a0), (3, .int (am_b a1)), (4, .int p1.1)], [.int p1.1], am_SH, (t4, g))) rfl ?_
    rcases am_ite h with ⟨c15, h⟩ | ⟨c15, h⟩
    · refine am_Ev.t hcd (c := 0 < p1.1) (s1 := (33, [(0, .ref 120), (1, .ref 2), (2, .int a0), (3, .int (am_b a1)), (4, .int p1.1)], [], am_SH, (t4, g))) rfl c15 ?_
      refine am_Ev.go hcd 6 (s' := (39, [(0, .ref 120), (1, .ref 2), (2, .int a0), (3, .int (am_b a1)), (4, .int p1.1)], [.int (am_b a1), .int p1.1, .int a0, .int 2, .ref 2, .ref 120], am_SH, (t4, g))) rfl ?_
      obtain ⟨p5, hp5, h⟩ := am_bind_some h
      refine am_Ev.call hcd (a := 5) (s0 := (0, [(0, .ref 120), (1, .ref 2), (2, .int 2), (3, .int a0), (4, .int p1.1), (5, .int (am_b a1))], [], am_SH, (t4, g))) (q := (none, am_SH, (p5, g))) (s1 := (40, [(0, .ref 120), (1, .ref 2), (2, .int a0), (3, .int (am_b a1)), (4, .int p1.1)], [], am_SH, (p5, g))) rfl rfl (xb_note_2_ok (d + 1) 2 a0 p1.1 a1 t4 g p5 hp5) ?_
      exact am_Ev.cast (a := (none, am_SH, (p5, g))) (by cases h; rfl) (am_Ev.ret hcd rfl)
    · refine am_Ev.f hcd (c := 0 < p1.1) (s1 := (40, [(0, .ref 120), (1, .ref 2), (2, .int a0), (3, .int (am_b a1)), (4, .int p1.1)], [], am_SH, (t4, g))) rfl c15 ?_
      exact am_Ev.cast (a := (none, am_SH, (t4, g))) (by cases h; rfl) (am_Ev.ret hcd rfl)
  have hLt4 : ∀ tt, tt = t4 → am_Ev sc (d + 3) 9 (31, [(0, .ref 120), (1, .ref 2), (2, .int a0), (3, .int (am_b a1)), (4, .int p1.1)], [], am_SH, (tt, g)) (none, am_SH, (r, g)) := fun tt htt => by subst htt; exact hKt4
  have h := ht4
  refine am_Ev.go hcd 4 (s' := (16, [(0, .ref 120), (1, .ref 2), (2, .int a0), (3, .int (am_b a1)), (4, .int p1.1)], [.int (f2 121 7)], am_SH, (f2, g))) rfl ?_
  rcases am_ite h with ⟨c26, h⟩ | ⟨c26, h⟩
  · refine am_Ev.t hcd (c := 0 < f2 121 7) (s1 := (17, [(0, .ref 120), (1, .ref 2), (2, .int a0), (3, .int (am_b a1)), (4, .int p1.1)], [], am_SH, (f2, g))) rfl c26 ?_
    refine am_Ev.go hcd 3 (s' := (20, [(0, .ref 120), (1, .ref 2), (2, .int a0), (3, .int (am_b a1)), (4, .int p1.1)], [.int a0, .ref 3], am_SH, (f2, g))) rfl ?_
    obtain ⟨c29, h⟩ := am_grd h
    refine am_Ev.t hcd (o := none) (c := am_in a0 6 = true) (s1 := (21, [(0, .ref 120), (1, .ref 2), (2, .int a0), (3, .int (am_b a1)), (4, .int p1.1)], [.int (f2 3 a0.toNatClampNeg)], am_SH, (f2, g))) rfl c29 ?_
    refine am_Ev.go hcd 1 (s' := (22, [(0, .ref 120), (1, .ref 2), (2, .int a0), (3, .int (am_b a1)), (4, .int p1.1)], [.int 99, .int (f2 3 a0.toNatClampNeg)], am_SH, (f2, g))) rfl ?_
    rcases am_ite h with ⟨c32, h⟩ | ⟨c32, h⟩
    · refine am_Ev.t hcd (c := f2 3 a0.toNatClampNeg < 99) (s1 := (23, [(0, .ref 120), (1, .ref 2), (2, .int a0), (3, .int (am_b a1)), (4, .int p1.1)], [], am_SH, (f2, g))) rfl c32 ?_
      refine am_Ev.go hcd 4 (s' := (27, [(0, .ref 120), (1, .ref 2), (2, .int a0), (3, .int (am_b a1)), (4, .int p1.1)], [.int a0, .ref 3, .int a0, .ref 3], am_SH, (f2, g))) rfl ?_
      obtain ⟨c35, h⟩ := am_grd h
      refine am_Ev.t hcd (o := none) (c := am_in a0 6 = true) (s1 := (28, [(0, .ref 120), (1, .ref 2), (2, .int a0), (3, .int (am_b a1)), (4, .int p1.1)], [.int (f2 3 a0.toNatClampNeg), .int a0, .ref 3], am_SH, (f2, g))) rfl c35 ?_
      refine am_Ev.go hcd 2 (s' := (30, [(0, .ref 120), (1, .ref 2), (2, .int a0), (3, .int (am_b a1)), (4, .int p1.1)], [.int ((f2 3 a0.toNatClampNeg) + 1), .int a0, .ref 3], am_SH, (f2, g))) rfl ?_
      obtain ⟨c38, h⟩ := am_grd h
      obtain ⟨f3, Ef3, h⟩ := am_let_eq h
      refine am_Ev.t hcd (o := none) (c := am_in a0 6 = true) (s1 := (31, [(0, .ref 120), (1, .ref 2), (2, .int a0), (3, .int (am_b a1)), (4, .int p1.1)], [], am_SH, (f3, g))) (by subst Ef3; exact rfl) c38 ?_
      exact am_Ev.weak' (hLt4 f3 (Option.some.inj h)) (am_sub_cons rfl (am_sub_cons rfl (am_sub_cons rfl (am_sub_cons rfl (am_sub_cons rfl am_sub_nil))))) rfl
    · refine am_Ev.f hcd (c := f2 3 a0.toNatClampNeg < 99) (s1 := (31, [(0, .ref 120), (1, .ref 2), (2, .int a0), (3, .int (am_b a1)), (4, .int p1.1)], [], am_SH, (f2, g))) rfl c32 ?_
      exact am_Ev.weak' (hLt4 f2 (Option.some.inj h)) (am_sub_cons rfl (am_sub_cons rfl (am_sub_cons rfl (am_sub_cons rfl (am_sub_cons rfl am_sub_nil))))) rfl
  · refine am_Ev.f hcd (c := 0 < f2 121 7) (s1 := (31, [(0, .ref 120), (1, .ref 2), (2, .int a0), (3, .int (am_b a1)), (4, .int p1.1)], [], am_SH, (f2, g))) rfl c26 ?_
    exact am_Ev.weak' (hLt4 f2 (Option.some.inj h)) (am_sub_cons rfl (am_sub_cons rfl (am_sub_cons rfl (am_sub_cons rfl (am_sub_cons rfl am_sub_nil))))) rfl
set_option maxRecDepth 100000 in
set_option maxHeartbeats 4000000 in
theorem xb_goOffTop_2_ok {sc : Nat × (Nat → Int32)} (d : Nat) (a0 : Int32) (a1 : Bool) (f g : (Nat → Nat → Int32)) (r : (Nat → Nat → Int32)) (h : xb_goOffTop_2 a0 a1 f = some r) : am_Ev sc (d + 2) 10 (0, [(0, .ref 120), (1, .ref 2), (2, .int a0), (3, .int (am_b a1))], [], am_SH, (f, g)) (none, am_SH, (r, g)) := by
  have hcd : am_code 10 = am_c10 := rfl
  unfold xb_goOffTop_2 at h
  refine am_Ev.go hcd 3 (s' := (3, [(0, .ref 120), (1, .ref 2), (2, .int a0), (3, .int (am_b a1))], [.int a0, .ref 5], am_SH, (f, g))) rfl ?_
  obtain ⟨c2, h⟩ := am_grd h
  refine am_Ev.t hcd (o := none) (c := am_in a0 6 = true) (s1 := (4, [(0, .ref 120), (1, .ref 2), (2, .int a0), (3, .int (am_b a1))], [.int (f 5 a0.toNatClampNeg)], am_SH, (f, g))) rfl c2 ?_
  obtain ⟨t1, Et1, h⟩ := am_let_eq h
  refine am_Ev.go hcd 1 (s' := (5, [(0, .ref 120), (1, .ref 2), (2, .int a0), (3, .int (am_b a1)), (4, .int t1)], [], am_SH, (f, g))) (by subst Et1; exact rfl) ?_
  refine am_Ev.go hcd 4 (s' := (9, [(0, .ref 120), (1, .ref 2), (2, .int a0), (3, .int (am_b a1)), (4, .int t1)], [.int 420, .int a0, .ref 4], am_SH, (f, g))) rfl ?_
  obtain ⟨c7, h⟩ := am_grd h
  obtain ⟨f2, Ef2, h⟩ := am_let_eq h
  refine am_Ev.t hcd (o := none) (c := am_in a0 6 = true) (s1 := (10, [(0, .ref 120), (1, .ref 2), (2, .int a0), (3, .int (am_b a1)), (4, .int t1)], [], am_SH, (f2, g))) (by subst Ef2; exact rfl) c7 ?_
  refine am_Ev.go hcd 4 (s' := (14, [(0, .ref 120), (1, .ref 2), (2, .int a0), (3, .int (am_b a1)), (4, .int t1)], [.int a0, .ref 7, .int a0, .ref 7], am_SH, (f2, g))) rfl ?_
  obtain ⟨c11, h⟩ := am_grd h
  refine am_Ev.t hcd (o := none) (c := am_in a0 6 = true) (s1 := (15, [(0, .ref 120), (1, .ref 2), (2, .int a0), (3, .int (am_b a1)), (4, .int t1)], [.int (f2 7 a0.toNatClampNeg), .int a0, .ref 7], am_SH, (f2, g))) rfl c11 ?_
  refine am_Ev.go hcd 2 (s' := (17, [(0, .ref 120), (1, .ref 2), (2, .int a0), (3, .int (am_b a1)), (4, .int t1)], [.int ((f2 7 a0.toNatClampNeg) + 1), .int a0, .ref 7], am_SH, (f2, g))) rfl ?_
  obtain ⟨c14, h⟩ := am_grd h
  obtain ⟨f3, Ef3, h⟩ := am_let_eq h
  refine am_Ev.t hcd (o := none) (c := am_in a0 6 = true) (s1 := (18, [(0, .ref 120), (1, .ref 2), (2, .int a0), (3, .int (am_b a1)), (4, .int t1)], [], am_SH, (f3, g))) (by subst Ef3; exact rfl) c14 ?_
  refine am_Ev.go hcd 2 (s' := (20, [(0, .ref 120), (1, .ref 2), (2, .int a0), (3, .int (am_b a1)), (4, .int t1)], [.int t1, .ref 2], am_SH, (f3, g))) rfl ?_
  refine am_Ev.call hcd (a := 23) (s0 := (0, [(0, .ref 2), (1, .int t1)], [], am_SH, (f3, g))) (q := ((some (.int (am_b (xc_hasWitness_2 t1 f3)))), am_SH, (f3, g))) (s1 := (21, [(0, .ref 120), (1, .ref 2), (2, .int a0), (3, .int (am_b a1)), (4, .int t1)], [.int (am_b (xc_hasWitness_2 t1 f3))], am_SH, (f3, g))) rfl rfl (xc_hasWitness_2_ok (d + 1) t1 f3 g) ?_
  obtain ⟨t6, ht6, kt6⟩ := am_bind_some h
  have hKt6 : am_Ev sc (d + 2) 10 (30, [(0, .ref 120), (1, .ref 2), (2, .int a0), (3, .int (am_b a1)), (4, .int t1)], [], am_SH, (t6, g)) (none, am_SH, (r, g)) := by
    have h := kt6
    refine am_Ev.go hcd 4 (s' := (34, [(0, .ref 120), (1, .ref 2), (2, .int a0), (3, .int (am_b a1)), (4, .int t1)], [.int (-1), .int a0, .ref 5], am_SH, (t6, g))) rfl ?_
    obtain ⟨c23, h⟩ := am_grd h
    obtain ⟨f7, Ef7, h⟩ := am_let_eq h
    refine am_Ev.t hcd (o := none) (c := am_in a0 6 = true) (s1 := (35, [(0, .ref 120), (1, .ref 2), (2, .int a0), (3, .int (am_b a1)), (4, .int t1)], [], am_SH, (f7, g))) (by subst Ef7; exact rfl) c23 ?_
    refine am_Ev.go hcd 6 (s' := (41, [(0, .ref 120), (1, .ref 2), (2, .int a0), (3, .int (am_b a1)), (4, .int t1)], [.int (am_b a1), .int t1, .int a0, .int 4, .ref 2, .ref 120], am_SH, (f7, g))) rfl ?_
    obtain ⟨p8, hp8, h⟩ := am_bind_some h
    refine am_Ev.call hcd (a := 5) (s0 := (0, [(0, .ref 120), (1, .ref 2), (2, .int 4), (3, .int a0), (4, .int t1), (5, .int (am_b a1))], [], am_SH, (f7, g))) (q := (none, am_SH, (p8, g))) (s1 := (42, [(0, .ref 120), (1, .ref 2), (2, .int a0), (3, .int (am_b a1)), (4, .int t1)], [], am_SH, (p8, g))) rfl rfl (xb_note_2_ok (d) 4 a0 t1 a1 f7 g p8 hp8) ?_
    exact am_Ev.cast (a := (none, am_SH, (p8, g))) (by cases h; rfl) (am_Ev.ret hcd rfl)
  have hLt6 : ∀ tt, tt = t6 → am_Ev sc (d + 2) 10 (30, [(0, .ref 120), (1, .ref 2), (2, .int a0), (3, .int (am_b a1)), (4, .int t1)], [], am_SH, (tt, g)) (none, am_SH, (r, g)) := fun tt htt => by subst htt; exact hKt6
  have h := ht6
  rcases am_ite h with ⟨c33, h⟩ | ⟨c33, h⟩
  · refine am_Ev.f hcd (c := am_b (xc_hasWitness_2 t1 f3) = 0) (s1 := (22, [(0, .ref 120), (1, .ref 2), (2, .int a0), (3, .int (am_b a1)), (4, .int t1)], [], am_SH, (f3, g))) rfl (am_b_t c33) ?_
    refine am_Ev.go hcd 4 (s' := (26, [(0, .ref 120), (1, .ref 2), (2, .int a0), (3, .int (am_b a1)), (4, .int t1)], [.int t1, .ref 11, .int t1, .ref 11], am_SH, (f3, g))) rfl ?_
    obtain ⟨c35, h⟩ := am_grd h
    refine am_Ev.t hcd (o := none) (c := am_in t1 12 = true) (s1 := (27, [(0, .ref 120), (1, .ref 2), (2, .int a0), (3, .int (am_b a1)), (4, .int t1)], [.int (f3 11 t1.toNatClampNeg), .int t1, .ref 11], am_SH, (f3, g))) rfl c35 ?_
    refine am_Ev.go hcd 2 (s' := (29, [(0, .ref 120), (1, .ref 2), (2, .int a0), (3, .int (am_b a1)), (4, .int t1)], [.int ((f3 11 t1.toNatClampNeg) + 1), .int t1, .ref 11], am_SH, (f3, g))) rfl ?_
    obtain ⟨c38, h⟩ := am_grd h
    obtain ⟨f5, Ef5, h⟩ := am_let_eq h
    refine am_Ev.t hcd (o := none) (c := am_in t1 12 = true) (s1 := (30, [(0, .ref 120), (1, .ref 2), (2, .int a0), (3, .int (am_b a1)), (4, .int t1)], [], am_SH, (f5, g))) (by subst Ef5; exact rfl) c38 ?_
    exact am_Ev.weak' (hLt6 f5 (Option.some.inj h)) (am_sub_cons rfl (am_sub_cons rfl (am_sub_cons rfl (am_sub_cons rfl (am_sub_cons rfl am_sub_nil))))) rfl
  · refine am_Ev.t hcd (c := am_b (xc_hasWitness_2 t1 f3) = 0) (s1 := (30, [(0, .ref 120), (1, .ref 2), (2, .int a0), (3, .int (am_b a1)), (4, .int t1)], [], am_SH, (f3, g))) rfl (am_b_f c33) ?_
    exact am_Ev.weak' (hLt6 f3 (Option.some.inj h)) (am_sub_cons rfl (am_sub_cons rfl (am_sub_cons rfl (am_sub_cons rfl (am_sub_cons rfl am_sub_nil))))) rfl
set_option maxRecDepth 100000 in
set_option maxHeartbeats 4000000 in
theorem xb_passGlass_2_ok {sc : Nat × (Nat → Int32)} (d : Nat) (a0 : Int32) (a1 : Bool) (f g : (Nat → Nat → Int32)) (r : Bool × (Nat → Nat → Int32)) (h : xb_passGlass_2 a0 a1 f = some r) : am_Ev sc (d + 4) 6 (0, [(0, .ref 120), (1, .ref 2), (2, .int a0), (3, .int (am_b a1))], [], am_SH, (f, g)) ((some (.int (am_b r.1))), am_SH, (r.2, g)) := by
  have hcd : am_code 6 = am_c6 := rfl
  unfold xb_passGlass_2 at h
  refine am_Ev.go hcd 3 (s' := (3, [(0, .ref 120), (1, .ref 2), (2, .int a0), (3, .int (am_b a1))], [.int a0, .ref 2, .ref 120], am_SH, (f, g))) rfl ?_
  obtain ⟨p1, hp1, h⟩ := am_bind_some h
  refine am_Ev.call hcd (a := 13) (s0 := (0, [(0, .ref 120), (1, .ref 2), (2, .int a0)], [], am_SH, (f, g))) (q := (none, am_SH, (p1, g))) (s1 := (4, [(0, .ref 120), (1, .ref 2), (2, .int a0), (3, .int (am_b a1))], [], am_SH, (p1, g))) rfl rfl (xb_behold_2_ok (d + 1) a0 f g p1 hp1) ?_
  refine am_Ev.go hcd 3 (s' := (7, [(0, .ref 120), (1, .ref 2), (2, .int a0), (3, .int (am_b a1))], [.int (am_b a1), .ref 2, .ref 120], am_SH, (p1, g))) rfl ?_
  obtain ⟨p2, hp2, h⟩ := am_bind_some h
  refine am_Ev.call hcd (a := 7) (s0 := (0, [(0, .ref 120), (1, .ref 2), (2, .int (am_b a1))], [], am_SH, (p1, g))) (q := ((some (.int (am_b p2.1))), am_SH, (p2.2, g))) (s1 := (8, [(0, .ref 120), (1, .ref 2), (2, .int a0), (3, .int (am_b a1))], [.int (am_b p2.1)], am_SH, (p2.2, g))) rfl rfl (xb_slipsNow_2_ok (d) a1 p1 g p2 hp2) ?_
  obtain ⟨t8, ht8, kt8⟩ := am_bind_some h
  have hKt8 : am_Ev sc (d + 4) 6 (51, [(0, .ref 120), (1, .ref 2), (2, .int a0), (3, .int (am_b a1))], [], am_SH, (t8, g)) ((some (.int (am_b r.1))), am_SH, (r.2, g)) := by
    have h := kt8
    refine am_Ev.go hcd 3 (s' := (54, [(0, .ref 120), (1, .ref 2), (2, .int a0), (3, .int (am_b a1))], [.int a0, .ref 4], am_SH, (t8, g))) rfl ?_
    obtain ⟨c11, h⟩ := am_grd h
    refine am_Ev.t hcd (o := none) (c := am_in a0 6 = true) (s1 := (55, [(0, .ref 120), (1, .ref 2), (2, .int a0), (3, .int (am_b a1))], [.int (t8 4 a0.toNatClampNeg)], am_SH, (t8, g))) rfl c11 ?_
    refine am_Ev.go hcd 1 (s' := (56, [(0, .ref 120), (1, .ref 2), (2, .int a0), (3, .int (am_b a1))], [.int 420, .int (t8 4 a0.toNatClampNeg)], am_SH, (t8, g))) rfl ?_
    rcases am_ite h with ⟨c14, h⟩ | ⟨c14, h⟩
    · refine am_Ev.t hcd (c := 420 < t8 4 a0.toNatClampNeg) (s1 := (59, [(0, .ref 120), (1, .ref 2), (2, .int a0), (3, .int (am_b a1))], [], am_SH, (t8, g))) rfl c14 ?_
      refine am_Ev.go hcd 4 (s' := (63, [(0, .ref 120), (1, .ref 2), (2, .int a0), (3, .int (am_b a1))], [.int (am_b a1), .int a0, .ref 2, .ref 120], am_SH, (t8, g))) rfl ?_
      obtain ⟨p9, hp9, h⟩ := am_bind_some h
      refine am_Ev.call hcd (a := 10) (s0 := (0, [(0, .ref 120), (1, .ref 2), (2, .int a0), (3, .int (am_b a1))], [], am_SH, (t8, g))) (q := (none, am_SH, (p9, g))) (s1 := (64, [(0, .ref 120), (1, .ref 2), (2, .int a0), (3, .int (am_b a1))], [], am_SH, (p9, g))) rfl rfl (xb_goOffTop_2_ok (d + 1) a0 a1 t8 g p9 hp9) ?_
      refine am_Ev.go hcd 1 (s' := (65, [(0, .ref 120), (1, .ref 2), (2, .int a0), (3, .int (am_b a1))], [.int 1], am_SH, (p9, g))) rfl ?_
      exact am_Ev.cast (a := ((some (.int (am_b (true, p9).1))), am_SH, ((true, p9).2, g))) (by cases h; rfl) (am_Ev.ret hcd rfl)
    · refine am_Ev.f hcd (c := 420 < t8 4 a0.toNatClampNeg) (s1 := (57, [(0, .ref 120), (1, .ref 2), (2, .int a0), (3, .int (am_b a1))], [], am_SH, (t8, g))) rfl c14 ?_
      refine am_Ev.go hcd 1 (s' := (58, [(0, .ref 120), (1, .ref 2), (2, .int a0), (3, .int (am_b a1))], [.int 0], am_SH, (t8, g))) rfl ?_
      exact am_Ev.cast (a := ((some (.int (am_b (false, t8).1))), am_SH, ((false, t8).2, g))) (by cases h; rfl) (am_Ev.ret hcd rfl)
  have hLt8 : ∀ tt, tt = t8 → am_Ev sc (d + 4) 6 (51, [(0, .ref 120), (1, .ref 2), (2, .int a0), (3, .int (am_b a1))], [], am_SH, (tt, g)) ((some (.int (am_b r.1))), am_SH, (r.2, g)) := fun tt htt => by subst htt; exact hKt8
  have h := ht8
  rcases am_ite h with ⟨c27, h⟩ | ⟨c27, h⟩
  · refine am_Ev.f hcd (c := am_b p2.1 = 0) (s1 := (9, [(0, .ref 120), (1, .ref 2), (2, .int a0), (3, .int (am_b a1))], [], am_SH, (p2.2, g))) rfl (am_b_t c27) ?_
    refine am_Ev.go hcd 7 (s' := (16, [(0, .ref 120), (1, .ref 2), (2, .int a0), (3, .int (am_b a1))], [.int a0, .ref 4, .int a0, .int 3, .ref 2, .ref 120], am_SH, (p2.2, g))) rfl ?_
    obtain ⟨c29, h⟩ := am_grd h
    refine am_Ev.t hcd (o := none) (c := am_in a0 6 = true) (s1 := (17, [(0, .ref 120), (1, .ref 2), (2, .int a0), (3, .int (am_b a1))], [.int (p2.2 4 a0.toNatClampNeg), .int a0, .int 3, .ref 2, .ref 120], am_SH, (p2.2, g))) rfl c29 ?_
    refine am_Ev.go hcd 1 (s' := (18, [(0, .ref 120), (1, .ref 2), (2, .int a0), (3, .int (am_b a1))], [.int (am_b a1), .int (p2.2 4 a0.toNatClampNeg), .int a0, .int 3, .ref 2, .ref 120], am_SH, (p2.2, g))) rfl ?_
    obtain ⟨p3, hp3, h⟩ := am_bind_some h
    refine am_Ev.call hcd (a := 5) (s0 := (0, [(0, .ref 120), (1, .ref 2), (2, .int 3), (3, .int a0), (4, .int (p2.2 4 a0.toNatClampNeg)), (5, .int (am_b a1))], [], am_SH, (p2.2, g))) (q := (none, am_SH, (p3, g))) (s1 := (19, [(0, .ref 120), (1, .ref 2), (2, .int a0), (3, .int (am_b a1))], [], am_SH, (p3, g))) rfl rfl (xb_note_2_ok (d + 2) 3 a0 (p2.2 4 a0.toNatClampNeg) a1 p2.2 g p3 hp3) ?_
    refine am_Ev.go hcd 4 (s' := (23, [(0, .ref 120), (1, .ref 2), (2, .int a0), (3, .int (am_b a1))], [.int 300, .int a0, .ref 4], am_SH, (p3, g))) rfl ?_
    obtain ⟨c35, h⟩ := am_grd h
    obtain ⟨f4, Ef4, h⟩ := am_let_eq h
    refine am_Ev.t hcd (o := none) (c := am_in a0 6 = true) (s1 := (24, [(0, .ref 120), (1, .ref 2), (2, .int a0), (3, .int (am_b a1))], [], am_SH, (f4, g))) (by subst Ef4; exact rfl) c35 ?_
    refine am_Ev.go hcd 1 (s' := (51, [(0, .ref 120), (1, .ref 2), (2, .int a0), (3, .int (am_b a1))], [], am_SH, (f4, g))) rfl ?_
    exact am_Ev.weak' (hLt8 f4 (Option.some.inj h)) (am_sub_cons rfl (am_sub_cons rfl (am_sub_cons rfl (am_sub_cons rfl am_sub_nil)))) rfl
  · refine am_Ev.t hcd (c := am_b p2.1 = 0) (s1 := (25, [(0, .ref 120), (1, .ref 2), (2, .int a0), (3, .int (am_b a1))], [], am_SH, (p2.2, g))) rfl (am_b_f c27) ?_
    refine am_Ev.go hcd 3 (s' := (28, [(0, .ref 120), (1, .ref 2), (2, .int a0), (3, .int (am_b a1))], [.int a0, .ref 6], am_SH, (p2.2, g))) rfl ?_
    obtain ⟨c42, h⟩ := am_grd h
    refine am_Ev.t hcd (o := none) (c := am_in a0 6 = true) (s1 := (29, [(0, .ref 120), (1, .ref 2), (2, .int a0), (3, .int (am_b a1))], [.int (p2.2 6 a0.toNatClampNeg)], am_SH, (p2.2, g))) rfl c42 ?_
    refine am_Ev.go hcd 1 (s' := (30, [(0, .ref 120), (1, .ref 2), (2, .int a0), (3, .int (am_b a1))], [.int (-1), .int (p2.2 6 a0.toNatClampNeg)], am_SH, (p2.2, g))) rfl ?_
    rcases am_ite h with ⟨c45, h⟩ | ⟨c45, h⟩
    · refine am_Ev.t hcd (c := p2.2 6 a0.toNatClampNeg = (-1)) (s1 := (37, [(0, .ref 120), (1, .ref 2), (2, .int a0), (3, .int (am_b a1))], [], am_SH, (p2.2, g))) rfl c45 ?_
      refine am_Ev.go hcd 7 (s' := (44, [(0, .ref 120), (1, .ref 2), (2, .int a0), (3, .int (am_b a1))], [.int a0, .ref 4, .int 300, .int a0, .ref 4], am_SH, (p2.2, g))) rfl ?_
      obtain ⟨c48, h⟩ := am_grd h
      refine am_Ev.t hcd (o := none) (c := am_in a0 6 = true) (s1 := (45, [(0, .ref 120), (1, .ref 2), (2, .int a0), (3, .int (am_b a1))], [.int (p2.2 4 a0.toNatClampNeg), .int 300, .int a0, .ref 4], am_SH, (p2.2, g))) rfl c48 ?_
      refine am_Ev.go hcd 2 (s' := (47, [(0, .ref 120), (1, .ref 2), (2, .int a0), (3, .int (am_b a1))], [.int 2, .ref 120, .int (p2.2 4 a0.toNatClampNeg), .int 300, .int a0, .ref 4], am_SH, (p2.2, g))) rfl ?_
      obtain ⟨p5, hp5, h⟩ := am_bind_some h
      refine am_Ev.call hcd (a := 14) (s0 := (0, [(0, .ref 120), (1, .int 2)], [], am_SH, (p2.2, g))) (q := ((some (.int p5.1)), am_SH, (p5.2, g))) (s1 := (48, [(0, .ref 120), (1, .ref 2), (2, .int a0), (3, .int (am_b a1))], [.int p5.1, .int (p2.2 4 a0.toNatClampNeg), .int 300, .int a0, .ref 4], am_SH, (p5.2, g))) rfl rfl (xb_told_ok (d + 1) 2 p2.2 g p5 hp5) ?_
      refine am_Ev.go hcd 1 (s' := (49, [(0, .ref 120), (1, .ref 2), (2, .int a0), (3, .int (am_b a1))], [.int ((p2.2 4 a0.toNatClampNeg) - p5.1), .int 300, .int a0, .ref 4], am_SH, (p5.2, g))) rfl ?_
      refine am_Ev.jdk hcd (s1 := (50, [(0, .ref 120), (1, .ref 2), (2, .int a0), (3, .int (am_b a1))], [.int (am_max 300 ((p2.2 4 a0.toNatClampNeg) - p5.1)), .int a0, .ref 4], am_SH, (p5.2, g))) rfl ?_
      obtain ⟨c56, h⟩ := am_grd h
      obtain ⟨f6, Ef6, h⟩ := am_let_eq h
      refine am_Ev.t hcd (o := none) (c := am_in a0 6 = true) (s1 := (51, [(0, .ref 120), (1, .ref 2), (2, .int a0), (3, .int (am_b a1))], [], am_SH, (f6, g))) (by subst Ef6; exact rfl) c56 ?_
      exact am_Ev.weak' (hLt8 f6 (Option.some.inj h)) (am_sub_cons rfl (am_sub_cons rfl (am_sub_cons rfl (am_sub_cons rfl am_sub_nil)))) rfl
    · refine am_Ev.f hcd (c := p2.2 6 a0.toNatClampNeg = (-1)) (s1 := (31, [(0, .ref 120), (1, .ref 2), (2, .int a0), (3, .int (am_b a1))], [], am_SH, (p2.2, g))) rfl c45 ?_
      refine am_Ev.go hcd 4 (s' := (35, [(0, .ref 120), (1, .ref 2), (2, .int a0), (3, .int (am_b a1))], [.int (am_b a1), .int a0, .ref 2, .ref 120], am_SH, (p2.2, g))) rfl ?_
      obtain ⟨p7, hp7, h⟩ := am_bind_some h
      refine am_Ev.call hcd (a := 9) (s0 := (0, [(0, .ref 120), (1, .ref 2), (2, .int a0), (3, .int (am_b a1))], [], am_SH, (p2.2, g))) (q := (none, am_SH, (p7, g))) (s1 := (36, [(0, .ref 120), (1, .ref 2), (2, .int a0), (3, .int (am_b a1))], [], am_SH, (p7, g))) rfl rfl (xb_warm_2_ok (d) a0 a1 p2.2 g p7 hp7) ?_
      refine am_Ev.go hcd 1 (s' := (51, [(0, .ref 120), (1, .ref 2), (2, .int a0), (3, .int (am_b a1))], [], am_SH, (p7, g))) rfl ?_
      exact am_Ev.weak' (hLt8 p7 (Option.some.inj h)) (am_sub_cons rfl (am_sub_cons rfl (am_sub_cons rfl (am_sub_cons rfl am_sub_nil)))) rfl
