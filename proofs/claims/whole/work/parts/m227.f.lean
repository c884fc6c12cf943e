set_option maxRecDepth 100000 in
set_option maxHeartbeats 4000000 in
theorem m_comesTo_ok {sc : Nat × (Nat → Int32)} (d : Nat) (a0 : Int32) (a1 : Int32) (f g : (Nat → Nat → Int32)) (r : Int32 × (Nat → Nat → Int32)) (h : m_comesTo a0 a1 f = some r) : am_Ev sc (d + 1) 226 (0, [(0, .ref 216), (1, .int a0), (2, .int a1)], [], am_SH, (g, f)) ((some (.int r.1)), am_SH, (g, r.2)) := by
  have hcd : am_code 226 = am_c226 := rfl
  unfold m_comesTo at h
  refine am_Ev.go hcd 4 (s' := (4, [(0, .ref 216), (1, .int a0), (2, .int a1), (3, .int 0), (4, .int a0)], [], am_SH, (g, f))) rfl ?_
  obtain ⟨e14, he14, h⟩ := am_bind_some h
  have hK1 : (fun (e14 : (Nat → Nat → Int32)) => am_Ev sc (d + 1) 226 (97, [(0, .ref 216)], [], am_SH, (g, e14)) ((some (.int r.1)), am_SH, (g, r.2))) e14 := by
    show am_Ev sc (d + 1) 226 (97, [(0, .ref 216)], [], am_SH, (g, e14)) ((some (.int r.1)), am_SH, (g, r.2))
    refine am_Ev.go hcd 4 (s' := (101, [(0, .ref 216)], [.int (e14 225 0)], am_SH, (g, e14))) rfl ?_
    exact am_Ev.cast (a := ((some (.int (e14 225 0, e14).1)), am_SH, (g, (e14 225 0, e14).2))) (by cases h; rfl) (am_Ev.ret hcd rfl)
  refine am_Ev.weak' (am_loop_ok (G := fun (s1 : Int32 × Int32 × (Nat → Nat → Int32)) => am_Ev sc (d + 1) 226 (4, [(0, .ref 216), (2, .int a1), (3, .int s1.1), (4, .int s1.2.1)], [], am_SH, (g, s1.2.2)) ((some (.int r.1)), am_SH, (g, r.2))) (Z := fun (e14 : (Nat → Nat → Int32)) => am_Ev sc (d + 1) 226 (97, [(0, .ref 216)], [], am_SH, (g, e14)) ((some (.int r.1)), am_SH, (g, r.2))) ?_ am_F (0, a0, f) e14 he14 hK1) (am_sub_cons rfl (am_sub_cons rfl (am_sub_cons rfl (am_sub_cons rfl am_sub_nil)))) rfl
  intro s1 q1 h hI1 hZ1
  show am_Ev sc (d + 1) 226 (4, [(0, .ref 216), (2, .int a1), (3, .int s1.1), (4, .int s1.2.1)], [], am_SH, (g, s1.2.2)) ((some (.int r.1)), am_SH, (g, r.2))
  refine am_Ev.go hcd 2 (s' := (6, [(0, .ref 216), (2, .int a1), (3, .int s1.1), (4, .int s1.2.1)], [.int a1, .int s1.2.1], am_SH, (g, s1.2.2))) rfl ?_
  rcases am_ite h with ⟨c11, h⟩ | ⟨c11, h⟩
  · refine am_Ev.t hcd (c := s1.2.1 < a1) (s1 := (7, [(0, .ref 216), (2, .int a1), (3, .int s1.1), (4, .int s1.2.1)], [], am_SH, (g, s1.2.2))) rfl c11 ?_
    refine am_Ev.go hcd 7 (s' := (14, [(0, .ref 216), (2, .int a1), (3, .int s1.1), (4, .int s1.2.1)], [.int (1188 + (2 * s1.2.1)), .ref 217], am_SH, (g, s1.2.2))) rfl ?_
    obtain ⟨c14, h⟩ := am_grd h
    refine am_Ev.t hcd (o := none) (c := am_in (1188 + (2 * s1.2.1)) 2008 = true) (s1 := (15, [(0, .ref 216), (2, .int a1), (3, .int s1.1), (4, .int s1.2.1)], [.int (s1.2.2 217 (1188 + (2 * s1.2.1)).toNatClampNeg)], am_SH, (g, s1.2.2))) rfl c14 ?_
    obtain ⟨t2, Et2, h⟩ := am_let_eq h
    refine am_Ev.go hcd 1 (s' := (16, [(0, .ref 216), (2, .int a1), (3, .int s1.1), (4, .int s1.2.1), (5, .int t2)], [], am_SH, (g, s1.2.2))) (by subst Et2; exact rfl) ?_
    refine am_Ev.go hcd 9 (s' := (25, [(0, .ref 216), (2, .int a1), (3, .int s1.1), (4, .int s1.2.1), (5, .int t2)], [.int ((1188 + (2 * s1.2.1)) + 1), .ref 217], am_SH, (g, s1.2.2))) rfl ?_
    obtain ⟨c19, h⟩ := am_grd h
    refine am_Ev.t hcd (o := none) (c := am_in ((1188 + (2 * s1.2.1)) + 1) 2008 = true) (s1 := (26, [(0, .ref 216), (2, .int a1), (3, .int s1.1), (4, .int s1.2.1), (5, .int t2)], [.int (s1.2.2 217 ((1188 + (2 * s1.2.1)) + 1).toNatClampNeg)], am_SH, (g, s1.2.2))) rfl c19 ?_
    obtain ⟨t3, Et3, h⟩ := am_let_eq h
    refine am_Ev.go hcd 1 (s' := (27, [(0, .ref 216), (2, .int a1), (3, .int s1.1), (4, .int s1.2.1), (5, .int t2), (6, .int t3)], [], am_SH, (g, s1.2.2))) (by subst Et3; exact rfl) ?_
    obtain ⟨t12, ht12, kt12⟩ := am_bind_some h
    have hKt12 : am_Ev sc (d + 1) 226 (95, [(0, .ref 216), (2, .int a1), (3, .int t12.1), (4, .int s1.2.1)], [], am_SH, (g, t12.2)) ((some (.int r.1)), am_SH, (g, r.2)) := by
      have h := kt12
      obtain ⟨t13, Et13, h⟩ := am_let_eq h
      refine am_Ev.go hcd 1 (s' := (96, [(0, .ref 216), (2, .int a1), (3, .int t12.1), (4, .int t13)], [], am_SH, (g, t12.2))) (by subst Et13; exact rfl) ?_
      refine am_Ev.go hcd 1 (s' := (4, [(0, .ref 216), (2, .int a1), (3, .int t12.1), (4, .int t13)], [], am_SH, (g, t12.2))) rfl ?_
      exact am_Ev.weak' (hI1 (t12.1, t13, t12.2) (Option.some.inj h).symm) (am_sub_cons rfl (am_sub_cons rfl (am_sub_cons rfl (am_sub_cons rfl am_sub_nil)))) rfl
    have hLt12 : ∀ tt, tt = t12 → am_Ev sc (d + 1) 226 (95, [(0, .ref 216), (2, .int a1), (3, .int tt.1), (4, .int s1.2.1)], [], am_SH, (g, tt.2)) ((some (.int r.1)), am_SH, (g, r.2)) := fun tt htt => by subst htt; exact hKt12
    have h := ht12
    refine am_Ev.go hcd 2 (s' := (29, [(0, .ref 216), (2, .int a1), (3, .int s1.1), (4, .int s1.2.1), (5, .int t2), (6, .int t3)], [.int 23, .int t2], am_SH, (g, s1.2.2))) rfl ?_
    rcases am_ite h with ⟨c33, h⟩ | ⟨c33, h⟩
    · refine am_Ev.t hcd (c := t2 < 23) (s1 := (30, [(0, .ref 216), (2, .int a1), (3, .int s1.1), (4, .int s1.2.1), (5, .int t2), (6, .int t3)], [], am_SH, (g, s1.2.2))) rfl c33 ?_
      obtain ⟨t4, ht4, kt4⟩ := am_bind_some h
      have hKt4 : am_Ev sc (d + 1) 226 (41, [(0, .ref 216), (2, .int a1), (3, .int s1.1), (4, .int s1.2.1)], [.int t4, .int s1.1, .ref 225], am_SH, (g, s1.2.2)) ((some (.int r.1)), am_SH, (g, r.2)) := by
        have h := kt4
        obtain ⟨c39, h⟩ := am_grd h
        obtain ⟨f5, Ef5, h⟩ := am_let_eq h
        refine am_Ev.t hcd (o := none) (c := am_in s1.1 420 = true) (s1 := (42, [(0, .ref 216), (2, .int a1), (3, .int s1.1), (4, .int s1.2.1)], [], am_SH, (g, f5))) (by subst Ef5; exact rfl) c39 ?_
        obtain ⟨t6, Et6, h⟩ := am_let_eq h
        refine am_Ev.go hcd 1 (s' := (43, [(0, .ref 216), (2, .int a1), (3, .int t6), (4, .int s1.2.1)], [], am_SH, (g, f5))) (by subst Et6; exact rfl) ?_
        refine am_Ev.go hcd 1 (s' := (95, [(0, .ref 216), (2, .int a1), (3, .int t6), (4, .int s1.2.1)], [], am_SH, (g, f5))) rfl ?_
        exact am_Ev.weak' (hLt12 (t6, f5) (Option.some.inj h)) (am_sub_cons rfl (am_sub_cons rfl (am_sub_cons rfl (am_sub_cons rfl am_sub_nil)))) rfl
      have hLt4 : ∀ tt, tt = t4 → am_Ev sc (d + 1) 226 (41, [(0, .ref 216), (2, .int a1), (3, .int s1.1), (4, .int s1.2.1)], [.int tt, .int s1.1, .ref 225], am_SH, (g, s1.2.2)) ((some (.int r.1)), am_SH, (g, r.2)) := fun tt htt => by subst htt; exact hKt4
      have h := ht4
      refine am_Ev.go hcd 4 (s' := (34, [(0, .ref 216), (2, .int a1), (3, .int s1.1), (4, .int s1.2.1), (5, .int t2), (6, .int t3)], [.int t2, .int s1.1, .ref 225], am_SH, (g, s1.2.2))) rfl ?_
      rcases am_ite h with ⟨c48, h⟩ | ⟨c48, h⟩
      · refine am_Ev.t hcd (c := t2 = 0) (s1 := (35, [(0, .ref 216), (2, .int a1), (3, .int s1.1), (4, .int s1.2.1), (5, .int t2), (6, .int t3)], [.int s1.1, .ref 225], am_SH, (g, s1.2.2))) rfl c48 ?_
        refine am_Ev.go hcd 2 (s' := (41, [(0, .ref 216), (2, .int a1), (3, .int s1.1), (4, .int s1.2.1), (5, .int t2), (6, .int t3)], [.int t3, .int s1.1, .ref 225], am_SH, (g, s1.2.2))) rfl ?_
        exact am_Ev.weak' (hLt4 t3 (Option.some.inj h)) (am_sub_cons rfl (am_sub_cons rfl (am_sub_cons rfl (am_sub_cons rfl am_sub_nil)))) rfl
      · refine am_Ev.f hcd (c := t2 = 0) (s1 := (37, [(0, .ref 216), (2, .int a1), (3, .int s1.1), (4, .int s1.2.1), (5, .int t2), (6, .int t3)], [.int s1.1, .ref 225], am_SH, (g, s1.2.2))) rfl c48 ?_
        refine am_Ev.go hcd 3 (s' := (40, [(0, .ref 216), (2, .int a1), (3, .int s1.1), (4, .int s1.2.1), (5, .int t2), (6, .int t3)], [.int t2, .ref 226, .int s1.1, .ref 225], am_SH, (g, s1.2.2))) rfl ?_
        obtain ⟨c54, h⟩ := am_grd h
        refine am_Ev.t hcd (o := none) (c := am_in t2 11 = true) (s1 := (41, [(0, .ref 216), (2, .int a1), (3, .int s1.1), (4, .int s1.2.1), (5, .int t2), (6, .int t3)], [.int (s1.2.2 226 t2.toNatClampNeg), .int s1.1, .ref 225], am_SH, (g, s1.2.2))) rfl c54 ?_
        exact am_Ev.weak' (hLt4 (s1.2.2 226 t2.toNatClampNeg) (Option.some.inj h)) (am_sub_cons rfl (am_sub_cons rfl (am_sub_cons rfl (am_sub_cons rfl am_sub_nil)))) rfl
    · refine am_Ev.f hcd (c := t2 < 23) (s1 := (44, [(0, .ref 216), (2, .int a1), (3, .int s1.1), (4, .int s1.2.1), (5, .int t2), (6, .int t3)], [], am_SH, (g, s1.2.2))) rfl c33 ?_
      refine am_Ev.go hcd 2 (s' := (46, [(0, .ref 216), (2, .int a1), (3, .int s1.1), (4, .int s1.2.1), (5, .int t2), (6, .int t3)], [.int 26, .int t2], am_SH, (g, s1.2.2))) rfl ?_
      rcases am_ite h with ⟨c59, h⟩ | ⟨c59, h⟩
      · refine am_Ev.t hcd (c := t2 = 26) (s1 := (47, [(0, .ref 216), (2, .int a1), (3, .int s1.1), (4, .int s1.2.1), (5, .int t2), (6, .int t3)], [], am_SH, (g, s1.2.2))) rfl c59 ?_
        refine am_Ev.go hcd 6 (s' := (53, [(0, .ref 216), (2, .int a1), (3, .int s1.1), (4, .int s1.2.1), (5, .int t2), (6, .int t3)], [.int (s1.1 - 1), .ref 225, .int (s1.1 - 1), .ref 225], am_SH, (g, s1.2.2))) rfl ?_
        obtain ⟨c62, h⟩ := am_grd h
        refine am_Ev.t hcd (o := none) (c := am_in (s1.1 - 1) 420 = true) (s1 := (54, [(0, .ref 216), (2, .int a1), (3, .int s1.1), (4, .int s1.2.1), (5, .int t2), (6, .int t3)], [.int (s1.2.2 225 (s1.1 - 1).toNatClampNeg), .int (s1.1 - 1), .ref 225], am_SH, (g, s1.2.2))) rfl c62 ?_
        refine am_Ev.go hcd 1 (s' := (55, [(0, .ref 216), (2, .int a1), (3, .int s1.1), (4, .int s1.2.1), (5, .int t2), (6, .int t3)], [.int t3, .int (s1.2.2 225 (s1.1 - 1).toNatClampNeg), .int (s1.1 - 1), .ref 225], am_SH, (g, s1.2.2))) rfl ?_
        rcases am_ite h with ⟨c65, h⟩ | ⟨c65, h⟩
        · exact absurd h (by simp)
        · refine am_Ev.f hcd (c := t3 = 0) (s1 := (56, [(0, .ref 216), (2, .int a1), (3, .int s1.1), (4, .int s1.2.1), (5, .int t2), (6, .int t3)], [.int ((s1.2.2 225 (s1.1 - 1).toNatClampNeg) / t3), .int (s1.1 - 1), .ref 225], am_SH, (g, s1.2.2))) rfl c65 ?_
          obtain ⟨c69, h⟩ := am_grd h
          obtain ⟨f7, Ef7, h⟩ := am_let_eq h
          refine am_Ev.t hcd (o := none) (c := am_in (s1.1 - 1) 420 = true) (s1 := (57, [(0, .ref 216), (2, .int a1), (3, .int s1.1), (4, .int s1.2.1), (5, .int t2), (6, .int t3)], [], am_SH, (g, f7))) (by subst Ef7; exact rfl) c69 ?_
          refine am_Ev.go hcd 1 (s' := (95, [(0, .ref 216), (2, .int a1), (3, .int s1.1), (4, .int s1.2.1), (5, .int t2), (6, .int t3)], [], am_SH, (g, f7))) rfl ?_
          exact am_Ev.weak' (hLt12 (s1.1, f7) (Option.some.inj h)) (am_sub_cons rfl (am_sub_cons rfl (am_sub_cons rfl (am_sub_cons rfl am_sub_nil)))) rfl
      · refine am_Ev.f hcd (c := t2 = 26) (s1 := (58, [(0, .ref 216), (2, .int a1), (3, .int s1.1), (4, .int s1.2.1), (5, .int t2), (6, .int t3)], [], am_SH, (g, s1.2.2))) rfl c59 ?_
        refine am_Ev.go hcd 2 (s' := (60, [(0, .ref 216), (2, .int a1), (3, .int s1.1), (4, .int s1.2.1), (5, .int t2), (6, .int t3)], [.int 30, .int t2], am_SH, (g, s1.2.2))) rfl ?_
        rcases am_ite h with ⟨c75, h⟩ | ⟨c75, h⟩
        · refine am_Ev.t hcd (c := t2 = 30) (s1 := (61, [(0, .ref 216), (2, .int a1), (3, .int s1.1), (4, .int s1.2.1), (5, .int t2), (6, .int t3)], [], am_SH, (g, s1.2.2))) rfl c75 ?_
          refine am_Ev.go hcd 11 (s' := (72, [(0, .ref 216), (2, .int a1), (3, .int s1.1), (4, .int s1.2.1), (5, .int t2), (6, .int t3)], [.int (s1.1 - 1), .ref 225, .int 1, .int (s1.1 - 1), .ref 225], am_SH, (g, s1.2.2))) rfl ?_
          obtain ⟨c78, h⟩ := am_grd h
          refine am_Ev.t hcd (o := none) (c := am_in (s1.1 - 1) 420 = true) (s1 := (73, [(0, .ref 216), (2, .int a1), (3, .int s1.1), (4, .int s1.2.1), (5, .int t2), (6, .int t3)], [.int (s1.2.2 225 (s1.1 - 1).toNatClampNeg), .int 1, .int (s1.1 - 1), .ref 225], am_SH, (g, s1.2.2))) rfl c78 ?_
          refine am_Ev.go hcd 1 (s' := (74, [(0, .ref 216), (2, .int a1), (3, .int s1.1), (4, .int s1.2.1), (5, .int t2), (6, .int t3)], [.int (1 - (s1.2.2 225 (s1.1 - 1).toNatClampNeg)), .int (s1.1 - 1), .ref 225], am_SH, (g, s1.2.2))) rfl ?_
          obtain ⟨c81, h⟩ := am_grd h
          obtain ⟨f8, Ef8, h⟩ := am_let_eq h
          refine am_Ev.t hcd (o := none) (c := am_in (s1.1 - 1) 420 = true) (s1 := (75, [(0, .ref 216), (2, .int a1), (3, .int s1.1), (4, .int s1.2.1), (5, .int t2), (6, .int t3)], [], am_SH, (g, f8))) (by subst Ef8; exact rfl) c81 ?_
          refine am_Ev.go hcd 1 (s' := (95, [(0, .ref 216), (2, .int a1), (3, .int s1.1), (4, .int s1.2.1), (5, .int t2), (6, .int t3)], [], am_SH, (g, f8))) rfl ?_
          exact am_Ev.weak' (hLt12 (s1.1, f8) (Option.some.inj h)) (am_sub_cons rfl (am_sub_cons rfl (am_sub_cons rfl (am_sub_cons rfl am_sub_nil)))) rfl
        · refine am_Ev.f hcd (c := t2 = 30) (s1 := (76, [(0, .ref 216), (2, .int a1), (3, .int s1.1), (4, .int s1.2.1), (5, .int t2), (6, .int t3)], [], am_SH, (g, s1.2.2))) rfl c75 ?_
          obtain ⟨t9, Et9, h⟩ := am_let_eq h
          refine am_Ev.go hcd 1 (s' := (77, [(0, .ref 216), (2, .int a1), (3, .int t9), (4, .int s1.2.1), (5, .int t2), (6, .int t3)], [], am_SH, (g, s1.2.2))) (by subst Et9; exact rfl) ?_
          refine am_Ev.go hcd 11 (s' := (88, [(0, .ref 216), (2, .int a1), (3, .int t9), (4, .int s1.2.1), (5, .int t2), (6, .int t3)], [.int (t9 - 1), .ref 225, .int t2, .int (t9 - 1), .ref 225], am_SH, (g, s1.2.2))) rfl ?_
          obtain ⟨c90, h⟩ := am_grd h
          refine am_Ev.t hcd (o := none) (c := am_in (t9 - 1) 420 = true) (s1 := (89, [(0, .ref 216), (2, .int a1), (3, .int t9), (4, .int s1.2.1), (5, .int t2), (6, .int t3)], [.int (s1.2.2 225 (t9 - 1).toNatClampNeg), .int t2, .int (t9 - 1), .ref 225], am_SH, (g, s1.2.2))) rfl c90 ?_
          refine am_Ev.go hcd 3 (s' := (92, [(0, .ref 216), (2, .int a1), (3, .int t9), (4, .int s1.2.1), (5, .int t2), (6, .int t3)], [.int t9, .ref 225, .int (s1.2.2 225 (t9 - 1).toNatClampNeg), .int t2, .int (t9 - 1), .ref 225], am_SH, (g, s1.2.2))) rfl ?_
          obtain ⟨c93, h⟩ := am_grd h
          refine am_Ev.t hcd (o := none) (c := am_in t9 420 = true) (s1 := (93, [(0, .ref 216), (2, .int a1), (3, .int t9), (4, .int s1.2.1), (5, .int t2), (6, .int t3)], [.int (s1.2.2 225 t9.toNatClampNeg), .int (s1.2.2 225 (t9 - 1).toNatClampNeg), .int t2, .int (t9 - 1), .ref 225], am_SH, (g, s1.2.2))) rfl c93 ?_
          refine am_Ev.call hcd (a := 225) (s0 := (0, [(0, .int t2), (1, .int (s1.2.2 225 (t9 - 1).toNatClampNeg)), (2, .int (s1.2.2 225 t9.toNatClampNeg))], [], am_SH, (g, s1.2.2))) (q := ((some (.int (m_both t2 (s1.2.2 225 (t9 - 1).toNatClampNeg) (s1.2.2 225 t9.toNatClampNeg)))), am_SH, (g, s1.2.2))) (s1 := (94, [(0, .ref 216), (2, .int a1), (3, .int t9), (4, .int s1.2.1), (5, .int t2), (6, .int t3)], [.int (m_both t2 (s1.2.2 225 (t9 - 1).toNatClampNeg) (s1.2.2 225 t9.toNatClampNeg)), .int (t9 - 1), .ref 225], am_SH, (g, s1.2.2))) rfl rfl (m_both_ok (d) t2 (s1.2.2 225 (t9 - 1).toNatClampNeg) (s1.2.2 225 t9.toNatClampNeg) (g, s1.2.2)) ?_
          obtain ⟨c97, h⟩ := am_grd h
          obtain ⟨f11, Ef11, h⟩ := am_let_eq h
          refine am_Ev.t hcd (o := none) (c := am_in (t9 - 1) 420 = true) (s1 := (95, [(0, .ref 216), (2, .int a1), (3, .int t9), (4, .int s1.2.1), (5, .int t2), (6, .int t3)], [], am_SH, (g, f11))) (by subst Ef11; exact rfl) c97 ?_
          exact am_Ev.weak' (hLt12 (t9, f11) (Option.some.inj h)) (am_sub_cons rfl (am_sub_cons rfl (am_sub_cons rfl (am_sub_cons rfl am_sub_nil)))) rfl
  · refine am_Ev.f hcd (c := s1.2.1 < a1) (s1 := (97, [(0, .ref 216), (2, .int a1), (3, .int s1.1), (4, .int s1.2.1)], [], am_SH, (g, s1.2.2))) rfl c11 ?_
    exact am_Ev.weak' (hZ1 s1.2.2 (Option.some.inj h).symm) (am_sub_cons rfl am_sub_nil) rfl
set_option maxRecDepth 100000 in
set_option maxHeartbeats 4000000 in
theorem m_isSo_ok {sc : Nat × (Nat → Int32)} (d : Nat) (a0 : Int32) (f g : (Nat → Nat → Int32)) (r : Bool × (Nat → Nat → Int32)) (h : m_isSo a0 f = some r) : am_Ev sc (d + 2) 227 (0, [(0, .ref 216), (1, .int a0)], [], am_SH, (g, f)) ((some (.int (am_b r.1))), am_SH, (g, r.2)) := by
  have hcd : am_code 227 = am_c227 := rfl
  unfold m_isSo at h
  refine am_Ev.go hcd 5 (s' := (5, [(0, .ref 216), (1, .int a0)], [.int (1156 + a0), .ref 217], am_SH, (g, f))) rfl ?_
  obtain ⟨c2, h⟩ := am_grd h
  refine am_Ev.t hcd (o := none) (c := am_in (1156 + a0) 2008 = true) (s1 := (6, [(0, .ref 216), (1, .int a0)], [.int (f 217 (1156 + a0).toNatClampNeg)], am_SH, (g, f))) rfl c2 ?_
  refine am_Ev.go hcd 5 (s' := (11, [(0, .ref 216), (1, .int a0)], [.int (1140 + a0), .ref 217, .int (f 217 (1156 + a0).toNatClampNeg)], am_SH, (g, f))) rfl ?_
  obtain ⟨c5, h⟩ := am_grd h
  refine am_Ev.t hcd (o := none) (c := am_in (1140 + a0) 2008 = true) (s1 := (12, [(0, .ref 216), (1, .int a0)], [.int (f 217 (1140 + a0).toNatClampNeg), .int (f 217 (1156 + a0).toNatClampNeg)], am_SH, (g, f))) rfl c5 ?_
  rcases am_ite h with ⟨c8, h⟩ | ⟨c8, h⟩
  · refine am_Ev.t hcd (c := f 217 (1156 + a0).toNatClampNeg = f 217 (1140 + a0).toNatClampNeg) (s1 := (29, [(0, .ref 216), (1, .int a0)], [], am_SH, (g, f))) rfl c8 ?_
    refine am_Ev.go hcd 2 (s' := (32, [(0, .ref 216), (1, .int a0)], [.int 1], am_SH, (g, f))) rfl ?_
    exact am_Ev.cast (a := ((some (.int (am_b (true, f).1))), am_SH, (g, (true, f).2))) (by cases h; rfl) (am_Ev.ret hcd rfl)
  · refine am_Ev.f hcd (c := f 217 (1156 + a0).toNatClampNeg = f 217 (1140 + a0).toNatClampNeg) (s1 := (13, [(0, .ref 216), (1, .int a0)], [], am_SH, (g, f))) rfl c8 ?_
    refine am_Ev.go hcd 6 (s' := (19, [(0, .ref 216), (1, .int a0)], [.int (1140 + a0), .ref 217, .ref 216], am_SH, (g, f))) rfl ?_
    obtain ⟨c13, h⟩ := am_grd h
    refine am_Ev.t hcd (o := none) (c := am_in (1140 + a0) 2008 = true) (s1 := (20, [(0, .ref 216), (1, .int a0)], [.int (f 217 (1140 + a0).toNatClampNeg), .ref 216], am_SH, (g, f))) rfl c13 ?_
    refine am_Ev.go hcd 5 (s' := (25, [(0, .ref 216), (1, .int a0)], [.int (1156 + a0), .ref 217, .int (f 217 (1140 + a0).toNatClampNeg), .ref 216], am_SH, (g, f))) rfl ?_
    obtain ⟨c16, h⟩ := am_grd h
    refine am_Ev.t hcd (o := none) (c := am_in (1156 + a0) 2008 = true) (s1 := (26, [(0, .ref 216), (1, .int a0)], [.int (f 217 (1156 + a0).toNatClampNeg), .int (f 217 (1140 + a0).toNatClampNeg), .ref 216], am_SH, (g, f))) rfl c16 ?_
    obtain ⟨p1, hp1, h⟩ := am_bind_some h
    refine am_Ev.call hcd (a := 226) (s0 := (0, [(0, .ref 216), (1, .int (f 217 (1140 + a0).toNatClampNeg)), (2, .int (f 217 (1156 + a0).toNatClampNeg))], [], am_SH, (g, f))) (q := ((some (.int p1.1)), am_SH, (g, p1.2))) (s1 := (27, [(0, .ref 216), (1, .int a0)], [.int p1.1], am_SH, (g, p1.2))) rfl rfl (m_comesTo_ok (d) (f 217 (1140 + a0).toNatClampNeg) (f 217 (1156 + a0).toNatClampNeg) f g p1 hp1) ?_
    refine am_Ev.go hcd 1 (s' := (28, [(0, .ref 216), (1, .int a0)], [.int 1, .int p1.1], am_SH, (g, p1.2))) rfl ?_
    rcases am_ite h with ⟨c21, h⟩ | ⟨c21, h⟩
    · refine am_Ev.t hcd (c := p1.1 = 1) (s1 := (29, [(0, .ref 216), (1, .int a0)], [], am_SH, (g, p1.2))) rfl c21 ?_
      refine am_Ev.go hcd 2 (s' := (32, [(0, .ref 216), (1, .int a0)], [.int 1], am_SH, (g, p1.2))) rfl ?_
      exact am_Ev.cast (a := ((some (.int (am_b (true, p1.2).1))), am_SH, (g, (true, p1.2).2))) (by cases h; rfl) (am_Ev.ret hcd rfl)
    · refine am_Ev.f hcd (c := p1.1 = 1) (s1 := (31, [(0, .ref 216), (1, .int a0)], [], am_SH, (g, p1.2))) rfl c21 ?_
      refine am_Ev.go hcd 1 (s' := (32, [(0, .ref 216), (1, .int a0)], [.int 0], am_SH, (g, p1.2))) rfl ?_
      exact am_Ev.cast (a := ((some (.int (am_b (false, p1.2).1))), am_SH, (g, (false, p1.2).2))) (by cases h; rfl) (am_Ev.ret hcd rfl)
set_option maxRecDepth 100000 in
set_option maxHeartbeats 4000000 in
theorem m_lesser_ok {sc : Nat × (Nat → Int32)} (d : Nat) (a0 : Int32) (a1 : Int32) (hp : am_H) : am_Ev sc (d) 177 (0, [(0, .int a0), (1, .int a1)], [], am_SH, hp) ((some (.int (m_lesser a0 a1))), am_SH, hp) := by
  have hcd : am_code 177 = am_c177 := rfl
  obtain ⟨r, h⟩ : ∃ r, r = m_lesser a0 a1 := ⟨_, rfl⟩
  rw [← h]
  unfold m_lesser at h
  refine am_Ev.go hcd 2 (s' := (2, [(0, .int a0), (1, .int a1)], [.int a1, .int a0], am_SH, hp)) rfl ?_
  rcases am_itv h with ⟨c4, h⟩ | ⟨c4, h⟩
  · refine am_Ev.t hcd (c := a0 < a1) (s1 := (3, [(0, .int a0), (1, .int a1)], [], am_SH, hp)) rfl c4 ?_
    refine am_Ev.go hcd 2 (s' := (6, [(0, .int a0), (1, .int a1)], [.int a0], am_SH, hp)) rfl ?_
    exact am_Ev.cast (a := ((some (.int a0)), am_SH, hp)) (by subst h; rfl) (am_Ev.ret hcd rfl)
  · refine am_Ev.f hcd (c := a0 < a1) (s1 := (5, [(0, .int a0), (1, .int a1)], [], am_SH, hp)) rfl c4 ?_
    refine am_Ev.go hcd 1 (s' := (6, [(0, .int a0), (1, .int a1)], [.int a1], am_SH, hp)) rfl ?_
    exact am_Ev.cast (a := ((some (.int a1)), am_SH, hp)) (by subst h; rfl) (am_Ev.ret hcd rfl)
set_option maxRecDepth 100000 in
set_option maxHeartbeats 4000000 in
theorem m_lawSays_ok {sc : Nat × (Nat → Int32)} (d : Nat) (a0 : Int32) (a1 : Int32) (a2 : Int32) (f g : (Nat → Nat → Int32)) (r : Int32 × (Nat → Nat → Int32)) (h : m_lawSays a0 a1 a2 f = some r) : am_Ev sc (d + 3) 228 (0, [(0, .ref 216), (1, .int a0), (2, .int a1), (3, .int a2)], [], am_SH, (g, f)) ((some (.int r.1)), am_SH, (g, r.2)) := by
  have hcd : am_code 228 = am_c228 := rfl
  unfold m_lawSays at h
  refine am_Ev.go hcd 4 (s' := (4, [(0, .ref 216), (1, .int a0), (2, .int a1), (3, .int a2), (4, .int a1), (5, .int 0)], [], am_SH, (g, f))) rfl ?_
  obtain ⟨e5, he5, h⟩ := am_bind_some h
  have hK1 : (fun (e5 : Int32 × (Nat → Nat → Int32)) => am_Ev sc (d + 3) 228 (24, [(0, .ref 216), (3, .int a2), (4, .int a1), (5, .int e5.1)], [], am_SH, (g, e5.2)) ((some (.int r.1)), am_SH, (g, r.2))) e5 := by
    show am_Ev sc (d + 3) 228 (24, [(0, .ref 216), (3, .int a2), (4, .int a1), (5, .int e5.1)], [], am_SH, (g, e5.2)) ((some (.int r.1)), am_SH, (g, r.2))
    obtain ⟨t7, ht7, kt7⟩ := am_bind_some h
    have hKt7 : am_Ev sc (d + 3) 228 (45, [(3, .int a2), (4, .int t7.1)], [], am_SH, (g, t7.2)) ((some (.int r.1)), am_SH, (g, r.2)) := by
      have h := kt7
      refine am_Ev.go hcd 3 (s' := (48, [(3, .int a2), (4, .int t7.1)], [.int t7.1, .int a2, .int 0], am_SH, (g, t7.2))) rfl ?_
      refine am_Ev.call hcd (a := 177) (s0 := (0, [(0, .int a2), (1, .int t7.1)], [], am_SH, (g, t7.2))) (q := ((some (.int (m_lesser a2 t7.1))), am_SH, (g, t7.2))) (s1 := (49, [(3, .int a2), (4, .int t7.1)], [.int (m_lesser a2 t7.1), .int 0], am_SH, (g, t7.2))) rfl rfl (m_lesser_ok (d + 2) a2 t7.1 (g, t7.2)) ?_
      refine am_Ev.call hcd (a := 178) (s0 := (0, [(0, .int 0), (1, .int (m_lesser a2 t7.1))], [], am_SH, (g, t7.2))) (q := ((some (.int (m_greater 0 (m_lesser a2 t7.1)))), am_SH, (g, t7.2))) (s1 := (50, [(3, .int a2), (4, .int t7.1)], [.int (m_greater 0 (m_lesser a2 t7.1))], am_SH, (g, t7.2))) rfl rfl (m_greater_ok (d + 2) 0 (m_lesser a2 t7.1) (g, t7.2)) ?_
      exact am_Ev.cast (a := ((some (.int ((m_greater 0 (m_lesser a2 t7.1)), t7.2).1)), am_SH, (g, ((m_greater 0 (m_lesser a2 t7.1)), t7.2).2))) (by cases h; rfl) (am_Ev.ret hcd rfl)
    have hLt7 : ∀ tt, tt = t7 → am_Ev sc (d + 3) 228 (45, [(3, .int a2), (4, .int tt.1)], [], am_SH, (g, tt.2)) ((some (.int r.1)), am_SH, (g, r.2)) := fun tt htt => by subst htt; exact hKt7
    have h := ht7
    refine am_Ev.go hcd 5 (s' := (29, [(0, .ref 216), (3, .int a2), (4, .int a1), (5, .int e5.1)], [.int (e5.2 217 71), .int e5.1], am_SH, (g, e5.2))) rfl ?_
    rcases am_ite h with ⟨c15, h⟩ | ⟨c15, h⟩
    · refine am_Ev.t hcd (c := e5.1 < e5.2 217 71) (s1 := (30, [(0, .ref 216), (3, .int a2), (4, .int a1), (5, .int e5.1)], [], am_SH, (g, e5.2))) rfl c15 ?_
      refine am_Ev.go hcd 6 (s' := (36, [(0, .ref 216), (3, .int a2), (4, .int a1), (5, .int e5.1)], [.int (1124 + e5.1), .ref 217, .ref 216], am_SH, (g, e5.2))) rfl ?_
      obtain ⟨c18, h⟩ := am_grd h
      refine am_Ev.t hcd (o := none) (c := am_in (1124 + e5.1) 2008 = true) (s1 := (37, [(0, .ref 216), (3, .int a2), (4, .int a1), (5, .int e5.1)], [.int (e5.2 217 (1124 + e5.1).toNatClampNeg), .ref 216], am_SH, (g, e5.2))) rfl c18 ?_
      refine am_Ev.go hcd 5 (s' := (42, [(0, .ref 216), (3, .int a2), (4, .int a1), (5, .int e5.1)], [.int (1140 + e5.1), .ref 217, .int (e5.2 217 (1124 + e5.1).toNatClampNeg), .ref 216], am_SH, (g, e5.2))) rfl ?_
      obtain ⟨c21, h⟩ := am_grd h
      refine am_Ev.t hcd (o := none) (c := am_in (1140 + e5.1) 2008 = true) (s1 := (43, [(0, .ref 216), (3, .int a2), (4, .int a1), (5, .int e5.1)], [.int (e5.2 217 (1140 + e5.1).toNatClampNeg), .int (e5.2 217 (1124 + e5.1).toNatClampNeg), .ref 216], am_SH, (g, e5.2))) rfl c21 ?_
      obtain ⟨p6, hp6, h⟩ := am_bind_some h
      refine am_Ev.call hcd (a := 226) (s0 := (0, [(0, .ref 216), (1, .int (e5.2 217 (1124 + e5.1).toNatClampNeg)), (2, .int (e5.2 217 (1140 + e5.1).toNatClampNeg))], [], am_SH, (g, e5.2))) (q := ((some (.int p6.1)), am_SH, (g, p6.2))) (s1 := (44, [(0, .ref 216), (3, .int a2), (4, .int a1), (5, .int e5.1)], [.int p6.1], am_SH, (g, p6.2))) rfl rfl (m_comesTo_ok (d + 1) (e5.2 217 (1124 + e5.1).toNatClampNeg) (e5.2 217 (1140 + e5.1).toNatClampNeg) e5.2 g p6 hp6) ?_
      refine am_Ev.go hcd 1 (s' := (45, [(0, .ref 216), (3, .int a2), (4, .int p6.1), (5, .int e5.1)], [], am_SH, (g, p6.2))) rfl ?_
      exact am_Ev.weak' (hLt7 (p6.1, p6.2) (Option.some.inj h)) (am_sub_cons rfl (am_sub_cons rfl am_sub_nil)) rfl
    · refine am_Ev.f hcd (c := e5.1 < e5.2 217 71) (s1 := (45, [(0, .ref 216), (3, .int a2), (4, .int a1), (5, .int e5.1)], [], am_SH, (g, e5.2))) rfl c15 ?_
      exact am_Ev.weak' (hLt7 (a1, e5.2) (Option.some.inj h)) (am_sub_cons rfl (am_sub_cons rfl am_sub_nil)) rfl
  refine am_Ev.weak' (am_loop_ok (G := fun (s1 : Int32 × (Nat → Nat → Int32)) => am_Ev sc (d + 3) 228 (4, [(0, .ref 216), (1, .int a0), (3, .int a2), (4, .int a1), (5, .int s1.1)], [], am_SH, (g, s1.2)) ((some (.int r.1)), am_SH, (g, r.2))) (Z := fun (e5 : Int32 × (Nat → Nat → Int32)) => am_Ev sc (d + 3) 228 (24, [(0, .ref 216), (3, .int a2), (4, .int a1), (5, .int e5.1)], [], am_SH, (g, e5.2)) ((some (.int r.1)), am_SH, (g, r.2))) ?_ am_F (0, f) e5 he5 hK1) (am_sub_cons rfl (am_sub_cons rfl (am_sub_cons rfl (am_sub_cons rfl (am_sub_cons rfl am_sub_nil))))) rfl
  intro s1 q1 h hI1 hZ1
  show am_Ev sc (d + 3) 228 (4, [(0, .ref 216), (1, .int a0), (3, .int a2), (4, .int a1), (5, .int s1.1)], [], am_SH, (g, s1.2)) ((some (.int r.1)), am_SH, (g, r.2))
  refine am_Ev.go hcd 5 (s' := (9, [(0, .ref 216), (1, .int a0), (3, .int a2), (4, .int a1), (5, .int s1.1)], [.int (s1.2 217 71), .int s1.1], am_SH, (g, s1.2))) rfl ?_
  rcases am_ite h with ⟨c33, h⟩ | ⟨c33, h⟩
  · refine am_Ev.t hcd (c := s1.1 < s1.2 217 71) (s1 := (10, [(0, .ref 216), (1, .int a0), (3, .int a2), (4, .int a1), (5, .int s1.1)], [], am_SH, (g, s1.2))) rfl c33 ?_
    refine am_Ev.go hcd 5 (s' := (15, [(0, .ref 216), (1, .int a0), (3, .int a2), (4, .int a1), (5, .int s1.1)], [.int (1172 + s1.1), .ref 217], am_SH, (g, s1.2))) rfl ?_
    obtain ⟨c36, h⟩ := am_grd h
    refine am_Ev.t hcd (o := none) (c := am_in (1172 + s1.1) 2008 = true) (s1 := (16, [(0, .ref 216), (1, .int a0), (3, .int a2), (4, .int a1), (5, .int s1.1)], [.int (s1.2 217 (1172 + s1.1).toNatClampNeg)], am_SH, (g, s1.2))) rfl c36 ?_
    refine am_Ev.go hcd 1 (s' := (17, [(0, .ref 216), (1, .int a0), (3, .int a2), (4, .int a1), (5, .int s1.1)], [.int a0, .int (s1.2 217 (1172 + s1.1).toNatClampNeg)], am_SH, (g, s1.2))) rfl ?_
    rcases am_ite h with ⟨c39, h⟩ | ⟨c39, h⟩
    · refine am_Ev.t hcd (c := s1.2 217 (1172 + s1.1).toNatClampNeg = a0) (s1 := (18, [(0, .ref 216), (1, .int a0), (3, .int a2), (4, .int a1), (5, .int s1.1)], [], am_SH, (g, s1.2))) rfl c39 ?_
      refine am_Ev.go hcd 2 (s' := (20, [(0, .ref 216), (1, .int a0), (3, .int a2), (4, .int a1), (5, .int s1.1)], [.int s1.1, .ref 216], am_SH, (g, s1.2))) rfl ?_
      obtain ⟨p2, hp2, h⟩ := am_bind_some h
      refine am_Ev.call hcd (a := 227) (s0 := (0, [(0, .ref 216), (1, .int s1.1)], [], am_SH, (g, s1.2))) (q := ((some (.int (am_b p2.1))), am_SH, (g, p2.2))) (s1 := (21, [(0, .ref 216), (1, .int a0), (3, .int a2), (4, .int a1), (5, .int s1.1)], [.int (am_b p2.1)], am_SH, (g, p2.2))) rfl rfl (m_isSo_ok (d) s1.1 s1.2 g p2 hp2) ?_
      rcases am_ite h with ⟨c45, h⟩ | ⟨c45, h⟩
      · refine am_Ev.f hcd (c := am_b p2.1 = 0) (s1 := (24, [(0, .ref 216), (1, .int a0), (3, .int a2), (4, .int a1), (5, .int s1.1)], [], am_SH, (g, p2.2))) rfl (am_b_t c45) ?_
        exact am_Ev.weak' (hZ1 (s1.1, p2.2) (Option.some.inj h).symm) (am_sub_cons rfl (am_sub_cons rfl (am_sub_cons rfl (am_sub_cons rfl am_sub_nil)))) rfl
      · refine am_Ev.t hcd (c := am_b p2.1 = 0) (s1 := (22, [(0, .ref 216), (1, .int a0), (3, .int a2), (4, .int a1), (5, .int s1.1)], [], am_SH, (g, p2.2))) rfl (am_b_f c45) ?_
        obtain ⟨t3, Et3, h⟩ := am_let_eq h
        refine am_Ev.go hcd 1 (s' := (23, [(0, .ref 216), (1, .int a0), (3, .int a2), (4, .int a1), (5, .int t3)], [], am_SH, (g, p2.2))) (by subst Et3; exact rfl) ?_
        refine am_Ev.go hcd 1 (s' := (4, [(0, .ref 216), (1, .int a0), (3, .int a2), (4, .int a1), (5, .int t3)], [], am_SH, (g, p2.2))) rfl ?_
        exact am_Ev.weak' (hI1 (t3, p2.2) (Option.some.inj h).symm) (am_sub_cons rfl (am_sub_cons rfl (am_sub_cons rfl (am_sub_cons rfl (am_sub_cons rfl am_sub_nil))))) rfl
    · refine am_Ev.f hcd (c := s1.2 217 (1172 + s1.1).toNatClampNeg = a0) (s1 := (22, [(0, .ref 216), (1, .int a0), (3, .int a2), (4, .int a1), (5, .int s1.1)], [], am_SH, (g, s1.2))) rfl c39 ?_
      obtain ⟨t4, Et4, h⟩ := am_let_eq h
      refine am_Ev.go hcd 1 (s' := (23, [(0, .ref 216), (1, .int a0), (3, .int a2), (4, .int a1), (5, .int t4)], [], am_SH, (g, s1.2))) (by subst Et4; exact rfl) ?_
      refine am_Ev.go hcd 1 (s' := (4, [(0, .ref 216), (1, .int a0), (3, .int a2), (4, .int a1), (5, .int t4)], [], am_SH, (g, s1.2))) rfl ?_
      exact am_Ev.weak' (hI1 (t4, s1.2) (Option.some.inj h).symm) (am_sub_cons rfl (am_sub_cons rfl (am_sub_cons rfl (am_sub_cons rfl (am_sub_cons rfl am_sub_nil))))) rfl
  · refine am_Ev.f hcd (c := s1.1 < s1.2 217 71) (s1 := (24, [(0, .ref 216), (1, .int a0), (3, .int a2), (4, .int a1), (5, .int s1.1)], [], am_SH, (g, s1.2))) rfl c33 ?_
    exact am_Ev.weak' (hZ1 (s1.1, s1.2) (Option.some.inj h).symm) (am_sub_cons rfl (am_sub_cons rfl (am_sub_cons rfl (am_sub_cons rfl am_sub_nil)))) rfl
set_option maxRecDepth 100000 in
set_option maxHeartbeats 4000000 in
theorem m_slipsOf_ok {sc : Nat × (Nat → Int32)} (d : Nat) (a0 : Int32) (f g : (Nat → Nat → Int32)) (r : Int32 × (Nat → Nat → Int32)) (h : m_slipsOf a0 f = some r) : am_Ev sc (d + 4) 234 (0, [(0, .ref 216), (1, .int a0)], [], am_SH, (g, f)) ((some (.int r.1)), am_SH, (g, r.2)) := by
  have hcd : am_code 234 = am_c234 := rfl
  unfold m_slipsOf at h
  refine am_Ev.go hcd 7 (s' := (7, [(0, .ref 216), (1, .int a0)], [.int (21 + a0), .ref 217, .int a0, .ref 216], am_SH, (g, f))) rfl ?_
  obtain ⟨c2, h⟩ := am_grd h
  refine am_Ev.t hcd (o := none) (c := am_in (21 + a0) 2008 = true) (s1 := (8, [(0, .ref 216), (1, .int a0)], [.int (f 217 (21 + a0).toNatClampNeg), .int a0, .ref 216], am_SH, (g, f))) rfl c2 ?_
  obtain ⟨p1, hp1, h⟩ := am_bind_some h
  refine am_Ev.call hcd (a := 232) (s0 := (0, [(0, .ref 216), (1, .int a0), (2, .int (f 217 (21 + a0).toNatClampNeg))], [], am_SH, (g, f))) (q := (none, am_SH, (g, p1))) (s1 := (9, [(0, .ref 216), (1, .int a0)], [], am_SH, (g, p1))) rfl rfl (m_asks_ok (d) a0 (f 217 (21 + a0).toNatClampNeg) f g p1 hp1) ?_
  refine am_Ev.go hcd 4 (s' := (13, [(0, .ref 216), (1, .int a0)], [.int 1000, .int 0, .int 21, .ref 216], am_SH, (g, p1))) rfl ?_
  obtain ⟨p2, hp2, h⟩ := am_bind_some h
  refine am_Ev.call hcd (a := 228) (s0 := (0, [(0, .ref 216), (1, .int 21), (2, .int 0), (3, .int 1000)], [], am_SH, (g, p1))) (q := ((some (.int p2.1)), am_SH, (g, p2.2))) (s1 := (14, [(0, .ref 216), (1, .int a0)], [.int p2.1], am_SH, (g, p2.2))) rfl rfl (m_lawSays_ok (d) 21 0 1000 p1 g p2 hp2) ?_
  exact am_Ev.cast (a := ((some (.int (p2.1, p2.2).1)), am_SH, (g, (p2.1, p2.2).2))) (by cases h; rfl) (am_Ev.ret hcd rfl)
set_option maxRecDepth 100000 in
set_option maxHeartbeats 4000000 in
theorem m_draw_ok {sc : Nat × (Nat → Int32)} (d : Nat) (a0 : Int32) (f g : (Nat → Nat → Int32)) (r : Int32 × (Nat → Nat → Int32)) (h : m_draw a0 f = some r) : am_Ev sc (d) 186 (0, [(0, .ref 216), (1, .int a0)], [], am_SH, (g, f)) ((some (.int r.1)), am_SH, (g, r.2)) := by
  have hcd : am_code 186 = am_c186 := rfl
  unfold m_draw at h
  obtain ⟨f1, Ef1, h⟩ := am_let_eq h
  refine am_Ev.go hcd 12 (s' := (12, [(0, .ref 216), (1, .int a0)], [], am_SH, (g, f1))) (by subst Ef1; exact rfl) ?_
  refine am_Ev.go hcd 7 (s' := (19, [(0, .ref 216), (1, .int a0)], [.int a0, .int (((f1 217 1).toUInt32 >>> ((8 : Int32).toUInt32 &&& Int32.toUInt32 31)).toInt32)], am_SH, (g, f1))) rfl ?_
  rcases am_ite h with ⟨c4, h⟩ | ⟨c4, h⟩
  · exact absurd h (by simp)
  · refine am_Ev.f hcd (c := a0 = 0) (s1 := (20, [(0, .ref 216), (1, .int a0)], [.int ((((f1 217 1).toUInt32 >>> ((8 : Int32).toUInt32 &&& Int32.toUInt32 31)).toInt32) - (((f1 217 1).toUInt32 >>> ((8 : Int32).toUInt32 &&& Int32.toUInt32 31)).toInt32) / a0 * a0)], am_SH, (g, f1))) rfl c4 ?_
    exact am_Ev.cast (a := ((some (.int (((((f1 217 1).toUInt32 >>> ((8 : Int32).toUInt32 &&& Int32.toUInt32 31)).toInt32) - (((f1 217 1).toUInt32 >>> ((8 : Int32).toUInt32 &&& Int32.toUInt32 31)).toInt32) / a0 * a0), f1).1)), am_SH, (g, (((((f1 217 1).toUInt32 >>> ((8 : Int32).toUInt32 &&& Int32.toUInt32 31)).toInt32) - (((f1 217 1).toUInt32 >>> ((8 : Int32).toUInt32 &&& Int32.toUInt32 31)).toInt32) / a0 * a0), f1).2))) (by cases h; rfl) (am_Ev.ret hcd rfl)
set_option maxRecDepth 100000 in
set_option maxHeartbeats 4000000 in
theorem m_falls_ok {sc : Nat × (Nat → Int32)} (d : Nat) (a0 : Int32) (f g : (Nat → Nat → Int32)) (r : Bool × (Nat → Nat → Int32)) (h : m_falls a0 f = some r) : am_Ev sc (d + 1) 239 (0, [(0, .ref 216), (1, .int a0)], [], am_SH, (g, f)) ((some (.int (am_b r.1))), am_SH, (g, r.2)) := by
  have hcd : am_code 239 = am_c239 := rfl
  unfold m_falls at h
  refine am_Ev.go hcd 1 (s' := (1, [(0, .ref 216), (1, .int a0)], [.int a0], am_SH, (g, f))) rfl ?_
  rcases am_ite h with ⟨c2, h⟩ | ⟨c2, h⟩
  · refine am_Ev.t hcd (c := 0 < a0) (s1 := (2, [(0, .ref 216), (1, .int a0)], [], am_SH, (g, f))) rfl c2 ?_
    refine am_Ev.go hcd 2 (s' := (4, [(0, .ref 216), (1, .int a0)], [.int (f 216 26)], am_SH, (g, f))) rfl ?_
    rcases am_ite h with ⟨c5, h⟩ | ⟨c5, h⟩
    · refine am_Ev.t hcd (c := f 216 26 = 0) (s1 := (11, [(0, .ref 216), (1, .int a0)], [], am_SH, (g, f))) rfl c5 ?_
      refine am_Ev.go hcd 2 (s' := (13, [(0, .ref 216), (1, .int a0)], [.int 500, .int a0], am_SH, (g, f))) rfl ?_
      rcases am_ite h with ⟨c8, h⟩ | ⟨c8, h⟩
      · refine am_Ev.t hcd (c := a0 < 500) (s1 := (16, [(0, .ref 216), (1, .int a0)], [], am_SH, (g, f))) rfl c8 ?_
        refine am_Ev.go hcd 1 (s' := (17, [(0, .ref 216), (1, .int a0)], [.int 0], am_SH, (g, f))) rfl ?_
        exact am_Ev.cast (a := ((some (.int (am_b (false, f).1))), am_SH, (g, (false, f).2))) (by cases h; rfl) (am_Ev.ret hcd rfl)
      · refine am_Ev.f hcd (c := a0 < 500) (s1 := (14, [(0, .ref 216), (1, .int a0)], [], am_SH, (g, f))) rfl c8 ?_
        refine am_Ev.go hcd 2 (s' := (17, [(0, .ref 216), (1, .int a0)], [.int 1], am_SH, (g, f))) rfl ?_
        exact am_Ev.cast (a := ((some (.int (am_b (true, f).1))), am_SH, (g, (true, f).2))) (by cases h; rfl) (am_Ev.ret hcd rfl)
    · refine am_Ev.f hcd (c := f 216 26 = 0) (s1 := (5, [(0, .ref 216), (1, .int a0)], [], am_SH, (g, f))) rfl c5 ?_
      refine am_Ev.go hcd 2 (s' := (7, [(0, .ref 216), (1, .int a0)], [.int 1000, .ref 216], am_SH, (g, f))) rfl ?_
      obtain ⟨p1, hp1, h⟩ := am_bind_some h
      refine am_Ev.call hcd (a := 186) (s0 := (0, [(0, .ref 216), (1, .int 1000)], [], am_SH, (g, f))) (q := ((some (.int p1.1)), am_SH, (g, p1.2))) (s1 := (8, [(0, .ref 216), (1, .int a0)], [.int p1.1], am_SH, (g, p1.2))) rfl rfl (m_draw_ok (d) 1000 f g p1 hp1) ?_
      refine am_Ev.go hcd 1 (s' := (9, [(0, .ref 216), (1, .int a0)], [.int a0, .int p1.1], am_SH, (g, p1.2))) rfl ?_
      rcases am_ite h with ⟨c20, h⟩ | ⟨c20, h⟩
      · refine am_Ev.t hcd (c := p1.1 < a0) (s1 := (10, [(0, .ref 216), (1, .int a0)], [], am_SH, (g, p1.2))) rfl c20 ?_
        refine am_Ev.go hcd 3 (s' := (17, [(0, .ref 216), (1, .int a0)], [.int 1], am_SH, (g, p1.2))) rfl ?_
        exact am_Ev.cast (a := ((some (.int (am_b (true, p1.2).1))), am_SH, (g, (true, p1.2).2))) (by cases h; rfl) (am_Ev.ret hcd rfl)
      · refine am_Ev.f hcd (c := p1.1 < a0) (s1 := (16, [(0, .ref 216), (1, .int a0)], [], am_SH, (g, p1.2))) rfl c20 ?_
        refine am_Ev.go hcd 1 (s' := (17, [(0, .ref 216), (1, .int a0)], [.int 0], am_SH, (g, p1.2))) rfl ?_
        exact am_Ev.cast (a := ((some (.int (am_b (false, p1.2).1))), am_SH, (g, (false, p1.2).2))) (by cases h; rfl) (am_Ev.ret hcd rfl)
  · refine am_Ev.f hcd (c := 0 < a0) (s1 := (16, [(0, .ref 216), (1, .int a0)], [], am_SH, (g, f))) rfl c2 ?_
    refine am_Ev.go hcd 1 (s' := (17, [(0, .ref 216), (1, .int a0)], [.int 0], am_SH, (g, f))) rfl ?_
    exact am_Ev.cast (a := ((some (.int (am_b (false, f).1))), am_SH, (g, (false, f).2))) (by cases h; rfl) (am_Ev.ret hcd rfl)
set_option maxRecDepth 100000 in
set_option maxHeartbeats 4000000 in
theorem m_coolsOf_ok {sc : Nat × (Nat → Int32)} (d : Nat) (a0 : Int32) (f g : (Nat → Nat → Int32)) (r : Int32 × (Nat → Nat → Int32)) (h : m_coolsOf a0 f = some r) : am_Ev sc (d + 4) 235 (0, [(0, .ref 216), (1, .int a0)], [], am_SH, (g, f)) ((some (.int r.1)), am_SH, (g, r.2)) := by
  have hcd : am_code 235 = am_c235 := rfl
  unfold m_coolsOf at h
  refine am_Ev.go hcd 7 (s' := (7, [(0, .ref 216), (1, .int a0)], [.int (21 + a0), .ref 217, .int a0, .ref 216], am_SH, (g, f))) rfl ?_
  obtain ⟨c2, h⟩ := am_grd h
  refine am_Ev.t hcd (o := none) (c := am_in (21 + a0) 2008 = true) (s1 := (8, [(0, .ref 216), (1, .int a0)], [.int (f 217 (21 + a0).toNatClampNeg), .int a0, .ref 216], am_SH, (g, f))) rfl c2 ?_
  obtain ⟨p1, hp1, h⟩ := am_bind_some h
  refine am_Ev.call hcd (a := 232) (s0 := (0, [(0, .ref 216), (1, .int a0), (2, .int (f 217 (21 + a0).toNatClampNeg))], [], am_SH, (g, f))) (q := (none, am_SH, (g, p1))) (s1 := (9, [(0, .ref 216), (1, .int a0)], [], am_SH, (g, p1))) rfl rfl (m_asks_ok (d) a0 (f 217 (21 + a0).toNatClampNeg) f g p1 hp1) ?_
  refine am_Ev.go hcd 4 (s' := (13, [(0, .ref 216), (1, .int a0)], [.int 99, .int 5, .int 22, .ref 216], am_SH, (g, p1))) rfl ?_
  obtain ⟨p2, hp2, h⟩ := am_bind_some h
  refine am_Ev.call hcd (a := 228) (s0 := (0, [(0, .ref 216), (1, .int 22), (2, .int 5), (3, .int 99)], [], am_SH, (g, p1))) (q := ((some (.int p2.1)), am_SH, (g, p2.2))) (s1 := (14, [(0, .ref 216), (1, .int a0)], [.int p2.1], am_SH, (g, p2.2))) rfl rfl (m_lawSays_ok (d) 22 5 99 p1 g p2 hp2) ?_
  exact am_Ev.cast (a := ((some (.int (p2.1, p2.2).1)), am_SH, (g, (p2.1, p2.2).2))) (by cases h; rfl) (am_Ev.ret hcd rfl)
set_option maxRecDepth 100000 in
set_option maxHeartbeats 4000000 in
theorem m_warmsOf_ok {sc : Nat × (Nat → Int32)} (d : Nat) (a0 : Int32) (a1 : Int32) (f g : (Nat → Nat → Int32)) (r : Int32 × (Nat → Nat → Int32)) (h : m_warmsOf a0 a1 f = some r) : am_Ev sc (d + 4) 233 (0, [(0, .ref 216), (1, .int a0), (2, .int a1)], [], am_SH, (g, f)) ((some (.int r.1)), am_SH, (g, r.2)) := by
  have hcd : am_code 233 = am_c233 := rfl
  unfold m_warmsOf at h
  refine am_Ev.go hcd 3 (s' := (3, [(0, .ref 216), (1, .int a0), (2, .int a1)], [.int a1, .int a0, .ref 216], am_SH, (g, f))) rfl ?_
  obtain ⟨p1, hp1, h⟩ := am_bind_some h
  refine am_Ev.call hcd (a := 232) (s0 := (0, [(0, .ref 216), (1, .int a0), (2, .int a1)], [], am_SH, (g, f))) (q := (none, am_SH, (g, p1))) (s1 := (4, [(0, .ref 216), (1, .int a0), (2, .int a1)], [], am_SH, (g, p1))) rfl rfl (m_asks_ok (d) a0 a1 f g p1 hp1) ?_
  refine am_Ev.go hcd 16 (s' := (20, [(0, .ref 216), (1, .int a0), (2, .int a1)], [.int 99, .int ((3 * (p1 226 1)) - (2 * (p1 226 2))), .int 20, .ref 216], am_SH, (g, p1))) rfl ?_
  obtain ⟨p2, hp2, h⟩ := am_bind_some h
  refine am_Ev.call hcd (a := 228) (s0 := (0, [(0, .ref 216), (1, .int 20), (2, .int ((3 * (p1 226 1)) - (2 * (p1 226 2)))), (3, .int 99)], [], am_SH, (g, p1))) (q := ((some (.int p2.1)), am_SH, (g, p2.2))) (s1 := (21, [(0, .ref 216), (1, .int a0), (2, .int a1)], [.int p2.1], am_SH, (g, p2.2))) rfl rfl (m_lawSays_ok (d) 20 ((3 * (p1 226 1)) - (2 * (p1 226 2))) 99 p1 g p2 hp2) ?_
  exact am_Ev.cast (a := ((some (.int (p2.1, p2.2).1)), am_SH, (g, (p2.1, p2.2).2))) (by cases h; rfl) (am_Ev.ret hcd rfl)
