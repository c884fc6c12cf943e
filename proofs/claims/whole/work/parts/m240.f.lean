set_option maxRecDepth 100000 in
set_option maxHeartbeats 4000000 in
theorem m_change_ok {sc : Nat × (Nat → Int32)} (d : Nat) (a0 : Int32) (a1 : Int32) (a2 : Int32) (f g : (Nat → Nat → Int32)) (r : Int32 × (Nat → Nat → Int32)) (h : m_change a0 a1 a2 f = some r) : am_Ev sc (d + 1) 291 (0, [(0, .ref 216), (1, .int a0), (2, .int a1), (3, .int a2)], [], am_SH, (g, f)) ((some (.int r.1)), am_SH, (g, r.2)) := by
  have hcd : am_code 291 = am_c291 := rfl
  unfold m_change at h
  refine am_Ev.go hcd 3 (s' := (3, [(0, .ref 216), (1, .int a0), (2, .int a1), (3, .int a2)], [.int 40, .int 1, .int a0], am_SH, (g, f))) rfl ?_
  refine am_Ev.call hcd (a := 176) (s0 := (0, [(0, .int a0), (1, .int 1), (2, .int 40)], [], am_SH, (g, f))) (q := ((some (.int (am_b (m_isIn a0 1 40)))), am_SH, (g, f))) (s1 := (4, [(0, .ref 216), (1, .int a0), (2, .int a1), (3, .int a2)], [.int (am_b (m_isIn a0 1 40))], am_SH, (g, f))) rfl rfl (m_isIn_ok (d) a0 1 40 (g, f)) ?_
  rcases am_ite h with ⟨c4, h⟩ | ⟨c4, h⟩
  · refine am_Ev.f hcd (c := am_b (m_isIn a0 1 40) = 0) (s1 := (5, [(0, .ref 216), (1, .int a0), (2, .int a1), (3, .int a2)], [], am_SH, (g, f))) rfl (am_b_t c4) ?_
    refine am_Ev.go hcd 3 (s' := (8, [(0, .ref 216), (1, .int a0), (2, .int a1), (3, .int a2)], [.int 99, .int 0, .int a1], am_SH, (g, f))) rfl ?_
    refine am_Ev.call hcd (a := 176) (s0 := (0, [(0, .int a1), (1, .int 0), (2, .int 99)], [], am_SH, (g, f))) (q := ((some (.int (am_b (m_isIn a1 0 99)))), am_SH, (g, f))) (s1 := (9, [(0, .ref 216), (1, .int a0), (2, .int a1), (3, .int a2)], [.int (am_b (m_isIn a1 0 99))], am_SH, (g, f))) rfl rfl (m_isIn_ok (d) a1 0 99 (g, f)) ?_
    rcases am_ite h with ⟨c8, h⟩ | ⟨c8, h⟩
    · refine am_Ev.f hcd (c := am_b (m_isIn a1 0 99) = 0) (s1 := (10, [(0, .ref 216), (1, .int a0), (2, .int a1), (3, .int a2)], [], am_SH, (g, f))) rfl (am_b_t c8) ?_
      refine am_Ev.go hcd 3 (s' := (13, [(0, .ref 216), (1, .int a0), (2, .int a1), (3, .int a2)], [.int 1, .int 0, .int a2], am_SH, (g, f))) rfl ?_
      refine am_Ev.call hcd (a := 176) (s0 := (0, [(0, .int a2), (1, .int 0), (2, .int 1)], [], am_SH, (g, f))) (q := ((some (.int (am_b (m_isIn a2 0 1)))), am_SH, (g, f))) (s1 := (14, [(0, .ref 216), (1, .int a0), (2, .int a1), (3, .int a2)], [.int (am_b (m_isIn a2 0 1))], am_SH, (g, f))) rfl rfl (m_isIn_ok (d) a2 0 1 (g, f)) ?_
      rcases am_ite h with ⟨c12, h⟩ | ⟨c12, h⟩
      · refine am_Ev.f hcd (c := am_b (m_isIn a2 0 1) = 0) (s1 := (17, [(0, .ref 216), (1, .int a0), (2, .int a1), (3, .int a2)], [], am_SH, (g, f))) rfl (am_b_t c12) ?_
        obtain ⟨f4, Ef4, h⟩ := am_let_eq h
        refine am_Ev.go hcd 5 (s' := (22, [(0, .ref 216), (1, .int a0), (2, .int a1), (3, .int a2)], [], am_SH, (g, f4))) (by subst Ef4; exact rfl) ?_
        refine am_Ev.go hcd 4 (s' := (26, [(0, .ref 216), (1, .int a0), (2, .int a1), (3, .int a2), (4, .int 0), (5, .int 1)], [], am_SH, (g, f4))) rfl ?_
        obtain ⟨e16, he16, h⟩ := am_bind_some h
        have hK5 : (fun (e16 : Int32 × (Nat → Nat → Int32)) => am_Ev sc (d + 1) 291 (71, [(0, .ref 216), (1, .int a0), (3, .int a2), (4, .int e16.1)], [], am_SH, (g, e16.2)) ((some (.int r.1)), am_SH, (g, r.2))) e16 := by
          show am_Ev sc (d + 1) 291 (71, [(0, .ref 216), (1, .int a0), (3, .int a2), (4, .int e16.1)], [], am_SH, (g, e16.2)) ((some (.int r.1)), am_SH, (g, r.2))
          refine am_Ev.go hcd 1 (s' := (72, [(0, .ref 216), (1, .int a0), (3, .int a2), (4, .int e16.1)], [.int a2], am_SH, (g, e16.2))) rfl ?_
          rcases am_ite h with ⟨c20, h⟩ | ⟨c20, h⟩
          · refine am_Ev.t hcd (c := a2 = 0) (s1 := (73, [(0, .ref 216), (1, .int a0), (3, .int a2), (4, .int e16.1)], [], am_SH, (g, e16.2))) rfl c20 ?_
            refine am_Ev.go hcd 3 (s' := (76, [(0, .ref 216), (1, .int a0), (3, .int a2), (4, .int e16.1)], [.int a0, .ref 233], am_SH, (g, e16.2))) rfl ?_
            obtain ⟨c23, h⟩ := am_grd h
            refine am_Ev.t hcd (o := none) (c := am_in a0 41 = true) (s1 := (77, [(0, .ref 216), (1, .int a0), (3, .int a2), (4, .int e16.1)], [.int (e16.2 233 a0.toNatClampNeg)], am_SH, (g, e16.2))) rfl c23 ?_
            refine am_Ev.go hcd 1 (s' := (79, [(0, .ref 216), (1, .int a0), (3, .int a2), (4, .int e16.1)], [.int (e16.2 233 a0.toNatClampNeg)], am_SH, (g, e16.2))) rfl ?_
            exact am_Ev.cast (a := ((some (.int (e16.2 233 a0.toNatClampNeg, e16.2).1)), am_SH, (g, (e16.2 233 a0.toNatClampNeg, e16.2).2))) (by cases h; rfl) (am_Ev.ret hcd rfl)
          · refine am_Ev.f hcd (c := a2 = 0) (s1 := (78, [(0, .ref 216), (1, .int a0), (3, .int a2), (4, .int e16.1)], [], am_SH, (g, e16.2))) rfl c20 ?_
            refine am_Ev.go hcd 1 (s' := (79, [(0, .ref 216), (1, .int a0), (3, .int a2), (4, .int e16.1)], [.int e16.1], am_SH, (g, e16.2))) rfl ?_
            exact am_Ev.cast (a := ((some (.int (e16.1, e16.2).1)), am_SH, (g, (e16.1, e16.2).2))) (by cases h; rfl) (am_Ev.ret hcd rfl)
        refine am_Ev.weak' (am_loop_ok (G := fun (s5 : Int32 × Int32 × (Nat → Nat → Int32)) => am_Ev sc (d + 1) 291 (26, [(0, .ref 216), (1, .int a0), (2, .int a1), (3, .int a2), (4, .int s5.1), (5, .int s5.2.1)], [], am_SH, (g, s5.2.2)) ((some (.int r.1)), am_SH, (g, r.2))) (Z := fun (e16 : Int32 × (Nat → Nat → Int32)) => am_Ev sc (d + 1) 291 (71, [(0, .ref 216), (1, .int a0), (3, .int a2), (4, .int e16.1)], [], am_SH, (g, e16.2)) ((some (.int r.1)), am_SH, (g, r.2))) ?_ am_F (0, 1, f4) e16 he16 hK5) (am_sub_cons rfl (am_sub_cons rfl (am_sub_cons rfl (am_sub_cons rfl (am_sub_cons rfl (am_sub_cons rfl am_sub_nil)))))) rfl
        intro s5 q5 h hI5 hZ5
        show am_Ev sc (d + 1) 291 (26, [(0, .ref 216), (1, .int a0), (2, .int a1), (3, .int a2), (4, .int s5.1), (5, .int s5.2.1)], [], am_SH, (g, s5.2.2)) ((some (.int r.1)), am_SH, (g, r.2))
        refine am_Ev.go hcd 2 (s' := (28, [(0, .ref 216), (1, .int a0), (2, .int a1), (3, .int a2), (4, .int s5.1), (5, .int s5.2.1)], [.int a0, .int s5.2.1], am_SH, (g, s5.2.2))) rfl ?_
        rcases am_ite h with ⟨c34, h⟩ | ⟨c34, h⟩
        · refine am_Ev.t hcd (c := a0 < s5.2.1) (s1 := (71, [(0, .ref 216), (1, .int a0), (2, .int a1), (3, .int a2), (4, .int s5.1), (5, .int s5.2.1)], [], am_SH, (g, s5.2.2))) rfl c34 ?_
          exact am_Ev.weak' (hZ5 (s5.1, s5.2.2) (Option.some.inj h).symm) (am_sub_cons rfl (am_sub_cons rfl (am_sub_cons rfl (am_sub_cons rfl am_sub_nil)))) rfl
        · refine am_Ev.f hcd (c := a0 < s5.2.1) (s1 := (29, [(0, .ref 216), (1, .int a0), (2, .int a1), (3, .int a2), (4, .int s5.1), (5, .int s5.2.1)], [], am_SH, (g, s5.2.2))) rfl c34 ?_
          refine am_Ev.go hcd 4 (s' := (33, [(0, .ref 216), (1, .int a0), (2, .int a1), (3, .int a2), (4, .int s5.1), (5, .int s5.2.1)], [.int 100000000, .int s5.2.1, .ref 233], am_SH, (g, s5.2.2))) rfl ?_
          obtain ⟨c39, h⟩ := am_grd h
          obtain ⟨f6, Ef6, h⟩ := am_let_eq h
          refine am_Ev.t hcd (o := none) (c := am_in s5.2.1 41 = true) (s1 := (34, [(0, .ref 216), (1, .int a0), (2, .int a1), (3, .int a2), (4, .int s5.1), (5, .int s5.2.1)], [], am_SH, (g, f6))) (by subst Ef6; exact rfl) c39 ?_
          refine am_Ev.go hcd 2 (s' := (36, [(0, .ref 216), (1, .int a0), (2, .int a1), (3, .int a2), (4, .int s5.1), (5, .int s5.2.1), (6, .int 1)], [], am_SH, (g, f6))) rfl ?_
          obtain ⟨e14, he14, h⟩ := am_bind_some h
          have hK7 : (fun (e14 : Int32 × (Nat → Nat → Int32)) => am_Ev sc (d + 1) 291 (69, [(0, .ref 216), (1, .int a0), (2, .int a1), (3, .int a2), (4, .int e14.1), (5, .int s5.2.1)], [], am_SH, (g, e14.2)) ((some (.int r.1)), am_SH, (g, r.2))) e14 := by
            show am_Ev sc (d + 1) 291 (69, [(0, .ref 216), (1, .int a0), (2, .int a1), (3, .int a2), (4, .int e14.1), (5, .int s5.2.1)], [], am_SH, (g, e14.2)) ((some (.int r.1)), am_SH, (g, r.2))
            obtain ⟨t15, Et15, h⟩ := am_let_eq h
            refine am_Ev.go hcd 1 (s' := (70, [(0, .ref 216), (1, .int a0), (2, .int a1), (3, .int a2), (4, .int e14.1), (5, .int t15)], [], am_SH, (g, e14.2))) (by subst Et15; exact rfl) ?_
            refine am_Ev.go hcd 1 (s' := (26, [(0, .ref 216), (1, .int a0), (2, .int a1), (3, .int a2), (4, .int e14.1), (5, .int t15)], [], am_SH, (g, e14.2))) rfl ?_
            exact am_Ev.weak' (hI5 (e14.1, t15, e14.2) (Option.some.inj h).symm) (am_sub_cons rfl (am_sub_cons rfl (am_sub_cons rfl (am_sub_cons rfl (am_sub_cons rfl (am_sub_cons rfl am_sub_nil)))))) rfl
          refine am_Ev.weak' (am_loop_ok (G := fun (s7 : Int32 × Int32 × (Nat → Nat → Int32)) => am_Ev sc (d + 1) 291 (36, [(0, .ref 216), (1, .int a0), (2, .int a1), (3, .int a2), (4, .int s7.1), (5, .int s5.2.1), (6, .int s7.2.1)], [], am_SH, (g, s7.2.2)) ((some (.int r.1)), am_SH, (g, r.2))) (Z := fun (e14 : Int32 × (Nat → Nat → Int32)) => am_Ev sc (d + 1) 291 (69, [(0, .ref 216), (1, .int a0), (2, .int a1), (3, .int a2), (4, .int e14.1), (5, .int s5.2.1)], [], am_SH, (g, e14.2)) ((some (.int r.1)), am_SH, (g, r.2))) ?_ am_F (s5.1, 1, f6) e14 he14 hK7) (am_sub_cons rfl (am_sub_cons rfl (am_sub_cons rfl (am_sub_cons rfl (am_sub_cons rfl (am_sub_cons rfl (am_sub_cons rfl am_sub_nil))))))) rfl
          intro s7 q7 h hI7 hZ7
          show am_Ev sc (d + 1) 291 (36, [(0, .ref 216), (1, .int a0), (2, .int a1), (3, .int a2), (4, .int s7.1), (5, .int s5.2.1), (6, .int s7.2.1)], [], am_SH, (g, s7.2.2)) ((some (.int r.1)), am_SH, (g, r.2))
          refine am_Ev.go hcd 3 (s' := (39, [(0, .ref 216), (1, .int a0), (2, .int a1), (3, .int a2), (4, .int s7.1), (5, .int s5.2.1), (6, .int s7.2.1)], [.int s5.2.1, .int 8, .int s7.2.1], am_SH, (g, s7.2.2))) rfl ?_
          refine am_Ev.call hcd (a := 177) (s0 := (0, [(0, .int 8), (1, .int s5.2.1)], [], am_SH, (g, s7.2.2))) (q := ((some (.int (m_lesser 8 s5.2.1))), am_SH, (g, s7.2.2))) (s1 := (40, [(0, .ref 216), (1, .int a0), (2, .int a1), (3, .int a2), (4, .int s7.1), (5, .int s5.2.1), (6, .int s7.2.1)], [.int (m_lesser 8 s5.2.1), .int s7.2.1], am_SH, (g, s7.2.2))) rfl rfl (m_lesser_ok (d) 8 s5.2.1 (g, s7.2.2)) ?_
          rcases am_ite h with ⟨c56, h⟩ | ⟨c56, h⟩
          · refine am_Ev.t hcd (c := (m_lesser 8 s5.2.1) < s7.2.1) (s1 := (69, [(0, .ref 216), (1, .int a0), (2, .int a1), (3, .int a2), (4, .int s7.1), (5, .int s5.2.1), (6, .int s7.2.1)], [], am_SH, (g, s7.2.2))) rfl c56 ?_
            exact am_Ev.weak' (hZ7 (s7.1, s7.2.2) (Option.some.inj h).symm) (am_sub_cons rfl (am_sub_cons rfl (am_sub_cons rfl (am_sub_cons rfl (am_sub_cons rfl (am_sub_cons rfl am_sub_nil)))))) rfl
          · refine am_Ev.f hcd (c := (m_lesser 8 s5.2.1) < s7.2.1) (s1 := (41, [(0, .ref 216), (1, .int a0), (2, .int a1), (3, .int a2), (4, .int s7.1), (5, .int s5.2.1), (6, .int s7.2.1)], [], am_SH, (g, s7.2.2))) rfl c56 ?_
            refine am_Ev.go hcd 3 (s' := (44, [(0, .ref 216), (1, .int a0), (2, .int a1), (3, .int a2), (4, .int s7.1), (5, .int s5.2.1), (6, .int s7.2.1)], [.int a1, .int s7.2.1, .ref 216], am_SH, (g, s7.2.2))) rfl ?_
            obtain ⟨p9, hp9, h⟩ := am_bind_some h
            refine am_Ev.call hcd (a := 290) (s0 := (0, [(0, .ref 216), (1, .int s7.2.1), (2, .int a1)], [], am_SH, (g, s7.2.2))) (q := ((some (.int p9)), am_SH, (g, s7.2.2))) (s1 := (45, [(0, .ref 216), (1, .int a0), (2, .int a1), (3, .int a2), (4, .int s7.1), (5, .int s5.2.1), (6, .int s7.2.1)], [.int p9], am_SH, (g, s7.2.2))) rfl rfl (m_keptFor_ok (d) s7.2.1 a1 s7.2.2 g p9 hp9) ?_
            refine am_Ev.go hcd 5 (s' := (50, [(0, .ref 216), (1, .int a0), (2, .int a1), (3, .int a2), (4, .int s7.1), (5, .int s5.2.1), (6, .int s7.2.1)], [.int (s5.2.1 - s7.2.1), .ref 233, .int p9], am_SH, (g, s7.2.2))) rfl ?_
            obtain ⟨c63, h⟩ := am_grd h
            refine am_Ev.t hcd (o := none) (c := am_in (s5.2.1 - s7.2.1) 41 = true) (s1 := (51, [(0, .ref 216), (1, .int a0), (2, .int a1), (3, .int a2), (4, .int s7.1), (5, .int s5.2.1), (6, .int s7.2.1)], [.int (s7.2.2 233 (s5.2.1 - s7.2.1).toNatClampNeg), .int p9], am_SH, (g, s7.2.2))) rfl c63 ?_
            obtain ⟨t10, Et10, h⟩ := am_let_eq h
            refine am_Ev.go hcd 2 (s' := (53, [(0, .ref 216), (1, .int a0), (2, .int a1), (3, .int a2), (4, .int s7.1), (5, .int s5.2.1), (6, .int s7.2.1), (7, .int t10)], [], am_SH, (g, s7.2.2))) (by subst Et10; exact rfl) ?_
            refine am_Ev.go hcd 4 (s' := (57, [(0, .ref 216), (1, .int a0), (2, .int a1), (3, .int a2), (4, .int s7.1), (5, .int s5.2.1), (6, .int s7.2.1), (7, .int t10)], [.int s5.2.1, .ref 233, .int t10], am_SH, (g, s7.2.2))) rfl ?_
            obtain ⟨c68, h⟩ := am_grd h
            refine am_Ev.t hcd (o := none) (c := am_in s5.2.1 41 = true) (s1 := (58, [(0, .ref 216), (1, .int a0), (2, .int a1), (3, .int a2), (4, .int s7.1), (5, .int s5.2.1), (6, .int s7.2.1), (7, .int t10)], [.int (s7.2.2 233 s5.2.1.toNatClampNeg), .int t10], am_SH, (g, s7.2.2))) rfl c68 ?_
            obtain ⟨t12, ht12, kt12⟩ := am_bind_some h
            have hKt12 : am_Ev sc (d + 1) 291 (67, [(0, .ref 216), (1, .int a0), (2, .int a1), (3, .int a2), (4, .int t12.1), (5, .int s5.2.1), (6, .int s7.2.1)], [], am_SH, (g, t12.2)) ((some (.int r.1)), am_SH, (g, r.2)) := by
              have h := kt12
              obtain ⟨t13, Et13, h⟩ := am_let_eq h
              refine am_Ev.go hcd 1 (s' := (68, [(0, .ref 216), (1, .int a0), (2, .int a1), (3, .int a2), (4, .int t12.1), (5, .int s5.2.1), (6, .int t13)], [], am_SH, (g, t12.2))) (by subst Et13; exact rfl) ?_
              refine am_Ev.go hcd 1 (s' := (36, [(0, .ref 216), (1, .int a0), (2, .int a1), (3, .int a2), (4, .int t12.1), (5, .int s5.2.1), (6, .int t13)], [], am_SH, (g, t12.2))) rfl ?_
              exact am_Ev.weak' (hI7 (t12.1, t13, t12.2) (Option.some.inj h).symm) (am_sub_cons rfl (am_sub_cons rfl (am_sub_cons rfl (am_sub_cons rfl (am_sub_cons rfl (am_sub_cons rfl (am_sub_cons rfl am_sub_nil))))))) rfl
            have hLt12 : ∀ tt, tt = t12 → am_Ev sc (d + 1) 291 (67, [(0, .ref 216), (1, .int a0), (2, .int a1), (3, .int a2), (4, .int tt.1), (5, .int s5.2.1), (6, .int s7.2.1)], [], am_SH, (g, tt.2)) ((some (.int r.1)), am_SH, (g, r.2)) := fun tt htt => by subst htt; exact hKt12
            have h := ht12
            rcases am_ite h with ⟨c80, h⟩ | ⟨c80, h⟩
            · refine am_Ev.t hcd (c := t10 < s7.2.2 233 s5.2.1.toNatClampNeg) (s1 := (60, [(0, .ref 216), (1, .int a0), (2, .int a1), (3, .int a2), (4, .int s7.1), (5, .int s5.2.1), (6, .int s7.2.1), (7, .int t10)], [], am_SH, (g, s7.2.2))) rfl c80 ?_
              refine am_Ev.go hcd 4 (s' := (64, [(0, .ref 216), (1, .int a0), (2, .int a1), (3, .int a2), (4, .int s7.1), (5, .int s5.2.1), (6, .int s7.2.1), (7, .int t10)], [.int t10, .int s5.2.1, .ref 233], am_SH, (g, s7.2.2))) rfl ?_
              obtain ⟨c82, h⟩ := am_grd h
              obtain ⟨f11, Ef11, h⟩ := am_let_eq h
              refine am_Ev.t hcd (o := none) (c := am_in s5.2.1 41 = true) (s1 := (65, [(0, .ref 216), (1, .int a0), (2, .int a1), (3, .int a2), (4, .int s7.1), (5, .int s5.2.1), (6, .int s7.2.1), (7, .int t10)], [], am_SH, (g, f11))) (by subst Ef11; exact rfl) c82 ?_
              refine am_Ev.go hcd 2 (s' := (67, [(0, .ref 216), (1, .int a0), (2, .int a1), (3, .int a2), (4, .int s7.2.1), (5, .int s5.2.1), (6, .int s7.2.1), (7, .int t10)], [], am_SH, (g, f11))) rfl ?_
              exact am_Ev.weak' (hLt12 (s7.2.1, f11) (Option.some.inj h)) (am_sub_cons rfl (am_sub_cons rfl (am_sub_cons rfl (am_sub_cons rfl (am_sub_cons rfl (am_sub_cons rfl (am_sub_cons rfl am_sub_nil))))))) rfl
            · refine am_Ev.f hcd (c := t10 < s7.2.2 233 s5.2.1.toNatClampNeg) (s1 := (59, [(0, .ref 216), (1, .int a0), (2, .int a1), (3, .int a2), (4, .int s7.1), (5, .int s5.2.1), (6, .int s7.2.1), (7, .int t10)], [], am_SH, (g, s7.2.2))) rfl c80 ?_
              refine am_Ev.go hcd 1 (s' := (67, [(0, .ref 216), (1, .int a0), (2, .int a1), (3, .int a2), (4, .int s7.1), (5, .int s5.2.1), (6, .int s7.2.1), (7, .int t10)], [], am_SH, (g, s7.2.2))) rfl ?_
              exact am_Ev.weak' (hLt12 (s7.1, s7.2.2) (Option.some.inj h)) (am_sub_cons rfl (am_sub_cons rfl (am_sub_cons rfl (am_sub_cons rfl (am_sub_cons rfl (am_sub_cons rfl (am_sub_cons rfl am_sub_nil))))))) rfl
      · refine am_Ev.t hcd (c := am_b (m_isIn a2 0 1) = 0) (s1 := (15, [(0, .ref 216), (1, .int a0), (2, .int a1), (3, .int a2)], [], am_SH, (g, f))) rfl (am_b_f c12) ?_
        refine am_Ev.go hcd 1 (s' := (16, [(0, .ref 216), (1, .int a0), (2, .int a1), (3, .int a2)], [.int (-1)], am_SH, (g, f))) rfl ?_
        exact am_Ev.cast (a := ((some (.int ((-1), f).1)), am_SH, (g, ((-1), f).2))) (by cases h; rfl) (am_Ev.ret hcd rfl)
    · refine am_Ev.t hcd (c := am_b (m_isIn a1 0 99) = 0) (s1 := (15, [(0, .ref 216), (1, .int a0), (2, .int a1), (3, .int a2)], [], am_SH, (g, f))) rfl (am_b_f c8) ?_
      refine am_Ev.go hcd 1 (s' := (16, [(0, .ref 216), (1, .int a0), (2, .int a1), (3, .int a2)], [.int (-1)], am_SH, (g, f))) rfl ?_
      exact am_Ev.cast (a := ((some (.int ((-1), f).1)), am_SH, (g, ((-1), f).2))) (by cases h; rfl) (am_Ev.ret hcd rfl)
  · refine am_Ev.t hcd (c := am_b (m_isIn a0 1 40) = 0) (s1 := (15, [(0, .ref 216), (1, .int a0), (2, .int a1), (3, .int a2)], [], am_SH, (g, f))) rfl (am_b_f c4) ?_
    refine am_Ev.go hcd 1 (s' := (16, [(0, .ref 216), (1, .int a0), (2, .int a1), (3, .int a2)], [.int (-1)], am_SH, (g, f))) rfl ?_
    exact am_Ev.cast (a := ((some (.int ((-1), f).1)), am_SH, (g, ((-1), f).2))) (by cases h; rfl) (am_Ev.ret hcd rfl)
set_option maxRecDepth 100000 in
set_option maxHeartbeats 4000000 in
theorem m_askedFor_ok {sc : Nat × (Nat → Int32)} (d : Nat) (a0 : Int32) (a1 : Int32) (a2 : Int32) (f g : (Nat → Nat → Int32)) (r : Int32) (h : m_askedFor a0 a1 a2 f = some r) : am_Ev sc (d + 1) 292 (0, [(0, .ref 216), (1, .int a0), (2, .int a1), (3, .int a2)], [], am_SH, (g, f)) ((some (.int r)), am_SH, (g, f)) := by
  have hcd : am_code 292 = am_c292 := rfl
  unfold m_askedFor at h
  refine am_Ev.go hcd 10 (s' := (10, [(0, .ref 216), (1, .int a0), (2, .int a1), (3, .int a2)], [.int (((42 * a0) + a2) - 1), .ref 234, .int a2], am_SH, (g, f))) rfl ?_
  obtain ⟨c2, h⟩ := am_grd h
  refine am_Ev.t hcd (o := none) (c := am_in (((42 * a0) + a2) - 1) 1764 = true) (s1 := (11, [(0, .ref 216), (1, .int a0), (2, .int a1), (3, .int a2)], [.int (f 234 (((42 * a0) + a2) - 1).toNatClampNeg), .int a2], am_SH, (g, f))) rfl c2 ?_
  refine am_Ev.go hcd 9 (s' := (20, [(0, .ref 216), (1, .int a0), (2, .int a1), (3, .int a2)], [.int ((42 * (a2 + 1)) + a1), .ref 234, .int (f 234 (((42 * a0) + a2) - 1).toNatClampNeg), .int a2], am_SH, (g, f))) rfl ?_
  obtain ⟨c5, h⟩ := am_grd h
  refine am_Ev.t hcd (o := none) (c := am_in ((42 * (a2 + 1)) + a1) 1764 = true) (s1 := (21, [(0, .ref 216), (1, .int a0), (2, .int a1), (3, .int a2)], [.int (f 234 ((42 * (a2 + 1)) + a1).toNatClampNeg), .int (f 234 (((42 * a0) + a2) - 1).toNatClampNeg), .int a2], am_SH, (g, f))) rfl c5 ?_
  refine am_Ev.call hcd (a := 178) (s0 := (0, [(0, .int (f 234 (((42 * a0) + a2) - 1).toNatClampNeg)), (1, .int (f 234 ((42 * (a2 + 1)) + a1).toNatClampNeg))], [], am_SH, (g, f))) (q := ((some (.int (m_greater (f 234 (((42 * a0) + a2) - 1).toNatClampNeg) (f 234 ((42 * (a2 + 1)) + a1).toNatClampNeg)))), am_SH, (g, f))) (s1 := (22, [(0, .ref 216), (1, .int a0), (2, .int a1), (3, .int a2)], [.int (m_greater (f 234 (((42 * a0) + a2) - 1).toNatClampNeg) (f 234 ((42 * (a2 + 1)) + a1).toNatClampNeg)), .int a2], am_SH, (g, f))) rfl rfl (m_greater_ok (d) (f 234 (((42 * a0) + a2) - 1).toNatClampNeg) (f 234 ((42 * (a2 + 1)) + a1).toNatClampNeg) (g, f)) ?_
  refine am_Ev.go hcd 1 (s' := (23, [(0, .ref 216), (1, .int a0), (2, .int a1), (3, .int a2)], [.int (a2 + (m_greater (f 234 (((42 * a0) + a2) - 1).toNatClampNeg) (f 234 ((42 * (a2 + 1)) + a1).toNatClampNeg)))], am_SH, (g, f))) rfl ?_
  exact am_Ev.cast (a := ((some (.int (a2 + (m_greater (f 234 (((42 * a0) + a2) - 1).toNatClampNeg) (f 234 ((42 * (a2 + 1)) + a1).toNatClampNeg))))), am_SH, (g, f))) (by cases h; rfl) (am_Ev.ret hcd rfl)
set_option maxRecDepth 100000 in
set_option maxHeartbeats 4000000 in
theorem m_bestAsked_ok {sc : Nat × (Nat → Int32)} (d : Nat) (a0 : Int32) (a1 : Int32) (f g : (Nat → Nat → Int32)) (r : Int32) (h : m_bestAsked a0 a1 f = some r) : am_Ev sc (d + 2) 293 (0, [(0, .ref 216), (1, .int a0), (2, .int a1)], [], am_SH, (g, f)) ((some (.int r)), am_SH, (g, f)) := by
  have hcd : am_code 293 = am_c293 := rfl
  unfold m_bestAsked at h
  obtain ⟨t1, Et1, h⟩ := am_let_eq h
  refine am_Ev.go hcd 6 (s' := (6, [(0, .ref 216), (1, .int a0), (2, .int a1), (3, .int a0), (4, .int t1)], [], am_SH, (g, f))) (by subst Et1; exact rfl) ?_
  refine am_Ev.weak' (am_loop_ok (G := fun (s2 : Int32 × Int32) => am_Ev sc (d + 2) 293 (6, [(0, .ref 216), (1, .int a0), (2, .int a1), (3, .int s2.1), (4, .int s2.2)], [], am_SH, (g, f)) ((some (.int r)), am_SH, (g, f))) (Z := fun (v : Int32) => (((some (.int v)), am_SH, (g, f)) : am_R) = ((some (.int r)), am_SH, (g, f))) ?_ am_F (a0, t1) r h rfl) (am_sub_cons rfl (am_sub_cons rfl (am_sub_cons rfl (am_sub_cons rfl (am_sub_cons rfl am_sub_nil))))) rfl
  intro s2 q2 h hI2 hZ2
  show am_Ev sc (d + 2) 293 (6, [(0, .ref 216), (1, .int a0), (2, .int a1), (3, .int s2.1), (4, .int s2.2)], [], am_SH, (g, f)) ((some (.int r)), am_SH, (g, f))
  refine am_Ev.go hcd 2 (s' := (8, [(0, .ref 216), (1, .int a0), (2, .int a1), (3, .int s2.1), (4, .int s2.2)], [.int a1, .int s2.2], am_SH, (g, f))) rfl ?_
  rcases am_ite h with ⟨c7, h⟩ | ⟨c7, h⟩
  · refine am_Ev.t hcd (c := a1 < s2.2) (s1 := (26, [(0, .ref 216), (1, .int a0), (2, .int a1), (3, .int s2.1), (4, .int s2.2)], [], am_SH, (g, f))) rfl c7 ?_
    refine am_Ev.go hcd 1 (s' := (27, [(0, .ref 216), (1, .int a0), (2, .int a1), (3, .int s2.1), (4, .int s2.2)], [.int s2.1], am_SH, (g, f))) rfl ?_
    exact am_Ev.cast (a := ((some (.int s2.1)), am_SH, (g, f))) (hZ2 _ (Option.some.inj h).symm) (am_Ev.ret hcd rfl)
  · refine am_Ev.f hcd (c := a1 < s2.2) (s1 := (9, [(0, .ref 216), (1, .int a0), (2, .int a1), (3, .int s2.1), (4, .int s2.2)], [], am_SH, (g, f))) rfl c7 ?_
    refine am_Ev.go hcd 4 (s' := (13, [(0, .ref 216), (1, .int a0), (2, .int a1), (3, .int s2.1), (4, .int s2.2)], [.int s2.2, .int a1, .int a0, .ref 216], am_SH, (g, f))) rfl ?_
    obtain ⟨p3, hp3, h⟩ := am_bind_some h
    refine am_Ev.call hcd (a := 292) (s0 := (0, [(0, .ref 216), (1, .int a0), (2, .int a1), (3, .int s2.2)], [], am_SH, (g, f))) (q := ((some (.int p3)), am_SH, (g, f))) (s1 := (14, [(0, .ref 216), (1, .int a0), (2, .int a1), (3, .int s2.1), (4, .int s2.2)], [.int p3], am_SH, (g, f))) rfl rfl (m_askedFor_ok (d) a0 a1 s2.2 f g p3 hp3) ?_
    refine am_Ev.go hcd 4 (s' := (18, [(0, .ref 216), (1, .int a0), (2, .int a1), (3, .int s2.1), (4, .int s2.2)], [.int s2.1, .int a1, .int a0, .ref 216, .int p3], am_SH, (g, f))) rfl ?_
    obtain ⟨p4, hp4, h⟩ := am_bind_some h
    refine am_Ev.call hcd (a := 292) (s0 := (0, [(0, .ref 216), (1, .int a0), (2, .int a1), (3, .int s2.1)], [], am_SH, (g, f))) (q := ((some (.int p4)), am_SH, (g, f))) (s1 := (19, [(0, .ref 216), (1, .int a0), (2, .int a1), (3, .int s2.1), (4, .int s2.2)], [.int p4, .int p3], am_SH, (g, f))) rfl rfl (m_askedFor_ok (d) a0 a1 s2.1 f g p4 hp4) ?_
    obtain ⟨t5, ht5, kt5⟩ := am_let_eq h
    have hKt5 : am_Ev sc (d + 2) 293 (23, [(0, .ref 216), (1, .int a0), (2, .int a1), (4, .int s2.2)], [.int t5], am_SH, (g, f)) ((some (.int r)), am_SH, (g, f)) := by
      have h := kt5
      obtain ⟨t6, Et6, h⟩ := am_let_eq h
      refine am_Ev.go hcd 2 (s' := (25, [(0, .ref 216), (1, .int a0), (2, .int a1), (3, .int t5), (4, .int t6)], [], am_SH, (g, f))) (by subst Et6; exact rfl) ?_
      refine am_Ev.go hcd 1 (s' := (6, [(0, .ref 216), (1, .int a0), (2, .int a1), (3, .int t5), (4, .int t6)], [], am_SH, (g, f))) rfl ?_
      exact am_Ev.weak' (hI2 (t5, t6) (Option.some.inj h).symm) (am_sub_cons rfl (am_sub_cons rfl (am_sub_cons rfl (am_sub_cons rfl (am_sub_cons rfl am_sub_nil))))) rfl
    have hLt5 : ∀ tt, tt = t5 → am_Ev sc (d + 2) 293 (23, [(0, .ref 216), (1, .int a0), (2, .int a1), (4, .int s2.2)], [.int tt], am_SH, (g, f)) ((some (.int r)), am_SH, (g, f)) := fun tt htt => by subst htt; exact hKt5
    have h := ht5
    rcases am_itv h with ⟨c28, h⟩ | ⟨c28, h⟩
    · refine am_Ev.t hcd (c := p3 < p4) (s1 := (20, [(0, .ref 216), (1, .int a0), (2, .int a1), (3, .int s2.1), (4, .int s2.2)], [], am_SH, (g, f))) rfl c28 ?_
      refine am_Ev.go hcd 2 (s' := (23, [(0, .ref 216), (1, .int a0), (2, .int a1), (3, .int s2.1), (4, .int s2.2)], [.int s2.2], am_SH, (g, f))) rfl ?_
      exact am_Ev.weak' (hLt5 s2.2 h.symm) (am_sub_cons rfl (am_sub_cons rfl (am_sub_cons rfl (am_sub_cons rfl am_sub_nil)))) rfl
    · refine am_Ev.f hcd (c := p3 < p4) (s1 := (22, [(0, .ref 216), (1, .int a0), (2, .int a1), (3, .int s2.1), (4, .int s2.2)], [], am_SH, (g, f))) rfl c28 ?_
      refine am_Ev.go hcd 1 (s' := (23, [(0, .ref 216), (1, .int a0), (2, .int a1), (3, .int s2.1), (4, .int s2.2)], [.int s2.1], am_SH, (g, f))) rfl ?_
      exact am_Ev.weak' (hLt5 s2.1 h.symm) (am_sub_cons rfl (am_sub_cons rfl (am_sub_cons rfl (am_sub_cons rfl am_sub_nil)))) rfl
set_option maxRecDepth 100000 in
set_option maxHeartbeats 4000000 in
theorem m_dear_ok {sc : Nat × (Nat → Int32)} (d : Nat) (a0 : Int32) (a1 : Int32) (f g : (Nat → Nat → Int32)) (r : Int32 × (Nat → Nat → Int32)) (h : m_dear a0 a1 f = some r) : am_Ev sc (d + 3) 294 (0, [(0, .ref 216), (1, .int a0), (2, .int a1)], [], am_SH, (g, f)) ((some (.int r.1)), am_SH, (g, r.2)) := by
  have hcd : am_code 294 = am_c294 := rfl
  unfold m_dear at h
  refine am_Ev.go hcd 3 (s' := (3, [(0, .ref 216), (1, .int a0), (2, .int a1)], [.int 40, .int 1, .int a0], am_SH, (g, f))) rfl ?_
  refine am_Ev.call hcd (a := 176) (s0 := (0, [(0, .int a0), (1, .int 1), (2, .int 40)], [], am_SH, (g, f))) (q := ((some (.int (am_b (m_isIn a0 1 40)))), am_SH, (g, f))) (s1 := (4, [(0, .ref 216), (1, .int a0), (2, .int a1)], [.int (am_b (m_isIn a0 1 40))], am_SH, (g, f))) rfl rfl (m_isIn_ok (d + 2) a0 1 40 (g, f)) ?_
  rcases am_ite h with ⟨c4, h⟩ | ⟨c4, h⟩
  · refine am_Ev.f hcd (c := am_b (m_isIn a0 1 40) = 0) (s1 := (5, [(0, .ref 216), (1, .int a0), (2, .int a1)], [], am_SH, (g, f))) rfl (am_b_t c4) ?_
    refine am_Ev.go hcd 3 (s' := (8, [(0, .ref 216), (1, .int a0), (2, .int a1)], [.int 1, .int 0, .int a1], am_SH, (g, f))) rfl ?_
    refine am_Ev.call hcd (a := 176) (s0 := (0, [(0, .int a1), (1, .int 0), (2, .int 1)], [], am_SH, (g, f))) (q := ((some (.int (am_b (m_isIn a1 0 1)))), am_SH, (g, f))) (s1 := (9, [(0, .ref 216), (1, .int a0), (2, .int a1)], [.int (am_b (m_isIn a1 0 1))], am_SH, (g, f))) rfl rfl (m_isIn_ok (d + 2) a1 0 1 (g, f)) ?_
    rcases am_ite h with ⟨c8, h⟩ | ⟨c8, h⟩
    · refine am_Ev.f hcd (c := am_b (m_isIn a1 0 1) = 0) (s1 := (12, [(0, .ref 216), (1, .int a0), (2, .int a1)], [], am_SH, (g, f))) rfl (am_b_t c8) ?_
      refine am_Ev.go hcd 2 (s' := (14, [(0, .ref 216), (1, .int a0), (2, .int a1), (3, .int 0)], [], am_SH, (g, f))) rfl ?_
      obtain ⟨e6, he6, h⟩ := am_bind_some h
      have hK3 : (fun (e6 : (Nat → Nat → Int32)) => am_Ev sc (d + 3) 294 (24, [(0, .ref 216), (1, .int a0), (2, .int a1)], [], am_SH, (g, e6)) ((some (.int r.1)), am_SH, (g, r.2))) e6 := by
        show am_Ev sc (d + 3) 294 (24, [(0, .ref 216), (1, .int a0), (2, .int a1)], [], am_SH, (g, e6)) ((some (.int r.1)), am_SH, (g, r.2))
        refine am_Ev.go hcd 2 (s' := (26, [(0, .ref 216), (1, .int a0), (2, .int a1), (3, .int 1)], [], am_SH, (g, e6))) rfl ?_
        obtain ⟨e15, he15, h⟩ := am_bind_some h
        have hK7 : (fun (e15 : (Nat → Nat → Int32)) => am_Ev sc (d + 3) 294 (62, [(0, .ref 216), (1, .int a0), (2, .int a1)], [], am_SH, (g, e15)) ((some (.int r.1)), am_SH, (g, r.2))) e15 := by
          show am_Ev sc (d + 3) 294 (62, [(0, .ref 216), (1, .int a0), (2, .int a1)], [], am_SH, (g, e15)) ((some (.int r.1)), am_SH, (g, r.2))
          refine am_Ev.go hcd 1 (s' := (63, [(0, .ref 216), (1, .int a0), (2, .int a1)], [.int a1], am_SH, (g, e15))) rfl ?_
          rcases am_ite h with ⟨c18, h⟩ | ⟨c18, h⟩
          · refine am_Ev.t hcd (c := a1 = 0) (s1 := (64, [(0, .ref 216), (1, .int a0), (2, .int a1)], [], am_SH, (g, e15))) rfl c18 ?_
            refine am_Ev.go hcd 5 (s' := (69, [(0, .ref 216), (1, .int a0), (2, .int a1)], [.int (42 + a0), .ref 234], am_SH, (g, e15))) rfl ?_
            obtain ⟨c21, h⟩ := am_grd h
            refine am_Ev.t hcd (o := none) (c := am_in (42 + a0) 1764 = true) (s1 := (70, [(0, .ref 216), (1, .int a0), (2, .int a1)], [.int (e15 234 (42 + a0).toNatClampNeg)], am_SH, (g, e15))) rfl c21 ?_
            refine am_Ev.go hcd 1 (s' := (80, [(0, .ref 216), (1, .int a0), (2, .int a1)], [.int (e15 234 (42 + a0).toNatClampNeg)], am_SH, (g, e15))) rfl ?_
            exact am_Ev.cast (a := ((some (.int (e15 234 (42 + a0).toNatClampNeg, e15).1)), am_SH, (g, (e15 234 (42 + a0).toNatClampNeg, e15).2))) (by cases h; rfl) (am_Ev.ret hcd rfl)
          · refine am_Ev.f hcd (c := a1 = 0) (s1 := (71, [(0, .ref 216), (1, .int a0), (2, .int a1)], [], am_SH, (g, e15))) rfl c18 ?_
            refine am_Ev.go hcd 2 (s' := (73, [(0, .ref 216), (1, .int a0), (2, .int a1)], [.int 1, .int a0], am_SH, (g, e15))) rfl ?_
            rcases am_ite h with ⟨c27, h⟩ | ⟨c27, h⟩
            · refine am_Ev.t hcd (c := a0 = 1) (s1 := (74, [(0, .ref 216), (1, .int a0), (2, .int a1)], [], am_SH, (g, e15))) rfl c27 ?_
              refine am_Ev.go hcd 2 (s' := (80, [(0, .ref 216), (1, .int a0), (2, .int a1)], [.int (-1)], am_SH, (g, e15))) rfl ?_
              exact am_Ev.cast (a := ((some (.int ((-1), e15).1)), am_SH, (g, ((-1), e15).2))) (by cases h; rfl) (am_Ev.ret hcd rfl)
            · refine am_Ev.f hcd (c := a0 = 1) (s1 := (76, [(0, .ref 216), (1, .int a0), (2, .int a1)], [], am_SH, (g, e15))) rfl c27 ?_
              refine am_Ev.go hcd 3 (s' := (79, [(0, .ref 216), (1, .int a0), (2, .int a1)], [.int a0, .int 1, .ref 216], am_SH, (g, e15))) rfl ?_
              obtain ⟨p16, hp16, h⟩ := am_bind_some h
              refine am_Ev.call hcd (a := 293) (s0 := (0, [(0, .ref 216), (1, .int 1), (2, .int a0)], [], am_SH, (g, e15))) (q := ((some (.int p16)), am_SH, (g, e15))) (s1 := (80, [(0, .ref 216), (1, .int a0), (2, .int a1)], [.int p16], am_SH, (g, e15))) rfl rfl (m_bestAsked_ok (d) 1 a0 e15 g p16 hp16) ?_
              exact am_Ev.cast (a := ((some (.int (p16, e15).1)), am_SH, (g, (p16, e15).2))) (by cases h; rfl) (am_Ev.ret hcd rfl)
        refine am_Ev.weak' (am_loop_ok (G := fun (s7 : Int32 × (Nat → Nat → Int32)) => am_Ev sc (d + 3) 294 (26, [(0, .ref 216), (1, .int a0), (2, .int a1), (3, .int s7.1)], [], am_SH, (g, s7.2)) ((some (.int r.1)), am_SH, (g, r.2))) (Z := fun (e15 : (Nat → Nat → Int32)) => am_Ev sc (d + 3) 294 (62, [(0, .ref 216), (1, .int a0), (2, .int a1)], [], am_SH, (g, e15)) ((some (.int r.1)), am_SH, (g, r.2))) ?_ am_F (1, e6) e15 he15 hK7) (am_sub_cons rfl (am_sub_cons rfl (am_sub_cons rfl (am_sub_cons rfl am_sub_nil)))) rfl
        intro s7 q7 h hI7 hZ7
        show am_Ev sc (d + 3) 294 (26, [(0, .ref 216), (1, .int a0), (2, .int a1), (3, .int s7.1)], [], am_SH, (g, s7.2)) ((some (.int r.1)), am_SH, (g, r.2))
        refine am_Ev.go hcd 2 (s' := (28, [(0, .ref 216), (1, .int a0), (2, .int a1), (3, .int s7.1)], [.int a0, .int s7.1], am_SH, (g, s7.2))) rfl ?_
        rcases am_ite h with ⟨c40, h⟩ | ⟨c40, h⟩
        · refine am_Ev.t hcd (c := s7.1 < a0) (s1 := (29, [(0, .ref 216), (1, .int a0), (2, .int a1), (3, .int s7.1)], [], am_SH, (g, s7.2))) rfl c40 ?_
          refine am_Ev.go hcd 2 (s' := (31, [(0, .ref 216), (1, .int a0), (2, .int a1), (3, .int s7.1), (4, .int 1)], [], am_SH, (g, s7.2))) rfl ?_
          obtain ⟨e13, he13, h⟩ := am_bind_some h
          have hK8 : (fun (e13 : (Nat → Nat → Int32)) => am_Ev sc (d + 3) 294 (60, [(0, .ref 216), (1, .int a0), (2, .int a1), (3, .int s7.1)], [], am_SH, (g, e13)) ((some (.int r.1)), am_SH, (g, r.2))) e13 := by
            show am_Ev sc (d + 3) 294 (60, [(0, .ref 216), (1, .int a0), (2, .int a1), (3, .int s7.1)], [], am_SH, (g, e13)) ((some (.int r.1)), am_SH, (g, r.2))
            obtain ⟨t14, Et14, h⟩ := am_let_eq h
            refine am_Ev.go hcd 1 (s' := (61, [(0, .ref 216), (1, .int a0), (2, .int a1), (3, .int t14)], [], am_SH, (g, e13))) (by subst Et14; exact rfl) ?_
            refine am_Ev.go hcd 1 (s' := (26, [(0, .ref 216), (1, .int a0), (2, .int a1), (3, .int t14)], [], am_SH, (g, e13))) rfl ?_
            exact am_Ev.weak' (hI7 (t14, e13) (Option.some.inj h).symm) (am_sub_cons rfl (am_sub_cons rfl (am_sub_cons rfl (am_sub_cons rfl am_sub_nil)))) rfl
          refine am_Ev.weak' (am_loop_ok (G := fun (s8 : Int32 × (Nat → Nat → Int32)) => am_Ev sc (d + 3) 294 (31, [(0, .ref 216), (1, .int a0), (2, .int a1), (3, .int s7.1), (4, .int s8.1)], [], am_SH, (g, s8.2)) ((some (.int r.1)), am_SH, (g, r.2))) (Z := fun (e13 : (Nat → Nat → Int32)) => am_Ev sc (d + 3) 294 (60, [(0, .ref 216), (1, .int a0), (2, .int a1), (3, .int s7.1)], [], am_SH, (g, e13)) ((some (.int r.1)), am_SH, (g, r.2))) ?_ am_F (1, s7.2) e13 he13 hK8) (am_sub_cons rfl (am_sub_cons rfl (am_sub_cons rfl (am_sub_cons rfl (am_sub_cons rfl am_sub_nil))))) rfl
          intro s8 q8 h hI8 hZ8
          show am_Ev sc (d + 3) 294 (31, [(0, .ref 216), (1, .int a0), (2, .int a1), (3, .int s7.1), (4, .int s8.1)], [], am_SH, (g, s8.2)) ((some (.int r.1)), am_SH, (g, r.2))
          refine am_Ev.go hcd 4 (s' := (35, [(0, .ref 216), (1, .int a0), (2, .int a1), (3, .int s7.1), (4, .int s8.1)], [.int a0, .int (s8.1 + s7.1)], am_SH, (g, s8.2))) rfl ?_
          rcases am_ite h with ⟨c54, h⟩ | ⟨c54, h⟩
          · refine am_Ev.t hcd (c := a0 < (s8.1 + s7.1)) (s1 := (60, [(0, .ref 216), (1, .int a0), (2, .int a1), (3, .int s7.1), (4, .int s8.1)], [], am_SH, (g, s8.2))) rfl c54 ?_
            exact am_Ev.weak' (hZ8 s8.2 (Option.some.inj h).symm) (am_sub_cons rfl (am_sub_cons rfl (am_sub_cons rfl (am_sub_cons rfl am_sub_nil)))) rfl
          · refine am_Ev.f hcd (c := a0 < (s8.1 + s7.1)) (s1 := (36, [(0, .ref 216), (1, .int a0), (2, .int a1), (3, .int s7.1), (4, .int s8.1)], [], am_SH, (g, s8.2))) rfl c54 ?_
            refine am_Ev.go hcd 19 (s' := (55, [(0, .ref 216), (1, .int a0), (2, .int a1), (3, .int s7.1), (4, .int s8.1)], [.int (s8.1 + s7.1), .int s8.1, .ref 216, .int (s8.1 + s7.1), .int s8.1, .ref 216, .int (((42 * s8.1) + s8.1) + s7.1), .ref 234], am_SH, (g, s8.2))) rfl ?_
            obtain ⟨p9, hp9, h⟩ := am_bind_some h
            refine am_Ev.call hcd (a := 293) (s0 := (0, [(0, .ref 216), (1, .int s8.1), (2, .int (s8.1 + s7.1))], [], am_SH, (g, s8.2))) (q := ((some (.int p9)), am_SH, (g, s8.2))) (s1 := (56, [(0, .ref 216), (1, .int a0), (2, .int a1), (3, .int s7.1), (4, .int s8.1)], [.int p9, .int (s8.1 + s7.1), .int s8.1, .ref 216, .int (((42 * s8.1) + s8.1) + s7.1), .ref 234], am_SH, (g, s8.2))) rfl rfl (m_bestAsked_ok (d) s8.1 (s8.1 + s7.1) s8.2 g p9 hp9) ?_
            obtain ⟨p10, hp10, h⟩ := am_bind_some h
            refine am_Ev.call hcd (a := 292) (s0 := (0, [(0, .ref 216), (1, .int s8.1), (2, .int (s8.1 + s7.1)), (3, .int p9)], [], am_SH, (g, s8.2))) (q := ((some (.int p10)), am_SH, (g, s8.2))) (s1 := (57, [(0, .ref 216), (1, .int a0), (2, .int a1), (3, .int s7.1), (4, .int s8.1)], [.int p10, .int (((42 * s8.1) + s8.1) + s7.1), .ref 234], am_SH, (g, s8.2))) rfl rfl (m_askedFor_ok (d + 1) s8.1 (s8.1 + s7.1) p9 s8.2 g p10 hp10) ?_
            obtain ⟨c64, h⟩ := am_grd h
            obtain ⟨f11, Ef11, h⟩ := am_let_eq h
            refine am_Ev.t hcd (o := none) (c := am_in (((42 * s8.1) + s8.1) + s7.1) 1764 = true) (s1 := (58, [(0, .ref 216), (1, .int a0), (2, .int a1), (3, .int s7.1), (4, .int s8.1)], [], am_SH, (g, f11))) (by subst Ef11; exact rfl) c64 ?_
            obtain ⟨t12, Et12, h⟩ := am_let_eq h
            refine am_Ev.go hcd 1 (s' := (59, [(0, .ref 216), (1, .int a0), (2, .int a1), (3, .int s7.1), (4, .int t12)], [], am_SH, (g, f11))) (by subst Et12; exact rfl) ?_
            refine am_Ev.go hcd 1 (s' := (31, [(0, .ref 216), (1, .int a0), (2, .int a1), (3, .int s7.1), (4, .int t12)], [], am_SH, (g, f11))) rfl ?_
            exact am_Ev.weak' (hI8 (t12, f11) (Option.some.inj h).symm) (am_sub_cons rfl (am_sub_cons rfl (am_sub_cons rfl (am_sub_cons rfl (am_sub_cons rfl am_sub_nil))))) rfl
        · refine am_Ev.f hcd (c := s7.1 < a0) (s1 := (62, [(0, .ref 216), (1, .int a0), (2, .int a1), (3, .int s7.1)], [], am_SH, (g, s7.2))) rfl c40 ?_
          exact am_Ev.weak' (hZ7 s7.2 (Option.some.inj h).symm) (am_sub_cons rfl (am_sub_cons rfl (am_sub_cons rfl am_sub_nil))) rfl
      refine am_Ev.weak' (am_loop_ok (G := fun (s3 : Int32 × (Nat → Nat → Int32)) => am_Ev sc (d + 3) 294 (14, [(0, .ref 216), (1, .int a0), (2, .int a1), (3, .int s3.1)], [], am_SH, (g, s3.2)) ((some (.int r.1)), am_SH, (g, r.2))) (Z := fun (e6 : (Nat → Nat → Int32)) => am_Ev sc (d + 3) 294 (24, [(0, .ref 216), (1, .int a0), (2, .int a1)], [], am_SH, (g, e6)) ((some (.int r.1)), am_SH, (g, r.2))) ?_ am_F (0, f) e6 he6 hK3) (am_sub_cons rfl (am_sub_cons rfl (am_sub_cons rfl (am_sub_cons rfl am_sub_nil)))) rfl
      intro s3 q3 h hI3 hZ3
      show am_Ev sc (d + 3) 294 (14, [(0, .ref 216), (1, .int a0), (2, .int a1), (3, .int s3.1)], [], am_SH, (g, s3.2)) ((some (.int r.1)), am_SH, (g, r.2))
      refine am_Ev.go hcd 2 (s' := (16, [(0, .ref 216), (1, .int a0), (2, .int a1), (3, .int s3.1)], [.int 1764, .int s3.1], am_SH, (g, s3.2))) rfl ?_
      rcases am_ite h with ⟨c76, h⟩ | ⟨c76, h⟩
      · refine am_Ev.t hcd (c := s3.1 < 1764) (s1 := (17, [(0, .ref 216), (1, .int a0), (2, .int a1), (3, .int s3.1)], [], am_SH, (g, s3.2))) rfl c76 ?_
        refine am_Ev.go hcd 4 (s' := (21, [(0, .ref 216), (1, .int a0), (2, .int a1), (3, .int s3.1)], [.int 0, .int s3.1, .ref 234], am_SH, (g, s3.2))) rfl ?_
        obtain ⟨c79, h⟩ := am_grd h
        obtain ⟨f4, Ef4, h⟩ := am_let_eq h
        refine am_Ev.t hcd (o := none) (c := am_in s3.1 1764 = true) (s1 := (22, [(0, .ref 216), (1, .int a0), (2, .int a1), (3, .int s3.1)], [], am_SH, (g, f4))) (by subst Ef4; exact rfl) c79 ?_
        obtain ⟨t5, Et5, h⟩ := am_let_eq h
        refine am_Ev.go hcd 1 (s' := (23, [(0, .ref 216), (1, .int a0), (2, .int a1), (3, .int t5)], [], am_SH, (g, f4))) (by subst Et5; exact rfl) ?_
        refine am_Ev.go hcd 1 (s' := (14, [(0, .ref 216), (1, .int a0), (2, .int a1), (3, .int t5)], [], am_SH, (g, f4))) rfl ?_
        exact am_Ev.weak' (hI3 (t5, f4) (Option.some.inj h).symm) (am_sub_cons rfl (am_sub_cons rfl (am_sub_cons rfl (am_sub_cons rfl am_sub_nil)))) rfl
      · refine am_Ev.f hcd (c := s3.1 < 1764) (s1 := (24, [(0, .ref 216), (1, .int a0), (2, .int a1), (3, .int s3.1)], [], am_SH, (g, s3.2))) rfl c76 ?_
        exact am_Ev.weak' (hZ3 s3.2 (Option.some.inj h).symm) (am_sub_cons rfl (am_sub_cons rfl (am_sub_cons rfl am_sub_nil))) rfl
    · refine am_Ev.t hcd (c := am_b (m_isIn a1 0 1) = 0) (s1 := (10, [(0, .ref 216), (1, .int a0), (2, .int a1)], [], am_SH, (g, f))) rfl (am_b_f c8) ?_
      refine am_Ev.go hcd 1 (s' := (11, [(0, .ref 216), (1, .int a0), (2, .int a1)], [.int (-1)], am_SH, (g, f))) rfl ?_
      exact am_Ev.cast (a := ((some (.int ((-1), f).1)), am_SH, (g, ((-1), f).2))) (by cases h; rfl) (am_Ev.ret hcd rfl)
  · refine am_Ev.t hcd (c := am_b (m_isIn a0 1 40) = 0) (s1 := (10, [(0, .ref 216), (1, .int a0), (2, .int a1)], [], am_SH, (g, f))) rfl (am_b_f c4) ?_
    refine am_Ev.go hcd 1 (s' := (11, [(0, .ref 216), (1, .int a0), (2, .int a1)], [.int (-1)], am_SH, (g, f))) rfl ?_
    exact am_Ev.cast (a := ((some (.int ((-1), f).1)), am_SH, (g, ((-1), f).2))) (by cases h; rfl) (am_Ev.ret hcd rfl)
set_option maxRecDepth 100000 in
set_option maxHeartbeats 4000000 in
theorem m_reading_ok {sc : Nat × (Nat → Int32)} (d : Nat) (a0 : Int32) (f g : (Nat → Nat → Int32)) (r : Int32 × (Nat → Nat → Int32)) (h : m_reading a0 f = some r) : am_Ev sc (d + 1) 295 (0, [(0, .ref 216), (1, .int a0)], [], am_SH, (g, f)) ((some (.int r.1)), am_SH, (g, r.2)) := by
  have hcd : am_code 295 = am_c295 := rfl
  unfold m_reading at h
  refine am_Ev.go hcd 2 (s' := (2, [(0, .ref 216), (1, .int a0)], [.int (-1), .int a0], am_SH, (g, f))) rfl ?_
  rcases am_ite h with ⟨c2, h⟩ | ⟨c2, h⟩
  · refine am_Ev.t hcd (c := a0 = (-1)) (s1 := (3, [(0, .ref 216), (1, .int a0)], [], am_SH, (g, f))) rfl c2 ?_
    refine am_Ev.go hcd 2 (s' := (5, [(0, .ref 216), (1, .int a0)], [.int 481, .ref 216], am_SH, (g, f))) rfl ?_
    obtain ⟨p1, hp1, h⟩ := am_bind_some h
    refine am_Ev.call hcd (a := 262) (s0 := (0, [(0, .ref 216), (1, .int 481)], [], am_SH, (g, f))) (q := ((some (.int p1.1)), am_SH, (g, p1.2))) (s1 := (6, [(0, .ref 216), (1, .int a0)], [.int p1.1], am_SH, (g, p1.2))) rfl rfl (m_endsRow_ok (d) 481 f g p1 hp1) ?_
    refine am_Ev.go hcd 1 (s' := (19, [(0, .ref 216), (1, .int a0)], [.int p1.1], am_SH, (g, p1.2))) rfl ?_
    exact am_Ev.cast (a := ((some (.int (p1.1, p1.2).1)), am_SH, (g, (p1.1, p1.2).2))) (by cases h; rfl) (am_Ev.ret hcd rfl)
  · refine am_Ev.f hcd (c := a0 = (-1)) (s1 := (7, [(0, .ref 216), (1, .int a0)], [], am_SH, (g, f))) rfl c2 ?_
    refine am_Ev.go hcd 3 (s' := (10, [(0, .ref 216), (1, .int a0)], [.int 99, .int 0, .int a0], am_SH, (g, f))) rfl ?_
    refine am_Ev.call hcd (a := 176) (s0 := (0, [(0, .int a0), (1, .int 0), (2, .int 99)], [], am_SH, (g, f))) (q := ((some (.int (am_b (m_isIn a0 0 99)))), am_SH, (g, f))) (s1 := (11, [(0, .ref 216), (1, .int a0)], [.int (am_b (m_isIn a0 0 99))], am_SH, (g, f))) rfl rfl (m_isIn_ok (d) a0 0 99 (g, f)) ?_
    rcases am_ite h with ⟨c13, h⟩ | ⟨c13, h⟩
    · refine am_Ev.f hcd (c := am_b (m_isIn a0 0 99) = 0) (s1 := (12, [(0, .ref 216), (1, .int a0)], [], am_SH, (g, f))) rfl (am_b_t c13) ?_
      refine am_Ev.go hcd 4 (s' := (16, [(0, .ref 216), (1, .int a0)], [.int a0, .int 24, .int 481, .ref 216], am_SH, (g, f))) rfl ?_
      obtain ⟨p3, hp3, h⟩ := am_bind_some h
      refine am_Ev.call hcd (a := 260) (s0 := (0, [(0, .ref 216), (1, .int 481), (2, .int 24), (3, .int a0)], [], am_SH, (g, f))) (q := ((some (.int p3.1)), am_SH, (g, p3.2))) (s1 := (17, [(0, .ref 216), (1, .int a0)], [.int p3.1], am_SH, (g, p3.2))) rfl rfl (m_tellsOne_ok (d) 481 24 a0 f g p3 hp3) ?_
      refine am_Ev.go hcd 1 (s' := (19, [(0, .ref 216), (1, .int a0)], [.int p3.1], am_SH, (g, p3.2))) rfl ?_
      exact am_Ev.cast (a := ((some (.int (p3.1, p3.2).1)), am_SH, (g, (p3.1, p3.2).2))) (by cases h; rfl) (am_Ev.ret hcd rfl)
    · refine am_Ev.t hcd (c := am_b (m_isIn a0 0 99) = 0) (s1 := (18, [(0, .ref 216), (1, .int a0)], [], am_SH, (g, f))) rfl (am_b_f c13) ?_
      refine am_Ev.go hcd 1 (s' := (19, [(0, .ref 216), (1, .int a0)], [.int (-1)], am_SH, (g, f))) rfl ?_
      exact am_Ev.cast (a := ((some (.int ((-1), f).1)), am_SH, (g, ((-1), f).2))) (by cases h; rfl) (am_Ev.ret hcd rfl)
set_option maxRecDepth 100000 in
set_option maxHeartbeats 4000000 in
theorem m_steadyFrom_ok {sc : Nat × (Nat → Int32)} (d : Nat) (a0 : Int32) (a1 : Int32) (f g : (Nat → Nat → Int32)) (r : Int32) (h : m_steadyFrom a0 a1 f = some r) : am_Ev sc (d + 1) 296 (0, [(0, .ref 216), (1, .int a0), (2, .int a1)], [], am_SH, (g, f)) ((some (.int r)), am_SH, (g, f)) := by
  have hcd : am_code 296 = am_c296 := rfl
  unfold m_steadyFrom at h
  refine am_Ev.go hcd 5 (s' := (5, [(0, .ref 216), (1, .int a0), (2, .int a1)], [.int (482 + a0), .ref 217], am_SH, (g, f))) rfl ?_
  obtain ⟨c2, h⟩ := am_grd h
  refine am_Ev.t hcd (o := none) (c := am_in (482 + a0) 2008 = true) (s1 := (6, [(0, .ref 216), (1, .int a0), (2, .int a1)], [.int (f 217 (482 + a0).toNatClampNeg)], am_SH, (g, f))) rfl c2 ?_
  obtain ⟨t1, Et1, h⟩ := am_let_eq h
  refine am_Ev.go hcd 1 (s' := (7, [(0, .ref 216), (1, .int a0), (2, .int a1), (3, .int t1)], [], am_SH, (g, f))) (by subst Et1; exact rfl) ?_
  refine am_Ev.go hcd 4 (s' := (11, [(0, .ref 216), (1, .int a0), (2, .int a1), (3, .int t1), (4, .int t1), (5, .int 0)], [], am_SH, (g, f))) rfl ?_
  refine am_Ev.weak' (am_loop_ok (G := fun (s2 : Int32 × Int32 × Int32) => am_Ev sc (d + 1) 296 (11, [(0, .ref 216), (1, .int a0), (2, .int a1), (3, .int s2.1), (4, .int s2.2.1), (5, .int s2.2.2)], [], am_SH, (g, f)) ((some (.int r)), am_SH, (g, f))) (Z := fun (v : Int32) => (((some (.int v)), am_SH, (g, f)) : am_R) = ((some (.int r)), am_SH, (g, f))) ?_ am_F (t1, t1, 0) r h rfl) (am_sub_cons rfl (am_sub_cons rfl (am_sub_cons rfl (am_sub_cons rfl (am_sub_cons rfl (am_sub_cons rfl am_sub_nil)))))) rfl
  intro s2 q2 h hI2 hZ2
  show am_Ev sc (d + 1) 296 (11, [(0, .ref 216), (1, .int a0), (2, .int a1), (3, .int s2.1), (4, .int s2.2.1), (5, .int s2.2.2)], [], am_SH, (g, f)) ((some (.int r)), am_SH, (g, f))
  refine am_Ev.go hcd 7 (s' := (18, [(0, .ref 216), (1, .int a0), (2, .int a1), (3, .int s2.1), (4, .int s2.2.1), (5, .int s2.2.2)], [.int (f 217 481), .int (a0 + s2.2.2)], am_SH, (g, f))) rfl ?_
  rcases am_ite h with ⟨c11, h⟩ | ⟨c11, h⟩
  · refine am_Ev.t hcd (c := (a0 + s2.2.2) < f 217 481) (s1 := (19, [(0, .ref 216), (1, .int a0), (2, .int a1), (3, .int s2.1), (4, .int s2.2.1), (5, .int s2.2.2)], [], am_SH, (g, f))) rfl c11 ?_
    refine am_Ev.go hcd 8 (s' := (27, [(0, .ref 216), (1, .int a0), (2, .int a1), (3, .int s2.1), (4, .int s2.2.1), (5, .int s2.2.2)], [.int ((482 + a0) + s2.2.2), .ref 217, .int s2.1], am_SH, (g, f))) rfl ?_
    obtain ⟨c14, h⟩ := am_grd h
    refine am_Ev.t hcd (o := none) (c := am_in ((482 + a0) + s2.2.2) 2008 = true) (s1 := (28, [(0, .ref 216), (1, .int a0), (2, .int a1), (3, .int s2.1), (4, .int s2.2.1), (5, .int s2.2.2)], [.int (f 217 ((482 + a0) + s2.2.2).toNatClampNeg), .int s2.1], am_SH, (g, f))) rfl c14 ?_
    refine am_Ev.call hcd (a := 177) (s0 := (0, [(0, .int s2.1), (1, .int (f 217 ((482 + a0) + s2.2.2).toNatClampNeg))], [], am_SH, (g, f))) (q := ((some (.int (m_lesser s2.1 (f 217 ((482 + a0) + s2.2.2).toNatClampNeg)))), am_SH, (g, f))) (s1 := (29, [(0, .ref 216), (1, .int a0), (2, .int a1), (3, .int s2.1), (4, .int s2.2.1), (5, .int s2.2.2)], [.int (m_lesser s2.1 (f 217 ((482 + a0) + s2.2.2).toNatClampNeg))], am_SH, (g, f))) rfl rfl (m_lesser_ok (d) s2.1 (f 217 ((482 + a0) + s2.2.2).toNatClampNeg) (g, f)) ?_
    obtain ⟨t4, Et4, h⟩ := am_let_eq h
    refine am_Ev.go hcd 1 (s' := (30, [(0, .ref 216), (1, .int a0), (2, .int a1), (3, .int t4), (4, .int s2.2.1), (5, .int s2.2.2)], [], am_SH, (g, f))) (by subst Et4; exact rfl) ?_
    refine am_Ev.go hcd 8 (s' := (38, [(0, .ref 216), (1, .int a0), (2, .int a1), (3, .int t4), (4, .int s2.2.1), (5, .int s2.2.2)], [.int ((482 + a0) + s2.2.2), .ref 217, .int s2.2.1], am_SH, (g, f))) rfl ?_
    obtain ⟨c20, h⟩ := am_grd h
    refine am_Ev.t hcd (o := none) (c := am_in ((482 + a0) + s2.2.2) 2008 = true) (s1 := (39, [(0, .ref 216), (1, .int a0), (2, .int a1), (3, .int t4), (4, .int s2.2.1), (5, .int s2.2.2)], [.int (f 217 ((482 + a0) + s2.2.2).toNatClampNeg), .int s2.2.1], am_SH, (g, f))) rfl c20 ?_
    refine am_Ev.call hcd (a := 178) (s0 := (0, [(0, .int s2.2.1), (1, .int (f 217 ((482 + a0) + s2.2.2).toNatClampNeg))], [], am_SH, (g, f))) (q := ((some (.int (m_greater s2.2.1 (f 217 ((482 + a0) + s2.2.2).toNatClampNeg)))), am_SH, (g, f))) (s1 := (40, [(0, .ref 216), (1, .int a0), (2, .int a1), (3, .int t4), (4, .int s2.2.1), (5, .int s2.2.2)], [.int (m_greater s2.2.1 (f 217 ((482 + a0) + s2.2.2).toNatClampNeg))], am_SH, (g, f))) rfl rfl (m_greater_ok (d) s2.2.1 (f 217 ((482 + a0) + s2.2.2).toNatClampNeg) (g, f)) ?_
    obtain ⟨t6, Et6, h⟩ := am_let_eq h
    refine am_Ev.go hcd 1 (s' := (41, [(0, .ref 216), (1, .int a0), (2, .int a1), (3, .int t4), (4, .int t6), (5, .int s2.2.2)], [], am_SH, (g, f))) (by subst Et6; exact rfl) ?_
    refine am_Ev.go hcd 4 (s' := (45, [(0, .ref 216), (1, .int a0), (2, .int a1), (3, .int t4), (4, .int t6), (5, .int s2.2.2)], [.int a1, .int (t6 - t4)], am_SH, (g, f))) rfl ?_
    rcases am_ite h with ⟨c26, h⟩ | ⟨c26, h⟩
    · refine am_Ev.t hcd (c := a1 < (t6 - t4)) (s1 := (46, [(0, .ref 216), (1, .int a0), (2, .int a1), (3, .int t4), (4, .int t6), (5, .int s2.2.2)], [], am_SH, (g, f))) rfl c26 ?_
      refine am_Ev.go hcd 1 (s' := (47, [(0, .ref 216), (1, .int a0), (2, .int a1), (3, .int t4), (4, .int t6), (5, .int s2.2.2)], [.int s2.2.2], am_SH, (g, f))) rfl ?_
      exact am_Ev.cast (a := ((some (.int s2.2.2)), am_SH, (g, f))) (hZ2 _ (Option.some.inj h).symm) (am_Ev.ret hcd rfl)
    · refine am_Ev.f hcd (c := a1 < (t6 - t4)) (s1 := (48, [(0, .ref 216), (1, .int a0), (2, .int a1), (3, .int t4), (4, .int t6), (5, .int s2.2.2)], [], am_SH, (g, f))) rfl c26 ?_
      obtain ⟨t7, Et7, h⟩ := am_let_eq h
      refine am_Ev.go hcd 1 (s' := (49, [(0, .ref 216), (1, .int a0), (2, .int a1), (3, .int t4), (4, .int t6), (5, .int t7)], [], am_SH, (g, f))) (by subst Et7; exact rfl) ?_
      refine am_Ev.go hcd 1 (s' := (11, [(0, .ref 216), (1, .int a0), (2, .int a1), (3, .int t4), (4, .int t6), (5, .int t7)], [], am_SH, (g, f))) rfl ?_
      exact am_Ev.weak' (hI2 (t4, t6, t7) (Option.some.inj h).symm) (am_sub_cons rfl (am_sub_cons rfl (am_sub_cons rfl (am_sub_cons rfl (am_sub_cons rfl (am_sub_cons rfl am_sub_nil)))))) rfl
  · refine am_Ev.f hcd (c := (a0 + s2.2.2) < f 217 481) (s1 := (50, [(0, .ref 216), (1, .int a0), (2, .int a1), (3, .int s2.1), (4, .int s2.2.1), (5, .int s2.2.2)], [], am_SH, (g, f))) rfl c11 ?_
    refine am_Ev.go hcd 1 (s' := (51, [(0, .ref 216), (1, .int a0), (2, .int a1), (3, .int s2.1), (4, .int s2.2.1), (5, .int s2.2.2)], [.int s2.2.2], am_SH, (g, f))) rfl ?_
    exact am_Ev.cast (a := ((some (.int s2.2.2)), am_SH, (g, f))) (hZ2 _ (Option.some.inj h).symm) (am_Ev.ret hcd rfl)
