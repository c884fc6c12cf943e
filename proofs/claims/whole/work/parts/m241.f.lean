set_option maxRecDepth 100000 in
set_option maxHeartbeats 4000000 in
theorem m_steady_ok {sc : Nat × (Nat → Int32)} (d : Nat) (a0 : Int32) (a1 : Int32) (f g : (Nat → Nat → Int32)) (r : Int32) (h : m_steady a0 a1 f = some r) : am_Ev sc (d + 2) 297 (0, [(0, .ref 216), (1, .int a0), (2, .int a1)], [], am_SH, (g, f)) ((some (.int r)), am_SH, (g, f)) := by
  have hcd : am_code 297 = am_c297 := rfl
  unfold m_steady at h
  refine am_Ev.go hcd 3 (s' := (3, [(0, .ref 216), (1, .int a0), (2, .int a1)], [.int 99, .int 0, .int a0], am_SH, (g, f))) rfl ?_
  refine am_Ev.call hcd (a := 176) (s0 := (0, [(0, .int a0), (1, .int 0), (2, .int 99)], [], am_SH, (g, f))) (q := ((some (.int (am_b (m_isIn a0 0 99)))), am_SH, (g, f))) (s1 := (4, [(0, .ref 216), (1, .int a0), (2, .int a1)], [.int (am_b (m_isIn a0 0 99))], am_SH, (g, f))) rfl rfl (m_isIn_ok (d + 1) a0 0 99 (g, f)) ?_
  rcases am_ite h with ⟨c4, h⟩ | ⟨c4, h⟩
  · refine am_Ev.f hcd (c := am_b (m_isIn a0 0 99) = 0) (s1 := (5, [(0, .ref 216), (1, .int a0), (2, .int a1)], [], am_SH, (g, f))) rfl (am_b_t c4) ?_
    refine am_Ev.go hcd 3 (s' := (8, [(0, .ref 216), (1, .int a0), (2, .int a1)], [.int 1, .int 0, .int a1], am_SH, (g, f))) rfl ?_
    refine am_Ev.call hcd (a := 176) (s0 := (0, [(0, .int a1), (1, .int 0), (2, .int 1)], [], am_SH, (g, f))) (q := ((some (.int (am_b (m_isIn a1 0 1)))), am_SH, (g, f))) (s1 := (9, [(0, .ref 216), (1, .int a0), (2, .int a1)], [.int (am_b (m_isIn a1 0 1))], am_SH, (g, f))) rfl rfl (m_isIn_ok (d + 1) a1 0 1 (g, f)) ?_
    rcases am_ite h with ⟨c8, h⟩ | ⟨c8, h⟩
    · refine am_Ev.f hcd (c := am_b (m_isIn a1 0 1) = 0) (s1 := (12, [(0, .ref 216), (1, .int a0), (2, .int a1)], [], am_SH, (g, f))) rfl (am_b_t c8) ?_
      refine am_Ev.go hcd 6 (s' := (18, [(0, .ref 216), (1, .int a0), (2, .int a1), (3, .int 0), (4, .int (-1)), (5, .int 0)], [], am_SH, (g, f))) rfl ?_
      obtain ⟨e8, he8, h⟩ := am_bind_some h
      have hK3 : (fun (e8 : Int32 × Int32) => am_Ev sc (d + 2) 297 (40, [(2, .int a1), (3, .int e8.1), (4, .int e8.2)], [], am_SH, (g, f)) ((some (.int r)), am_SH, (g, f))) e8 := by
        show am_Ev sc (d + 2) 297 (40, [(2, .int a1), (3, .int e8.1), (4, .int e8.2)], [], am_SH, (g, f)) ((some (.int r)), am_SH, (g, f))
        refine am_Ev.go hcd 1 (s' := (41, [(2, .int a1), (3, .int e8.1), (4, .int e8.2)], [.int a1], am_SH, (g, f))) rfl ?_
        rcases am_ite h with ⟨c14, h⟩ | ⟨c14, h⟩
        · refine am_Ev.t hcd (c := a1 = 0) (s1 := (42, [(2, .int a1), (3, .int e8.1), (4, .int e8.2)], [], am_SH, (g, f))) rfl c14 ?_
          refine am_Ev.go hcd 2 (s' := (45, [(2, .int a1), (3, .int e8.1), (4, .int e8.2)], [.int e8.1], am_SH, (g, f))) rfl ?_
          exact am_Ev.cast (a := ((some (.int e8.1)), am_SH, (g, f))) (by cases h; rfl) (am_Ev.ret hcd rfl)
        · refine am_Ev.f hcd (c := a1 = 0) (s1 := (44, [(2, .int a1), (3, .int e8.1), (4, .int e8.2)], [], am_SH, (g, f))) rfl c14 ?_
          refine am_Ev.go hcd 1 (s' := (45, [(2, .int a1), (3, .int e8.1), (4, .int e8.2)], [.int e8.2], am_SH, (g, f))) rfl ?_
          exact am_Ev.cast (a := ((some (.int e8.2)), am_SH, (g, f))) (by cases h; rfl) (am_Ev.ret hcd rfl)
      refine am_Ev.weak' (am_loop_ok (G := fun (s3 : Int32 × Int32 × Int32) => am_Ev sc (d + 2) 297 (18, [(0, .ref 216), (1, .int a0), (2, .int a1), (3, .int s3.1), (4, .int s3.2.1), (5, .int s3.2.2)], [], am_SH, (g, f)) ((some (.int r)), am_SH, (g, f))) (Z := fun (e8 : Int32 × Int32) => am_Ev sc (d + 2) 297 (40, [(2, .int a1), (3, .int e8.1), (4, .int e8.2)], [], am_SH, (g, f)) ((some (.int r)), am_SH, (g, f))) ?_ am_F (0, (-1), 0) e8 he8 hK3) (am_sub_cons rfl (am_sub_cons rfl (am_sub_cons rfl (am_sub_cons rfl (am_sub_cons rfl (am_sub_cons rfl am_sub_nil)))))) rfl
      intro s3 q3 h hI3 hZ3
      show am_Ev sc (d + 2) 297 (18, [(0, .ref 216), (1, .int a0), (2, .int a1), (3, .int s3.1), (4, .int s3.2.1), (5, .int s3.2.2)], [], am_SH, (g, f)) ((some (.int r)), am_SH, (g, f))
      refine am_Ev.go hcd 5 (s' := (23, [(0, .ref 216), (1, .int a0), (2, .int a1), (3, .int s3.1), (4, .int s3.2.1), (5, .int s3.2.2)], [.int (f 217 481), .int s3.2.2], am_SH, (g, f))) rfl ?_
      rcases am_ite h with ⟨c25, h⟩ | ⟨c25, h⟩
      · refine am_Ev.t hcd (c := s3.2.2 < f 217 481) (s1 := (24, [(0, .ref 216), (1, .int a0), (2, .int a1), (3, .int s3.1), (4, .int s3.2.1), (5, .int s3.2.2)], [], am_SH, (g, f))) rfl c25 ?_
        refine am_Ev.go hcd 3 (s' := (27, [(0, .ref 216), (1, .int a0), (2, .int a1), (3, .int s3.1), (4, .int s3.2.1), (5, .int s3.2.2)], [.int a0, .int s3.2.2, .ref 216], am_SH, (g, f))) rfl ?_
        obtain ⟨p4, hp4, h⟩ := am_bind_some h
        refine am_Ev.call hcd (a := 296) (s0 := (0, [(0, .ref 216), (1, .int s3.2.2), (2, .int a0)], [], am_SH, (g, f))) (q := ((some (.int p4)), am_SH, (g, f))) (s1 := (28, [(0, .ref 216), (1, .int a0), (2, .int a1), (3, .int s3.1), (4, .int s3.2.1), (5, .int s3.2.2)], [.int p4], am_SH, (g, f))) rfl rfl (m_steadyFrom_ok (d) s3.2.2 a0 f g p4 hp4) ?_
        obtain ⟨t6, ht6, kt6⟩ := am_bind_some h
        have hKt6 : am_Ev sc (d + 2) 297 (38, [(0, .ref 216), (1, .int a0), (2, .int a1), (3, .int t6.1), (4, .int t6.2), (5, .int s3.2.2)], [], am_SH, (g, f)) ((some (.int r)), am_SH, (g, f)) := by
          have h := kt6
          obtain ⟨t7, Et7, h⟩ := am_let_eq h
          refine am_Ev.go hcd 1 (s' := (39, [(0, .ref 216), (1, .int a0), (2, .int a1), (3, .int t6.1), (4, .int t6.2), (5, .int t7)], [], am_SH, (g, f))) (by subst Et7; exact rfl) ?_
          refine am_Ev.go hcd 1 (s' := (18, [(0, .ref 216), (1, .int a0), (2, .int a1), (3, .int t6.1), (4, .int t6.2), (5, .int t7)], [], am_SH, (g, f))) rfl ?_
          exact am_Ev.weak' (hI3 (t6.1, t6.2, t7) (Option.some.inj h).symm) (am_sub_cons rfl (am_sub_cons rfl (am_sub_cons rfl (am_sub_cons rfl (am_sub_cons rfl (am_sub_cons rfl am_sub_nil)))))) rfl
        have hLt6 : ∀ tt, tt = t6 → am_Ev sc (d + 2) 297 (38, [(0, .ref 216), (1, .int a0), (2, .int a1), (3, .int tt.1), (4, .int tt.2), (5, .int s3.2.2)], [], am_SH, (g, f)) ((some (.int r)), am_SH, (g, f)) := fun tt htt => by subst htt; exact hKt6
        have h := ht6
        refine am_Ev.go hcd 1 (s' := (29, [(0, .ref 216), (1, .int a0), (2, .int a1), (3, .int s3.1), (4, .int s3.2.1), (5, .int s3.2.2)], [.int s3.1, .int p4], am_SH, (g, f))) rfl ?_
        rcases am_ite h with ⟨c40, h⟩ | ⟨c40, h⟩
        · refine am_Ev.t hcd (c := s3.1 < p4) (s1 := (31, [(0, .ref 216), (1, .int a0), (2, .int a1), (3, .int s3.1), (4, .int s3.2.1), (5, .int s3.2.2)], [], am_SH, (g, f))) rfl c40 ?_
          refine am_Ev.go hcd 3 (s' := (34, [(0, .ref 216), (1, .int a0), (2, .int a1), (3, .int s3.1), (4, .int s3.2.1), (5, .int s3.2.2)], [.int a0, .int s3.2.2, .ref 216], am_SH, (g, f))) rfl ?_
          obtain ⟨p5, hp5, h⟩ := am_bind_some h
          refine am_Ev.call hcd (a := 296) (s0 := (0, [(0, .ref 216), (1, .int s3.2.2), (2, .int a0)], [], am_SH, (g, f))) (q := ((some (.int p5)), am_SH, (g, f))) (s1 := (35, [(0, .ref 216), (1, .int a0), (2, .int a1), (3, .int s3.1), (4, .int s3.2.1), (5, .int s3.2.2)], [.int p5], am_SH, (g, f))) rfl rfl (m_steadyFrom_ok (d) s3.2.2 a0 f g p5 hp5) ?_
          refine am_Ev.go hcd 3 (s' := (38, [(0, .ref 216), (1, .int a0), (2, .int a1), (3, .int p5), (4, .int s3.2.2), (5, .int s3.2.2)], [], am_SH, (g, f))) rfl ?_
          exact am_Ev.weak' (hLt6 (p5, s3.2.2) (Option.some.inj h)) (am_sub_cons rfl (am_sub_cons rfl (am_sub_cons rfl (am_sub_cons rfl (am_sub_cons rfl (am_sub_cons rfl am_sub_nil)))))) rfl
        · refine am_Ev.f hcd (c := s3.1 < p4) (s1 := (30, [(0, .ref 216), (1, .int a0), (2, .int a1), (3, .int s3.1), (4, .int s3.2.1), (5, .int s3.2.2)], [], am_SH, (g, f))) rfl c40 ?_
          refine am_Ev.go hcd 1 (s' := (38, [(0, .ref 216), (1, .int a0), (2, .int a1), (3, .int s3.1), (4, .int s3.2.1), (5, .int s3.2.2)], [], am_SH, (g, f))) rfl ?_
          exact am_Ev.weak' (hLt6 (s3.1, s3.2.1) (Option.some.inj h)) (am_sub_cons rfl (am_sub_cons rfl (am_sub_cons rfl (am_sub_cons rfl (am_sub_cons rfl (am_sub_cons rfl am_sub_nil)))))) rfl
      · refine am_Ev.f hcd (c := s3.2.2 < f 217 481) (s1 := (40, [(0, .ref 216), (1, .int a0), (2, .int a1), (3, .int s3.1), (4, .int s3.2.1), (5, .int s3.2.2)], [], am_SH, (g, f))) rfl c25 ?_
        exact am_Ev.weak' (hZ3 (s3.1, s3.2.1) (Option.some.inj h).symm) (am_sub_cons rfl (am_sub_cons rfl (am_sub_cons rfl am_sub_nil))) rfl
    · refine am_Ev.t hcd (c := am_b (m_isIn a1 0 1) = 0) (s1 := (10, [(0, .ref 216), (1, .int a0), (2, .int a1)], [], am_SH, (g, f))) rfl (am_b_f c8) ?_
      refine am_Ev.go hcd 1 (s' := (11, [(0, .ref 216), (1, .int a0), (2, .int a1)], [.int (-1)], am_SH, (g, f))) rfl ?_
      exact am_Ev.cast (a := ((some (.int (-1))), am_SH, (g, f))) (by cases h; rfl) (am_Ev.ret hcd rfl)
  · refine am_Ev.t hcd (c := am_b (m_isIn a0 0 99) = 0) (s1 := (10, [(0, .ref 216), (1, .int a0), (2, .int a1)], [], am_SH, (g, f))) rfl (am_b_f c4) ?_
    refine am_Ev.go hcd 1 (s' := (11, [(0, .ref 216), (1, .int a0), (2, .int a1)], [.int (-1)], am_SH, (g, f))) rfl ?_
    exact am_Ev.cast (a := ((some (.int (-1))), am_SH, (g, f))) (by cases h; rfl) (am_Ev.ret hcd rfl)
set_option maxRecDepth 100000 in
set_option maxHeartbeats 4000000 in
theorem m_quiet_ok {sc : Nat × (Nat → Int32)} (d : Nat) (a0 : Int32) (a1 : Int32) (f g : (Nat → Nat → Int32)) (r : Int32 × (Nat → Nat → Int32)) (h : m_quiet a0 a1 f = some r) : am_Ev sc (d + 1) 298 (0, [(0, .ref 216), (1, .int a0), (2, .int a1)], [], am_SH, (g, f)) ((some (.int r.1)), am_SH, (g, r.2)) := by
  have hcd : am_code 298 = am_c298 := rfl
  unfold m_quiet at h
  refine am_Ev.go hcd 3 (s' := (3, [(0, .ref 216), (1, .int a0), (2, .int a1)], [.int 60, .int 0, .int a0], am_SH, (g, f))) rfl ?_
  refine am_Ev.call hcd (a := 176) (s0 := (0, [(0, .int a0), (1, .int 0), (2, .int 60)], [], am_SH, (g, f))) (q := ((some (.int (am_b (m_isIn a0 0 60)))), am_SH, (g, f))) (s1 := (4, [(0, .ref 216), (1, .int a0), (2, .int a1)], [.int (am_b (m_isIn a0 0 60))], am_SH, (g, f))) rfl rfl (m_isIn_ok (d) a0 0 60 (g, f)) ?_
  rcases am_ite h with ⟨c4, h⟩ | ⟨c4, h⟩
  · refine am_Ev.f hcd (c := am_b (m_isIn a0 0 60) = 0) (s1 := (5, [(0, .ref 216), (1, .int a0), (2, .int a1)], [], am_SH, (g, f))) rfl (am_b_t c4) ?_
    refine am_Ev.go hcd 3 (s' := (8, [(0, .ref 216), (1, .int a0), (2, .int a1)], [.int 5, .int 1, .int a1], am_SH, (g, f))) rfl ?_
    refine am_Ev.call hcd (a := 176) (s0 := (0, [(0, .int a1), (1, .int 1), (2, .int 5)], [], am_SH, (g, f))) (q := ((some (.int (am_b (m_isIn a1 1 5)))), am_SH, (g, f))) (s1 := (9, [(0, .ref 216), (1, .int a0), (2, .int a1)], [.int (am_b (m_isIn a1 1 5))], am_SH, (g, f))) rfl rfl (m_isIn_ok (d) a1 1 5 (g, f)) ?_
    rcases am_ite h with ⟨c8, h⟩ | ⟨c8, h⟩
    · refine am_Ev.f hcd (c := am_b (m_isIn a1 1 5) = 0) (s1 := (12, [(0, .ref 216), (1, .int a0), (2, .int a1)], [], am_SH, (g, f))) rfl (am_b_t c8) ?_
      refine am_Ev.go hcd 2 (s' := (14, [(0, .ref 216), (1, .int a0), (2, .int a1), (3, .int 0)], [], am_SH, (g, f))) rfl ?_
      obtain ⟨e7, he7, h⟩ := am_bind_some h
      have hK3 : (fun (e7 : (Nat → Nat → Int32)) => am_Ev sc (d + 1) 298 (28, [(0, .ref 216), (1, .int a0), (2, .int a1)], [], am_SH, (g, e7)) ((some (.int r.1)), am_SH, (g, r.2))) e7 := by
        show am_Ev sc (d + 1) 298 (28, [(0, .ref 216), (1, .int a0), (2, .int a1)], [], am_SH, (g, e7)) ((some (.int r.1)), am_SH, (g, r.2))
        refine am_Ev.go hcd 2 (s' := (30, [(0, .ref 216), (1, .int a0), (2, .int a1), (3, .int 0)], [], am_SH, (g, e7))) rfl ?_
        obtain ⟨e20, he20, h⟩ := am_bind_some h
        have hK8 : (fun (e20 : (Nat → Nat → Int32)) => am_Ev sc (d + 1) 298 (76, [(0, .ref 216), (2, .int a1)], [], am_SH, (g, e20)) ((some (.int r.1)), am_SH, (g, r.2))) e20 := by
          show am_Ev sc (d + 1) 298 (76, [(0, .ref 216), (2, .int a1)], [], am_SH, (g, e20)) ((some (.int r.1)), am_SH, (g, r.2))
          refine am_Ev.go hcd 4 (s' := (80, [(0, .ref 216), (2, .int a1), (3, .int 0), (4, .int 0)], [], am_SH, (g, e20))) rfl ?_
          refine am_Ev.weak' (am_loop_ok (G := fun (s21 : Int32 × Int32) => am_Ev sc (d + 1) 298 (80, [(0, .ref 216), (2, .int a1), (3, .int s21.1), (4, .int s21.2)], [], am_SH, (g, e20)) ((some (.int r.1)), am_SH, (g, r.2))) (Z := fun (v : Int32 × (Nat → Nat → Int32)) => (((some (.int v.1)), am_SH, (g, v.2)) : am_R) = ((some (.int r.1)), am_SH, (g, r.2))) ?_ am_F (0, 0) r h rfl) (am_sub_cons rfl (am_sub_cons rfl (am_sub_cons rfl (am_sub_cons rfl am_sub_nil)))) rfl
          intro s21 q21 h hI21 hZ21
          show am_Ev sc (d + 1) 298 (80, [(0, .ref 216), (2, .int a1), (3, .int s21.1), (4, .int s21.2)], [], am_SH, (g, e20)) ((some (.int r.1)), am_SH, (g, r.2))
          refine am_Ev.go hcd 2 (s' := (82, [(0, .ref 216), (2, .int a1), (3, .int s21.1), (4, .int s21.2)], [.int a1, .int s21.2], am_SH, (g, e20))) rfl ?_
          rcases am_ite h with ⟨c22, h⟩ | ⟨c22, h⟩
          · refine am_Ev.t hcd (c := s21.2 < a1) (s1 := (83, [(0, .ref 216), (2, .int a1), (3, .int s21.1), (4, .int s21.2)], [], am_SH, (g, e20))) rfl c22 ?_
            refine am_Ev.go hcd 4 (s' := (87, [(0, .ref 216), (2, .int a1), (3, .int s21.1), (4, .int s21.2)], [.int s21.2, .ref 235, .int s21.1], am_SH, (g, e20))) rfl ?_
            obtain ⟨c25, h⟩ := am_grd h
            refine am_Ev.t hcd (o := none) (c := am_in s21.2 5 = true) (s1 := (88, [(0, .ref 216), (2, .int a1), (3, .int s21.1), (4, .int s21.2)], [.int (e20 235 s21.2.toNatClampNeg), .int s21.1], am_SH, (g, e20))) rfl c25 ?_
            obtain ⟨t22, Et22, h⟩ := am_let_eq h
            refine am_Ev.go hcd 4 (s' := (92, [(0, .ref 216), (2, .int a1), (3, .int t22), (4, .int s21.2)], [], am_SH, (g, e20))) (by subst Et22; exact rfl) ?_
            obtain ⟨t23, Et23, h⟩ := am_let_eq h
            refine am_Ev.go hcd 1 (s' := (93, [(0, .ref 216), (2, .int a1), (3, .int t22), (4, .int t23)], [], am_SH, (g, e20))) (by subst Et23; exact rfl) ?_
            refine am_Ev.go hcd 1 (s' := (80, [(0, .ref 216), (2, .int a1), (3, .int t22), (4, .int t23)], [], am_SH, (g, e20))) rfl ?_
            exact am_Ev.weak' (hI21 (t22, t23) (Option.some.inj h).symm) (am_sub_cons rfl (am_sub_cons rfl (am_sub_cons rfl (am_sub_cons rfl am_sub_nil)))) rfl
          · refine am_Ev.f hcd (c := s21.2 < a1) (s1 := (94, [(0, .ref 216), (2, .int a1), (3, .int s21.1), (4, .int s21.2)], [], am_SH, (g, e20))) rfl c22 ?_
            refine am_Ev.go hcd 1 (s' := (95, [(0, .ref 216), (2, .int a1), (3, .int s21.1), (4, .int s21.2)], [.int s21.1], am_SH, (g, e20))) rfl ?_
            exact am_Ev.cast (a := ((some (.int (s21.1, e20).1)), am_SH, (g, (s21.1, e20).2))) (hZ21 _ (Option.some.inj h).symm) (am_Ev.ret hcd rfl)
        refine am_Ev.weak' (am_loop_ok (G := fun (s8 : Int32 × (Nat → Nat → Int32)) => am_Ev sc (d + 1) 298 (30, [(0, .ref 216), (1, .int a0), (2, .int a1), (3, .int s8.1)], [], am_SH, (g, s8.2)) ((some (.int r.1)), am_SH, (g, r.2))) (Z := fun (e20 : (Nat → Nat → Int32)) => am_Ev sc (d + 1) 298 (76, [(0, .ref 216), (2, .int a1)], [], am_SH, (g, e20)) ((some (.int r.1)), am_SH, (g, r.2))) ?_ am_F (0, e7) e20 he20 hK8) (am_sub_cons rfl (am_sub_cons rfl (am_sub_cons rfl (am_sub_cons rfl am_sub_nil)))) rfl
        intro s8 q8 h hI8 hZ8
        show am_Ev sc (d + 1) 298 (30, [(0, .ref 216), (1, .int a0), (2, .int a1), (3, .int s8.1)], [], am_SH, (g, s8.2)) ((some (.int r.1)), am_SH, (g, r.2))
        refine am_Ev.go hcd 2 (s' := (32, [(0, .ref 216), (1, .int a0), (2, .int a1), (3, .int s8.1)], [.int a0, .int s8.1], am_SH, (g, s8.2))) rfl ?_
        rcases am_ite h with ⟨c40, h⟩ | ⟨c40, h⟩
        · refine am_Ev.t hcd (c := s8.1 < a0) (s1 := (33, [(0, .ref 216), (1, .int a0), (2, .int a1), (3, .int s8.1)], [], am_SH, (g, s8.2))) rfl c40 ?_
          refine am_Ev.go hcd 4 (s' := (37, [(0, .ref 216), (1, .int a0), (2, .int a1), (3, .int s8.1), (4, .int 0), (5, .int 0)], [], am_SH, (g, s8.2))) rfl ?_
          obtain ⟨e12, he12, h⟩ := am_bind_some h
          have hK9 : (fun (e12 : Int32) => am_Ev sc (d + 1) 298 (51, [(0, .ref 216), (1, .int a0), (2, .int a1), (3, .int s8.1), (4, .int e12)], [], am_SH, (g, s8.2)) ((some (.int r.1)), am_SH, (g, r.2))) e12 := by
            show am_Ev sc (d + 1) 298 (51, [(0, .ref 216), (1, .int a0), (2, .int a1), (3, .int s8.1), (4, .int e12)], [], am_SH, (g, s8.2)) ((some (.int r.1)), am_SH, (g, r.2))
            obtain ⟨t13, Et13, h⟩ := am_let_eq h
            refine am_Ev.go hcd 4 (s' := (55, [(0, .ref 216), (1, .int a0), (2, .int a1), (3, .int s8.1), (4, .int e12), (5, .int t13)], [], am_SH, (g, s8.2))) (by subst Et13; exact rfl) ?_
            obtain ⟨e17, he17, h⟩ := am_bind_some h
            have hK14 : (fun (e17 : (Nat → Nat → Int32)) => am_Ev sc (d + 1) 298 (69, [(0, .ref 216), (1, .int a0), (2, .int a1), (3, .int s8.1), (4, .int e12)], [], am_SH, (g, e17)) ((some (.int r.1)), am_SH, (g, r.2))) e17 := by
              show am_Ev sc (d + 1) 298 (69, [(0, .ref 216), (1, .int a0), (2, .int a1), (3, .int s8.1), (4, .int e12)], [], am_SH, (g, e17)) ((some (.int r.1)), am_SH, (g, r.2))
              obtain ⟨f18, Ef18, h⟩ := am_let_eq h
              refine am_Ev.go hcd 5 (s' := (74, [(0, .ref 216), (1, .int a0), (2, .int a1), (3, .int s8.1), (4, .int e12)], [], am_SH, (g, f18))) (by subst Ef18; exact rfl) ?_
              obtain ⟨t19, Et19, h⟩ := am_let_eq h
              refine am_Ev.go hcd 1 (s' := (75, [(0, .ref 216), (1, .int a0), (2, .int a1), (3, .int t19), (4, .int e12)], [], am_SH, (g, f18))) (by subst Et19; exact rfl) ?_
              refine am_Ev.go hcd 1 (s' := (30, [(0, .ref 216), (1, .int a0), (2, .int a1), (3, .int t19), (4, .int e12)], [], am_SH, (g, f18))) rfl ?_
              exact am_Ev.weak' (hI8 (t19, f18) (Option.some.inj h).symm) (am_sub_cons rfl (am_sub_cons rfl (am_sub_cons rfl (am_sub_cons rfl am_sub_nil)))) rfl
            refine am_Ev.weak' (am_loop_ok (G := fun (s14 : Int32 × (Nat → Nat → Int32)) => am_Ev sc (d + 1) 298 (55, [(0, .ref 216), (1, .int a0), (2, .int a1), (3, .int s8.1), (4, .int e12), (5, .int s14.1)], [], am_SH, (g, s14.2)) ((some (.int r.1)), am_SH, (g, r.2))) (Z := fun (e17 : (Nat → Nat → Int32)) => am_Ev sc (d + 1) 298 (69, [(0, .ref 216), (1, .int a0), (2, .int a1), (3, .int s8.1), (4, .int e12)], [], am_SH, (g, e17)) ((some (.int r.1)), am_SH, (g, r.2))) ?_ am_F (t13, s8.2) e17 he17 hK14) (am_sub_cons rfl (am_sub_cons rfl (am_sub_cons rfl (am_sub_cons rfl (am_sub_cons rfl (am_sub_cons rfl am_sub_nil)))))) rfl
            intro s14 q14 h hI14 hZ14
            show am_Ev sc (d + 1) 298 (55, [(0, .ref 216), (1, .int a0), (2, .int a1), (3, .int s8.1), (4, .int e12), (5, .int s14.1)], [], am_SH, (g, s14.2)) ((some (.int r.1)), am_SH, (g, r.2))
            refine am_Ev.go hcd 1 (s' := (56, [(0, .ref 216), (1, .int a0), (2, .int a1), (3, .int s8.1), (4, .int e12), (5, .int s14.1)], [.int s14.1], am_SH, (g, s14.2))) rfl ?_
            rcases am_ite h with ⟨c61, h⟩ | ⟨c61, h⟩
            · refine am_Ev.t hcd (c := 0 < s14.1) (s1 := (57, [(0, .ref 216), (1, .int a0), (2, .int a1), (3, .int s8.1), (4, .int e12), (5, .int s14.1)], [], am_SH, (g, s14.2))) rfl c61 ?_
              refine am_Ev.go hcd 8 (s' := (65, [(0, .ref 216), (1, .int a0), (2, .int a1), (3, .int s8.1), (4, .int e12), (5, .int s14.1)], [.int (s14.1 - 1), .ref 235, .int s14.1, .ref 235], am_SH, (g, s14.2))) rfl ?_
              obtain ⟨c64, h⟩ := am_grd h
              refine am_Ev.t hcd (o := none) (c := am_in (s14.1 - 1) 5 = true) (s1 := (66, [(0, .ref 216), (1, .int a0), (2, .int a1), (3, .int s8.1), (4, .int e12), (5, .int s14.1)], [.int (s14.2 235 (s14.1 - 1).toNatClampNeg), .int s14.1, .ref 235], am_SH, (g, s14.2))) rfl c64 ?_
              obtain ⟨c67, h⟩ := am_grd h
              obtain ⟨f15, Ef15, h⟩ := am_let_eq h
              refine am_Ev.t hcd (o := none) (c := am_in s14.1 5 = true) (s1 := (67, [(0, .ref 216), (1, .int a0), (2, .int a1), (3, .int s8.1), (4, .int e12), (5, .int s14.1)], [], am_SH, (g, f15))) (by subst Ef15; exact rfl) c67 ?_
              obtain ⟨t16, Et16, h⟩ := am_let_eq h
              refine am_Ev.go hcd 1 (s' := (68, [(0, .ref 216), (1, .int a0), (2, .int a1), (3, .int s8.1), (4, .int e12), (5, .int t16)], [], am_SH, (g, f15))) (by subst Et16; exact rfl) ?_
              refine am_Ev.go hcd 1 (s' := (55, [(0, .ref 216), (1, .int a0), (2, .int a1), (3, .int s8.1), (4, .int e12), (5, .int t16)], [], am_SH, (g, f15))) rfl ?_
              exact am_Ev.weak' (hI14 (t16, f15) (Option.some.inj h).symm) (am_sub_cons rfl (am_sub_cons rfl (am_sub_cons rfl (am_sub_cons rfl (am_sub_cons rfl (am_sub_cons rfl am_sub_nil)))))) rfl
            · refine am_Ev.f hcd (c := 0 < s14.1) (s1 := (69, [(0, .ref 216), (1, .int a0), (2, .int a1), (3, .int s8.1), (4, .int e12), (5, .int s14.1)], [], am_SH, (g, s14.2))) rfl c61 ?_
              exact am_Ev.weak' (hZ14 s14.2 (Option.some.inj h).symm) (am_sub_cons rfl (am_sub_cons rfl (am_sub_cons rfl (am_sub_cons rfl (am_sub_cons rfl am_sub_nil))))) rfl
          refine am_Ev.weak' (am_loop_ok (G := fun (s9 : Int32 × Int32) => am_Ev sc (d + 1) 298 (37, [(0, .ref 216), (1, .int a0), (2, .int a1), (3, .int s8.1), (4, .int s9.1), (5, .int s9.2)], [], am_SH, (g, s8.2)) ((some (.int r.1)), am_SH, (g, r.2))) (Z := fun (e12 : Int32) => am_Ev sc (d + 1) 298 (51, [(0, .ref 216), (1, .int a0), (2, .int a1), (3, .int s8.1), (4, .int e12)], [], am_SH, (g, s8.2)) ((some (.int r.1)), am_SH, (g, r.2))) ?_ am_F (0, 0) e12 he12 hK9) (am_sub_cons rfl (am_sub_cons rfl (am_sub_cons rfl (am_sub_cons rfl (am_sub_cons rfl (am_sub_cons rfl am_sub_nil)))))) rfl
          intro s9 q9 h hI9 hZ9
          show am_Ev sc (d + 1) 298 (37, [(0, .ref 216), (1, .int a0), (2, .int a1), (3, .int s8.1), (4, .int s9.1), (5, .int s9.2)], [], am_SH, (g, s8.2)) ((some (.int r.1)), am_SH, (g, r.2))
          refine am_Ev.go hcd 2 (s' := (39, [(0, .ref 216), (1, .int a0), (2, .int a1), (3, .int s8.1), (4, .int s9.1), (5, .int s9.2)], [.int a1, .int s9.2], am_SH, (g, s8.2))) rfl ?_
          rcases am_ite h with ⟨c79, h⟩ | ⟨c79, h⟩
          · refine am_Ev.t hcd (c := s9.2 < a1) (s1 := (40, [(0, .ref 216), (1, .int a0), (2, .int a1), (3, .int s8.1), (4, .int s9.1), (5, .int s9.2)], [], am_SH, (g, s8.2))) rfl c79 ?_
            refine am_Ev.go hcd 4 (s' := (44, [(0, .ref 216), (1, .int a0), (2, .int a1), (3, .int s8.1), (4, .int s9.1), (5, .int s9.2)], [.int s9.2, .ref 235, .int s9.1], am_SH, (g, s8.2))) rfl ?_
            obtain ⟨c82, h⟩ := am_grd h
            refine am_Ev.t hcd (o := none) (c := am_in s9.2 5 = true) (s1 := (45, [(0, .ref 216), (1, .int a0), (2, .int a1), (3, .int s8.1), (4, .int s9.1), (5, .int s9.2)], [.int (s8.2 235 s9.2.toNatClampNeg), .int s9.1], am_SH, (g, s8.2))) rfl c82 ?_
            obtain ⟨t10, Et10, h⟩ := am_let_eq h
            refine am_Ev.go hcd 4 (s' := (49, [(0, .ref 216), (1, .int a0), (2, .int a1), (3, .int s8.1), (4, .int t10), (5, .int s9.2)], [], am_SH, (g, s8.2))) (by subst Et10; exact rfl) ?_
            obtain ⟨t11, Et11, h⟩ := am_let_eq h
            refine am_Ev.go hcd 1 (s' := (50, [(0, .ref 216), (1, .int a0), (2, .int a1), (3, .int s8.1), (4, .int t10), (5, .int t11)], [], am_SH, (g, s8.2))) (by subst Et11; exact rfl) ?_
            refine am_Ev.go hcd 1 (s' := (37, [(0, .ref 216), (1, .int a0), (2, .int a1), (3, .int s8.1), (4, .int t10), (5, .int t11)], [], am_SH, (g, s8.2))) rfl ?_
            exact am_Ev.weak' (hI9 (t10, t11) (Option.some.inj h).symm) (am_sub_cons rfl (am_sub_cons rfl (am_sub_cons rfl (am_sub_cons rfl (am_sub_cons rfl (am_sub_cons rfl am_sub_nil)))))) rfl
          · refine am_Ev.f hcd (c := s9.2 < a1) (s1 := (51, [(0, .ref 216), (1, .int a0), (2, .int a1), (3, .int s8.1), (4, .int s9.1), (5, .int s9.2)], [], am_SH, (g, s8.2))) rfl c79 ?_
            exact am_Ev.weak' (hZ9 s9.1 (Option.some.inj h).symm) (am_sub_cons rfl (am_sub_cons rfl (am_sub_cons rfl (am_sub_cons rfl (am_sub_cons rfl am_sub_nil))))) rfl
        · refine am_Ev.f hcd (c := s8.1 < a0) (s1 := (76, [(0, .ref 216), (1, .int a0), (2, .int a1), (3, .int s8.1)], [], am_SH, (g, s8.2))) rfl c40 ?_
          exact am_Ev.weak' (hZ8 s8.2 (Option.some.inj h).symm) (am_sub_cons rfl (am_sub_cons rfl am_sub_nil)) rfl
      refine am_Ev.weak' (am_loop_ok (G := fun (s3 : Int32 × (Nat → Nat → Int32)) => am_Ev sc (d + 1) 298 (14, [(0, .ref 216), (1, .int a0), (2, .int a1), (3, .int s3.1)], [], am_SH, (g, s3.2)) ((some (.int r.1)), am_SH, (g, r.2))) (Z := fun (e7 : (Nat → Nat → Int32)) => am_Ev sc (d + 1) 298 (28, [(0, .ref 216), (1, .int a0), (2, .int a1)], [], am_SH, (g, e7)) ((some (.int r.1)), am_SH, (g, r.2))) ?_ am_F (0, f) e7 he7 hK3) (am_sub_cons rfl (am_sub_cons rfl (am_sub_cons rfl (am_sub_cons rfl am_sub_nil)))) rfl
      intro s3 q3 h hI3 hZ3
      show am_Ev sc (d + 1) 298 (14, [(0, .ref 216), (1, .int a0), (2, .int a1), (3, .int s3.1)], [], am_SH, (g, s3.2)) ((some (.int r.1)), am_SH, (g, r.2))
      refine am_Ev.go hcd 2 (s' := (16, [(0, .ref 216), (1, .int a0), (2, .int a1), (3, .int s3.1)], [.int 5, .int s3.1], am_SH, (g, s3.2))) rfl ?_
      rcases am_ite h with ⟨c98, h⟩ | ⟨c98, h⟩
      · refine am_Ev.t hcd (c := s3.1 < 5) (s1 := (17, [(0, .ref 216), (1, .int a0), (2, .int a1), (3, .int s3.1)], [], am_SH, (g, s3.2))) rfl c98 ?_
        obtain ⟨t4, ht4, kt4⟩ := am_let_eq h
        have hKt4 : am_Ev sc (d + 1) 298 (25, [(0, .ref 216), (1, .int a0), (2, .int a1), (3, .int s3.1)], [.int (am_b t4), .int s3.1, .ref 235], am_SH, (g, s3.2)) ((some (.int r.1)), am_SH, (g, r.2)) := by
          have h := kt4
          obtain ⟨c104, h⟩ := am_grd h
          obtain ⟨f5, Ef5, h⟩ := am_let_eq h
          refine am_Ev.t hcd (o := none) (c := am_in s3.1 5 = true) (s1 := (26, [(0, .ref 216), (1, .int a0), (2, .int a1), (3, .int s3.1)], [], am_SH, (g, f5))) (by subst Ef5; exact rfl) c104 ?_
          obtain ⟨t6, Et6, h⟩ := am_let_eq h
          refine am_Ev.go hcd 1 (s' := (27, [(0, .ref 216), (1, .int a0), (2, .int a1), (3, .int t6)], [], am_SH, (g, f5))) (by subst Et6; exact rfl) ?_
          refine am_Ev.go hcd 1 (s' := (14, [(0, .ref 216), (1, .int a0), (2, .int a1), (3, .int t6)], [], am_SH, (g, f5))) rfl ?_
          exact am_Ev.weak' (hI3 (t6, f5) (Option.some.inj h).symm) (am_sub_cons rfl (am_sub_cons rfl (am_sub_cons rfl (am_sub_cons rfl am_sub_nil)))) rfl
        have hLt4 : ∀ tt, tt = t4 → am_Ev sc (d + 1) 298 (25, [(0, .ref 216), (1, .int a0), (2, .int a1), (3, .int s3.1)], [.int (am_b tt), .int s3.1, .ref 235], am_SH, (g, s3.2)) ((some (.int r.1)), am_SH, (g, r.2)) := fun tt htt => by subst htt; exact hKt4
        have h := ht4
        refine am_Ev.go hcd 4 (s' := (21, [(0, .ref 216), (1, .int a0), (2, .int a1), (3, .int s3.1)], [.int s3.1, .int s3.1, .ref 235], am_SH, (g, s3.2))) rfl ?_
        rcases am_itv h with ⟨c113, h⟩ | ⟨c113, h⟩
        · refine am_Ev.t hcd (c := s3.1 = 0) (s1 := (22, [(0, .ref 216), (1, .int a0), (2, .int a1), (3, .int s3.1)], [.int s3.1, .ref 235], am_SH, (g, s3.2))) rfl c113 ?_
          refine am_Ev.go hcd 2 (s' := (25, [(0, .ref 216), (1, .int a0), (2, .int a1), (3, .int s3.1)], [.int 1, .int s3.1, .ref 235], am_SH, (g, s3.2))) rfl ?_
          exact am_Ev.weak' (hLt4 true h.symm) (am_sub_cons rfl (am_sub_cons rfl (am_sub_cons rfl (am_sub_cons rfl am_sub_nil)))) rfl
        · refine am_Ev.f hcd (c := s3.1 = 0) (s1 := (24, [(0, .ref 216), (1, .int a0), (2, .int a1), (3, .int s3.1)], [.int s3.1, .ref 235], am_SH, (g, s3.2))) rfl c113 ?_
          refine am_Ev.go hcd 1 (s' := (25, [(0, .ref 216), (1, .int a0), (2, .int a1), (3, .int s3.1)], [.int 0, .int s3.1, .ref 235], am_SH, (g, s3.2))) rfl ?_
          exact am_Ev.weak' (hLt4 false h.symm) (am_sub_cons rfl (am_sub_cons rfl (am_sub_cons rfl (am_sub_cons rfl am_sub_nil)))) rfl
      · refine am_Ev.f hcd (c := s3.1 < 5) (s1 := (28, [(0, .ref 216), (1, .int a0), (2, .int a1), (3, .int s3.1)], [], am_SH, (g, s3.2))) rfl c98 ?_
        exact am_Ev.weak' (hZ3 s3.2 (Option.some.inj h).symm) (am_sub_cons rfl (am_sub_cons rfl (am_sub_cons rfl am_sub_nil))) rfl
    · refine am_Ev.t hcd (c := am_b (m_isIn a1 1 5) = 0) (s1 := (10, [(0, .ref 216), (1, .int a0), (2, .int a1)], [], am_SH, (g, f))) rfl (am_b_f c8) ?_
      refine am_Ev.go hcd 1 (s' := (11, [(0, .ref 216), (1, .int a0), (2, .int a1)], [.int (-1)], am_SH, (g, f))) rfl ?_
      exact am_Ev.cast (a := ((some (.int ((-1), f).1)), am_SH, (g, ((-1), f).2))) (by cases h; rfl) (am_Ev.ret hcd rfl)
  · refine am_Ev.t hcd (c := am_b (m_isIn a0 0 60) = 0) (s1 := (10, [(0, .ref 216), (1, .int a0), (2, .int a1)], [], am_SH, (g, f))) rfl (am_b_f c4) ?_
    refine am_Ev.go hcd 1 (s' := (11, [(0, .ref 216), (1, .int a0), (2, .int a1)], [.int (-1)], am_SH, (g, f))) rfl ?_
    exact am_Ev.cast (a := ((some (.int ((-1), f).1)), am_SH, (g, ((-1), f).2))) (by cases h; rfl) (am_Ev.ret hcd rfl)
set_option maxRecDepth 100000 in
set_option maxHeartbeats 4000000 in
theorem m_dog_ok {sc : Nat × (Nat → Int32)} (d : Nat) (a0 : Int32) (f g : (Nat → Nat → Int32)) (r : Int32 × (Nat → Nat → Int32)) (h : m_dog a0 f = some r) : am_Ev sc (d + 1) 299 (0, [(0, .ref 216), (1, .int a0)], [], am_SH, (g, f)) ((some (.int r.1)), am_SH, (g, r.2)) := by
  have hcd : am_code 299 = am_c299 := rfl
  unfold m_dog at h
  refine am_Ev.go hcd 2 (s' := (2, [(0, .ref 216), (1, .int a0)], [.int (-1), .int a0], am_SH, (g, f))) rfl ?_
  rcases am_ite h with ⟨c2, h⟩ | ⟨c2, h⟩
  · refine am_Ev.t hcd (c := a0 = (-1)) (s1 := (3, [(0, .ref 216), (1, .int a0)], [], am_SH, (g, f))) rfl c2 ?_
    refine am_Ev.go hcd 2 (s' := (5, [(0, .ref 216), (1, .int a0)], [.int 506, .ref 216], am_SH, (g, f))) rfl ?_
    obtain ⟨p1, hp1, h⟩ := am_bind_some h
    refine am_Ev.call hcd (a := 262) (s0 := (0, [(0, .ref 216), (1, .int 506)], [], am_SH, (g, f))) (q := ((some (.int p1.1)), am_SH, (g, p1.2))) (s1 := (6, [(0, .ref 216), (1, .int a0)], [.int p1.1], am_SH, (g, p1.2))) rfl rfl (m_endsRow_ok (d) 506 f g p1 hp1) ?_
    refine am_Ev.go hcd 1 (s' := (19, [(0, .ref 216), (1, .int a0)], [.int p1.1], am_SH, (g, p1.2))) rfl ?_
    exact am_Ev.cast (a := ((some (.int (p1.1, p1.2).1)), am_SH, (g, (p1.1, p1.2).2))) (by cases h; rfl) (am_Ev.ret hcd rfl)
  · refine am_Ev.f hcd (c := a0 = (-1)) (s1 := (7, [(0, .ref 216), (1, .int a0)], [], am_SH, (g, f))) rfl c2 ?_
    refine am_Ev.go hcd 3 (s' := (10, [(0, .ref 216), (1, .int a0)], [.int 9999, .int 1, .int a0], am_SH, (g, f))) rfl ?_
    refine am_Ev.call hcd (a := 176) (s0 := (0, [(0, .int a0), (1, .int 1), (2, .int 9999)], [], am_SH, (g, f))) (q := ((some (.int (am_b (m_isIn a0 1 9999)))), am_SH, (g, f))) (s1 := (11, [(0, .ref 216), (1, .int a0)], [.int (am_b (m_isIn a0 1 9999))], am_SH, (g, f))) rfl rfl (m_isIn_ok (d) a0 1 9999 (g, f)) ?_
    rcases am_ite h with ⟨c13, h⟩ | ⟨c13, h⟩
    · refine am_Ev.f hcd (c := am_b (m_isIn a0 1 9999) = 0) (s1 := (12, [(0, .ref 216), (1, .int a0)], [], am_SH, (g, f))) rfl (am_b_t c13) ?_
      refine am_Ev.go hcd 4 (s' := (16, [(0, .ref 216), (1, .int a0)], [.int a0, .int 8, .int 506, .ref 216], am_SH, (g, f))) rfl ?_
      obtain ⟨p3, hp3, h⟩ := am_bind_some h
      refine am_Ev.call hcd (a := 260) (s0 := (0, [(0, .ref 216), (1, .int 506), (2, .int 8), (3, .int a0)], [], am_SH, (g, f))) (q := ((some (.int p3.1)), am_SH, (g, p3.2))) (s1 := (17, [(0, .ref 216), (1, .int a0)], [.int p3.1], am_SH, (g, p3.2))) rfl rfl (m_tellsOne_ok (d) 506 8 a0 f g p3 hp3) ?_
      refine am_Ev.go hcd 1 (s' := (19, [(0, .ref 216), (1, .int a0)], [.int p3.1], am_SH, (g, p3.2))) rfl ?_
      exact am_Ev.cast (a := ((some (.int (p3.1, p3.2).1)), am_SH, (g, (p3.1, p3.2).2))) (by cases h; rfl) (am_Ev.ret hcd rfl)
    · refine am_Ev.t hcd (c := am_b (m_isIn a0 1 9999) = 0) (s1 := (18, [(0, .ref 216), (1, .int a0)], [], am_SH, (g, f))) rfl (am_b_f c13) ?_
      refine am_Ev.go hcd 1 (s' := (19, [(0, .ref 216), (1, .int a0)], [.int (-1)], am_SH, (g, f))) rfl ?_
      exact am_Ev.cast (a := ((some (.int ((-1), f).1)), am_SH, (g, ((-1), f).2))) (by cases h; rfl) (am_Ev.ret hcd rfl)
set_option maxRecDepth 100000 in
set_option maxHeartbeats 4000000 in
theorem m_lettersOf_ok {sc : Nat × (Nat → Int32)} (d : Nat) (a0 : Int32) (hp : am_H) : am_Ev sc (d) 300 (0, [(0, .int a0)], [], am_SH, hp) ((some (.int (m_lettersOf a0))), am_SH, hp) := by
  have hcd : am_code 300 = am_c300 := rfl
  obtain ⟨r, h⟩ : ∃ r, r = m_lettersOf a0 := ⟨_, rfl⟩
  rw [← h]
  unfold m_lettersOf at h
  refine am_Ev.go hcd 2 (s' := (2, [(0, .int a0)], [.int 999, .int a0], am_SH, hp)) rfl ?_
  rcases am_itv h with ⟨c4, h⟩ | ⟨c4, h⟩
  · refine am_Ev.t hcd (c := 999 < a0) (s1 := (3, [(0, .int a0)], [], am_SH, hp)) rfl c4 ?_
    refine am_Ev.go hcd 2 (s' := (16, [(0, .int a0)], [.int 4], am_SH, hp)) rfl ?_
    exact am_Ev.cast (a := ((some (.int 4)), am_SH, hp)) (by subst h; rfl) (am_Ev.ret hcd rfl)
  · refine am_Ev.f hcd (c := 999 < a0) (s1 := (5, [(0, .int a0)], [], am_SH, hp)) rfl c4 ?_
    refine am_Ev.go hcd 2 (s' := (7, [(0, .int a0)], [.int 99, .int a0], am_SH, hp)) rfl ?_
    rcases am_itv h with ⟨c10, h⟩ | ⟨c10, h⟩
    · refine am_Ev.t hcd (c := 99 < a0) (s1 := (8, [(0, .int a0)], [], am_SH, hp)) rfl c10 ?_
      refine am_Ev.go hcd 2 (s' := (16, [(0, .int a0)], [.int 3], am_SH, hp)) rfl ?_
      exact am_Ev.cast (a := ((some (.int 3)), am_SH, hp)) (by subst h; rfl) (am_Ev.ret hcd rfl)
    · refine am_Ev.f hcd (c := 99 < a0) (s1 := (10, [(0, .int a0)], [], am_SH, hp)) rfl c10 ?_
      refine am_Ev.go hcd 2 (s' := (12, [(0, .int a0)], [.int 9, .int a0], am_SH, hp)) rfl ?_
      rcases am_itv h with ⟨c16, h⟩ | ⟨c16, h⟩
      · refine am_Ev.t hcd (c := 9 < a0) (s1 := (13, [(0, .int a0)], [], am_SH, hp)) rfl c16 ?_
        refine am_Ev.go hcd 2 (s' := (16, [(0, .int a0)], [.int 2], am_SH, hp)) rfl ?_
        exact am_Ev.cast (a := ((some (.int 2)), am_SH, hp)) (by subst h; rfl) (am_Ev.ret hcd rfl)
      · refine am_Ev.f hcd (c := 9 < a0) (s1 := (15, [(0, .int a0)], [], am_SH, hp)) rfl c16 ?_
        refine am_Ev.go hcd 1 (s' := (16, [(0, .int a0)], [.int 1], am_SH, hp)) rfl ?_
        exact am_Ev.cast (a := ((some (.int 1)), am_SH, hp)) (by subst h; rfl) (am_Ev.ret hcd rfl)
set_option maxRecDepth 100000 in
set_option maxHeartbeats 4000000 in
theorem m_firstOf_ok {sc : Nat × (Nat → Int32)} (d : Nat) (a0 : Int32) (a1 : Int32) (f g : (Nat → Nat → Int32)) (r : Int32) (h : m_firstOf a0 a1 f = some r) : am_Ev sc (d + 1) 301 (0, [(0, .ref 216), (1, .int a0), (2, .int a1)], [], am_SH, (g, f)) ((some (.int r)), am_SH, (g, f)) := by
  have hcd : am_code 301 = am_c301 := rfl
  unfold m_firstOf at h
  refine am_Ev.go hcd 5 (s' := (5, [(0, .ref 216), (1, .int a0), (2, .int a1)], [.int (507 + a0), .ref 217], am_SH, (g, f))) rfl ?_
  obtain ⟨c2, h⟩ := am_grd h
  refine am_Ev.t hcd (o := none) (c := am_in (507 + a0) 2008 = true) (s1 := (6, [(0, .ref 216), (1, .int a0), (2, .int a1)], [.int (f 217 (507 + a0).toNatClampNeg)], am_SH, (g, f))) rfl c2 ?_
  obtain ⟨t1, Et1, h⟩ := am_let_eq h
  refine am_Ev.go hcd 1 (s' := (7, [(0, .ref 216), (1, .int a0), (2, .int a1), (3, .int t1)], [], am_SH, (g, f))) (by subst Et1; exact rfl) ?_
  refine am_Ev.go hcd 1 (s' := (8, [(0, .ref 216), (1, .int a0), (2, .int a1), (3, .int t1)], [.int t1], am_SH, (g, f))) rfl ?_
  refine am_Ev.call hcd (a := 300) (s0 := (0, [(0, .int t1)], [], am_SH, (g, f))) (q := ((some (.int (m_lettersOf t1))), am_SH, (g, f))) (s1 := (9, [(0, .ref 216), (1, .int a0), (2, .int a1), (3, .int t1)], [.int (m_lettersOf t1)], am_SH, (g, f))) rfl rfl (m_lettersOf_ok (d) t1 (g, f)) ?_
  obtain ⟨t3, Et3, h⟩ := am_let_eq h
  refine am_Ev.go hcd 1 (s' := (10, [(0, .ref 216), (1, .int a0), (2, .int a1), (3, .int t1), (4, .int t3)], [], am_SH, (g, f))) (by subst Et3; exact rfl) ?_
  refine am_Ev.go hcd 2 (s' := (12, [(0, .ref 216), (1, .int a0), (2, .int a1), (3, .int t1), (4, .int t3)], [.int t3, .int a1], am_SH, (g, f))) rfl ?_
  rcases am_ite h with ⟨c11, h⟩ | ⟨c11, h⟩
  · refine am_Ev.t hcd (c := t3 < a1) (s1 := (13, [(0, .ref 216), (1, .int a0), (2, .int a1), (3, .int t1), (4, .int t3)], [], am_SH, (g, f))) rfl c11 ?_
    refine am_Ev.go hcd 3 (s' := (16, [(0, .ref 216), (1, .int a0), (2, .int a1), (3, .int t1), (4, .int t3)], [.int (100000 + t1)], am_SH, (g, f))) rfl ?_
    exact am_Ev.cast (a := ((some (.int (100000 + t1))), am_SH, (g, f))) (by cases h; rfl) (am_Ev.ret hcd rfl)
  · refine am_Ev.f hcd (c := t3 < a1) (s1 := (17, [(0, .ref 216), (1, .int a0), (2, .int a1), (3, .int t1), (4, .int t3)], [], am_SH, (g, f))) rfl c11 ?_
    refine am_Ev.go hcd 4 (s' := (21, [(0, .ref 216), (1, .int a0), (2, .int a1), (3, .int t1), (4, .int t3), (5, .int t1), (6, .int t3)], [], am_SH, (g, f))) rfl ?_
    refine am_Ev.weak' (am_loop_ok (G := fun (s4 : Int32 × Int32) => am_Ev sc (d + 1) 301 (21, [(2, .int a1), (5, .int s4.1), (6, .int s4.2)], [], am_SH, (g, f)) ((some (.int r)), am_SH, (g, f))) (Z := fun (v : Int32) => (((some (.int v)), am_SH, (g, f)) : am_R) = ((some (.int r)), am_SH, (g, f))) ?_ am_F (t1, t3) r h rfl) (am_sub_cons rfl (am_sub_cons rfl (am_sub_cons rfl am_sub_nil))) rfl
    intro s4 q4 h hI4 hZ4
    show am_Ev sc (d + 1) 301 (21, [(2, .int a1), (5, .int s4.1), (6, .int s4.2)], [], am_SH, (g, f)) ((some (.int r)), am_SH, (g, f))
    refine am_Ev.go hcd 2 (s' := (23, [(2, .int a1), (5, .int s4.1), (6, .int s4.2)], [.int a1, .int s4.2], am_SH, (g, f))) rfl ?_
    rcases am_ite h with ⟨c21, h⟩ | ⟨c21, h⟩
    · refine am_Ev.t hcd (c := a1 < s4.2) (s1 := (24, [(2, .int a1), (5, .int s4.1), (6, .int s4.2)], [], am_SH, (g, f))) rfl c21 ?_
      obtain ⟨t5, Et5, h⟩ := am_let_eq h
      refine am_Ev.go hcd 4 (s' := (28, [(2, .int a1), (5, .int t5), (6, .int s4.2)], [], am_SH, (g, f))) (by subst Et5; exact rfl) ?_
      obtain ⟨t6, Et6, h⟩ := am_let_eq h
      refine am_Ev.go hcd 1 (s' := (29, [(2, .int a1), (5, .int t5), (6, .int t6)], [], am_SH, (g, f))) (by subst Et6; exact rfl) ?_
      refine am_Ev.go hcd 1 (s' := (21, [(2, .int a1), (5, .int t5), (6, .int t6)], [], am_SH, (g, f))) rfl ?_
      exact am_Ev.weak' (hI4 (t5, t6) (Option.some.inj h).symm) (am_sub_cons rfl (am_sub_cons rfl (am_sub_cons rfl am_sub_nil))) rfl
    · refine am_Ev.f hcd (c := a1 < s4.2) (s1 := (30, [(2, .int a1), (5, .int s4.1), (6, .int s4.2)], [], am_SH, (g, f))) rfl c21 ?_
      refine am_Ev.go hcd 1 (s' := (31, [(2, .int a1), (5, .int s4.1), (6, .int s4.2)], [.int s4.1], am_SH, (g, f))) rfl ?_
      exact am_Ev.cast (a := ((some (.int s4.1)), am_SH, (g, f))) (hZ4 _ (Option.some.inj h).symm) (am_Ev.ret hcd rfl)
set_option maxRecDepth 100000 in
set_option maxHeartbeats 4000000 in
theorem m_newOf_ok {sc : Nat × (Nat → Int32)} (d : Nat) (a0 : Int32) (f g : (Nat → Nat → Int32)) (r : Int32) (h : m_newOf a0 f = some r) : am_Ev sc (d + 2) 303 (0, [(0, .ref 216), (1, .int a0)], [], am_SH, (g, f)) ((some (.int r)), am_SH, (g, f)) := by
  have hcd : am_code 303 = am_c303 := rfl
  unfold m_newOf at h
  refine am_Ev.go hcd 4 (s' := (4, [(0, .ref 216), (1, .int a0), (2, .int 0), (3, .int 1)], [], am_SH, (g, f))) rfl ?_
  refine am_Ev.weak' (am_loop_ok (G := fun (s1 : Int32 × Int32) => am_Ev sc (d + 2) 303 (4, [(0, .ref 216), (1, .int a0), (2, .int s1.1), (3, .int s1.2)], [], am_SH, (g, f)) ((some (.int r)), am_SH, (g, f))) (Z := fun (v : Int32) => (((some (.int v)), am_SH, (g, f)) : am_R) = ((some (.int r)), am_SH, (g, f))) ?_ am_F (0, 1) r h rfl) (am_sub_cons rfl (am_sub_cons rfl (am_sub_cons rfl (am_sub_cons rfl am_sub_nil)))) rfl
  intro s1 q1 h hI1 hZ1
  show am_Ev sc (d + 2) 303 (4, [(0, .ref 216), (1, .int a0), (2, .int s1.1), (3, .int s1.2)], [], am_SH, (g, f)) ((some (.int r)), am_SH, (g, f))
  refine am_Ev.go hcd 6 (s' := (10, [(0, .ref 216), (1, .int a0), (2, .int s1.1), (3, .int s1.2)], [.int (507 + a0), .ref 217, .int s1.2], am_SH, (g, f))) rfl ?_
  obtain ⟨c6, h⟩ := am_grd h
  refine am_Ev.t hcd (o := none) (c := am_in (507 + a0) 2008 = true) (s1 := (11, [(0, .ref 216), (1, .int a0), (2, .int s1.1), (3, .int s1.2)], [.int (f 217 (507 + a0).toNatClampNeg), .int s1.2], am_SH, (g, f))) rfl c6 ?_
  refine am_Ev.call hcd (a := 300) (s0 := (0, [(0, .int (f 217 (507 + a0).toNatClampNeg))], [], am_SH, (g, f))) (q := ((some (.int (m_lettersOf (f 217 (507 + a0).toNatClampNeg)))), am_SH, (g, f))) (s1 := (12, [(0, .ref 216), (1, .int a0), (2, .int s1.1), (3, .int s1.2)], [.int (m_lettersOf (f 217 (507 + a0).toNatClampNeg)), .int s1.2], am_SH, (g, f))) rfl rfl (m_lettersOf_ok (d + 1) (f 217 (507 + a0).toNatClampNeg) (g, f)) ?_
  rcases am_ite h with ⟨c10, h⟩ | ⟨c10, h⟩
  · refine am_Ev.t hcd (c := (m_lettersOf (f 217 (507 + a0).toNatClampNeg)) < s1.2) (s1 := (47, [(0, .ref 216), (1, .int a0), (2, .int s1.1), (3, .int s1.2)], [], am_SH, (g, f))) rfl c10 ?_
    refine am_Ev.go hcd 1 (s' := (48, [(0, .ref 216), (1, .int a0), (2, .int s1.1), (3, .int s1.2)], [.int s1.1], am_SH, (g, f))) rfl ?_
    exact am_Ev.cast (a := ((some (.int s1.1)), am_SH, (g, f))) (hZ1 _ (Option.some.inj h).symm) (am_Ev.ret hcd rfl)
  · refine am_Ev.f hcd (c := (m_lettersOf (f 217 (507 + a0).toNatClampNeg)) < s1.2) (s1 := (13, [(0, .ref 216), (1, .int a0), (2, .int s1.1), (3, .int s1.2)], [], am_SH, (g, f))) rfl c10 ?_
    refine am_Ev.go hcd 4 (s' := (17, [(0, .ref 216), (1, .int a0), (2, .int s1.1), (3, .int s1.2), (4, .int 1), (5, .int 0)], [], am_SH, (g, f))) rfl ?_
    obtain ⟨e9, he9, h⟩ := am_bind_some h
    have hK3 : (fun (e9 : Int32) => am_Ev sc (d + 2) 303 (37, [(0, .ref 216), (1, .int a0), (2, .int s1.1), (3, .int s1.2), (4, .int e9)], [], am_SH, (g, f)) ((some (.int r)), am_SH, (g, f))) e9 := by
      show am_Ev sc (d + 2) 303 (37, [(0, .ref 216), (1, .int a0), (2, .int s1.1), (3, .int s1.2), (4, .int e9)], [], am_SH, (g, f)) ((some (.int r)), am_SH, (g, f))
      obtain ⟨t10, ht10, kt10⟩ := am_let_eq h
      have hKt10 : am_Ev sc (d + 2) 303 (43, [(0, .ref 216), (1, .int a0), (3, .int s1.2)], [.int (am_b t10), .int s1.1], am_SH, (g, f)) ((some (.int r)), am_SH, (g, f)) := by
        have h := kt10
        obtain ⟨t11, Et11, h⟩ := am_let_eq h
        refine am_Ev.go hcd 2 (s' := (45, [(0, .ref 216), (1, .int a0), (2, .int t11), (3, .int s1.2)], [], am_SH, (g, f))) (by subst Et11; exact rfl) ?_
        obtain ⟨t12, Et12, h⟩ := am_let_eq h
        refine am_Ev.go hcd 1 (s' := (46, [(0, .ref 216), (1, .int a0), (2, .int t11), (3, .int t12)], [], am_SH, (g, f))) (by subst Et12; exact rfl) ?_
        refine am_Ev.go hcd 1 (s' := (4, [(0, .ref 216), (1, .int a0), (2, .int t11), (3, .int t12)], [], am_SH, (g, f))) rfl ?_
        exact am_Ev.weak' (hI1 (t11, t12) (Option.some.inj h).symm) (am_sub_cons rfl (am_sub_cons rfl (am_sub_cons rfl (am_sub_cons rfl am_sub_nil)))) rfl
      have hLt10 : ∀ tt, tt = t10 → am_Ev sc (d + 2) 303 (43, [(0, .ref 216), (1, .int a0), (3, .int s1.2)], [.int (am_b tt), .int s1.1], am_SH, (g, f)) ((some (.int r)), am_SH, (g, f)) := fun tt htt => by subst htt; exact hKt10
      have h := ht10
      refine am_Ev.go hcd 2 (s' := (39, [(0, .ref 216), (1, .int a0), (2, .int s1.1), (3, .int s1.2), (4, .int e9)], [.int e9, .int s1.1], am_SH, (g, f))) rfl ?_
      rcases am_itv h with ⟨c30, h⟩ | ⟨c30, h⟩
      · refine am_Ev.t hcd (c := e9 = 0) (s1 := (42, [(0, .ref 216), (1, .int a0), (2, .int s1.1), (3, .int s1.2), (4, .int e9)], [.int s1.1], am_SH, (g, f))) rfl c30 ?_
        refine am_Ev.go hcd 1 (s' := (43, [(0, .ref 216), (1, .int a0), (2, .int s1.1), (3, .int s1.2), (4, .int e9)], [.int 0, .int s1.1], am_SH, (g, f))) rfl ?_
        exact am_Ev.weak' (hLt10 false h.symm) (am_sub_cons rfl (am_sub_cons rfl (am_sub_cons rfl am_sub_nil))) rfl
      · refine am_Ev.f hcd (c := e9 = 0) (s1 := (40, [(0, .ref 216), (1, .int a0), (2, .int s1.1), (3, .int s1.2), (4, .int e9)], [.int s1.1], am_SH, (g, f))) rfl c30 ?_
        refine am_Ev.go hcd 2 (s' := (43, [(0, .ref 216), (1, .int a0), (2, .int s1.1), (3, .int s1.2), (4, .int e9)], [.int 1, .int s1.1], am_SH, (g, f))) rfl ?_
        exact am_Ev.weak' (hLt10 true h.symm) (am_sub_cons rfl (am_sub_cons rfl (am_sub_cons rfl am_sub_nil))) rfl
    refine am_Ev.weak' (am_loop_ok (G := fun (s3 : Int32 × Int32) => am_Ev sc (d + 2) 303 (17, [(0, .ref 216), (1, .int a0), (2, .int s1.1), (3, .int s1.2), (4, .int s3.1), (5, .int s3.2)], [], am_SH, (g, f)) ((some (.int r)), am_SH, (g, f))) (Z := fun (e9 : Int32) => am_Ev sc (d + 2) 303 (37, [(0, .ref 216), (1, .int a0), (2, .int s1.1), (3, .int s1.2), (4, .int e9)], [], am_SH, (g, f)) ((some (.int r)), am_SH, (g, f))) ?_ am_F (1, 0) e9 he9 hK3) (am_sub_cons rfl (am_sub_cons rfl (am_sub_cons rfl (am_sub_cons rfl (am_sub_cons rfl (am_sub_cons rfl am_sub_nil)))))) rfl
    intro s3 q3 h hI3 hZ3
    show am_Ev sc (d + 2) 303 (17, [(0, .ref 216), (1, .int a0), (2, .int s1.1), (3, .int s1.2), (4, .int s3.1), (5, .int s3.2)], [], am_SH, (g, f)) ((some (.int r)), am_SH, (g, f))
    refine am_Ev.go hcd 2 (s' := (19, [(0, .ref 216), (1, .int a0), (2, .int s1.1), (3, .int s1.2), (4, .int s3.1), (5, .int s3.2)], [.int a0, .int s3.2], am_SH, (g, f))) rfl ?_
    rcases am_ite h with ⟨c41, h⟩ | ⟨c41, h⟩
    · refine am_Ev.t hcd (c := s3.2 < a0) (s1 := (20, [(0, .ref 216), (1, .int a0), (2, .int s1.1), (3, .int s1.2), (4, .int s3.1), (5, .int s3.2)], [], am_SH, (g, f))) rfl c41 ?_
      refine am_Ev.go hcd 4 (s' := (24, [(0, .ref 216), (1, .int a0), (2, .int s1.1), (3, .int s1.2), (4, .int s3.1), (5, .int s3.2)], [.int s1.2, .int s3.2, .ref 216, .int s3.1], am_SH, (g, f))) rfl ?_
      obtain ⟨p4, hp4, h⟩ := am_bind_some h
      refine am_Ev.call hcd (a := 301) (s0 := (0, [(0, .ref 216), (1, .int s3.2), (2, .int s1.2)], [], am_SH, (g, f))) (q := ((some (.int p4)), am_SH, (g, f))) (s1 := (25, [(0, .ref 216), (1, .int a0), (2, .int s1.1), (3, .int s1.2), (4, .int s3.1), (5, .int s3.2)], [.int p4, .int s3.1], am_SH, (g, f))) rfl rfl (m_firstOf_ok (d) s3.2 s1.2 f g p4 hp4) ?_
      refine am_Ev.go hcd 3 (s' := (28, [(0, .ref 216), (1, .int a0), (2, .int s1.1), (3, .int s1.2), (4, .int s3.1), (5, .int s3.2)], [.int s1.2, .int a0, .ref 216, .int p4, .int s3.1], am_SH, (g, f))) rfl ?_
      obtain ⟨p5, hp5, h⟩ := am_bind_some h
      refine am_Ev.call hcd (a := 301) (s0 := (0, [(0, .ref 216), (1, .int a0), (2, .int s1.2)], [], am_SH, (g, f))) (q := ((some (.int p5)), am_SH, (g, f))) (s1 := (29, [(0, .ref 216), (1, .int a0), (2, .int s1.1), (3, .int s1.2), (4, .int s3.1), (5, .int s3.2)], [.int p5, .int p4, .int s3.1], am_SH, (g, f))) rfl rfl (m_firstOf_ok (d) a0 s1.2 f g p5 hp5) ?_
      obtain ⟨t6, ht6, kt6⟩ := am_let_eq h
      have hKt6 : am_Ev sc (d + 2) 303 (33, [(0, .ref 216), (1, .int a0), (2, .int s1.1), (3, .int s1.2), (5, .int s3.2)], [.int (am_b t6), .int s3.1], am_SH, (g, f)) ((some (.int r)), am_SH, (g, f)) := by
        have h := kt6
        obtain ⟨t7, Et7, h⟩ := am_let_eq h
        refine am_Ev.go hcd 2 (s' := (35, [(0, .ref 216), (1, .int a0), (2, .int s1.1), (3, .int s1.2), (4, .int t7), (5, .int s3.2)], [], am_SH, (g, f))) (by subst Et7; exact rfl) ?_
        obtain ⟨t8, Et8, h⟩ := am_let_eq h
        refine am_Ev.go hcd 1 (s' := (36, [(0, .ref 216), (1, .int a0), (2, .int s1.1), (3, .int s1.2), (4, .int t7), (5, .int t8)], [], am_SH, (g, f))) (by subst Et8; exact rfl) ?_
        refine am_Ev.go hcd 1 (s' := (17, [(0, .ref 216), (1, .int a0), (2, .int s1.1), (3, .int s1.2), (4, .int t7), (5, .int t8)], [], am_SH, (g, f))) rfl ?_
        exact am_Ev.weak' (hI3 (t7, t8) (Option.some.inj h).symm) (am_sub_cons rfl (am_sub_cons rfl (am_sub_cons rfl (am_sub_cons rfl (am_sub_cons rfl (am_sub_cons rfl am_sub_nil)))))) rfl
      have hLt6 : ∀ tt, tt = t6 → am_Ev sc (d + 2) 303 (33, [(0, .ref 216), (1, .int a0), (2, .int s1.1), (3, .int s1.2), (5, .int s3.2)], [.int (am_b tt), .int s3.1], am_SH, (g, f)) ((some (.int r)), am_SH, (g, f)) := fun tt htt => by subst htt; exact hKt6
      have h := ht6
      rcases am_itv h with ⟨c61, h⟩ | ⟨c61, h⟩
      · refine am_Ev.t hcd (c := p4 = p5) (s1 := (32, [(0, .ref 216), (1, .int a0), (2, .int s1.1), (3, .int s1.2), (4, .int s3.1), (5, .int s3.2)], [.int s3.1], am_SH, (g, f))) rfl c61 ?_
        refine am_Ev.go hcd 1 (s' := (33, [(0, .ref 216), (1, .int a0), (2, .int s1.1), (3, .int s1.2), (4, .int s3.1), (5, .int s3.2)], [.int 0, .int s3.1], am_SH, (g, f))) rfl ?_
        exact am_Ev.weak' (hLt6 false h.symm) (am_sub_cons rfl (am_sub_cons rfl (am_sub_cons rfl (am_sub_cons rfl (am_sub_cons rfl am_sub_nil))))) rfl
      · refine am_Ev.f hcd (c := p4 = p5) (s1 := (30, [(0, .ref 216), (1, .int a0), (2, .int s1.1), (3, .int s1.2), (4, .int s3.1), (5, .int s3.2)], [.int s3.1], am_SH, (g, f))) rfl c61 ?_
        refine am_Ev.go hcd 2 (s' := (33, [(0, .ref 216), (1, .int a0), (2, .int s1.1), (3, .int s1.2), (4, .int s3.1), (5, .int s3.2)], [.int 1, .int s3.1], am_SH, (g, f))) rfl ?_
        exact am_Ev.weak' (hLt6 true h.symm) (am_sub_cons rfl (am_sub_cons rfl (am_sub_cons rfl (am_sub_cons rfl (am_sub_cons rfl am_sub_nil))))) rfl
    · refine am_Ev.f hcd (c := s3.2 < a0) (s1 := (37, [(0, .ref 216), (1, .int a0), (2, .int s1.1), (3, .int s1.2), (4, .int s3.1), (5, .int s3.2)], [], am_SH, (g, f))) rfl c41 ?_
      exact am_Ev.weak' (hZ3 s3.1 (Option.some.inj h).symm) (am_sub_cons rfl (am_sub_cons rfl (am_sub_cons rfl (am_sub_cons rfl (am_sub_cons rfl am_sub_nil))))) rfl
