set_option maxRecDepth 100000 in
set_option maxHeartbeats 4000000 in
theorem m_act_ok {sc : Nat × (Nat → Int32)} (d : Nat) (a0 : Int32) (a1 : Int32) (a2 : Int32) (f g : (Nat → Nat → Int32)) (r : Bool × (Nat → Nat → Int32)) (h : m_act a0 a1 a2 f = some r) : am_Ev sc (d + 3) 245 (0, [(0, .ref 216), (1, .int a0), (2, .int a1), (3, .int a2)], [], am_SH, (g, f)) ((some (.int (am_b r.1))), am_SH, (g, r.2)) := by
  have hcd : am_code 245 = am_c245 := rfl
  unfold m_act at h
  refine am_Ev.go hcd 4 (s' := (4, [(0, .ref 216), (1, .int a0), (2, .int a1), (3, .int a2)], [.int a2, .int a1, .int a0, .ref 216], am_SH, (g, f))) rfl ?_
  obtain ⟨p1, hp1, h⟩ := am_bind_some h
  refine am_Ev.call hcd (a := 244) (s0 := (0, [(0, .ref 216), (1, .int a0), (2, .int a1), (3, .int a2)], [], am_SH, (g, f))) (q := ((some (.int (am_b p1))), am_SH, (g, f))) (s1 := (5, [(0, .ref 216), (1, .int a0), (2, .int a1), (3, .int a2)], [.int (am_b p1)], am_SH, (g, f))) rfl rfl (m_canAct_ok (d) a0 a1 a2 f g p1 hp1) ?_
  rcases am_ite h with ⟨c5, h⟩ | ⟨c5, h⟩
  · refine am_Ev.f hcd (c := am_b p1 = 0) (s1 := (8, [(0, .ref 216), (1, .int a0), (2, .int a1), (3, .int a2)], [], am_SH, (g, f))) rfl (am_b_t c5) ?_
    refine am_Ev.go hcd 1 (s' := (9, [(0, .ref 216), (1, .int a0), (2, .int a1), (3, .int a2)], [.ref 216], am_SH, (g, f))) rfl ?_
    obtain ⟨p2, hp2, h⟩ := am_bind_some h
    refine am_Ev.call hcd (a := 236) (s0 := (0, [(0, .ref 216)], [], am_SH, (g, f))) (q := (none, am_SH, (g, p2))) (s1 := (10, [(0, .ref 216), (1, .int a0), (2, .int a1), (3, .int a2)], [], am_SH, (g, p2))) rfl rfl (m_keeps_ok (d + 2)  f g p2 hp2) ?_
    obtain ⟨t4, ht4, kt4⟩ := am_bind_some h
    have hKt4 : am_Ev sc (d + 3) 245 (16, [(0, .ref 216), (1, .int a0), (2, .int a1), (3, .int a2)], [], am_SH, (g, t4)) ((some (.int (am_b r.1))), am_SH, (g, r.2)) := by
      have h := kt4
      obtain ⟨t6, ht6, kt6⟩ := am_bind_some h
      have hKt6 : am_Ev sc (d + 3) 245 (22, [(0, .ref 216), (1, .int a0), (2, .int a1), (3, .int a2)], [], am_SH, (g, t6)) ((some (.int (am_b r.1))), am_SH, (g, r.2)) := by
        have h := kt6
        obtain ⟨t8, ht8, kt8⟩ := am_bind_some h
        have hKt8 : am_Ev sc (d + 3) 245 (32, [(0, .ref 216), (1, .int a0), (2, .int a1)], [], am_SH, (g, t8)) ((some (.int (am_b r.1))), am_SH, (g, r.2)) := by
          have h := kt8
          obtain ⟨t10, ht10, kt10⟩ := am_bind_some h
          have hKt10 : am_Ev sc (d + 3) 245 (42, [(0, .ref 216), (1, .int a0), (2, .int a1)], [], am_SH, (g, t10)) ((some (.int (am_b r.1))), am_SH, (g, r.2)) := by
            have h := kt10
            refine am_Ev.go hcd 2 (s' := (44, [(0, .ref 216), (1, .int a0), (2, .int a1)], [.int 4, .int a0], am_SH, (g, t10))) rfl ?_
            rcases am_ite h with ⟨c22, h⟩ | ⟨c22, h⟩
            · refine am_Ev.t hcd (c := a0 = 4) (s1 := (45, [(0, .ref 216), (1, .int a0), (2, .int a1)], [], am_SH, (g, t10))) rfl c22 ?_
              refine am_Ev.go hcd 6 (s' := (51, [(0, .ref 216), (1, .int a0), (2, .int a1)], [.int 0, .int (3 + a1), .ref 217], am_SH, (g, t10))) rfl ?_
              obtain ⟨c25, h⟩ := am_grd h
              obtain ⟨f11, Ef11, h⟩ := am_let_eq h
              refine am_Ev.t hcd (o := none) (c := am_in (3 + a1) 2008 = true) (s1 := (52, [(0, .ref 216), (1, .int a0), (2, .int a1)], [], am_SH, (g, f11))) (by subst Ef11; exact rfl) c25 ?_
              refine am_Ev.go hcd 1 (s' := (53, [(0, .ref 216), (1, .int a0), (2, .int a1)], [.int 1], am_SH, (g, f11))) rfl ?_
              exact am_Ev.cast (a := ((some (.int (am_b (true, f11).1))), am_SH, (g, (true, f11).2))) (by cases h; rfl) (am_Ev.ret hcd rfl)
            · refine am_Ev.f hcd (c := a0 = 4) (s1 := (52, [(0, .ref 216), (1, .int a0), (2, .int a1)], [], am_SH, (g, t10))) rfl c22 ?_
              refine am_Ev.go hcd 1 (s' := (53, [(0, .ref 216), (1, .int a0), (2, .int a1)], [.int 1], am_SH, (g, t10))) rfl ?_
              exact am_Ev.cast (a := ((some (.int (am_b (true, t10).1))), am_SH, (g, (true, t10).2))) (by cases h; rfl) (am_Ev.ret hcd rfl)
          have hLt10 : ∀ tt, tt = t10 → am_Ev sc (d + 3) 245 (42, [(0, .ref 216), (1, .int a0), (2, .int a1)], [], am_SH, (g, tt)) ((some (.int (am_b r.1))), am_SH, (g, r.2)) := fun tt htt => by subst htt; exact hKt10
          have h := ht10
          refine am_Ev.go hcd 2 (s' := (34, [(0, .ref 216), (1, .int a0), (2, .int a1)], [.int 3, .int a0], am_SH, (g, t8))) rfl ?_
          rcases am_ite h with ⟨c36, h⟩ | ⟨c36, h⟩
          · refine am_Ev.t hcd (c := a0 = 3) (s1 := (35, [(0, .ref 216), (1, .int a0), (2, .int a1)], [], am_SH, (g, t8))) rfl c36 ?_
            refine am_Ev.go hcd 6 (s' := (41, [(0, .ref 216), (1, .int a0), (2, .int a1)], [.int 300, .int (9 + a1), .ref 217], am_SH, (g, t8))) rfl ?_
            obtain ⟨c39, h⟩ := am_grd h
            obtain ⟨f9, Ef9, h⟩ := am_let_eq h
            refine am_Ev.t hcd (o := none) (c := am_in (9 + a1) 2008 = true) (s1 := (42, [(0, .ref 216), (1, .int a0), (2, .int a1)], [], am_SH, (g, f9))) (by subst Ef9; exact rfl) c39 ?_
            exact am_Ev.weak' (hLt10 f9 (Option.some.inj h)) (am_sub_cons rfl (am_sub_cons rfl (am_sub_cons rfl am_sub_nil))) rfl
          · refine am_Ev.f hcd (c := a0 = 3) (s1 := (42, [(0, .ref 216), (1, .int a0), (2, .int a1)], [], am_SH, (g, t8))) rfl c36 ?_
            exact am_Ev.weak' (hLt10 t8 (Option.some.inj h)) (am_sub_cons rfl (am_sub_cons rfl (am_sub_cons rfl am_sub_nil))) rfl
        have hLt8 : ∀ tt, tt = t8 → am_Ev sc (d + 3) 245 (32, [(0, .ref 216), (1, .int a0), (2, .int a1)], [], am_SH, (g, tt)) ((some (.int (am_b r.1))), am_SH, (g, r.2)) := fun tt htt => by subst htt; exact hKt8
        have h := ht8
        refine am_Ev.go hcd 2 (s' := (24, [(0, .ref 216), (1, .int a0), (2, .int a1), (3, .int a2)], [.int 2, .int a0], am_SH, (g, t6))) rfl ?_
        rcases am_ite h with ⟨c48, h⟩ | ⟨c48, h⟩
        · refine am_Ev.t hcd (c := a0 = 2) (s1 := (25, [(0, .ref 216), (1, .int a0), (2, .int a1), (3, .int a2)], [], am_SH, (g, t6))) rfl c48 ?_
          refine am_Ev.go hcd 6 (s' := (31, [(0, .ref 216), (1, .int a0), (2, .int a1), (3, .int a2)], [.int a2, .int (21 + a1), .ref 217], am_SH, (g, t6))) rfl ?_
          obtain ⟨c51, h⟩ := am_grd h
          obtain ⟨f7, Ef7, h⟩ := am_let_eq h
          refine am_Ev.t hcd (o := none) (c := am_in (21 + a1) 2008 = true) (s1 := (32, [(0, .ref 216), (1, .int a0), (2, .int a1), (3, .int a2)], [], am_SH, (g, f7))) (by subst Ef7; exact rfl) c51 ?_
          exact am_Ev.weak' (hLt8 f7 (Option.some.inj h)) (am_sub_cons rfl (am_sub_cons rfl (am_sub_cons rfl am_sub_nil))) rfl
        · refine am_Ev.f hcd (c := a0 = 2) (s1 := (32, [(0, .ref 216), (1, .int a0), (2, .int a1), (3, .int a2)], [], am_SH, (g, t6))) rfl c48 ?_
          exact am_Ev.weak' (hLt8 t6 (Option.some.inj h)) (am_sub_cons rfl (am_sub_cons rfl (am_sub_cons rfl am_sub_nil))) rfl
      have hLt6 : ∀ tt, tt = t6 → am_Ev sc (d + 3) 245 (22, [(0, .ref 216), (1, .int a0), (2, .int a1), (3, .int a2)], [], am_SH, (g, tt)) ((some (.int (am_b r.1))), am_SH, (g, r.2)) := fun tt htt => by subst htt; exact hKt6
      have h := ht6
      refine am_Ev.go hcd 2 (s' := (18, [(0, .ref 216), (1, .int a0), (2, .int a1), (3, .int a2)], [.int 1, .int a0], am_SH, (g, t4))) rfl ?_
      rcases am_ite h with ⟨c60, h⟩ | ⟨c60, h⟩
      · refine am_Ev.t hcd (c := a0 = 1) (s1 := (19, [(0, .ref 216), (1, .int a0), (2, .int a1), (3, .int a2)], [], am_SH, (g, t4))) rfl c60 ?_
        refine am_Ev.go hcd 2 (s' := (21, [(0, .ref 216), (1, .int a0), (2, .int a1), (3, .int a2)], [.int a1, .ref 216], am_SH, (g, t4))) rfl ?_
        obtain ⟨p5, hp5, h⟩ := am_bind_some h
        refine am_Ev.call hcd (a := 243) (s0 := (0, [(0, .ref 216), (1, .int a1)], [], am_SH, (g, t4))) (q := (none, am_SH, (g, p5))) (s1 := (22, [(0, .ref 216), (1, .int a0), (2, .int a1), (3, .int a2)], [], am_SH, (g, p5))) rfl rfl (m_takesOut_ok (d + 1) a1 t4 g p5 hp5) ?_
        exact am_Ev.weak' (hLt6 p5 (Option.some.inj h)) (am_sub_cons rfl (am_sub_cons rfl (am_sub_cons rfl (am_sub_cons rfl am_sub_nil)))) rfl
      · refine am_Ev.f hcd (c := a0 = 1) (s1 := (22, [(0, .ref 216), (1, .int a0), (2, .int a1), (3, .int a2)], [], am_SH, (g, t4))) rfl c60 ?_
        exact am_Ev.weak' (hLt6 t4 (Option.some.inj h)) (am_sub_cons rfl (am_sub_cons rfl (am_sub_cons rfl (am_sub_cons rfl am_sub_nil)))) rfl
    have hLt4 : ∀ tt, tt = t4 → am_Ev sc (d + 3) 245 (16, [(0, .ref 216), (1, .int a0), (2, .int a1), (3, .int a2)], [], am_SH, (g, tt)) ((some (.int (am_b r.1))), am_SH, (g, r.2)) := fun tt htt => by subst htt; exact hKt4
    have h := ht4
    refine am_Ev.go hcd 1 (s' := (11, [(0, .ref 216), (1, .int a0), (2, .int a1), (3, .int a2)], [.int a0], am_SH, (g, p2))) rfl ?_
    rcases am_ite h with ⟨c71, h⟩ | ⟨c71, h⟩
    · refine am_Ev.t hcd (c := a0 = 0) (s1 := (12, [(0, .ref 216), (1, .int a0), (2, .int a1), (3, .int a2)], [], am_SH, (g, p2))) rfl c71 ?_
      refine am_Ev.go hcd 3 (s' := (15, [(0, .ref 216), (1, .int a0), (2, .int a1), (3, .int a2)], [.int a2, .int a1, .ref 216], am_SH, (g, p2))) rfl ?_
      obtain ⟨p3, hp3, h⟩ := am_bind_some h
      refine am_Ev.call hcd (a := 242) (s0 := (0, [(0, .ref 216), (1, .int a1), (2, .int a2)], [], am_SH, (g, p2))) (q := (none, am_SH, (g, p3))) (s1 := (16, [(0, .ref 216), (1, .int a0), (2, .int a1), (3, .int a2)], [], am_SH, (g, p3))) rfl rfl (m_putsUnder_ok (d) a1 a2 p2 g p3 hp3) ?_
      exact am_Ev.weak' (hLt4 p3 (Option.some.inj h)) (am_sub_cons rfl (am_sub_cons rfl (am_sub_cons rfl (am_sub_cons rfl am_sub_nil)))) rfl
    · refine am_Ev.f hcd (c := a0 = 0) (s1 := (16, [(0, .ref 216), (1, .int a0), (2, .int a1), (3, .int a2)], [], am_SH, (g, p2))) rfl c71 ?_
      exact am_Ev.weak' (hLt4 p2 (Option.some.inj h)) (am_sub_cons rfl (am_sub_cons rfl (am_sub_cons rfl (am_sub_cons rfl am_sub_nil)))) rfl
  · refine am_Ev.t hcd (c := am_b p1 = 0) (s1 := (6, [(0, .ref 216), (1, .int a0), (2, .int a1), (3, .int a2)], [], am_SH, (g, f))) rfl (am_b_f c5) ?_
    refine am_Ev.go hcd 1 (s' := (7, [(0, .ref 216), (1, .int a0), (2, .int a1), (3, .int a2)], [.int 0], am_SH, (g, f))) rfl ?_
    exact am_Ev.cast (a := ((some (.int (am_b (false, f).1))), am_SH, (g, (false, f).2))) (by cases h; rfl) (am_Ev.ret hcd rfl)
set_option maxRecDepth 100000 in
set_option maxHeartbeats 4000000 in
theorem m_walks_ok {sc : Nat × (Nat → Int32)} (d : Nat)  (f g : (Nat → Nat → Int32)) (r : (Nat → Nat → Int32)) (h : m_walks  f = some r) : am_Ev sc (d + 3) 246 (0, [(0, .ref 216)], [], am_SH, (g, f)) (none, am_SH, (g, r)) := by
  have hcd : am_code 246 = am_c246 := rfl
  unfold m_walks at h
  refine am_Ev.go hcd 2 (s' := (2, [(0, .ref 216), (1, .int 0)], [], am_SH, (g, f))) rfl ?_
  refine am_Ev.weak' (am_loop_ok (G := fun (s1 : Int32 × (Nat → Nat → Int32)) => am_Ev sc (d + 3) 246 (2, [(0, .ref 216), (1, .int s1.1)], [], am_SH, (g, s1.2)) (none, am_SH, (g, r))) (Z := fun (v : (Nat → Nat → Int32)) => ((none, am_SH, (g, v)) : am_R) = (none, am_SH, (g, r))) ?_ am_F (0, f) r h rfl) (am_sub_cons rfl (am_sub_cons rfl am_sub_nil)) rfl
  intro s1 q1 h hI1 hZ1
  show am_Ev sc (d + 3) 246 (2, [(0, .ref 216), (1, .int s1.1)], [], am_SH, (g, s1.2)) (none, am_SH, (g, r))
  refine am_Ev.go hcd 5 (s' := (7, [(0, .ref 216), (1, .int s1.1)], [.int (s1.2 217 72), .int s1.1], am_SH, (g, s1.2))) rfl ?_
  rcases am_ite h with ⟨c6, h⟩ | ⟨c6, h⟩
  · refine am_Ev.t hcd (c := s1.1 < s1.2 217 72) (s1 := (8, [(0, .ref 216), (1, .int s1.1)], [], am_SH, (g, s1.2))) rfl c6 ?_
    obtain ⟨t2, Et2, h⟩ := am_let_eq h
    refine am_Ev.go hcd 6 (s' := (14, [(0, .ref 216), (1, .int s1.1), (2, .int t2)], [], am_SH, (g, s1.2))) (by subst Et2; exact rfl) ?_
    refine am_Ev.go hcd 5 (s' := (19, [(0, .ref 216), (1, .int s1.1), (2, .int t2)], [.int (t2 + 1), .ref 217], am_SH, (g, s1.2))) rfl ?_
    obtain ⟨c11, h⟩ := am_grd h
    refine am_Ev.t hcd (o := none) (c := am_in (t2 + 1) 2008 = true) (s1 := (20, [(0, .ref 216), (1, .int s1.1), (2, .int t2)], [.int (s1.2 217 (t2 + 1).toNatClampNeg)], am_SH, (g, s1.2))) rfl c11 ?_
    obtain ⟨t3, Et3, h⟩ := am_let_eq h
    refine am_Ev.go hcd 1 (s' := (21, [(0, .ref 216), (1, .int s1.1), (2, .int t2), (3, .int t3)], [], am_SH, (g, s1.2))) (by subst Et3; exact rfl) ?_
    refine am_Ev.go hcd 3 (s' := (24, [(0, .ref 216), (1, .int s1.1), (2, .int t2), (3, .int t3)], [.int t2, .ref 217], am_SH, (g, s1.2))) rfl ?_
    obtain ⟨c16, h⟩ := am_grd h
    refine am_Ev.t hcd (o := none) (c := am_in t2 2008 = true) (s1 := (25, [(0, .ref 216), (1, .int s1.1), (2, .int t2), (3, .int t3)], [.int (s1.2 217 t2.toNatClampNeg)], am_SH, (g, s1.2))) rfl c16 ?_
    obtain ⟨t10, ht10, kt10⟩ := am_bind_some h
    have hKt10 : am_Ev sc (d + 3) 246 (88, [(0, .ref 216), (1, .int s1.1)], [], am_SH, (g, t10)) (none, am_SH, (g, r)) := by
      have h := kt10
      obtain ⟨t11, Et11, h⟩ := am_let_eq h
      refine am_Ev.go hcd 1 (s' := (89, [(0, .ref 216), (1, .int t11)], [], am_SH, (g, t10))) (by subst Et11; exact rfl) ?_
      refine am_Ev.go hcd 1 (s' := (2, [(0, .ref 216), (1, .int t11)], [], am_SH, (g, t10))) rfl ?_
      exact am_Ev.weak' (hI1 (t11, t10) (Option.some.inj h).symm) (am_sub_cons rfl (am_sub_cons rfl am_sub_nil)) rfl
    have hLt10 : ∀ tt, tt = t10 → am_Ev sc (d + 3) 246 (88, [(0, .ref 216), (1, .int s1.1)], [], am_SH, (g, tt)) (none, am_SH, (g, r)) := fun tt htt => by subst htt; exact hKt10
    have h := ht10
    refine am_Ev.go hcd 4 (s' := (29, [(0, .ref 216), (1, .int s1.1), (2, .int t2), (3, .int t3)], [.int (s1.2 217 0), .int (s1.2 217 t2.toNatClampNeg)], am_SH, (g, s1.2))) rfl ?_
    rcases am_ite h with ⟨c28, h⟩ | ⟨c28, h⟩
    · refine am_Ev.t hcd (c := s1.2 217 t2.toNatClampNeg = s1.2 217 0) (s1 := (31, [(0, .ref 216), (1, .int s1.1), (2, .int t2), (3, .int t3)], [], am_SH, (g, s1.2))) rfl c28 ?_
      refine am_Ev.go hcd 5 (s' := (36, [(0, .ref 216), (1, .int s1.1), (2, .int t2), (3, .int t3)], [.int (t2 + 2), .ref 217], am_SH, (g, s1.2))) rfl ?_
      obtain ⟨c31, h⟩ := am_grd h
      refine am_Ev.t hcd (o := none) (c := am_in (t2 + 2) 2008 = true) (s1 := (37, [(0, .ref 216), (1, .int s1.1), (2, .int t2), (3, .int t3)], [.int (s1.2 217 (t2 + 2).toNatClampNeg)], am_SH, (g, s1.2))) rfl c31 ?_
      refine am_Ev.one hcd (s' := (am_swt (s1.2 217 (t2 + 2).toNatClampNeg) [(9, 38), (10, 51), (11, 59), (12, 67), (13, 75)] 85, [(0, .ref 216), (1, .int s1.1), (2, .int t2), (3, .int t3)], [], am_SH, (g, s1.2))) rfl ?_
      rcases am_ite h with ⟨c35, h⟩ | ⟨c35, h⟩
      · rw [am_swt_t c35]
        refine am_Ev.go hcd 10 (s' := (48, [(0, .ref 216), (1, .int s1.1), (2, .int t2), (3, .int t3)], [.int (t2 + 3), .ref 217, .int (21 + t3), .ref 217], am_SH, (g, s1.2))) rfl ?_
        obtain ⟨c37, h⟩ := am_grd h
        refine am_Ev.t hcd (o := none) (c := am_in (t2 + 3) 2008 = true) (s1 := (49, [(0, .ref 216), (1, .int s1.1), (2, .int t2), (3, .int t3)], [.int (s1.2 217 (t2 + 3).toNatClampNeg), .int (21 + t3), .ref 217], am_SH, (g, s1.2))) rfl c37 ?_
        obtain ⟨c40, h⟩ := am_grd h
        obtain ⟨f4, Ef4, h⟩ := am_let_eq h
        refine am_Ev.t hcd (o := none) (c := am_in (21 + t3) 2008 = true) (s1 := (50, [(0, .ref 216), (1, .int s1.1), (2, .int t2), (3, .int t3)], [], am_SH, (g, f4))) (by subst Ef4; exact rfl) c40 ?_
        refine am_Ev.go hcd 1 (s' := (88, [(0, .ref 216), (1, .int s1.1), (2, .int t2), (3, .int t3)], [], am_SH, (g, f4))) rfl ?_
        exact am_Ev.weak' (hLt10 f4 (Option.some.inj h)) (am_sub_cons rfl (am_sub_cons rfl am_sub_nil)) rfl
      rw [am_swt_f c35]
      rcases am_ite h with ⟨c46, h⟩ | ⟨c46, h⟩
      · rw [am_swt_t c46]
        refine am_Ev.go hcd 6 (s' := (57, [(0, .ref 216), (1, .int s1.1), (2, .int t2), (3, .int t3)], [.int (-1), .int (21 + t3), .ref 217], am_SH, (g, s1.2))) rfl ?_
        obtain ⟨c48, h⟩ := am_grd h
        obtain ⟨f5, Ef5, h⟩ := am_let_eq h
        refine am_Ev.t hcd (o := none) (c := am_in (21 + t3) 2008 = true) (s1 := (58, [(0, .ref 216), (1, .int s1.1), (2, .int t2), (3, .int t3)], [], am_SH, (g, f5))) (by subst Ef5; exact rfl) c48 ?_
        refine am_Ev.go hcd 1 (s' := (88, [(0, .ref 216), (1, .int s1.1), (2, .int t2), (3, .int t3)], [], am_SH, (g, f5))) rfl ?_
        exact am_Ev.weak' (hLt10 f5 (Option.some.inj h)) (am_sub_cons rfl (am_sub_cons rfl am_sub_nil)) rfl
      rw [am_swt_f c46]
      rcases am_ite h with ⟨c55, h⟩ | ⟨c55, h⟩
      · rw [am_swt_t c55]
        refine am_Ev.go hcd 6 (s' := (65, [(0, .ref 216), (1, .int s1.1), (2, .int t2), (3, .int t3)], [.int 300, .int (9 + t3), .ref 217], am_SH, (g, s1.2))) rfl ?_
        obtain ⟨c57, h⟩ := am_grd h
        obtain ⟨f6, Ef6, h⟩ := am_let_eq h
        refine am_Ev.t hcd (o := none) (c := am_in (9 + t3) 2008 = true) (s1 := (66, [(0, .ref 216), (1, .int s1.1), (2, .int t2), (3, .int t3)], [], am_SH, (g, f6))) (by subst Ef6; exact rfl) c57 ?_
        refine am_Ev.go hcd 1 (s' := (88, [(0, .ref 216), (1, .int s1.1), (2, .int t2), (3, .int t3)], [], am_SH, (g, f6))) rfl ?_
        exact am_Ev.weak' (hLt10 f6 (Option.some.inj h)) (am_sub_cons rfl (am_sub_cons rfl am_sub_nil)) rfl
      rw [am_swt_f c55]
      rcases am_ite h with ⟨c64, h⟩ | ⟨c64, h⟩
      · rw [am_swt_t c64]
        refine am_Ev.go hcd 6 (s' := (73, [(0, .ref 216), (1, .int s1.1), (2, .int t2), (3, .int t3)], [.int 0, .int (3 + t3), .ref 217], am_SH, (g, s1.2))) rfl ?_
        obtain ⟨c66, h⟩ := am_grd h
        obtain ⟨f7, Ef7, h⟩ := am_let_eq h
        refine am_Ev.t hcd (o := none) (c := am_in (3 + t3) 2008 = true) (s1 := (74, [(0, .ref 216), (1, .int s1.1), (2, .int t2), (3, .int t3)], [], am_SH, (g, f7))) (by subst Ef7; exact rfl) c66 ?_
        refine am_Ev.go hcd 1 (s' := (88, [(0, .ref 216), (1, .int s1.1), (2, .int t2), (3, .int t3)], [], am_SH, (g, f7))) rfl ?_
        exact am_Ev.weak' (hLt10 f7 (Option.some.inj h)) (am_sub_cons rfl (am_sub_cons rfl am_sub_nil)) rfl
      rw [am_swt_f c64]
      rcases am_ite h with ⟨c73, h⟩ | ⟨c73, h⟩
      · rw [am_swt_t c73]
        refine am_Ev.go hcd 7 (s' := (82, [(0, .ref 216), (1, .int s1.1), (2, .int t2), (3, .int t3)], [.int (t2 + 3), .ref 217, .int t3, .ref 216], am_SH, (g, s1.2))) rfl ?_
        obtain ⟨c75, h⟩ := am_grd h
        refine am_Ev.t hcd (o := none) (c := am_in (t2 + 3) 2008 = true) (s1 := (83, [(0, .ref 216), (1, .int s1.1), (2, .int t2), (3, .int t3)], [.int (s1.2 217 (t2 + 3).toNatClampNeg), .int t3, .ref 216], am_SH, (g, s1.2))) rfl c75 ?_
        obtain ⟨p8, hp8, h⟩ := am_bind_some h
        refine am_Ev.call hcd (a := 242) (s0 := (0, [(0, .ref 216), (1, .int t3), (2, .int (s1.2 217 (t2 + 3).toNatClampNeg))], [], am_SH, (g, s1.2))) (q := (none, am_SH, (g, p8))) (s1 := (84, [(0, .ref 216), (1, .int s1.1), (2, .int t2), (3, .int t3)], [], am_SH, (g, p8))) rfl rfl (m_putsUnder_ok (d) t3 (s1.2 217 (t2 + 3).toNatClampNeg) s1.2 g p8 hp8) ?_
        refine am_Ev.go hcd 1 (s' := (88, [(0, .ref 216), (1, .int s1.1), (2, .int t2), (3, .int t3)], [], am_SH, (g, p8))) rfl ?_
        exact am_Ev.weak' (hLt10 p8 (Option.some.inj h)) (am_sub_cons rfl (am_sub_cons rfl am_sub_nil)) rfl
      rw [am_swt_f c73]
      rw [am_swt_n]
      refine am_Ev.go hcd 2 (s' := (87, [(0, .ref 216), (1, .int s1.1), (2, .int t2), (3, .int t3)], [.int t3, .ref 216], am_SH, (g, s1.2))) rfl ?_
      obtain ⟨p9, hp9, h⟩ := am_bind_some h
      refine am_Ev.call hcd (a := 243) (s0 := (0, [(0, .ref 216), (1, .int t3)], [], am_SH, (g, s1.2))) (q := (none, am_SH, (g, p9))) (s1 := (88, [(0, .ref 216), (1, .int s1.1), (2, .int t2), (3, .int t3)], [], am_SH, (g, p9))) rfl rfl (m_takesOut_ok (d + 1) t3 s1.2 g p9 hp9) ?_
      exact am_Ev.weak' (hLt10 p9 (Option.some.inj h)) (am_sub_cons rfl (am_sub_cons rfl am_sub_nil)) rfl
    · refine am_Ev.f hcd (c := s1.2 217 t2.toNatClampNeg = s1.2 217 0) (s1 := (30, [(0, .ref 216), (1, .int s1.1), (2, .int t2), (3, .int t3)], [], am_SH, (g, s1.2))) rfl c28 ?_
      refine am_Ev.go hcd 1 (s' := (88, [(0, .ref 216), (1, .int s1.1), (2, .int t2), (3, .int t3)], [], am_SH, (g, s1.2))) rfl ?_
      exact am_Ev.weak' (hLt10 s1.2 (Option.some.inj h)) (am_sub_cons rfl (am_sub_cons rfl am_sub_nil)) rfl
  · refine am_Ev.f hcd (c := s1.1 < s1.2 217 72) (s1 := (90, [(0, .ref 216), (1, .int s1.1)], [], am_SH, (g, s1.2))) rfl c6 ?_
    exact am_Ev.cast (a := (none, am_SH, (g, s1.2))) (hZ1 _ (Option.some.inj h).symm) (am_Ev.ret hcd rfl)
set_option maxRecDepth 100000 in
set_option maxHeartbeats 4000000 in
theorem m_nearness_ok {sc : Nat × (Nat → Int32)} (d : Nat) (a0 : Int32) (a1 : Int32) (f g : (Nat → Nat → Int32)) (r : Int32) (h : m_nearness a0 a1 f = some r) : am_Ev sc (d) 229 (0, [(0, .ref 216), (1, .int a0), (2, .int a1)], [], am_SH, (g, f)) ((some (.int r)), am_SH, (g, f)) := by
  have hcd : am_code 229 = am_c229 := rfl
  unfold m_nearness at h
  refine am_Ev.go hcd 9 (s' := (9, [(0, .ref 216), (1, .int a0), (2, .int a1)], [.int ((87 + (16 * a0)) + a1), .ref 217], am_SH, (g, f))) rfl ?_
  obtain ⟨c2, h⟩ := am_grd h
  refine am_Ev.t hcd (o := none) (c := am_in ((87 + (16 * a0)) + a1) 2008 = true) (s1 := (10, [(0, .ref 216), (1, .int a0), (2, .int a1)], [.int (f 217 ((87 + (16 * a0)) + a1).toNatClampNeg)], am_SH, (g, f))) rfl c2 ?_
  exact am_Ev.cast (a := ((some (.int (f 217 ((87 + (16 * a0)) + a1).toNatClampNeg : Int32))), am_SH, (g, f))) (by cases h; rfl) (am_Ev.ret hcd rfl)
set_option maxRecDepth 100000 in
set_option maxHeartbeats 4000000 in
theorem m_greater_ok {sc : Nat × (Nat → Int32)} (d : Nat) (a0 : Int32) (a1 : Int32) (hp : am_H) : am_Ev sc (d) 178 (0, [(0, .int a0), (1, .int a1)], [], am_SH, hp) ((some (.int (m_greater a0 a1))), am_SH, hp) := by
  have hcd : am_code 178 = am_c178 := rfl
  obtain ⟨r, h⟩ : ∃ r, r = m_greater a0 a1 := ⟨_, rfl⟩
  rw [← h]
  unfold m_greater at h
  refine am_Ev.go hcd 2 (s' := (2, [(0, .int a0), (1, .int a1)], [.int a1, .int a0], am_SH, hp)) rfl ?_
  rcases am_itv h with ⟨c4, h⟩ | ⟨c4, h⟩
  · refine am_Ev.t hcd (c := a1 < a0) (s1 := (3, [(0, .int a0), (1, .int a1)], [], am_SH, hp)) rfl c4 ?_
    refine am_Ev.go hcd 2 (s' := (6, [(0, .int a0), (1, .int a1)], [.int a0], am_SH, hp)) rfl ?_
    exact am_Ev.cast (a := ((some (.int a0)), am_SH, hp)) (by subst h; rfl) (am_Ev.ret hcd rfl)
  · refine am_Ev.f hcd (c := a1 < a0) (s1 := (5, [(0, .int a0), (1, .int a1)], [], am_SH, hp)) rfl c4 ?_
    refine am_Ev.go hcd 1 (s' := (6, [(0, .int a0), (1, .int a1)], [.int a1], am_SH, hp)) rfl ?_
    exact am_Ev.cast (a := ((some (.int a1)), am_SH, hp)) (by subst h; rfl) (am_Ev.ret hcd rfl)
set_option maxRecDepth 100000 in
set_option maxHeartbeats 4000000 in
theorem m_nearnessOf_ok {sc : Nat × (Nat → Int32)} (d : Nat) (a0 : Int32) (a1 : Int32) (f g : (Nat → Nat → Int32)) (r : Int32) (h : m_nearnessOf a0 a1 f = some r) : am_Ev sc (d + 1) 230 (0, [(0, .ref 216), (1, .int a0), (2, .int a1)], [], am_SH, (g, f)) ((some (.int r)), am_SH, (g, f)) := by
  have hcd : am_code 230 = am_c230 := rfl
  unfold m_nearnessOf at h
  refine am_Ev.go hcd 2 (s' := (2, [(0, .ref 216), (1, .int a0), (2, .int a1)], [.int (-1), .int a1], am_SH, (g, f))) rfl ?_
  rcases am_ite h with ⟨c2, h⟩ | ⟨c2, h⟩
  · refine am_Ev.t hcd (c := a1 = (-1)) (s1 := (3, [(0, .ref 216), (1, .int a0), (2, .int a1)], [], am_SH, (g, f))) rfl c2 ?_
    refine am_Ev.go hcd 1 (s' := (4, [(0, .ref 216), (1, .int a0), (2, .int a1)], [.int 0], am_SH, (g, f))) rfl ?_
    exact am_Ev.cast (a := ((some (.int 0)), am_SH, (g, f))) (by cases h; rfl) (am_Ev.ret hcd rfl)
  · refine am_Ev.f hcd (c := a1 = (-1)) (s1 := (5, [(0, .ref 216), (1, .int a0), (2, .int a1)], [], am_SH, (g, f))) rfl c2 ?_
    refine am_Ev.go hcd 6 (s' := (11, [(0, .ref 216), (1, .int a0), (2, .int a1)], [.int 1, .int ((a0 >>> (a1 &&& 31)) &&& 1)], am_SH, (g, f))) rfl ?_
    rcases am_ite h with ⟨c8, h⟩ | ⟨c8, h⟩
    · refine am_Ev.t hcd (c := ((a0 >>> (a1 &&& 31)) &&& 1) = 1) (s1 := (12, [(0, .ref 216), (1, .int a0), (2, .int a1)], [], am_SH, (g, f))) rfl c8 ?_
      refine am_Ev.go hcd 1 (s' := (13, [(0, .ref 216), (1, .int a0), (2, .int a1)], [.int 10], am_SH, (g, f))) rfl ?_
      exact am_Ev.cast (a := ((some (.int 10)), am_SH, (g, f))) (by cases h; rfl) (am_Ev.ret hcd rfl)
    · refine am_Ev.f hcd (c := ((a0 >>> (a1 &&& 31)) &&& 1) = 1) (s1 := (14, [(0, .ref 216), (1, .int a0), (2, .int a1)], [], am_SH, (g, f))) rfl c8 ?_
      refine am_Ev.go hcd 4 (s' := (18, [(0, .ref 216), (1, .int a0), (2, .int a1), (3, .int 0), (4, .int 0)], [], am_SH, (g, f))) rfl ?_
      refine am_Ev.weak' (am_loop_ok (G := fun (s1 : Int32 × Int32) => am_Ev sc (d + 1) 230 (18, [(0, .ref 216), (1, .int a0), (2, .int a1), (3, .int s1.1), (4, .int s1.2)], [], am_SH, (g, f)) ((some (.int r)), am_SH, (g, f))) (Z := fun (v : Int32) => (((some (.int v)), am_SH, (g, f)) : am_R) = ((some (.int r)), am_SH, (g, f))) ?_ am_F (0, 0) r h rfl) (am_sub_cons rfl (am_sub_cons rfl (am_sub_cons rfl (am_sub_cons rfl (am_sub_cons rfl am_sub_nil))))) rfl
      intro s1 q1 h hI1 hZ1
      show am_Ev sc (d + 1) 230 (18, [(0, .ref 216), (1, .int a0), (2, .int a1), (3, .int s1.1), (4, .int s1.2)], [], am_SH, (g, f)) ((some (.int r)), am_SH, (g, f))
      refine am_Ev.go hcd 2 (s' := (20, [(0, .ref 216), (1, .int a0), (2, .int a1), (3, .int s1.1), (4, .int s1.2)], [.int 16, .int s1.2], am_SH, (g, f))) rfl ?_
      rcases am_ite h with ⟨c18, h⟩ | ⟨c18, h⟩
      · refine am_Ev.t hcd (c := s1.2 < 16) (s1 := (21, [(0, .ref 216), (1, .int a0), (2, .int a1), (3, .int s1.1), (4, .int s1.2)], [], am_SH, (g, f))) rfl c18 ?_
        obtain ⟨t5, ht5, kt5⟩ := am_bind_some h
        have hKt5 : am_Ev sc (d + 1) 230 (35, [(0, .ref 216), (1, .int a0), (2, .int a1), (3, .int t5), (4, .int s1.2)], [], am_SH, (g, f)) ((some (.int r)), am_SH, (g, f)) := by
          have h := kt5
          obtain ⟨t6, Et6, h⟩ := am_let_eq h
          refine am_Ev.go hcd 1 (s' := (36, [(0, .ref 216), (1, .int a0), (2, .int a1), (3, .int t5), (4, .int t6)], [], am_SH, (g, f))) (by subst Et6; exact rfl) ?_
          refine am_Ev.go hcd 1 (s' := (18, [(0, .ref 216), (1, .int a0), (2, .int a1), (3, .int t5), (4, .int t6)], [], am_SH, (g, f))) rfl ?_
          exact am_Ev.weak' (hI1 (t5, t6) (Option.some.inj h).symm) (am_sub_cons rfl (am_sub_cons rfl (am_sub_cons rfl (am_sub_cons rfl (am_sub_cons rfl am_sub_nil))))) rfl
        have hLt5 : ∀ tt, tt = t5 → am_Ev sc (d + 1) 230 (35, [(0, .ref 216), (1, .int a0), (2, .int a1), (3, .int tt), (4, .int s1.2)], [], am_SH, (g, f)) ((some (.int r)), am_SH, (g, f)) := fun tt htt => by subst htt; exact hKt5
        have h := ht5
        refine am_Ev.go hcd 6 (s' := (27, [(0, .ref 216), (1, .int a0), (2, .int a1), (3, .int s1.1), (4, .int s1.2)], [.int 1, .int ((a0 >>> (s1.2 &&& 31)) &&& 1)], am_SH, (g, f))) rfl ?_
        rcases am_ite h with ⟨c30, h⟩ | ⟨c30, h⟩
        · refine am_Ev.t hcd (c := ((a0 >>> (s1.2 &&& 31)) &&& 1) = 1) (s1 := (28, [(0, .ref 216), (1, .int a0), (2, .int a1), (3, .int s1.1), (4, .int s1.2)], [], am_SH, (g, f))) rfl c30 ?_
          refine am_Ev.go hcd 4 (s' := (32, [(0, .ref 216), (1, .int a0), (2, .int a1), (3, .int s1.1), (4, .int s1.2)], [.int a1, .int s1.2, .ref 216, .int s1.1], am_SH, (g, f))) rfl ?_
          obtain ⟨p2, hp2, h⟩ := am_bind_some h
          refine am_Ev.call hcd (a := 229) (s0 := (0, [(0, .ref 216), (1, .int s1.2), (2, .int a1)], [], am_SH, (g, f))) (q := ((some (.int p2)), am_SH, (g, f))) (s1 := (33, [(0, .ref 216), (1, .int a0), (2, .int a1), (3, .int s1.1), (4, .int s1.2)], [.int p2, .int s1.1], am_SH, (g, f))) rfl rfl (m_nearness_ok (d) s1.2 a1 f g p2 hp2) ?_
          refine am_Ev.call hcd (a := 178) (s0 := (0, [(0, .int s1.1), (1, .int p2)], [], am_SH, (g, f))) (q := ((some (.int (m_greater s1.1 p2))), am_SH, (g, f))) (s1 := (34, [(0, .ref 216), (1, .int a0), (2, .int a1), (3, .int s1.1), (4, .int s1.2)], [.int (m_greater s1.1 p2)], am_SH, (g, f))) rfl rfl (m_greater_ok (d) s1.1 p2 (g, f)) ?_
          obtain ⟨t4, Et4, h⟩ := am_let_eq h
          refine am_Ev.go hcd 1 (s' := (35, [(0, .ref 216), (1, .int a0), (2, .int a1), (3, .int t4), (4, .int s1.2)], [], am_SH, (g, f))) (by subst Et4; exact rfl) ?_
          exact am_Ev.weak' (hLt5 t4 (Option.some.inj h)) (am_sub_cons rfl (am_sub_cons rfl (am_sub_cons rfl (am_sub_cons rfl (am_sub_cons rfl am_sub_nil))))) rfl
        · refine am_Ev.f hcd (c := ((a0 >>> (s1.2 &&& 31)) &&& 1) = 1) (s1 := (35, [(0, .ref 216), (1, .int a0), (2, .int a1), (3, .int s1.1), (4, .int s1.2)], [], am_SH, (g, f))) rfl c30 ?_
          exact am_Ev.weak' (hLt5 s1.1 (Option.some.inj h)) (am_sub_cons rfl (am_sub_cons rfl (am_sub_cons rfl (am_sub_cons rfl (am_sub_cons rfl am_sub_nil))))) rfl
      · refine am_Ev.f hcd (c := s1.2 < 16) (s1 := (37, [(0, .ref 216), (1, .int a0), (2, .int a1), (3, .int s1.1), (4, .int s1.2)], [], am_SH, (g, f))) rfl c18 ?_
        refine am_Ev.go hcd 1 (s' := (38, [(0, .ref 216), (1, .int a0), (2, .int a1), (3, .int s1.1), (4, .int s1.2)], [.int s1.1], am_SH, (g, f))) rfl ?_
        exact am_Ev.cast (a := ((some (.int s1.1)), am_SH, (g, f))) (hZ1 _ (Option.some.inj h).symm) (am_Ev.ret hcd rfl)
set_option maxRecDepth 100000 in
set_option maxHeartbeats 4000000 in
theorem m_nearOf_ok {sc : Nat × (Nat → Int32)} (d : Nat) (a0 : Int32) (a1 : Int32) (f g : (Nat → Nat → Int32)) (r : Int32) (h : m_nearOf a0 a1 f = some r) : am_Ev sc (d + 2) 231 (0, [(0, .ref 216), (1, .int a0), (2, .int a1)], [], am_SH, (g, f)) ((some (.int r)), am_SH, (g, f)) := by
  have hcd : am_code 231 = am_c231 := rfl
  unfold m_nearOf at h
  refine am_Ev.go hcd 5 (s' := (5, [(0, .ref 216), (1, .int a0), (2, .int a1)], [.int (15 + a0), .ref 217], am_SH, (g, f))) rfl ?_
  obtain ⟨c2, h⟩ := am_grd h
  refine am_Ev.t hcd (o := none) (c := am_in (15 + a0) 2008 = true) (s1 := (6, [(0, .ref 216), (1, .int a0), (2, .int a1)], [.int (f 217 (15 + a0).toNatClampNeg)], am_SH, (g, f))) rfl c2 ?_
  refine am_Ev.go hcd 1 (s' := (7, [(0, .ref 216), (1, .int a0), (2, .int a1)], [.int (-1), .int (f 217 (15 + a0).toNatClampNeg)], am_SH, (g, f))) rfl ?_
  rcases am_ite h with ⟨c5, h⟩ | ⟨c5, h⟩
  · refine am_Ev.t hcd (c := f 217 (15 + a0).toNatClampNeg = (-1)) (s1 := (8, [(0, .ref 216), (1, .int a0), (2, .int a1)], [], am_SH, (g, f))) rfl c5 ?_
    refine am_Ev.go hcd 2 (s' := (24, [(0, .ref 216), (1, .int a0), (2, .int a1)], [.int 0], am_SH, (g, f))) rfl ?_
    exact am_Ev.cast (a := ((some (.int 0)), am_SH, (g, f))) (by cases h; rfl) (am_Ev.ret hcd rfl)
  · refine am_Ev.f hcd (c := f 217 (15 + a0).toNatClampNeg = (-1)) (s1 := (10, [(0, .ref 216), (1, .int a0), (2, .int a1)], [], am_SH, (g, f))) rfl c5 ?_
    refine am_Ev.go hcd 9 (s' := (19, [(0, .ref 216), (1, .int a0), (2, .int a1)], [.int (15 + a0), .ref 217, .int 75, .ref 217, .ref 216], am_SH, (g, f))) rfl ?_
    obtain ⟨c11, h⟩ := am_grd h
    refine am_Ev.t hcd (o := none) (c := am_in (15 + a0) 2008 = true) (s1 := (20, [(0, .ref 216), (1, .int a0), (2, .int a1)], [.int (f 217 (15 + a0).toNatClampNeg), .int 75, .ref 217, .ref 216], am_SH, (g, f))) rfl c11 ?_
    refine am_Ev.go hcd 1 (s' := (21, [(0, .ref 216), (1, .int a0), (2, .int a1)], [.int (75 + (f 217 (15 + a0).toNatClampNeg)), .ref 217, .ref 216], am_SH, (g, f))) rfl ?_
    obtain ⟨c14, h⟩ := am_grd h
    refine am_Ev.t hcd (o := none) (c := am_in (75 + (f 217 (15 + a0).toNatClampNeg)) 2008 = true) (s1 := (22, [(0, .ref 216), (1, .int a0), (2, .int a1)], [.int (f 217 (75 + (f 217 (15 + a0).toNatClampNeg)).toNatClampNeg), .ref 216], am_SH, (g, f))) rfl c14 ?_
    refine am_Ev.go hcd 1 (s' := (23, [(0, .ref 216), (1, .int a0), (2, .int a1)], [.int a1, .int (f 217 (75 + (f 217 (15 + a0).toNatClampNeg)).toNatClampNeg), .ref 216], am_SH, (g, f))) rfl ?_
    obtain ⟨p1, hp1, h⟩ := am_bind_some h
    refine am_Ev.call hcd (a := 230) (s0 := (0, [(0, .ref 216), (1, .int (f 217 (75 + (f 217 (15 + a0).toNatClampNeg)).toNatClampNeg)), (2, .int a1)], [], am_SH, (g, f))) (q := ((some (.int p1)), am_SH, (g, f))) (s1 := (24, [(0, .ref 216), (1, .int a0), (2, .int a1)], [.int p1], am_SH, (g, f))) rfl rfl (m_nearnessOf_ok (d) (f 217 (75 + (f 217 (15 + a0).toNatClampNeg)).toNatClampNeg) a1 f g p1 hp1) ?_
    exact am_Ev.cast (a := ((some (.int p1)), am_SH, (g, f))) (by cases h; rfl) (am_Ev.ret hcd rfl)
set_option maxRecDepth 100000 in
set_option maxHeartbeats 4000000 in
theorem m_bitsOf_ok {sc : Nat × (Nat → Int32)} (d : Nat) (a0 : Int32) (hp : am_H) (r : Int32) (h : m_bitsOf a0 = some r) : am_Ev sc (d) 179 (0, [(0, .int a0)], [], am_SH, hp) ((some (.int r)), am_SH, hp) := by
  have hcd : am_code 179 = am_c179 := rfl
  unfold m_bitsOf at h
  refine am_Ev.go hcd 4 (s' := (4, [(0, .int a0), (1, .int 0), (2, .int a0)], [], am_SH, hp)) rfl ?_
  refine am_Ev.weak' (am_loop_ok (G := fun (s1 : Int32 × Int32) => am_Ev sc (d) 179 (4, [(1, .int s1.1), (2, .int s1.2)], [], am_SH, hp) ((some (.int r)), am_SH, hp)) (Z := fun (v : Int32) => (((some (.int v)), am_SH, hp) : am_R) = ((some (.int r)), am_SH, hp)) ?_ am_F (0, a0) r h rfl) (am_sub_cons rfl (am_sub_cons rfl am_sub_nil)) rfl
  intro s1 q1 h hI1 hZ1
  show am_Ev sc (d) 179 (4, [(1, .int s1.1), (2, .int s1.2)], [], am_SH, hp) ((some (.int r)), am_SH, hp)
  refine am_Ev.go hcd 1 (s' := (5, [(1, .int s1.1), (2, .int s1.2)], [.int s1.2], am_SH, hp)) rfl ?_
  rcases am_ite h with ⟨c6, h⟩ | ⟨c6, h⟩
  · refine am_Ev.t hcd (c := 0 < s1.2) (s1 := (6, [(1, .int s1.1), (2, .int s1.2)], [], am_SH, hp)) rfl c6 ?_
    obtain ⟨t2, Et2, h⟩ := am_let_eq h
    refine am_Ev.go hcd 6 (s' := (12, [(1, .int t2), (2, .int s1.2)], [], am_SH, hp)) (by subst Et2; exact rfl) ?_
    obtain ⟨t3, Et3, h⟩ := am_let_eq h
    refine am_Ev.go hcd 4 (s' := (16, [(1, .int t2), (2, .int t3)], [], am_SH, hp)) (by subst Et3; exact rfl) ?_
    refine am_Ev.go hcd 1 (s' := (4, [(1, .int t2), (2, .int t3)], [], am_SH, hp)) rfl ?_
    exact am_Ev.weak' (hI1 (t2, t3) (Option.some.inj h).symm) (am_sub_cons rfl (am_sub_cons rfl am_sub_nil)) rfl
  · refine am_Ev.f hcd (c := 0 < s1.2) (s1 := (17, [(1, .int s1.1), (2, .int s1.2)], [], am_SH, hp)) rfl c6 ?_
    refine am_Ev.go hcd 1 (s' := (18, [(1, .int s1.1), (2, .int s1.2)], [.int s1.1], am_SH, hp)) rfl ?_
    exact am_Ev.cast (a := ((some (.int s1.1)), am_SH, hp)) (hZ1 _ (Option.some.inj h).symm) (am_Ev.ret hcd rfl)
set_option maxRecDepth 100000 in
set_option maxHeartbeats 4000000 in
theorem m_asks_ok {sc : Nat × (Nat → Int32)} (d : Nat) (a0 : Int32) (a1 : Int32) (f g : (Nat → Nat → Int32)) (r : (Nat → Nat → Int32)) (h : m_asks a0 a1 f = some r) : am_Ev sc (d + 3) 232 (0, [(0, .ref 216), (1, .int a0), (2, .int a1)], [], am_SH, (g, f)) (none, am_SH, (g, r)) := by
  have hcd : am_code 232 = am_c232 := rfl
  unfold m_asks at h
  refine am_Ev.go hcd 5 (s' := (5, [(0, .ref 216), (1, .int a0), (2, .int a1)], [.int (15 + a0), .ref 217], am_SH, (g, f))) rfl ?_
  obtain ⟨c2, h⟩ := am_grd h
  refine am_Ev.t hcd (o := none) (c := am_in (15 + a0) 2008 = true) (s1 := (6, [(0, .ref 216), (1, .int a0), (2, .int a1)], [.int (f 217 (15 + a0).toNatClampNeg)], am_SH, (g, f))) rfl c2 ?_
  obtain ⟨t1, Et1, h⟩ := am_let_eq h
  refine am_Ev.go hcd 1 (s' := (7, [(0, .ref 216), (1, .int a0), (2, .int a1), (3, .int t1)], [], am_SH, (g, f))) (by subst Et1; exact rfl) ?_
  refine am_Ev.go hcd 6 (s' := (13, [(0, .ref 216), (1, .int a0), (2, .int a1), (3, .int t1)], [.int a1, .int a0, .ref 216, .int 1, .ref 226], am_SH, (g, f))) rfl ?_
  obtain ⟨p2, hp2, h⟩ := am_bind_some h
  refine am_Ev.call hcd (a := 231) (s0 := (0, [(0, .ref 216), (1, .int a0), (2, .int a1)], [], am_SH, (g, f))) (q := ((some (.int p2)), am_SH, (g, f))) (s1 := (14, [(0, .ref 216), (1, .int a0), (2, .int a1), (3, .int t1)], [.int p2, .int 1, .ref 226], am_SH, (g, f))) rfl rfl (m_nearOf_ok (d) a0 a1 f g p2 hp2) ?_
  obtain ⟨f3, Ef3, h⟩ := am_let_eq h
  refine am_Ev.go hcd 1 (s' := (15, [(0, .ref 216), (1, .int a0), (2, .int a1), (3, .int t1)], [], am_SH, (g, f3))) (by subst Ef3; exact rfl) ?_
  obtain ⟨t4, ht4, kt4⟩ := am_bind_some h
  have hKt4 : am_Ev sc (d + 3) 232 (29, [(0, .ref 216), (1, .int a0), (2, .int a1), (3, .int t1)], [.int t4, .int 2, .ref 226], am_SH, (g, f3)) (none, am_SH, (g, r)) := by
    have h := kt4
    obtain ⟨f5, Ef5, h⟩ := am_let_eq h
    refine am_Ev.go hcd 1 (s' := (30, [(0, .ref 216), (1, .int a0), (2, .int a1), (3, .int t1)], [], am_SH, (g, f5))) (by subst Ef5; exact rfl) ?_
    refine am_Ev.go hcd 8 (s' := (38, [(0, .ref 216), (1, .int a0), (2, .int a1), (3, .int t1)], [.int (9 + a0), .ref 217, .int 3, .ref 226], am_SH, (g, f5))) rfl ?_
    obtain ⟨c17, h⟩ := am_grd h
    refine am_Ev.t hcd (o := none) (c := am_in (9 + a0) 2008 = true) (s1 := (39, [(0, .ref 216), (1, .int a0), (2, .int a1), (3, .int t1)], [.int (f5 217 (9 + a0).toNatClampNeg), .int 3, .ref 226], am_SH, (g, f5))) rfl c17 ?_
    obtain ⟨f6, Ef6, h⟩ := am_let_eq h
    refine am_Ev.go hcd 1 (s' := (40, [(0, .ref 216), (1, .int a0), (2, .int a1), (3, .int t1)], [], am_SH, (g, f6))) (by subst Ef6; exact rfl) ?_
    refine am_Ev.go hcd 8 (s' := (48, [(0, .ref 216), (1, .int a0), (2, .int a1), (3, .int t1)], [.int (3 + a0), .ref 217, .int 4, .ref 226], am_SH, (g, f6))) rfl ?_
    obtain ⟨c22, h⟩ := am_grd h
    refine am_Ev.t hcd (o := none) (c := am_in (3 + a0) 2008 = true) (s1 := (49, [(0, .ref 216), (1, .int a0), (2, .int a1), (3, .int t1)], [.int (f6 217 (3 + a0).toNatClampNeg), .int 4, .ref 226], am_SH, (g, f6))) rfl c22 ?_
    obtain ⟨f7, Ef7, h⟩ := am_let_eq h
    refine am_Ev.go hcd 1 (s' := (50, [(0, .ref 216), (1, .int a0), (2, .int a1), (3, .int t1)], [], am_SH, (g, f7))) (by subst Ef7; exact rfl) ?_
    obtain ⟨t8, ht8, kt8⟩ := am_let_eq h
    have hKt8 : am_Ev sc (d + 3) 232 (59, [(0, .ref 216), (1, .int a0), (3, .int t1)], [.int (am_b t8), .int 5, .ref 226], am_SH, (g, f7)) (none, am_SH, (g, r)) := by
      have h := kt8
      obtain ⟨f9, Ef9, h⟩ := am_let_eq h
      refine am_Ev.go hcd 1 (s' := (60, [(0, .ref 216), (1, .int a0), (3, .int t1)], [], am_SH, (g, f9))) (by subst Ef9; exact rfl) ?_
      obtain ⟨t11, ht11, kt11⟩ := am_bind_some h
      have hKt11 : am_Ev sc (d + 3) 232 (75, [(0, .ref 216), (1, .int a0), (3, .int t1)], [.int t11, .int 6, .ref 226], am_SH, (g, f9)) (none, am_SH, (g, r)) := by
        have h := kt11
        obtain ⟨f12, Ef12, h⟩ := am_let_eq h
        refine am_Ev.go hcd 1 (s' := (76, [(0, .ref 216), (1, .int a0), (3, .int t1)], [], am_SH, (g, f12))) (by subst Ef12; exact rfl) ?_
        obtain ⟨t13, ht13, kt13⟩ := am_bind_some h
        have hKt13 : am_Ev sc (d + 3) 232 (90, [(0, .ref 216), (1, .int a0)], [.int t13, .int 7, .ref 226], am_SH, (g, f12)) (none, am_SH, (g, r)) := by
          have h := kt13
          obtain ⟨f14, Ef14, h⟩ := am_let_eq h
          refine am_Ev.go hcd 1 (s' := (91, [(0, .ref 216), (1, .int a0)], [], am_SH, (g, f14))) (by subst Ef14; exact rfl) ?_
          refine am_Ev.go hcd 8 (s' := (99, [(0, .ref 216), (1, .int a0)], [.int (27 + a0), .ref 217, .int 8, .ref 226], am_SH, (g, f14))) rfl ?_
          obtain ⟨c42, h⟩ := am_grd h
          refine am_Ev.t hcd (o := none) (c := am_in (27 + a0) 2008 = true) (s1 := (100, [(0, .ref 216), (1, .int a0)], [.int (f14 217 (27 + a0).toNatClampNeg), .int 8, .ref 226], am_SH, (g, f14))) rfl c42 ?_
          obtain ⟨f15, Ef15, h⟩ := am_let_eq h
          refine am_Ev.go hcd 1 (s' := (101, [(0, .ref 216), (1, .int a0)], [], am_SH, (g, f15))) (by subst Ef15; exact rfl) ?_
          obtain ⟨f16, Ef16, h⟩ := am_let_eq h
          refine am_Ev.go hcd 5 (s' := (106, [(0, .ref 216), (1, .int a0)], [], am_SH, (g, f16))) (by subst Ef16; exact rfl) ?_
          obtain ⟨f17, Ef17, h⟩ := am_let_eq h
          refine am_Ev.go hcd 8 (s' := (114, [(0, .ref 216), (1, .int a0)], [], am_SH, (g, f17))) (by subst Ef17; exact rfl) ?_
          exact am_Ev.cast (a := (none, am_SH, (g, f17))) (by cases h; rfl) (am_Ev.ret hcd rfl)
        have hLt13 : ∀ tt, tt = t13 → am_Ev sc (d + 3) 232 (90, [(0, .ref 216), (1, .int a0)], [.int tt, .int 7, .ref 226], am_SH, (g, f12)) (none, am_SH, (g, r)) := fun tt htt => by subst htt; exact hKt13
        have h := ht13
        refine am_Ev.go hcd 5 (s' := (81, [(0, .ref 216), (1, .int a0), (3, .int t1)], [.int (-1), .int t1, .int 7, .ref 226], am_SH, (g, f12))) rfl ?_
        rcases am_ite h with ⟨c54, h⟩ | ⟨c54, h⟩
        · refine am_Ev.t hcd (c := t1 = (-1)) (s1 := (82, [(0, .ref 216), (1, .int a0), (3, .int t1)], [.int 7, .ref 226], am_SH, (g, f12))) rfl c54 ?_
          refine am_Ev.go hcd 2 (s' := (90, [(0, .ref 216), (1, .int a0), (3, .int t1)], [.int 0, .int 7, .ref 226], am_SH, (g, f12))) rfl ?_
          exact am_Ev.weak' (hLt13 0 (Option.some.inj h)) (am_sub_cons rfl (am_sub_cons rfl am_sub_nil)) rfl
        · refine am_Ev.f hcd (c := t1 = (-1)) (s1 := (84, [(0, .ref 216), (1, .int a0), (3, .int t1)], [.int 7, .ref 226], am_SH, (g, f12))) rfl c54 ?_
          refine am_Ev.go hcd 5 (s' := (89, [(0, .ref 216), (1, .int a0), (3, .int t1)], [.int (45 + t1), .ref 217, .int 7, .ref 226], am_SH, (g, f12))) rfl ?_
          obtain ⟨c60, h⟩ := am_grd h
          refine am_Ev.t hcd (o := none) (c := am_in (45 + t1) 2008 = true) (s1 := (90, [(0, .ref 216), (1, .int a0), (3, .int t1)], [.int (f12 217 (45 + t1).toNatClampNeg), .int 7, .ref 226], am_SH, (g, f12))) rfl c60 ?_
          exact am_Ev.weak' (hLt13 (f12 217 (45 + t1).toNatClampNeg) (Option.some.inj h)) (am_sub_cons rfl (am_sub_cons rfl am_sub_nil)) rfl
      have hLt11 : ∀ tt, tt = t11 → am_Ev sc (d + 3) 232 (75, [(0, .ref 216), (1, .int a0), (3, .int t1)], [.int tt, .int 6, .ref 226], am_SH, (g, f9)) (none, am_SH, (g, r)) := fun tt htt => by subst htt; exact hKt11
      have h := ht11
      refine am_Ev.go hcd 5 (s' := (65, [(0, .ref 216), (1, .int a0), (3, .int t1)], [.int (-1), .int t1, .int 6, .ref 226], am_SH, (g, f9))) rfl ?_
      rcases am_ite h with ⟨c66, h⟩ | ⟨c66, h⟩
      · refine am_Ev.t hcd (c := t1 = (-1)) (s1 := (66, [(0, .ref 216), (1, .int a0), (3, .int t1)], [.int 6, .ref 226], am_SH, (g, f9))) rfl c66 ?_
        refine am_Ev.go hcd 2 (s' := (75, [(0, .ref 216), (1, .int a0), (3, .int t1)], [.int 0, .int 6, .ref 226], am_SH, (g, f9))) rfl ?_
        exact am_Ev.weak' (hLt11 0 (Option.some.inj h)) (am_sub_cons rfl (am_sub_cons rfl (am_sub_cons rfl am_sub_nil))) rfl
      · refine am_Ev.f hcd (c := t1 = (-1)) (s1 := (68, [(0, .ref 216), (1, .int a0), (3, .int t1)], [.int 6, .ref 226], am_SH, (g, f9))) rfl c66 ?_
        refine am_Ev.go hcd 5 (s' := (73, [(0, .ref 216), (1, .int a0), (3, .int t1)], [.int (75 + t1), .ref 217, .int 6, .ref 226], am_SH, (g, f9))) rfl ?_
        obtain ⟨c72, h⟩ := am_grd h
        refine am_Ev.t hcd (o := none) (c := am_in (75 + t1) 2008 = true) (s1 := (74, [(0, .ref 216), (1, .int a0), (3, .int t1)], [.int (f9 217 (75 + t1).toNatClampNeg), .int 6, .ref 226], am_SH, (g, f9))) rfl c72 ?_
        obtain ⟨p10, hp10, h⟩ := am_bind_some h
        refine am_Ev.call hcd (a := 179) (s0 := (0, [(0, .int (f9 217 (75 + t1).toNatClampNeg))], [], am_SH, (g, f9))) (q := ((some (.int p10)), am_SH, (g, f9))) (s1 := (75, [(0, .ref 216), (1, .int a0), (3, .int t1)], [.int p10, .int 6, .ref 226], am_SH, (g, f9))) rfl rfl (m_bitsOf_ok (d + 2) (f9 217 (75 + t1).toNatClampNeg) (g, f9) p10 hp10) ?_
        exact am_Ev.weak' (hLt11 p10 (Option.some.inj h)) (am_sub_cons rfl (am_sub_cons rfl (am_sub_cons rfl am_sub_nil))) rfl
    have hLt8 : ∀ tt, tt = t8 → am_Ev sc (d + 3) 232 (59, [(0, .ref 216), (1, .int a0), (3, .int t1)], [.int (am_b tt), .int 5, .ref 226], am_SH, (g, f7)) (none, am_SH, (g, r)) := fun tt htt => by subst htt; exact hKt8
    have h := ht8
    refine am_Ev.go hcd 5 (s' := (55, [(0, .ref 216), (1, .int a0), (2, .int a1), (3, .int t1)], [.int (-1), .int a1, .int 5, .ref 226], am_SH, (g, f7))) rfl ?_
    rcases am_itv h with ⟨c80, h⟩ | ⟨c80, h⟩
    · refine am_Ev.t hcd (c := a1 = (-1)) (s1 := (56, [(0, .ref 216), (1, .int a0), (2, .int a1), (3, .int t1)], [.int 5, .ref 226], am_SH, (g, f7))) rfl c80 ?_
      refine am_Ev.go hcd 2 (s' := (59, [(0, .ref 216), (1, .int a0), (2, .int a1), (3, .int t1)], [.int 0, .int 5, .ref 226], am_SH, (g, f7))) rfl ?_
      exact am_Ev.weak' (hLt8 false h.symm) (am_sub_cons rfl (am_sub_cons rfl (am_sub_cons rfl am_sub_nil))) rfl
    · refine am_Ev.f hcd (c := a1 = (-1)) (s1 := (58, [(0, .ref 216), (1, .int a0), (2, .int a1), (3, .int t1)], [.int 5, .ref 226], am_SH, (g, f7))) rfl c80 ?_
      refine am_Ev.go hcd 1 (s' := (59, [(0, .ref 216), (1, .int a0), (2, .int a1), (3, .int t1)], [.int 1, .int 5, .ref 226], am_SH, (g, f7))) rfl ?_
      exact am_Ev.weak' (hLt8 true h.symm) (am_sub_cons rfl (am_sub_cons rfl (am_sub_cons rfl am_sub_nil))) rfl
  have hLt4 : ∀ tt, tt = t4 → am_Ev sc (d + 3) 232 (29, [(0, .ref 216), (1, .int a0), (2, .int a1), (3, .int t1)], [.int tt, .int 2, .ref 226], am_SH, (g, f3)) (none, am_SH, (g, r)) := fun tt htt => by subst htt; exact hKt4
  have h := ht4
  refine am_Ev.go hcd 5 (s' := (20, [(0, .ref 216), (1, .int a0), (2, .int a1), (3, .int t1)], [.int (-1), .int t1, .int 2, .ref 226], am_SH, (g, f3))) rfl ?_
  rcases am_ite h with ⟨c90, h⟩ | ⟨c90, h⟩
  · refine am_Ev.t hcd (c := t1 = (-1)) (s1 := (21, [(0, .ref 216), (1, .int a0), (2, .int a1), (3, .int t1)], [.int 2, .ref 226], am_SH, (g, f3))) rfl c90 ?_
    refine am_Ev.go hcd 2 (s' := (29, [(0, .ref 216), (1, .int a0), (2, .int a1), (3, .int t1)], [.int 0, .int 2, .ref 226], am_SH, (g, f3))) rfl ?_
    exact am_Ev.weak' (hLt4 0 (Option.some.inj h)) (am_sub_cons rfl (am_sub_cons rfl (am_sub_cons rfl (am_sub_cons rfl am_sub_nil)))) rfl
  · refine am_Ev.f hcd (c := t1 = (-1)) (s1 := (23, [(0, .ref 216), (1, .int a0), (2, .int a1), (3, .int t1)], [.int 2, .ref 226], am_SH, (g, f3))) rfl c90 ?_
    refine am_Ev.go hcd 5 (s' := (28, [(0, .ref 216), (1, .int a0), (2, .int a1), (3, .int t1)], [.int (33 + t1), .ref 217, .int 2, .ref 226], am_SH, (g, f3))) rfl ?_
    obtain ⟨c96, h⟩ := am_grd h
    refine am_Ev.t hcd (o := none) (c := am_in (33 + t1) 2008 = true) (s1 := (29, [(0, .ref 216), (1, .int a0), (2, .int a1), (3, .int t1)], [.int (f3 217 (33 + t1).toNatClampNeg), .int 2, .ref 226], am_SH, (g, f3))) rfl c96 ?_
    exact am_Ev.weak' (hLt4 (f3 217 (33 + t1).toNatClampNeg) (Option.some.inj h)) (am_sub_cons rfl (am_sub_cons rfl (am_sub_cons rfl (am_sub_cons rfl am_sub_nil)))) rfl
set_option maxRecDepth 100000 in
set_option maxHeartbeats 4000000 in
theorem m_both_ok {sc : Nat × (Nat → Int32)} (d : Nat) (a0 : Int32) (a1 : Int32) (a2 : Int32) (hp : am_H) : am_Ev sc (d) 225 (0, [(0, .int a0), (1, .int a1), (2, .int a2)], [], am_SH, hp) ((some (.int (m_both a0 a1 a2))), am_SH, hp) := by
  have hcd : am_code 225 = am_c225 := rfl
  obtain ⟨r, h⟩ : ∃ r, r = m_both a0 a1 a2 := ⟨_, rfl⟩
  rw [← h]
  unfold m_both at h
  refine am_Ev.go hcd 1 (s' := (1, [(0, .int a0), (1, .int a1), (2, .int a2)], [.int a0], am_SH, hp)) rfl ?_
  refine am_Ev.one hcd (s' := (am_swt a0 [(23, 2), (24, 6), (25, 10), (27, 14), (28, 21), (29, 28), (31, 35)] 39, [(0, .int a0), (1, .int a1), (2, .int a2)], [], am_SH, hp)) rfl ?_
  rcases am_itv h with ⟨c6, h⟩ | ⟨c6, h⟩
  · rw [am_swt_t c6]
    refine am_Ev.go hcd 3 (s' := (5, [(0, .int a0), (1, .int a1), (2, .int a2)], [.int (a1 + a2)], am_SH, hp)) rfl ?_
    exact am_Ev.cast (a := ((some (.int (a1 + a2))), am_SH, hp)) (by subst h; rfl) (am_Ev.ret hcd rfl)
  rw [am_swt_f c6]
  rcases am_itv h with ⟨c11, h⟩ | ⟨c11, h⟩
  · rw [am_swt_t c11]
    refine am_Ev.go hcd 3 (s' := (9, [(0, .int a0), (1, .int a1), (2, .int a2)], [.int (a1 - a2)], am_SH, hp)) rfl ?_
    exact am_Ev.cast (a := ((some (.int (a1 - a2))), am_SH, hp)) (by subst h; rfl) (am_Ev.ret hcd rfl)
  rw [am_swt_f c11]
  rcases am_itv h with ⟨c16, h⟩ | ⟨c16, h⟩
  · rw [am_swt_t c16]
    refine am_Ev.go hcd 3 (s' := (13, [(0, .int a0), (1, .int a1), (2, .int a2)], [.int (a1 * a2)], am_SH, hp)) rfl ?_
    exact am_Ev.cast (a := ((some (.int (a1 * a2))), am_SH, hp)) (by subst h; rfl) (am_Ev.ret hcd rfl)
  rw [am_swt_f c16]
  rcases am_itv h with ⟨c21, h⟩ | ⟨c21, h⟩
  · rw [am_swt_t c21]
    refine am_Ev.go hcd 2 (s' := (16, [(0, .int a0), (1, .int a1), (2, .int a2)], [.int a2, .int a1], am_SH, hp)) rfl ?_
    rcases am_itv h with ⟨c23, h⟩ | ⟨c23, h⟩
    · refine am_Ev.t hcd (c := a1 < a2) (s1 := (17, [(0, .int a0), (1, .int a1), (2, .int a2)], [], am_SH, hp)) rfl c23 ?_
      refine am_Ev.go hcd 2 (s' := (20, [(0, .int a0), (1, .int a1), (2, .int a2)], [.int 1], am_SH, hp)) rfl ?_
      exact am_Ev.cast (a := ((some (.int 1)), am_SH, hp)) (by subst h; rfl) (am_Ev.ret hcd rfl)
    · refine am_Ev.f hcd (c := a1 < a2) (s1 := (19, [(0, .int a0), (1, .int a1), (2, .int a2)], [], am_SH, hp)) rfl c23 ?_
      refine am_Ev.go hcd 1 (s' := (20, [(0, .int a0), (1, .int a1), (2, .int a2)], [.int 0], am_SH, hp)) rfl ?_
      exact am_Ev.cast (a := ((some (.int 0)), am_SH, hp)) (by subst h; rfl) (am_Ev.ret hcd rfl)
  rw [am_swt_f c21]
  rcases am_itv h with ⟨c32, h⟩ | ⟨c32, h⟩
  · rw [am_swt_t c32]
    refine am_Ev.go hcd 2 (s' := (23, [(0, .int a0), (1, .int a1), (2, .int a2)], [.int a2, .int a1], am_SH, hp)) rfl ?_
    rcases am_itv h with ⟨c34, h⟩ | ⟨c34, h⟩
    · refine am_Ev.t hcd (c := a1 = a2) (s1 := (24, [(0, .int a0), (1, .int a1), (2, .int a2)], [], am_SH, hp)) rfl c34 ?_
      refine am_Ev.go hcd 2 (s' := (27, [(0, .int a0), (1, .int a1), (2, .int a2)], [.int 1], am_SH, hp)) rfl ?_
      exact am_Ev.cast (a := ((some (.int 1)), am_SH, hp)) (by subst h; rfl) (am_Ev.ret hcd rfl)
    · refine am_Ev.f hcd (c := a1 = a2) (s1 := (26, [(0, .int a0), (1, .int a1), (2, .int a2)], [], am_SH, hp)) rfl c34 ?_
      refine am_Ev.go hcd 1 (s' := (27, [(0, .int a0), (1, .int a1), (2, .int a2)], [.int 0], am_SH, hp)) rfl ?_
      exact am_Ev.cast (a := ((some (.int 0)), am_SH, hp)) (by subst h; rfl) (am_Ev.ret hcd rfl)
  rw [am_swt_f c32]
  rcases am_itv h with ⟨c43, h⟩ | ⟨c43, h⟩
  · rw [am_swt_t c43]
    refine am_Ev.go hcd 2 (s' := (30, [(0, .int a0), (1, .int a1), (2, .int a2)], [.int a2, .int a1], am_SH, hp)) rfl ?_
    rcases am_itv h with ⟨c45, h⟩ | ⟨c45, h⟩
    · refine am_Ev.t hcd (c := a2 < a1) (s1 := (31, [(0, .int a0), (1, .int a1), (2, .int a2)], [], am_SH, hp)) rfl c45 ?_
      refine am_Ev.go hcd 2 (s' := (34, [(0, .int a0), (1, .int a1), (2, .int a2)], [.int 1], am_SH, hp)) rfl ?_
      exact am_Ev.cast (a := ((some (.int 1)), am_SH, hp)) (by subst h; rfl) (am_Ev.ret hcd rfl)
    · refine am_Ev.f hcd (c := a2 < a1) (s1 := (33, [(0, .int a0), (1, .int a1), (2, .int a2)], [], am_SH, hp)) rfl c45 ?_
      refine am_Ev.go hcd 1 (s' := (34, [(0, .int a0), (1, .int a1), (2, .int a2)], [.int 0], am_SH, hp)) rfl ?_
      exact am_Ev.cast (a := ((some (.int 0)), am_SH, hp)) (by subst h; rfl) (am_Ev.ret hcd rfl)
  rw [am_swt_f c43]
  rcases am_itv h with ⟨c54, h⟩ | ⟨c54, h⟩
  · rw [am_swt_t c54]
    refine am_Ev.go hcd 3 (s' := (38, [(0, .int a0), (1, .int a1), (2, .int a2)], [.int (a1 &&& a2)], am_SH, hp)) rfl ?_
    exact am_Ev.cast (a := ((some (.int (a1 &&& a2))), am_SH, hp)) (by subst h; rfl) (am_Ev.ret hcd rfl)
  rw [am_swt_f c54]
  rw [am_swt_n]
  refine am_Ev.go hcd 3 (s' := (42, [(0, .int a0), (1, .int a1), (2, .int a2)], [.int (a1 ||| a2)], am_SH, hp)) rfl ?_
  exact am_Ev.cast (a := ((some (.int (a1 ||| a2))), am_SH, hp)) (by subst h; rfl) (am_Ev.ret hcd rfl)
