set_option maxRecDepth 100000 in
set_option maxHeartbeats 4000000 in
theorem m_makes_ok {sc : Nat × (Nat → Int32)} (d : Nat) (a0 : Int32) (a1 : Int32) (a2 : Int32) (a3 : Int32) (f g : (Nat → Nat → Int32)) (r : Bool) (h : m_makes a0 a1 a2 a3 f = some r) : am_Ev sc (d + 1) 275 (0, [(0, .ref 216), (1, .int a0), (2, .int a1), (3, .int a2), (4, .int a3)], [], am_SH, (g, f)) ((some (.int (am_b r))), am_SH, (g, f)) := by
  have hcd : am_code 275 = am_c275 := rfl
  unfold m_makes at h
  refine am_Ev.go hcd 4 (s' := (4, [(0, .ref 216), (1, .int a0), (2, .int a1), (3, .int a2), (4, .int a3), (5, .int 1), (6, .int 0)], [], am_SH, (g, f))) rfl ?_
  refine am_Ev.weak' (am_loop_ok (G := fun (s1 : Bool × Int32) => am_Ev sc (d + 1) 275 (4, [(0, .ref 216), (1, .int a0), (2, .int a1), (3, .int a2), (4, .int a3), (5, .int (am_b s1.1)), (6, .int s1.2)], [], am_SH, (g, f)) ((some (.int (am_b r))), am_SH, (g, f))) (Z := fun (v : Bool) => (((some (.int (am_b v))), am_SH, (g, f)) : am_R) = ((some (.int (am_b r))), am_SH, (g, f))) ?_ am_F (true, 0) r h rfl) (am_sub_cons rfl (am_sub_cons rfl (am_sub_cons rfl (am_sub_cons rfl (am_sub_cons rfl (am_sub_cons rfl (am_sub_cons rfl am_sub_nil))))))) rfl
  intro s1 q1 h hI1 hZ1
  show am_Ev sc (d + 1) 275 (4, [(0, .ref 216), (1, .int a0), (2, .int a1), (3, .int a2), (4, .int a3), (5, .int (am_b s1.1)), (6, .int s1.2)], [], am_SH, (g, f)) ((some (.int (am_b r))), am_SH, (g, f))
  refine am_Ev.go hcd 5 (s' := (9, [(0, .ref 216), (1, .int a0), (2, .int a1), (3, .int a2), (4, .int a3), (5, .int (am_b s1.1)), (6, .int s1.2)], [.int (f 217 437), .int s1.2], am_SH, (g, f))) rfl ?_
  rcases am_ite h with ⟨c6, h⟩ | ⟨c6, h⟩
  · refine am_Ev.t hcd (c := s1.2 < f 217 437) (s1 := (10, [(0, .ref 216), (1, .int a0), (2, .int a1), (3, .int a2), (4, .int a3), (5, .int (am_b s1.1)), (6, .int s1.2)], [], am_SH, (g, f))) rfl c6 ?_
    refine am_Ev.go hcd 1 (s' := (11, [(0, .ref 216), (1, .int a0), (2, .int a1), (3, .int a2), (4, .int a3), (5, .int (am_b s1.1)), (6, .int s1.2)], [.int (am_b s1.1)], am_SH, (g, f))) rfl ?_
    rcases am_ite h with ⟨c9, h⟩ | ⟨c9, h⟩
    · refine am_Ev.f hcd (c := am_b s1.1 = 0) (s1 := (12, [(0, .ref 216), (1, .int a0), (2, .int a1), (3, .int a2), (4, .int a3), (5, .int (am_b s1.1)), (6, .int s1.2)], [], am_SH, (g, f))) rfl (am_b_t c9) ?_
      refine am_Ev.go hcd 5 (s' := (17, [(0, .ref 216), (1, .int a0), (2, .int a1), (3, .int a2), (4, .int a3), (5, .int (am_b s1.1)), (6, .int s1.2)], [.int s1.2, .int (a1 / 100), .ref 216], am_SH, (g, f))) rfl ?_
      obtain ⟨p2, hp2, h⟩ := am_bind_some h
      refine am_Ev.call hcd (a := 274) (s0 := (0, [(0, .ref 216), (1, .int (a1 / 100)), (2, .int s1.2)], [], am_SH, (g, f))) (q := ((some (.int p2)), am_SH, (g, f))) (s1 := (18, [(0, .ref 216), (1, .int a0), (2, .int a1), (3, .int a2), (4, .int a3), (5, .int (am_b s1.1)), (6, .int s1.2)], [.int p2], am_SH, (g, f))) rfl rfl (m_unitAt_ok (d) (a1 / 100) s1.2 f g p2 hp2) ?_
      refine am_Ev.go hcd 8 (s' := (26, [(0, .ref 216), (1, .int a0), (2, .int a1), (3, .int a2), (4, .int a3), (5, .int (am_b s1.1)), (6, .int s1.2), (7, .int p2)], [.int s1.2, .int ((a1 / 10) - (a1 / 10) / 10 * 10), .ref 216], am_SH, (g, f))) rfl ?_
      obtain ⟨p3, hp3, h⟩ := am_bind_some h
      refine am_Ev.call hcd (a := 274) (s0 := (0, [(0, .ref 216), (1, .int ((a1 / 10) - (a1 / 10) / 10 * 10)), (2, .int s1.2)], [], am_SH, (g, f))) (q := ((some (.int p3)), am_SH, (g, f))) (s1 := (27, [(0, .ref 216), (1, .int a0), (2, .int a1), (3, .int a2), (4, .int a3), (5, .int (am_b s1.1)), (6, .int s1.2), (7, .int p2)], [.int p3], am_SH, (g, f))) rfl rfl (m_unitAt_ok (d) ((a1 / 10) - (a1 / 10) / 10 * 10) s1.2 f g p3 hp3) ?_
      refine am_Ev.go hcd 6 (s' := (33, [(0, .ref 216), (1, .int a0), (2, .int a1), (3, .int a2), (4, .int a3), (5, .int (am_b s1.1)), (6, .int s1.2), (7, .int p2), (8, .int p3)], [.int s1.2, .int (a1 - a1 / 10 * 10), .ref 216], am_SH, (g, f))) rfl ?_
      obtain ⟨p4, hp4, h⟩ := am_bind_some h
      refine am_Ev.call hcd (a := 274) (s0 := (0, [(0, .ref 216), (1, .int (a1 - a1 / 10 * 10)), (2, .int s1.2)], [], am_SH, (g, f))) (q := ((some (.int p4)), am_SH, (g, f))) (s1 := (34, [(0, .ref 216), (1, .int a0), (2, .int a1), (3, .int a2), (4, .int a3), (5, .int (am_b s1.1)), (6, .int s1.2), (7, .int p2), (8, .int p3)], [.int p4], am_SH, (g, f))) rfl rfl (m_unitAt_ok (d) (a1 - a1 / 10 * 10) s1.2 f g p4 hp4) ?_
      obtain ⟨t7, ht7, kt7⟩ := am_let_eq h
      have hKt7 : am_Ev sc (d + 1) 275 (47, [(0, .ref 216), (1, .int a0), (2, .int a1), (3, .int a2), (4, .int a3), (6, .int s1.2), (7, .int p2), (8, .int p3), (9, .int p4), (10, .int t7)], [], am_SH, (g, f)) ((some (.int (am_b r))), am_SH, (g, f)) := by
        have h := kt7
        obtain ⟨t13, ht13, kt13⟩ := am_let_eq h
        have hKt13 : am_Ev sc (d + 1) 275 (76, [(0, .ref 216), (1, .int a0), (2, .int a1), (3, .int a2), (4, .int a3), (6, .int s1.2), (10, .int t13)], [], am_SH, (g, f)) ((some (.int (am_b r))), am_SH, (g, f)) := by
          have h := kt13
          refine am_Ev.go hcd 8 (s' := (84, [(0, .ref 216), (1, .int a0), (2, .int a1), (3, .int a2), (4, .int a3), (6, .int s1.2), (10, .int t13)], [.int (439 + (2 * s1.2)), .ref 217, .int t13], am_SH, (g, f))) rfl ?_
          obtain ⟨c27, h⟩ := am_grd h
          refine am_Ev.t hcd (o := none) (c := am_in (439 + (2 * s1.2)) 2008 = true) (s1 := (85, [(0, .ref 216), (1, .int a0), (2, .int a1), (3, .int a2), (4, .int a3), (6, .int s1.2), (10, .int t13)], [.int (f 217 (439 + (2 * s1.2)).toNatClampNeg), .int t13], am_SH, (g, f))) rfl c27 ?_
          obtain ⟨t14, ht14, kt14⟩ := am_let_eq h
          have hKt14 : am_Ev sc (d + 1) 275 (89, [(0, .ref 216), (1, .int a0), (2, .int a1), (3, .int a2), (4, .int a3), (6, .int s1.2)], [.int (am_b t14)], am_SH, (g, f)) ((some (.int (am_b r))), am_SH, (g, f)) := by
            have h := kt14
            obtain ⟨t15, Et15, h⟩ := am_let_eq h
            refine am_Ev.go hcd 2 (s' := (91, [(0, .ref 216), (1, .int a0), (2, .int a1), (3, .int a2), (4, .int a3), (5, .int (am_b t14)), (6, .int t15)], [], am_SH, (g, f))) (by subst Et15; exact rfl) ?_
            refine am_Ev.go hcd 1 (s' := (4, [(0, .ref 216), (1, .int a0), (2, .int a1), (3, .int a2), (4, .int a3), (5, .int (am_b t14)), (6, .int t15)], [], am_SH, (g, f))) rfl ?_
            exact am_Ev.weak' (hI1 (t14, t15) (Option.some.inj h).symm) (am_sub_cons rfl (am_sub_cons rfl (am_sub_cons rfl (am_sub_cons rfl (am_sub_cons rfl (am_sub_cons rfl (am_sub_cons rfl am_sub_nil))))))) rfl
          have hLt14 : ∀ tt, tt = t14 → am_Ev sc (d + 1) 275 (89, [(0, .ref 216), (1, .int a0), (2, .int a1), (3, .int a2), (4, .int a3), (6, .int s1.2)], [.int (am_b tt)], am_SH, (g, f)) ((some (.int (am_b r))), am_SH, (g, f)) := fun tt htt => by subst htt; exact hKt14
          have h := ht14
          rcases am_itv h with ⟨c39, h⟩ | ⟨c39, h⟩
          · refine am_Ev.t hcd (c := t13 = f 217 (439 + (2 * s1.2)).toNatClampNeg) (s1 := (86, [(0, .ref 216), (1, .int a0), (2, .int a1), (3, .int a2), (4, .int a3), (6, .int s1.2), (10, .int t13)], [], am_SH, (g, f))) rfl c39 ?_
            refine am_Ev.go hcd 2 (s' := (89, [(0, .ref 216), (1, .int a0), (2, .int a1), (3, .int a2), (4, .int a3), (6, .int s1.2), (10, .int t13)], [.int 1], am_SH, (g, f))) rfl ?_
            exact am_Ev.weak' (hLt14 true h.symm) (am_sub_cons rfl (am_sub_cons rfl (am_sub_cons rfl (am_sub_cons rfl (am_sub_cons rfl (am_sub_cons rfl am_sub_nil)))))) rfl
          · refine am_Ev.f hcd (c := t13 = f 217 (439 + (2 * s1.2)).toNatClampNeg) (s1 := (88, [(0, .ref 216), (1, .int a0), (2, .int a1), (3, .int a2), (4, .int a3), (6, .int s1.2), (10, .int t13)], [], am_SH, (g, f))) rfl c39 ?_
            refine am_Ev.go hcd 1 (s' := (89, [(0, .ref 216), (1, .int a0), (2, .int a1), (3, .int a2), (4, .int a3), (6, .int s1.2), (10, .int t13)], [.int 0], am_SH, (g, f))) rfl ?_
            exact am_Ev.weak' (hLt14 false h.symm) (am_sub_cons rfl (am_sub_cons rfl (am_sub_cons rfl (am_sub_cons rfl (am_sub_cons rfl (am_sub_cons rfl am_sub_nil)))))) rfl
        have hLt13 : ∀ tt, tt = t13 → am_Ev sc (d + 1) 275 (76, [(0, .ref 216), (1, .int a0), (2, .int a1), (3, .int a2), (4, .int a3), (6, .int s1.2), (10, .int tt)], [], am_SH, (g, f)) ((some (.int (am_b r))), am_SH, (g, f)) := fun tt htt => by subst htt; exact hKt13
        have h := ht13
        refine am_Ev.go hcd 2 (s' := (49, [(0, .ref 216), (1, .int a0), (2, .int a1), (3, .int a2), (4, .int a3), (6, .int s1.2), (7, .int p2), (8, .int p3), (9, .int p4), (10, .int t7)], [.int 3, .int a0], am_SH, (g, f))) rfl ?_
        rcases am_itv h with ⟨c48, h⟩ | ⟨c48, h⟩
        · refine am_Ev.t hcd (c := a0 = 3) (s1 := (50, [(0, .ref 216), (1, .int a0), (2, .int a1), (3, .int a2), (4, .int a3), (6, .int s1.2), (7, .int p2), (8, .int p3), (9, .int p4), (10, .int t7)], [], am_SH, (g, f))) rfl c48 ?_
          obtain ⟨t12, ht12, kt12⟩ := am_let_eq' h
          have hKt12 : am_Ev sc (d + 1) 275 (75, [(0, .ref 216), (1, .int a0), (2, .int a1), (3, .int a2), (4, .int a3), (6, .int s1.2)], [.int t12], am_SH, (g, f)) ((some (.int (am_b r))), am_SH, (g, f)) := by
            have h := kt12
            refine am_Ev.go hcd 1 (s' := (76, [(0, .ref 216), (1, .int a0), (2, .int a1), (3, .int a2), (4, .int a3), (6, .int s1.2), (10, .int t12)], [], am_SH, (g, f))) rfl ?_
            exact am_Ev.weak' (hLt13 t12 h.symm) (am_sub_cons rfl (am_sub_cons rfl (am_sub_cons rfl (am_sub_cons rfl (am_sub_cons rfl (am_sub_cons rfl (am_sub_cons rfl am_sub_nil))))))) rfl
          have hLt12 : ∀ tt, tt = t12 → am_Ev sc (d + 1) 275 (75, [(0, .ref 216), (1, .int a0), (2, .int a1), (3, .int a2), (4, .int a3), (6, .int s1.2)], [.int tt], am_SH, (g, f)) ((some (.int (am_b r))), am_SH, (g, f)) := fun tt htt => by subst htt; exact hKt12
          have h := ht12
          refine am_Ev.go hcd 1 (s' := (51, [(0, .ref 216), (1, .int a0), (2, .int a1), (3, .int a2), (4, .int a3), (6, .int s1.2), (7, .int p2), (8, .int p3), (9, .int p4), (10, .int t7)], [.int a3], am_SH, (g, f))) rfl ?_
          rcases am_itv h with ⟨c58, h⟩ | ⟨c58, h⟩
          · refine am_Ev.t hcd (c := a3 = 0) (s1 := (52, [(0, .ref 216), (1, .int a0), (2, .int a1), (3, .int a2), (4, .int a3), (6, .int s1.2), (7, .int p2), (8, .int p3), (9, .int p4), (10, .int t7)], [], am_SH, (g, f))) rfl c58 ?_
            refine am_Ev.go hcd 5 (s' := (57, [(0, .ref 216), (1, .int a0), (2, .int a1), (3, .int a2), (4, .int a3), (6, .int s1.2), (7, .int p2), (8, .int p3), (9, .int p4), (10, .int t7)], [.int p3, .int (a2 - a2 / 3 * 3), .int p2], am_SH, (g, f))) rfl ?_
            refine am_Ev.call hcd (a := 273) (s0 := (0, [(0, .int p2), (1, .int (a2 - a2 / 3 * 3)), (2, .int p3)], [], am_SH, (g, f))) (q := ((some (.int (m_joined p2 (a2 - a2 / 3 * 3) p3))), am_SH, (g, f))) (s1 := (58, [(0, .ref 216), (1, .int a0), (2, .int a1), (3, .int a2), (4, .int a3), (6, .int s1.2), (7, .int p2), (8, .int p3), (9, .int p4), (10, .int t7)], [.int (m_joined p2 (a2 - a2 / 3 * 3) p3)], am_SH, (g, f))) rfl rfl (m_joined_ok (d) p2 (a2 - a2 / 3 * 3) p3 (g, f)) ?_
            refine am_Ev.go hcd 4 (s' := (62, [(0, .ref 216), (1, .int a0), (2, .int a1), (3, .int a2), (4, .int a3), (6, .int s1.2), (7, .int p2), (8, .int p3), (9, .int p4), (10, .int t7)], [.int p4, .int (a2 / 3), .int (m_joined p2 (a2 - a2 / 3 * 3) p3)], am_SH, (g, f))) rfl ?_
            refine am_Ev.call hcd (a := 273) (s0 := (0, [(0, .int (m_joined p2 (a2 - a2 / 3 * 3) p3)), (1, .int (a2 / 3)), (2, .int p4)], [], am_SH, (g, f))) (q := ((some (.int (m_joined (m_joined p2 (a2 - a2 / 3 * 3) p3) (a2 / 3) p4))), am_SH, (g, f))) (s1 := (63, [(0, .ref 216), (1, .int a0), (2, .int a1), (3, .int a2), (4, .int a3), (6, .int s1.2), (7, .int p2), (8, .int p3), (9, .int p4), (10, .int t7)], [.int (m_joined (m_joined p2 (a2 - a2 / 3 * 3) p3) (a2 / 3) p4)], am_SH, (g, f))) rfl rfl (m_joined_ok (d) (m_joined p2 (a2 - a2 / 3 * 3) p3) (a2 / 3) p4 (g, f)) ?_
            refine am_Ev.go hcd 1 (s' := (75, [(0, .ref 216), (1, .int a0), (2, .int a1), (3, .int a2), (4, .int a3), (6, .int s1.2), (7, .int p2), (8, .int p3), (9, .int p4), (10, .int t7)], [.int (m_joined (m_joined p2 (a2 - a2 / 3 * 3) p3) (a2 / 3) p4)], am_SH, (g, f))) rfl ?_
            exact am_Ev.weak' (hLt12 (m_joined (m_joined p2 (a2 - a2 / 3 * 3) p3) (a2 / 3) p4) h.symm) (am_sub_cons rfl (am_sub_cons rfl (am_sub_cons rfl (am_sub_cons rfl (am_sub_cons rfl (am_sub_cons rfl am_sub_nil)))))) rfl
          · refine am_Ev.f hcd (c := a3 = 0) (s1 := (64, [(0, .ref 216), (1, .int a0), (2, .int a1), (3, .int a2), (4, .int a3), (6, .int s1.2), (7, .int p2), (8, .int p3), (9, .int p4), (10, .int t7)], [], am_SH, (g, f))) rfl c58 ?_
            refine am_Ev.go hcd 9 (s' := (73, [(0, .ref 216), (1, .int a0), (2, .int a1), (3, .int a2), (4, .int a3), (6, .int s1.2), (7, .int p2), (8, .int p3), (9, .int p4), (10, .int t7)], [.int p4, .int (a2 / 3), .int p3, .int (a2 - a2 / 3 * 3), .int p2], am_SH, (g, f))) rfl ?_
            refine am_Ev.call hcd (a := 273) (s0 := (0, [(0, .int p3), (1, .int (a2 / 3)), (2, .int p4)], [], am_SH, (g, f))) (q := ((some (.int (m_joined p3 (a2 / 3) p4))), am_SH, (g, f))) (s1 := (74, [(0, .ref 216), (1, .int a0), (2, .int a1), (3, .int a2), (4, .int a3), (6, .int s1.2), (7, .int p2), (8, .int p3), (9, .int p4), (10, .int t7)], [.int (m_joined p3 (a2 / 3) p4), .int (a2 - a2 / 3 * 3), .int p2], am_SH, (g, f))) rfl rfl (m_joined_ok (d) p3 (a2 / 3) p4 (g, f)) ?_
            refine am_Ev.call hcd (a := 273) (s0 := (0, [(0, .int p2), (1, .int (a2 - a2 / 3 * 3)), (2, .int (m_joined p3 (a2 / 3) p4))], [], am_SH, (g, f))) (q := ((some (.int (m_joined p2 (a2 - a2 / 3 * 3) (m_joined p3 (a2 / 3) p4)))), am_SH, (g, f))) (s1 := (75, [(0, .ref 216), (1, .int a0), (2, .int a1), (3, .int a2), (4, .int a3), (6, .int s1.2), (7, .int p2), (8, .int p3), (9, .int p4), (10, .int t7)], [.int (m_joined p2 (a2 - a2 / 3 * 3) (m_joined p3 (a2 / 3) p4))], am_SH, (g, f))) rfl rfl (m_joined_ok (d) p2 (a2 - a2 / 3 * 3) (m_joined p3 (a2 / 3) p4) (g, f)) ?_
            exact am_Ev.weak' (hLt12 (m_joined p2 (a2 - a2 / 3 * 3) (m_joined p3 (a2 / 3) p4)) h.symm) (am_sub_cons rfl (am_sub_cons rfl (am_sub_cons rfl (am_sub_cons rfl (am_sub_cons rfl (am_sub_cons rfl am_sub_nil)))))) rfl
        · refine am_Ev.f hcd (c := a0 = 3) (s1 := (76, [(0, .ref 216), (1, .int a0), (2, .int a1), (3, .int a2), (4, .int a3), (6, .int s1.2), (7, .int p2), (8, .int p3), (9, .int p4), (10, .int t7)], [], am_SH, (g, f))) rfl c48 ?_
          exact am_Ev.weak' (hLt13 t7 h.symm) (am_sub_cons rfl (am_sub_cons rfl (am_sub_cons rfl (am_sub_cons rfl (am_sub_cons rfl (am_sub_cons rfl (am_sub_cons rfl am_sub_nil))))))) rfl
      have hLt7 : ∀ tt, tt = t7 → am_Ev sc (d + 1) 275 (47, [(0, .ref 216), (1, .int a0), (2, .int a1), (3, .int a2), (4, .int a3), (6, .int s1.2), (7, .int p2), (8, .int p3), (9, .int p4), (10, .int tt)], [], am_SH, (g, f)) ((some (.int (am_b r))), am_SH, (g, f)) := fun tt htt => by subst htt; exact hKt7
      have h := ht7
      refine am_Ev.go hcd 5 (s' := (39, [(0, .ref 216), (1, .int a0), (2, .int a1), (3, .int a2), (4, .int a3), (5, .int (am_b s1.1)), (6, .int s1.2), (7, .int p2), (8, .int p3), (9, .int p4), (10, .int p2)], [.int 2, .int a0], am_SH, (g, f))) rfl ?_
      rcases am_itv h with ⟨c76, h⟩ | ⟨c76, h⟩
      · refine am_Ev.t hcd (c := a0 = 2) (s1 := (40, [(0, .ref 216), (1, .int a0), (2, .int a1), (3, .int a2), (4, .int a3), (5, .int (am_b s1.1)), (6, .int s1.2), (7, .int p2), (8, .int p3), (9, .int p4), (10, .int p2)], [], am_SH, (g, f))) rfl c76 ?_
        refine am_Ev.go hcd 5 (s' := (45, [(0, .ref 216), (1, .int a0), (2, .int a1), (3, .int a2), (4, .int a3), (5, .int (am_b s1.1)), (6, .int s1.2), (7, .int p2), (8, .int p3), (9, .int p4), (10, .int p2)], [.int p3, .int (a2 - a2 / 3 * 3), .int p2], am_SH, (g, f))) rfl ?_
        refine am_Ev.call hcd (a := 273) (s0 := (0, [(0, .int p2), (1, .int (a2 - a2 / 3 * 3)), (2, .int p3)], [], am_SH, (g, f))) (q := ((some (.int (m_joined p2 (a2 - a2 / 3 * 3) p3))), am_SH, (g, f))) (s1 := (46, [(0, .ref 216), (1, .int a0), (2, .int a1), (3, .int a2), (4, .int a3), (5, .int (am_b s1.1)), (6, .int s1.2), (7, .int p2), (8, .int p3), (9, .int p4), (10, .int p2)], [.int (m_joined p2 (a2 - a2 / 3 * 3) p3)], am_SH, (g, f))) rfl rfl (m_joined_ok (d) p2 (a2 - a2 / 3 * 3) p3 (g, f)) ?_
        obtain ⟨t6, Et6, h⟩ := am_let_eq' h
        refine am_Ev.go hcd 1 (s' := (47, [(0, .ref 216), (1, .int a0), (2, .int a1), (3, .int a2), (4, .int a3), (5, .int (am_b s1.1)), (6, .int s1.2), (7, .int p2), (8, .int p3), (9, .int p4), (10, .int t6)], [], am_SH, (g, f))) (by subst Et6; exact rfl) ?_
        exact am_Ev.weak' (hLt7 t6 h.symm) (am_sub_cons rfl (am_sub_cons rfl (am_sub_cons rfl (am_sub_cons rfl (am_sub_cons rfl (am_sub_cons rfl (am_sub_cons rfl (am_sub_cons rfl (am_sub_cons rfl (am_sub_cons rfl am_sub_nil)))))))))) rfl
      · refine am_Ev.f hcd (c := a0 = 2) (s1 := (47, [(0, .ref 216), (1, .int a0), (2, .int a1), (3, .int a2), (4, .int a3), (5, .int (am_b s1.1)), (6, .int s1.2), (7, .int p2), (8, .int p3), (9, .int p4), (10, .int p2)], [], am_SH, (g, f))) rfl c76 ?_
        exact am_Ev.weak' (hLt7 p2 h.symm) (am_sub_cons rfl (am_sub_cons rfl (am_sub_cons rfl (am_sub_cons rfl (am_sub_cons rfl (am_sub_cons rfl (am_sub_cons rfl (am_sub_cons rfl (am_sub_cons rfl (am_sub_cons rfl am_sub_nil)))))))))) rfl
    · refine am_Ev.t hcd (c := am_b s1.1 = 0) (s1 := (92, [(0, .ref 216), (1, .int a0), (2, .int a1), (3, .int a2), (4, .int a3), (5, .int (am_b s1.1)), (6, .int s1.2)], [], am_SH, (g, f))) rfl (am_b_f c9) ?_
      refine am_Ev.go hcd 1 (s' := (93, [(0, .ref 216), (1, .int a0), (2, .int a1), (3, .int a2), (4, .int a3), (5, .int (am_b s1.1)), (6, .int s1.2)], [.int (am_b s1.1)], am_SH, (g, f))) rfl ?_
      exact am_Ev.cast (a := ((some (.int (am_b s1.1))), am_SH, (g, f))) (hZ1 _ (Option.some.inj h).symm) (am_Ev.retb hcd rfl)
  · refine am_Ev.f hcd (c := s1.2 < f 217 437) (s1 := (92, [(0, .ref 216), (1, .int a0), (2, .int a1), (3, .int a2), (4, .int a3), (5, .int (am_b s1.1)), (6, .int s1.2)], [], am_SH, (g, f))) rfl c6 ?_
    refine am_Ev.go hcd 1 (s' := (93, [(0, .ref 216), (1, .int a0), (2, .int a1), (3, .int a2), (4, .int a3), (5, .int (am_b s1.1)), (6, .int s1.2)], [.int (am_b s1.1)], am_SH, (g, f))) rfl ?_
    exact am_Ev.cast (a := ((some (.int (am_b s1.1))), am_SH, (g, f))) (hZ1 _ (Option.some.inj h).symm) (am_Ev.retb hcd rfl)
set_option maxRecDepth 100000 in
set_option maxHeartbeats 4000000 in
theorem m_makesAny_ok {sc : Nat × (Nat → Int32)} (d : Nat) (a0 : Int32) (f g : (Nat → Nat → Int32)) (r : Bool) (h : m_makesAny a0 f = some r) : am_Ev sc (d + 2) 276 (0, [(0, .ref 216), (1, .int a0)], [], am_SH, (g, f)) ((some (.int (am_b r))), am_SH, (g, f)) := by
  have hcd : am_code 276 = am_c276 := rfl
  unfold m_makesAny at h
  refine am_Ev.go hcd 2 (s' := (2, [(0, .ref 216), (1, .int a0), (2, .int 0)], [], am_SH, (g, f))) rfl ?_
  refine am_Ev.weak' (am_loop_ok (G := fun (s1 : Int32) => am_Ev sc (d + 2) 276 (2, [(0, .ref 216), (1, .int a0), (2, .int s1)], [], am_SH, (g, f)) ((some (.int (am_b r))), am_SH, (g, f))) (Z := fun (v : Bool) => (((some (.int (am_b v))), am_SH, (g, f)) : am_R) = ((some (.int (am_b r))), am_SH, (g, f))) ?_ am_F 0 r h rfl) (am_sub_cons rfl (am_sub_cons rfl (am_sub_cons rfl am_sub_nil))) rfl
  intro s1 q1 h hI1 hZ1
  show am_Ev sc (d + 2) 276 (2, [(0, .ref 216), (1, .int a0), (2, .int s1)], [], am_SH, (g, f)) ((some (.int (am_b r))), am_SH, (g, f))
  refine am_Ev.go hcd 2 (s' := (4, [(0, .ref 216), (1, .int a0), (2, .int s1)], [.int 1000, .int s1], am_SH, (g, f))) rfl ?_
  rcases am_ite h with ⟨c6, h⟩ | ⟨c6, h⟩
  · refine am_Ev.t hcd (c := s1 < 1000) (s1 := (5, [(0, .ref 216), (1, .int a0), (2, .int s1)], [], am_SH, (g, f))) rfl c6 ?_
    refine am_Ev.go hcd 2 (s' := (7, [(0, .ref 216), (1, .int a0), (2, .int s1), (3, .int 0)], [], am_SH, (g, f))) rfl ?_
    obtain ⟨e6, he6, h⟩ := am_bind_some h
    have hK2 : (fun (v : (Bool) ⊕ (Unit)) => v.elim (fun (v : Bool) => (((some (.int (am_b v))), am_SH, (g, f)) : am_R) = ((some (.int (am_b r))), am_SH, (g, f))) (fun (e7 : Unit) => am_Ev sc (d + 2) 276 (28, [(0, .ref 216), (1, .int a0), (2, .int s1)], [], am_SH, (g, f)) ((some (.int (am_b r))), am_SH, (g, f)))) e6 := by
      cases e6 with
      | inl v => exact (hZ1 _ (Option.some.inj h).symm)
      | inr e7 =>
        have h := am_elim_r h
        show am_Ev sc (d + 2) 276 (28, [(0, .ref 216), (1, .int a0), (2, .int s1)], [], am_SH, (g, f)) ((some (.int (am_b r))), am_SH, (g, f))
        obtain ⟨t8, Et8, h⟩ := am_let_eq h
        refine am_Ev.go hcd 1 (s' := (29, [(0, .ref 216), (1, .int a0), (2, .int t8)], [], am_SH, (g, f))) (by subst Et8; exact rfl) ?_
        refine am_Ev.go hcd 1 (s' := (2, [(0, .ref 216), (1, .int a0), (2, .int t8)], [], am_SH, (g, f))) rfl ?_
        exact am_Ev.weak' (hI1 t8 (Option.some.inj h).symm) (am_sub_cons rfl (am_sub_cons rfl (am_sub_cons rfl am_sub_nil))) rfl
    refine am_Ev.weak' (am_loop_ok (G := fun (s2 : Int32) => am_Ev sc (d + 2) 276 (7, [(0, .ref 216), (1, .int a0), (2, .int s1), (3, .int s2)], [], am_SH, (g, f)) ((some (.int (am_b r))), am_SH, (g, f))) (Z := fun (v : (Bool) ⊕ (Unit)) => v.elim (fun (v : Bool) => (((some (.int (am_b v))), am_SH, (g, f)) : am_R) = ((some (.int (am_b r))), am_SH, (g, f))) (fun (e7 : Unit) => am_Ev sc (d + 2) 276 (28, [(0, .ref 216), (1, .int a0), (2, .int s1)], [], am_SH, (g, f)) ((some (.int (am_b r))), am_SH, (g, f)))) ?_ am_F 0 e6 he6 hK2) (am_sub_cons rfl (am_sub_cons rfl (am_sub_cons rfl (am_sub_cons rfl am_sub_nil)))) rfl
    intro s2 q2 h hI2 hZ2
    show am_Ev sc (d + 2) 276 (7, [(0, .ref 216), (1, .int a0), (2, .int s1), (3, .int s2)], [], am_SH, (g, f)) ((some (.int (am_b r))), am_SH, (g, f))
    refine am_Ev.go hcd 2 (s' := (9, [(0, .ref 216), (1, .int a0), (2, .int s1), (3, .int s2)], [.int 9, .int s2], am_SH, (g, f))) rfl ?_
    rcases am_ite h with ⟨c24, h⟩ | ⟨c24, h⟩
    · refine am_Ev.t hcd (c := s2 < 9) (s1 := (10, [(0, .ref 216), (1, .int a0), (2, .int s1), (3, .int s2)], [], am_SH, (g, f))) rfl c24 ?_
      refine am_Ev.go hcd 5 (s' := (15, [(0, .ref 216), (1, .int a0), (2, .int s1), (3, .int s2)], [.int 0, .int s2, .int s1, .int a0, .ref 216], am_SH, (g, f))) rfl ?_
      obtain ⟨p3, hp3, h⟩ := am_bind_some h
      refine am_Ev.call hcd (a := 275) (s0 := (0, [(0, .ref 216), (1, .int a0), (2, .int s1), (3, .int s2), (4, .int 0)], [], am_SH, (g, f))) (q := ((some (.int (am_b p3))), am_SH, (g, f))) (s1 := (16, [(0, .ref 216), (1, .int a0), (2, .int s1), (3, .int s2)], [.int (am_b p3)], am_SH, (g, f))) rfl rfl (m_makes_ok (d) a0 s1 s2 0 f g p3 hp3) ?_
      rcases am_ite h with ⟨c30, h⟩ | ⟨c30, h⟩
      · refine am_Ev.f hcd (c := am_b p3 = 0) (s1 := (24, [(0, .ref 216), (1, .int a0), (2, .int s1), (3, .int s2)], [], am_SH, (g, f))) rfl (am_b_t c30) ?_
        refine am_Ev.go hcd 1 (s' := (25, [(0, .ref 216), (1, .int a0), (2, .int s1), (3, .int s2)], [.int 1], am_SH, (g, f))) rfl ?_
        exact am_Ev.cast (a := ((some (.int (am_b true))), am_SH, (g, f))) (hZ2 _ (Option.some.inj h).symm) (am_Ev.ret hcd rfl)
      · refine am_Ev.t hcd (c := am_b p3 = 0) (s1 := (17, [(0, .ref 216), (1, .int a0), (2, .int s1), (3, .int s2)], [], am_SH, (g, f))) rfl (am_b_f c30) ?_
        refine am_Ev.go hcd 5 (s' := (22, [(0, .ref 216), (1, .int a0), (2, .int s1), (3, .int s2)], [.int 1, .int s2, .int s1, .int a0, .ref 216], am_SH, (g, f))) rfl ?_
        obtain ⟨p4, hp4, h⟩ := am_bind_some h
        refine am_Ev.call hcd (a := 275) (s0 := (0, [(0, .ref 216), (1, .int a0), (2, .int s1), (3, .int s2), (4, .int 1)], [], am_SH, (g, f))) (q := ((some (.int (am_b p4))), am_SH, (g, f))) (s1 := (23, [(0, .ref 216), (1, .int a0), (2, .int s1), (3, .int s2)], [.int (am_b p4)], am_SH, (g, f))) rfl rfl (m_makes_ok (d) a0 s1 s2 1 f g p4 hp4) ?_
        rcases am_ite h with ⟨c38, h⟩ | ⟨c38, h⟩
        · refine am_Ev.f hcd (c := am_b p4 = 0) (s1 := (24, [(0, .ref 216), (1, .int a0), (2, .int s1), (3, .int s2)], [], am_SH, (g, f))) rfl (am_b_t c38) ?_
          refine am_Ev.go hcd 1 (s' := (25, [(0, .ref 216), (1, .int a0), (2, .int s1), (3, .int s2)], [.int 1], am_SH, (g, f))) rfl ?_
          exact am_Ev.cast (a := ((some (.int (am_b true))), am_SH, (g, f))) (hZ2 _ (Option.some.inj h).symm) (am_Ev.ret hcd rfl)
        · refine am_Ev.t hcd (c := am_b p4 = 0) (s1 := (26, [(0, .ref 216), (1, .int a0), (2, .int s1), (3, .int s2)], [], am_SH, (g, f))) rfl (am_b_f c38) ?_
          obtain ⟨t5, Et5, h⟩ := am_let_eq h
          refine am_Ev.go hcd 1 (s' := (27, [(0, .ref 216), (1, .int a0), (2, .int s1), (3, .int t5)], [], am_SH, (g, f))) (by subst Et5; exact rfl) ?_
          refine am_Ev.go hcd 1 (s' := (7, [(0, .ref 216), (1, .int a0), (2, .int s1), (3, .int t5)], [], am_SH, (g, f))) rfl ?_
          exact am_Ev.weak' (hI2 t5 (Option.some.inj h).symm) (am_sub_cons rfl (am_sub_cons rfl (am_sub_cons rfl (am_sub_cons rfl am_sub_nil)))) rfl
    · refine am_Ev.f hcd (c := s2 < 9) (s1 := (28, [(0, .ref 216), (1, .int a0), (2, .int s1), (3, .int s2)], [], am_SH, (g, f))) rfl c24 ?_
      exact am_Ev.weak' (hZ2 (.inr ()) (Option.some.inj h).symm) (am_sub_cons rfl (am_sub_cons rfl (am_sub_cons rfl am_sub_nil))) rfl
  · refine am_Ev.f hcd (c := s1 < 1000) (s1 := (30, [(0, .ref 216), (1, .int a0), (2, .int s1)], [], am_SH, (g, f))) rfl c6 ?_
    refine am_Ev.go hcd 1 (s' := (31, [(0, .ref 216), (1, .int a0), (2, .int s1)], [.int 0], am_SH, (g, f))) rfl ?_
    exact am_Ev.cast (a := ((some (.int (am_b false))), am_SH, (g, f))) (hZ1 _ (Option.some.inj h).symm) (am_Ev.ret hcd rfl)
set_option maxRecDepth 100000 in
set_option maxHeartbeats 4000000 in
theorem m_term_ok {sc : Nat × (Nat → Int32)} (d : Nat)  (f g : (Nat → Nat → Int32)) (r : Int32) (h : m_term  f = some r) : am_Ev sc (d + 3) 277 (0, [(0, .ref 216)], [], am_SH, (g, f)) ((some (.int r)), am_SH, (g, f)) := by
  have hcd : am_code 277 = am_c277 := rfl
  unfold m_term at h
  refine am_Ev.go hcd 2 (s' := (2, [(0, .ref 216), (1, .int 1)], [], am_SH, (g, f))) rfl ?_
  refine am_Ev.weak' (am_loop_ok (G := fun (s1 : Int32) => am_Ev sc (d + 3) 277 (2, [(0, .ref 216), (1, .int s1)], [], am_SH, (g, f)) ((some (.int r)), am_SH, (g, f))) (Z := fun (v : Int32) => (((some (.int v)), am_SH, (g, f)) : am_R) = ((some (.int r)), am_SH, (g, f))) ?_ am_F 1 r h rfl) (am_sub_cons rfl (am_sub_cons rfl am_sub_nil)) rfl
  intro s1 q1 h hI1 hZ1
  show am_Ev sc (d + 3) 277 (2, [(0, .ref 216), (1, .int s1)], [], am_SH, (g, f)) ((some (.int r)), am_SH, (g, f))
  refine am_Ev.go hcd 2 (s' := (4, [(0, .ref 216), (1, .int s1)], [.int 4, .int s1], am_SH, (g, f))) rfl ?_
  rcases am_ite h with ⟨c6, h⟩ | ⟨c6, h⟩
  · refine am_Ev.t hcd (c := s1 < 4) (s1 := (5, [(0, .ref 216), (1, .int s1)], [], am_SH, (g, f))) rfl c6 ?_
    refine am_Ev.go hcd 2 (s' := (7, [(0, .ref 216), (1, .int s1)], [.int s1, .ref 216], am_SH, (g, f))) rfl ?_
    obtain ⟨p2, hp2, h⟩ := am_bind_some h
    refine am_Ev.call hcd (a := 276) (s0 := (0, [(0, .ref 216), (1, .int s1)], [], am_SH, (g, f))) (q := ((some (.int (am_b p2))), am_SH, (g, f))) (s1 := (8, [(0, .ref 216), (1, .int s1)], [.int (am_b p2)], am_SH, (g, f))) rfl rfl (m_makesAny_ok (d) s1 f g p2 hp2) ?_
    rcases am_ite h with ⟨c12, h⟩ | ⟨c12, h⟩
    · refine am_Ev.f hcd (c := am_b p2 = 0) (s1 := (9, [(0, .ref 216), (1, .int s1)], [], am_SH, (g, f))) rfl (am_b_t c12) ?_
      refine am_Ev.go hcd 1 (s' := (10, [(0, .ref 216), (1, .int s1)], [.int s1], am_SH, (g, f))) rfl ?_
      exact am_Ev.cast (a := ((some (.int s1)), am_SH, (g, f))) (hZ1 _ (Option.some.inj h).symm) (am_Ev.ret hcd rfl)
    · refine am_Ev.t hcd (c := am_b p2 = 0) (s1 := (11, [(0, .ref 216), (1, .int s1)], [], am_SH, (g, f))) rfl (am_b_f c12) ?_
      obtain ⟨t3, Et3, h⟩ := am_let_eq h
      refine am_Ev.go hcd 1 (s' := (12, [(0, .ref 216), (1, .int t3)], [], am_SH, (g, f))) (by subst Et3; exact rfl) ?_
      refine am_Ev.go hcd 1 (s' := (2, [(0, .ref 216), (1, .int t3)], [], am_SH, (g, f))) rfl ?_
      exact am_Ev.weak' (hI1 t3 (Option.some.inj h).symm) (am_sub_cons rfl (am_sub_cons rfl am_sub_nil)) rfl
  · refine am_Ev.f hcd (c := s1 < 4) (s1 := (13, [(0, .ref 216), (1, .int s1)], [], am_SH, (g, f))) rfl c6 ?_
    refine am_Ev.go hcd 1 (s' := (14, [(0, .ref 216), (1, .int s1)], [.int (-1)], am_SH, (g, f))) rfl ?_
    exact am_Ev.cast (a := ((some (.int (-1))), am_SH, (g, f))) (hZ1 _ (Option.some.inj h).symm) (am_Ev.ret hcd rfl)
set_option maxRecDepth 100000 in
set_option maxHeartbeats 4000000 in
theorem m_saying_ok {sc : Nat × (Nat → Int32)} (d : Nat) (a0 : Int32) (a1 : Int32) (f g : (Nat → Nat → Int32)) (r : Int32 × (Nat → Nat → Int32)) (h : m_saying a0 a1 f = some r) : am_Ev sc (d + 1) 278 (0, [(0, .ref 216), (1, .int a0), (2, .int a1)], [], am_SH, (g, f)) ((some (.int r.1)), am_SH, (g, r.2)) := by
  have hcd : am_code 278 = am_c278 := rfl
  unfold m_saying at h
  refine am_Ev.go hcd 2 (s' := (2, [(0, .ref 216), (1, .int a0), (2, .int a1)], [.int (-1), .int a0], am_SH, (g, f))) rfl ?_
  rcases am_ite h with ⟨c2, h⟩ | ⟨c2, h⟩
  · refine am_Ev.t hcd (c := a0 = (-1)) (s1 := (3, [(0, .ref 216), (1, .int a0), (2, .int a1)], [], am_SH, (g, f))) rfl c2 ?_
    refine am_Ev.go hcd 2 (s' := (5, [(0, .ref 216), (1, .int a0), (2, .int a1)], [.int 446, .ref 216], am_SH, (g, f))) rfl ?_
    obtain ⟨p1, hp1, h⟩ := am_bind_some h
    refine am_Ev.call hcd (a := 262) (s0 := (0, [(0, .ref 216), (1, .int 446)], [], am_SH, (g, f))) (q := ((some (.int p1.1)), am_SH, (g, p1.2))) (s1 := (6, [(0, .ref 216), (1, .int a0), (2, .int a1)], [.int p1.1], am_SH, (g, p1.2))) rfl rfl (m_endsRow_ok (d) 446 f g p1 hp1) ?_
    exact am_Ev.cast (a := ((some (.int (p1.1, p1.2).1)), am_SH, (g, (p1.1, p1.2).2))) (by cases h; rfl) (am_Ev.ret hcd rfl)
  · refine am_Ev.f hcd (c := a0 = (-1)) (s1 := (7, [(0, .ref 216), (1, .int a0), (2, .int a1)], [], am_SH, (g, f))) rfl c2 ?_
    refine am_Ev.go hcd 3 (s' := (10, [(0, .ref 216), (1, .int a0), (2, .int a1)], [.int 3, .int 0, .int a0], am_SH, (g, f))) rfl ?_
    refine am_Ev.call hcd (a := 176) (s0 := (0, [(0, .int a0), (1, .int 0), (2, .int 3)], [], am_SH, (g, f))) (q := ((some (.int (am_b (m_isIn a0 0 3)))), am_SH, (g, f))) (s1 := (11, [(0, .ref 216), (1, .int a0), (2, .int a1)], [.int (am_b (m_isIn a0 0 3))], am_SH, (g, f))) rfl rfl (m_isIn_ok (d) a0 0 3 (g, f)) ?_
    rcases am_ite h with ⟨c12, h⟩ | ⟨c12, h⟩
    · refine am_Ev.f hcd (c := am_b (m_isIn a0 0 3) = 0) (s1 := (12, [(0, .ref 216), (1, .int a0), (2, .int a1)], [], am_SH, (g, f))) rfl (am_b_t c12) ?_
      refine am_Ev.go hcd 2 (s' := (14, [(0, .ref 216), (1, .int a0), (2, .int a1)], [.int 1, .int a0], am_SH, (g, f))) rfl ?_
      rcases am_ite h with ⟨c14, h⟩ | ⟨c14, h⟩
      · refine am_Ev.t hcd (c := 1 < a0) (s1 := (20, [(0, .ref 216), (1, .int a0), (2, .int a1)], [], am_SH, (g, f))) rfl c14 ?_
        refine am_Ev.go hcd 5 (s' := (25, [(0, .ref 216), (1, .int a0), (2, .int a1)], [.int a1, .int a0, .int 6, .int 446, .ref 216], am_SH, (g, f))) rfl ?_
        obtain ⟨p3, hp3, h⟩ := am_bind_some h
        refine am_Ev.call hcd (a := 261) (s0 := (0, [(0, .ref 216), (1, .int 446), (2, .int 6), (3, .int a0), (4, .int a1)], [], am_SH, (g, f))) (q := ((some (.int p3.1)), am_SH, (g, p3.2))) (s1 := (26, [(0, .ref 216), (1, .int a0), (2, .int a1)], [.int p3.1], am_SH, (g, p3.2))) rfl rfl (m_tellsTwo_ok (d) 446 6 a0 a1 f g p3 hp3) ?_
        refine am_Ev.go hcd 1 (s' := (28, [(0, .ref 216), (1, .int a0), (2, .int a1)], [.int p3.1], am_SH, (g, p3.2))) rfl ?_
        exact am_Ev.cast (a := ((some (.int (p3.1, p3.2).1)), am_SH, (g, (p3.1, p3.2).2))) (by cases h; rfl) (am_Ev.ret hcd rfl)
      · refine am_Ev.f hcd (c := 1 < a0) (s1 := (15, [(0, .ref 216), (1, .int a0), (2, .int a1)], [], am_SH, (g, f))) rfl c14 ?_
        refine am_Ev.go hcd 3 (s' := (18, [(0, .ref 216), (1, .int a0), (2, .int a1)], [.int 50, .int 1, .int a1], am_SH, (g, f))) rfl ?_
        refine am_Ev.call hcd (a := 176) (s0 := (0, [(0, .int a1), (1, .int 1), (2, .int 50)], [], am_SH, (g, f))) (q := ((some (.int (am_b (m_isIn a1 1 50)))), am_SH, (g, f))) (s1 := (19, [(0, .ref 216), (1, .int a0), (2, .int a1)], [.int (am_b (m_isIn a1 1 50))], am_SH, (g, f))) rfl rfl (m_isIn_ok (d) a1 1 50 (g, f)) ?_
        rcases am_ite h with ⟨c25, h⟩ | ⟨c25, h⟩
        · refine am_Ev.f hcd (c := am_b (m_isIn a1 1 50) = 0) (s1 := (20, [(0, .ref 216), (1, .int a0), (2, .int a1)], [], am_SH, (g, f))) rfl (am_b_t c25) ?_
          refine am_Ev.go hcd 5 (s' := (25, [(0, .ref 216), (1, .int a0), (2, .int a1)], [.int a1, .int a0, .int 6, .int 446, .ref 216], am_SH, (g, f))) rfl ?_
          obtain ⟨p5, hp5, h⟩ := am_bind_some h
          refine am_Ev.call hcd (a := 261) (s0 := (0, [(0, .ref 216), (1, .int 446), (2, .int 6), (3, .int a0), (4, .int a1)], [], am_SH, (g, f))) (q := ((some (.int p5.1)), am_SH, (g, p5.2))) (s1 := (26, [(0, .ref 216), (1, .int a0), (2, .int a1)], [.int p5.1], am_SH, (g, p5.2))) rfl rfl (m_tellsTwo_ok (d) 446 6 a0 a1 f g p5 hp5) ?_
          refine am_Ev.go hcd 1 (s' := (28, [(0, .ref 216), (1, .int a0), (2, .int a1)], [.int p5.1], am_SH, (g, p5.2))) rfl ?_
          exact am_Ev.cast (a := ((some (.int (p5.1, p5.2).1)), am_SH, (g, (p5.1, p5.2).2))) (by cases h; rfl) (am_Ev.ret hcd rfl)
        · refine am_Ev.t hcd (c := am_b (m_isIn a1 1 50) = 0) (s1 := (27, [(0, .ref 216), (1, .int a0), (2, .int a1)], [], am_SH, (g, f))) rfl (am_b_f c25) ?_
          refine am_Ev.go hcd 1 (s' := (28, [(0, .ref 216), (1, .int a0), (2, .int a1)], [.int (-1)], am_SH, (g, f))) rfl ?_
          exact am_Ev.cast (a := ((some (.int ((-1), f).1)), am_SH, (g, ((-1), f).2))) (by cases h; rfl) (am_Ev.ret hcd rfl)
    · refine am_Ev.t hcd (c := am_b (m_isIn a0 0 3) = 0) (s1 := (27, [(0, .ref 216), (1, .int a0), (2, .int a1)], [], am_SH, (g, f))) rfl (am_b_f c12) ?_
      refine am_Ev.go hcd 1 (s' := (28, [(0, .ref 216), (1, .int a0), (2, .int a1)], [.int (-1)], am_SH, (g, f))) rfl ?_
      exact am_Ev.cast (a := ((some (.int ((-1), f).1)), am_SH, (g, ((-1), f).2))) (by cases h; rfl) (am_Ev.ret hcd rfl)
set_option maxRecDepth 100000 in
set_option maxHeartbeats 4000000 in
theorem m_heatBy_ok {sc : Nat × (Nat → Int32)} (d : Nat) (a0 : Int32) (a1 : Int32) (f g : (Nat → Nat → Int32)) (r : Int32) (h : m_heatBy a0 a1 f = some r) : am_Ev sc (d) 279 (0, [(0, .ref 216), (1, .int a0), (2, .int a1)], [], am_SH, (g, f)) ((some (.int r)), am_SH, (g, f)) := by
  have hcd : am_code 279 = am_c279 := rfl
  unfold m_heatBy at h
  refine am_Ev.go hcd 7 (s' := (7, [(0, .ref 216), (1, .int a0), (2, .int a1)], [.int (448 + (2 * a0)), .ref 217], am_SH, (g, f))) rfl ?_
  obtain ⟨c2, h⟩ := am_grd h
  refine am_Ev.t hcd (o := none) (c := am_in (448 + (2 * a0)) 2008 = true) (s1 := (8, [(0, .ref 216), (1, .int a0), (2, .int a1)], [.int (f 217 (448 + (2 * a0)).toNatClampNeg)], am_SH, (g, f))) rfl c2 ?_
  obtain ⟨t1, Et1, h⟩ := am_let_eq h
  refine am_Ev.go hcd 1 (s' := (9, [(0, .ref 216), (1, .int a0), (2, .int a1), (3, .int t1)], [], am_SH, (g, f))) (by subst Et1; exact rfl) ?_
  refine am_Ev.go hcd 7 (s' := (16, [(0, .ref 216), (1, .int a0), (2, .int a1), (3, .int t1)], [.int (447 + (2 * a0)), .ref 217], am_SH, (g, f))) rfl ?_
  obtain ⟨c7, h⟩ := am_grd h
  refine am_Ev.t hcd (o := none) (c := am_in (447 + (2 * a0)) 2008 = true) (s1 := (17, [(0, .ref 216), (1, .int a0), (2, .int a1), (3, .int t1)], [.int (f 217 (447 + (2 * a0)).toNatClampNeg)], am_SH, (g, f))) rfl c7 ?_
  refine am_Ev.one hcd (s' := (am_swt (f 217 (447 + (2 * a0)).toNatClampNeg) [(0, 18), (1, 22), (2, 26)] 30, [(0, .ref 216), (1, .int a0), (2, .int a1), (3, .int t1)], [], am_SH, (g, f))) rfl ?_
  rcases am_ite h with ⟨c11, h⟩ | ⟨c11, h⟩
  · rw [am_swt_t c11]
    refine am_Ev.go hcd 3 (s' := (21, [(0, .ref 216), (1, .int a0), (2, .int a1), (3, .int t1)], [.int (a1 - t1)], am_SH, (g, f))) rfl ?_
    exact am_Ev.cast (a := ((some (.int (a1 - t1))), am_SH, (g, f))) (by cases h; rfl) (am_Ev.ret hcd rfl)
  rw [am_swt_f c11]
  rcases am_ite h with ⟨c16, h⟩ | ⟨c16, h⟩
  · rw [am_swt_t c16]
    refine am_Ev.go hcd 3 (s' := (25, [(0, .ref 216), (1, .int a0), (2, .int a1), (3, .int t1)], [.int (a1 + t1)], am_SH, (g, f))) rfl ?_
    exact am_Ev.cast (a := ((some (.int (a1 + t1))), am_SH, (g, f))) (by cases h; rfl) (am_Ev.ret hcd rfl)
  rw [am_swt_f c16]
  rcases am_ite h with ⟨c21, h⟩ | ⟨c21, h⟩
  · rw [am_swt_t c21]
    refine am_Ev.go hcd 3 (s' := (29, [(0, .ref 216), (1, .int a0), (2, .int a1), (3, .int t1)], [.int (a1 / 2)], am_SH, (g, f))) rfl ?_
    exact am_Ev.cast (a := ((some (.int (a1 / 2))), am_SH, (g, f))) (by cases h; rfl) (am_Ev.ret hcd rfl)
  rw [am_swt_f c21]
  rw [am_swt_n]
  refine am_Ev.go hcd 3 (s' := (33, [(0, .ref 216), (1, .int a0), (2, .int a1), (3, .int t1)], [.int (2 * a1)], am_SH, (g, f))) rfl ?_
  exact am_Ev.cast (a := ((some (.int (2 * a1))), am_SH, (g, f))) (by cases h; rfl) (am_Ev.ret hcd rfl)
