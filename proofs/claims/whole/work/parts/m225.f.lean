set_option maxRecDepth 100000 in
set_option maxHeartbeats 4000000 in
theorem m_set_ok {sc : Nat × (Nat → Int32)} (d : Nat) (a0 : Int32) (a1 : Int32) (a2 : Int32) (f g : (Nat → Nat → Int32)) (r : Bool × (Nat → Nat → Int32)) (h : m_set a0 a1 a2 f = some r) : am_Ev sc (d + 2) 189 (0, [(0, .ref 216), (1, .int a0), (2, .int a1), (3, .int a2)], [], am_SH, (g, f)) ((some (.int (am_b r.1))), am_SH, (g, r.2)) := by
  have hcd : am_code 189 = am_c189 := rfl
  unfold m_set at h
  obtain ⟨t7, ht7, kt7⟩ := am_let_eq h
  have hKt7 : am_Ev sc (d + 2) 189 (46, [(0, .ref 216), (1, .int a0), (2, .int a1), (3, .int a2)], [.int (am_b t7)], am_SH, (g, f)) ((some (.int (am_b r.1))), am_SH, (g, r.2)) := by
    have h := kt7
    refine am_Ev.go hcd 2 (s' := (48, [(0, .ref 216), (1, .int a0), (2, .int a1), (3, .int a2), (4, .int (am_b t7))], [.int (am_b t7)], am_SH, (g, f))) rfl ?_
    rcases am_ite h with ⟨c5, h⟩ | ⟨c5, h⟩
    · refine am_Ev.f hcd (c := am_b t7 = 0) (s1 := (51, [(0, .ref 216), (1, .int a0), (2, .int a1), (3, .int a2), (4, .int (am_b t7))], [], am_SH, (g, f))) rfl (am_b_t c5) ?_
      obtain ⟨t8, ht8, kt8⟩ := am_let_eq h
      have hKt8 : am_Ev sc (d + 2) 189 (69, [(0, .ref 216), (3, .int a2)], [.int t8, .ref 217], am_SH, (g, f)) ((some (.int (am_b r.1))), am_SH, (g, r.2)) := by
        have h := kt8
        refine am_Ev.go hcd 1 (s' := (70, [(0, .ref 216), (3, .int a2)], [.int a2, .int t8, .ref 217], am_SH, (g, f))) rfl ?_
        obtain ⟨c11, h⟩ := am_grd h
        obtain ⟨f9, Ef9, h⟩ := am_let_eq h
        refine am_Ev.t hcd (o := none) (c := am_in t8 2008 = true) (s1 := (71, [(0, .ref 216), (3, .int a2)], [], am_SH, (g, f9))) (by subst Ef9; exact rfl) c11 ?_
        refine am_Ev.go hcd 1 (s' := (72, [(0, .ref 216), (3, .int a2)], [.ref 216], am_SH, (g, f9))) rfl ?_
        obtain ⟨p10, Ep10, h⟩ := am_let_eq h
        refine am_Ev.call hcd (a := 184) (s0 := (0, [(0, .ref 216)], [], am_SH, (g, f9))) (q := (none, am_SH, (g, p10))) (s1 := (73, [(0, .ref 216), (3, .int a2)], [], am_SH, (g, p10))) rfl rfl (by subst Ep10; exact m_forgets_ok (d + 1)  f9 g) ?_
        refine am_Ev.go hcd 1 (s' := (74, [(0, .ref 216), (3, .int a2)], [.int 1], am_SH, (g, p10))) rfl ?_
        exact am_Ev.cast (a := ((some (.int (am_b (true, p10).1))), am_SH, (g, (true, p10).2))) (by cases h; rfl) (am_Ev.ret hcd rfl)
      have hLt8 : ∀ tt, tt = t8 → am_Ev sc (d + 2) 189 (69, [(0, .ref 216), (3, .int a2)], [.int tt, .ref 217], am_SH, (g, f)) ((some (.int (am_b r.1))), am_SH, (g, r.2)) := fun tt htt => by subst htt; exact hKt8
      have h := ht8
      refine am_Ev.go hcd 3 (s' := (54, [(0, .ref 216), (1, .int a0), (2, .int a1), (3, .int a2), (4, .int (am_b t7))], [.int a0, .ref 217], am_SH, (g, f))) rfl ?_
      rcases am_itv h with ⟨c22, h⟩ | ⟨c22, h⟩
      · refine am_Ev.t hcd (c := a0 = 0) (s1 := (55, [(0, .ref 216), (1, .int a0), (2, .int a1), (3, .int a2), (4, .int (am_b t7))], [.ref 217], am_SH, (g, f))) rfl c22 ?_
        refine am_Ev.go hcd 4 (s' := (69, [(0, .ref 216), (1, .int a0), (2, .int a1), (3, .int a2), (4, .int (am_b t7))], [.int (3 + a1), .ref 217], am_SH, (g, f))) rfl ?_
        exact am_Ev.weak' (hLt8 (3 + a1) h.symm) (am_sub_cons rfl (am_sub_cons rfl am_sub_nil)) rfl
      · refine am_Ev.f hcd (c := a0 = 0) (s1 := (59, [(0, .ref 216), (1, .int a0), (2, .int a1), (3, .int a2), (4, .int (am_b t7))], [.ref 217], am_SH, (g, f))) rfl c22 ?_
        refine am_Ev.go hcd 2 (s' := (61, [(0, .ref 216), (1, .int a0), (2, .int a1), (3, .int a2), (4, .int (am_b t7))], [.int 1, .int a0, .ref 217], am_SH, (g, f))) rfl ?_
        rcases am_itv h with ⟨c28, h⟩ | ⟨c28, h⟩
        · refine am_Ev.t hcd (c := a0 = 1) (s1 := (62, [(0, .ref 216), (1, .int a0), (2, .int a1), (3, .int a2), (4, .int (am_b t7))], [.ref 217], am_SH, (g, f))) rfl c28 ?_
          refine am_Ev.go hcd 4 (s' := (69, [(0, .ref 216), (1, .int a0), (2, .int a1), (3, .int a2), (4, .int (am_b t7))], [.int (9 + a1), .ref 217], am_SH, (g, f))) rfl ?_
          exact am_Ev.weak' (hLt8 (9 + a1) h.symm) (am_sub_cons rfl (am_sub_cons rfl am_sub_nil)) rfl
        · refine am_Ev.f hcd (c := a0 = 1) (s1 := (66, [(0, .ref 216), (1, .int a0), (2, .int a1), (3, .int a2), (4, .int (am_b t7))], [.ref 217], am_SH, (g, f))) rfl c28 ?_
          refine am_Ev.go hcd 3 (s' := (69, [(0, .ref 216), (1, .int a0), (2, .int a1), (3, .int a2), (4, .int (am_b t7))], [.int (33 + a1), .ref 217], am_SH, (g, f))) rfl ?_
          exact am_Ev.weak' (hLt8 (33 + a1) h.symm) (am_sub_cons rfl (am_sub_cons rfl am_sub_nil)) rfl
    · refine am_Ev.t hcd (c := am_b t7 = 0) (s1 := (49, [(0, .ref 216), (1, .int a0), (2, .int a1), (3, .int a2), (4, .int (am_b t7))], [], am_SH, (g, f))) rfl (am_b_f c5) ?_
      refine am_Ev.go hcd 1 (s' := (50, [(0, .ref 216), (1, .int a0), (2, .int a1), (3, .int a2), (4, .int (am_b t7))], [.int 0], am_SH, (g, f))) rfl ?_
      exact am_Ev.cast (a := ((some (.int (am_b (false, f).1))), am_SH, (g, (false, f).2))) (by cases h; rfl) (am_Ev.ret hcd rfl)
  have hLt7 : ∀ tt, tt = t7 → am_Ev sc (d + 2) 189 (46, [(0, .ref 216), (1, .int a0), (2, .int a1), (3, .int a2)], [.int (am_b tt)], am_SH, (g, f)) ((some (.int (am_b r.1))), am_SH, (g, r.2)) := fun tt htt => by subst htt; exact hKt7
  have h := ht7
  refine am_Ev.go hcd 1 (s' := (1, [(0, .ref 216), (1, .int a0), (2, .int a1), (3, .int a2)], [.int a0], am_SH, (g, f))) rfl ?_
  rcases am_itv h with ⟨c41, h⟩ | ⟨c41, h⟩
  · refine am_Ev.t hcd (c := a0 = 0) (s1 := (2, [(0, .ref 216), (1, .int a0), (2, .int a1), (3, .int a2)], [], am_SH, (g, f))) rfl c41 ?_
    refine am_Ev.go hcd 2 (s' := (4, [(0, .ref 216), (1, .int a0), (2, .int a1), (3, .int a2)], [.int a1, .ref 216], am_SH, (g, f))) rfl ?_
    refine am_Ev.call hcd (a := 181) (s0 := (0, [(0, .ref 216), (1, .int a1)], [], am_SH, (g, f))) (q := ((some (.int (am_b (m_isGlass a1 f)))), am_SH, (g, f))) (s1 := (5, [(0, .ref 216), (1, .int a0), (2, .int a1), (3, .int a2)], [.int (am_b (m_isGlass a1 f))], am_SH, (g, f))) rfl rfl (m_isGlass_ok (d) a1 f g) ?_
    rcases am_itv h with ⟨c46, h⟩ | ⟨c46, h⟩
    · refine am_Ev.f hcd (c := am_b (m_isGlass a1 f) = 0) (s1 := (6, [(0, .ref 216), (1, .int a0), (2, .int a1), (3, .int a2)], [], am_SH, (g, f))) rfl (am_b_t c46) ?_
      refine am_Ev.go hcd 3 (s' := (9, [(0, .ref 216), (1, .int a0), (2, .int a1), (3, .int a2)], [.int 99, .int 0, .int a2], am_SH, (g, f))) rfl ?_
      refine am_Ev.call hcd (a := 176) (s0 := (0, [(0, .int a2), (1, .int 0), (2, .int 99)], [], am_SH, (g, f))) (q := ((some (.int (am_b (m_isIn a2 0 99)))), am_SH, (g, f))) (s1 := (10, [(0, .ref 216), (1, .int a0), (2, .int a1), (3, .int a2)], [.int (am_b (m_isIn a2 0 99))], am_SH, (g, f))) rfl rfl (m_isIn_ok (d + 1) a2 0 99 (g, f)) ?_
      rcases am_itv h with ⟨c50, h⟩ | ⟨c50, h⟩
      · refine am_Ev.f hcd (c := am_b (m_isIn a2 0 99) = 0) (s1 := (11, [(0, .ref 216), (1, .int a0), (2, .int a1), (3, .int a2)], [], am_SH, (g, f))) rfl (am_b_t c50) ?_
        refine am_Ev.go hcd 2 (s' := (46, [(0, .ref 216), (1, .int a0), (2, .int a1), (3, .int a2)], [.int 1], am_SH, (g, f))) rfl ?_
        exact am_Ev.weak' (hLt7 true h.symm) (am_sub_cons rfl (am_sub_cons rfl (am_sub_cons rfl (am_sub_cons rfl am_sub_nil)))) rfl
      · refine am_Ev.t hcd (c := am_b (m_isIn a2 0 99) = 0) (s1 := (13, [(0, .ref 216), (1, .int a0), (2, .int a1), (3, .int a2)], [], am_SH, (g, f))) rfl (am_b_f c50) ?_
        refine am_Ev.go hcd 2 (s' := (46, [(0, .ref 216), (1, .int a0), (2, .int a1), (3, .int a2)], [.int 0], am_SH, (g, f))) rfl ?_
        exact am_Ev.weak' (hLt7 false h.symm) (am_sub_cons rfl (am_sub_cons rfl (am_sub_cons rfl (am_sub_cons rfl am_sub_nil)))) rfl
    · refine am_Ev.t hcd (c := am_b (m_isGlass a1 f) = 0) (s1 := (13, [(0, .ref 216), (1, .int a0), (2, .int a1), (3, .int a2)], [], am_SH, (g, f))) rfl (am_b_f c46) ?_
      refine am_Ev.go hcd 2 (s' := (46, [(0, .ref 216), (1, .int a0), (2, .int a1), (3, .int a2)], [.int 0], am_SH, (g, f))) rfl ?_
      exact am_Ev.weak' (hLt7 false h.symm) (am_sub_cons rfl (am_sub_cons rfl (am_sub_cons rfl (am_sub_cons rfl am_sub_nil)))) rfl
  · refine am_Ev.f hcd (c := a0 = 0) (s1 := (15, [(0, .ref 216), (1, .int a0), (2, .int a1), (3, .int a2)], [], am_SH, (g, f))) rfl c41 ?_
    refine am_Ev.go hcd 2 (s' := (17, [(0, .ref 216), (1, .int a0), (2, .int a1), (3, .int a2)], [.int 1, .int a0], am_SH, (g, f))) rfl ?_
    rcases am_itv h with ⟨c61, h⟩ | ⟨c61, h⟩
    · refine am_Ev.t hcd (c := a0 = 1) (s1 := (18, [(0, .ref 216), (1, .int a0), (2, .int a1), (3, .int a2)], [], am_SH, (g, f))) rfl c61 ?_
      refine am_Ev.go hcd 2 (s' := (20, [(0, .ref 216), (1, .int a0), (2, .int a1), (3, .int a2)], [.int a1, .ref 216], am_SH, (g, f))) rfl ?_
      refine am_Ev.call hcd (a := 181) (s0 := (0, [(0, .ref 216), (1, .int a1)], [], am_SH, (g, f))) (q := ((some (.int (am_b (m_isGlass a1 f)))), am_SH, (g, f))) (s1 := (21, [(0, .ref 216), (1, .int a0), (2, .int a1), (3, .int a2)], [.int (am_b (m_isGlass a1 f))], am_SH, (g, f))) rfl rfl (m_isGlass_ok (d) a1 f g) ?_
      rcases am_itv h with ⟨c66, h⟩ | ⟨c66, h⟩
      · refine am_Ev.f hcd (c := am_b (m_isGlass a1 f) = 0) (s1 := (22, [(0, .ref 216), (1, .int a0), (2, .int a1), (3, .int a2)], [], am_SH, (g, f))) rfl (am_b_t c66) ?_
        refine am_Ev.go hcd 3 (s' := (25, [(0, .ref 216), (1, .int a0), (2, .int a1), (3, .int a2)], [.int 420, .int 300, .int a2], am_SH, (g, f))) rfl ?_
        refine am_Ev.call hcd (a := 176) (s0 := (0, [(0, .int a2), (1, .int 300), (2, .int 420)], [], am_SH, (g, f))) (q := ((some (.int (am_b (m_isIn a2 300 420)))), am_SH, (g, f))) (s1 := (26, [(0, .ref 216), (1, .int a0), (2, .int a1), (3, .int a2)], [.int (am_b (m_isIn a2 300 420))], am_SH, (g, f))) rfl rfl (m_isIn_ok (d + 1) a2 300 420 (g, f)) ?_
        rcases am_itv h with ⟨c70, h⟩ | ⟨c70, h⟩
        · refine am_Ev.f hcd (c := am_b (m_isIn a2 300 420) = 0) (s1 := (27, [(0, .ref 216), (1, .int a0), (2, .int a1), (3, .int a2)], [], am_SH, (g, f))) rfl (am_b_t c70) ?_
          refine am_Ev.go hcd 2 (s' := (46, [(0, .ref 216), (1, .int a0), (2, .int a1), (3, .int a2)], [.int 1], am_SH, (g, f))) rfl ?_
          exact am_Ev.weak' (hLt7 true h.symm) (am_sub_cons rfl (am_sub_cons rfl (am_sub_cons rfl (am_sub_cons rfl am_sub_nil)))) rfl
        · refine am_Ev.t hcd (c := am_b (m_isIn a2 300 420) = 0) (s1 := (29, [(0, .ref 216), (1, .int a0), (2, .int a1), (3, .int a2)], [], am_SH, (g, f))) rfl (am_b_f c70) ?_
          refine am_Ev.go hcd 2 (s' := (46, [(0, .ref 216), (1, .int a0), (2, .int a1), (3, .int a2)], [.int 0], am_SH, (g, f))) rfl ?_
          exact am_Ev.weak' (hLt7 false h.symm) (am_sub_cons rfl (am_sub_cons rfl (am_sub_cons rfl (am_sub_cons rfl am_sub_nil)))) rfl
      · refine am_Ev.t hcd (c := am_b (m_isGlass a1 f) = 0) (s1 := (29, [(0, .ref 216), (1, .int a0), (2, .int a1), (3, .int a2)], [], am_SH, (g, f))) rfl (am_b_f c66) ?_
        refine am_Ev.go hcd 2 (s' := (46, [(0, .ref 216), (1, .int a0), (2, .int a1), (3, .int a2)], [.int 0], am_SH, (g, f))) rfl ?_
        exact am_Ev.weak' (hLt7 false h.symm) (am_sub_cons rfl (am_sub_cons rfl (am_sub_cons rfl (am_sub_cons rfl am_sub_nil)))) rfl
    · refine am_Ev.f hcd (c := a0 = 1) (s1 := (31, [(0, .ref 216), (1, .int a0), (2, .int a1), (3, .int a2)], [], am_SH, (g, f))) rfl c61 ?_
      refine am_Ev.go hcd 2 (s' := (33, [(0, .ref 216), (1, .int a0), (2, .int a1), (3, .int a2)], [.int 2, .int a0], am_SH, (g, f))) rfl ?_
      rcases am_itv h with ⟨c81, h⟩ | ⟨c81, h⟩
      · refine am_Ev.t hcd (c := a0 = 2) (s1 := (34, [(0, .ref 216), (1, .int a0), (2, .int a1), (3, .int a2)], [], am_SH, (g, f))) rfl c81 ?_
        refine am_Ev.go hcd 2 (s' := (36, [(0, .ref 216), (1, .int a0), (2, .int a1), (3, .int a2)], [.int a1, .ref 216], am_SH, (g, f))) rfl ?_
        refine am_Ev.call hcd (a := 182) (s0 := (0, [(0, .ref 216), (1, .int a1)], [], am_SH, (g, f))) (q := ((some (.int (am_b (m_isWitness a1 f)))), am_SH, (g, f))) (s1 := (37, [(0, .ref 216), (1, .int a0), (2, .int a1), (3, .int a2)], [.int (am_b (m_isWitness a1 f))], am_SH, (g, f))) rfl rfl (m_isWitness_ok (d) a1 f g) ?_
        rcases am_itv h with ⟨c86, h⟩ | ⟨c86, h⟩
        · refine am_Ev.f hcd (c := am_b (m_isWitness a1 f) = 0) (s1 := (38, [(0, .ref 216), (1, .int a0), (2, .int a1), (3, .int a2)], [], am_SH, (g, f))) rfl (am_b_t c86) ?_
          refine am_Ev.go hcd 3 (s' := (41, [(0, .ref 216), (1, .int a0), (2, .int a1), (3, .int a2)], [.int 9, .int 0, .int a2], am_SH, (g, f))) rfl ?_
          refine am_Ev.call hcd (a := 176) (s0 := (0, [(0, .int a2), (1, .int 0), (2, .int 9)], [], am_SH, (g, f))) (q := ((some (.int (am_b (m_isIn a2 0 9)))), am_SH, (g, f))) (s1 := (42, [(0, .ref 216), (1, .int a0), (2, .int a1), (3, .int a2)], [.int (am_b (m_isIn a2 0 9))], am_SH, (g, f))) rfl rfl (m_isIn_ok (d + 1) a2 0 9 (g, f)) ?_
          rcases am_itv h with ⟨c90, h⟩ | ⟨c90, h⟩
          · refine am_Ev.f hcd (c := am_b (m_isIn a2 0 9) = 0) (s1 := (43, [(0, .ref 216), (1, .int a0), (2, .int a1), (3, .int a2)], [], am_SH, (g, f))) rfl (am_b_t c90) ?_
            refine am_Ev.go hcd 2 (s' := (46, [(0, .ref 216), (1, .int a0), (2, .int a1), (3, .int a2)], [.int 1], am_SH, (g, f))) rfl ?_
            exact am_Ev.weak' (hLt7 true h.symm) (am_sub_cons rfl (am_sub_cons rfl (am_sub_cons rfl (am_sub_cons rfl am_sub_nil)))) rfl
          · refine am_Ev.t hcd (c := am_b (m_isIn a2 0 9) = 0) (s1 := (45, [(0, .ref 216), (1, .int a0), (2, .int a1), (3, .int a2)], [], am_SH, (g, f))) rfl (am_b_f c90) ?_
            refine am_Ev.go hcd 1 (s' := (46, [(0, .ref 216), (1, .int a0), (2, .int a1), (3, .int a2)], [.int 0], am_SH, (g, f))) rfl ?_
            exact am_Ev.weak' (hLt7 false h.symm) (am_sub_cons rfl (am_sub_cons rfl (am_sub_cons rfl (am_sub_cons rfl am_sub_nil)))) rfl
        · refine am_Ev.t hcd (c := am_b (m_isWitness a1 f) = 0) (s1 := (45, [(0, .ref 216), (1, .int a0), (2, .int a1), (3, .int a2)], [], am_SH, (g, f))) rfl (am_b_f c86) ?_
          refine am_Ev.go hcd 1 (s' := (46, [(0, .ref 216), (1, .int a0), (2, .int a1), (3, .int a2)], [.int 0], am_SH, (g, f))) rfl ?_
          exact am_Ev.weak' (hLt7 false h.symm) (am_sub_cons rfl (am_sub_cons rfl (am_sub_cons rfl (am_sub_cons rfl am_sub_nil)))) rfl
      · refine am_Ev.f hcd (c := a0 = 2) (s1 := (45, [(0, .ref 216), (1, .int a0), (2, .int a1), (3, .int a2)], [], am_SH, (g, f))) rfl c81 ?_
        refine am_Ev.go hcd 1 (s' := (46, [(0, .ref 216), (1, .int a0), (2, .int a1), (3, .int a2)], [.int 0], am_SH, (g, f))) rfl ?_
        exact am_Ev.weak' (hLt7 false h.symm) (am_sub_cons rfl (am_sub_cons rfl (am_sub_cons rfl (am_sub_cons rfl am_sub_nil)))) rfl
set_option maxRecDepth 100000 in
set_option maxHeartbeats 4000000 in
theorem m_glassOf_ok {sc : Nat × (Nat → Int32)} (d : Nat) (a0 : Int32) (f g : (Nat → Nat → Int32)) (r : Int32) (h : m_glassOf a0 f = some r) : am_Ev sc (d) 240 (0, [(0, .ref 216), (1, .int a0)], [], am_SH, (g, f)) ((some (.int r)), am_SH, (g, f)) := by
  have hcd : am_code 240 = am_c240 := rfl
  unfold m_glassOf at h
  refine am_Ev.go hcd 2 (s' := (2, [(0, .ref 216), (1, .int a0), (2, .int 0)], [], am_SH, (g, f))) rfl ?_
  obtain ⟨e3, he3, h⟩ := am_bind_some h
  have hK1 : (fun (e3 : Int32) => am_Ev sc (d) 240 (18, [(0, .ref 216), (2, .int e3)], [], am_SH, (g, f)) ((some (.int r)), am_SH, (g, f))) e3 := by
    show am_Ev sc (d) 240 (18, [(0, .ref 216), (2, .int e3)], [], am_SH, (g, f)) ((some (.int r)), am_SH, (g, f))
    refine am_Ev.go hcd 5 (s' := (23, [(0, .ref 216), (2, .int e3)], [.int (f 217 69), .int e3], am_SH, (g, f))) rfl ?_
    rcases am_ite h with ⟨c6, h⟩ | ⟨c6, h⟩
    · refine am_Ev.t hcd (c := e3 < f 217 69) (s1 := (24, [(0, .ref 216), (2, .int e3)], [], am_SH, (g, f))) rfl c6 ?_
      refine am_Ev.go hcd 2 (s' := (27, [(0, .ref 216), (2, .int e3)], [.int e3], am_SH, (g, f))) rfl ?_
      exact am_Ev.cast (a := ((some (.int e3)), am_SH, (g, f))) (by cases h; rfl) (am_Ev.ret hcd rfl)
    · refine am_Ev.f hcd (c := e3 < f 217 69) (s1 := (26, [(0, .ref 216), (2, .int e3)], [], am_SH, (g, f))) rfl c6 ?_
      refine am_Ev.go hcd 1 (s' := (27, [(0, .ref 216), (2, .int e3)], [.int (-1)], am_SH, (g, f))) rfl ?_
      exact am_Ev.cast (a := ((some (.int (-1))), am_SH, (g, f))) (by cases h; rfl) (am_Ev.ret hcd rfl)
  refine am_Ev.weak' (am_loop_ok (G := fun (s1 : Int32) => am_Ev sc (d) 240 (2, [(0, .ref 216), (1, .int a0), (2, .int s1)], [], am_SH, (g, f)) ((some (.int r)), am_SH, (g, f))) (Z := fun (e3 : Int32) => am_Ev sc (d) 240 (18, [(0, .ref 216), (2, .int e3)], [], am_SH, (g, f)) ((some (.int r)), am_SH, (g, f))) ?_ am_F 0 e3 he3 hK1) (am_sub_cons rfl (am_sub_cons rfl (am_sub_cons rfl am_sub_nil))) rfl
  intro s1 q1 h hI1 hZ1
  show am_Ev sc (d) 240 (2, [(0, .ref 216), (1, .int a0), (2, .int s1)], [], am_SH, (g, f)) ((some (.int r)), am_SH, (g, f))
  refine am_Ev.go hcd 5 (s' := (7, [(0, .ref 216), (1, .int a0), (2, .int s1)], [.int (f 217 69), .int s1], am_SH, (g, f))) rfl ?_
  rcases am_ite h with ⟨c17, h⟩ | ⟨c17, h⟩
  · refine am_Ev.t hcd (c := s1 < f 217 69) (s1 := (8, [(0, .ref 216), (1, .int a0), (2, .int s1)], [], am_SH, (g, f))) rfl c17 ?_
    refine am_Ev.go hcd 5 (s' := (13, [(0, .ref 216), (1, .int a0), (2, .int s1)], [.int (15 + s1), .ref 217], am_SH, (g, f))) rfl ?_
    obtain ⟨c20, h⟩ := am_grd h
    refine am_Ev.t hcd (o := none) (c := am_in (15 + s1) 2008 = true) (s1 := (14, [(0, .ref 216), (1, .int a0), (2, .int s1)], [.int (f 217 (15 + s1).toNatClampNeg)], am_SH, (g, f))) rfl c20 ?_
    refine am_Ev.go hcd 1 (s' := (15, [(0, .ref 216), (1, .int a0), (2, .int s1)], [.int a0, .int (f 217 (15 + s1).toNatClampNeg)], am_SH, (g, f))) rfl ?_
    rcases am_ite h with ⟨c23, h⟩ | ⟨c23, h⟩
    · refine am_Ev.t hcd (c := f 217 (15 + s1).toNatClampNeg = a0) (s1 := (18, [(0, .ref 216), (1, .int a0), (2, .int s1)], [], am_SH, (g, f))) rfl c23 ?_
      exact am_Ev.weak' (hZ1 s1 (Option.some.inj h).symm) (am_sub_cons rfl (am_sub_cons rfl am_sub_nil)) rfl
    · refine am_Ev.f hcd (c := f 217 (15 + s1).toNatClampNeg = a0) (s1 := (16, [(0, .ref 216), (1, .int a0), (2, .int s1)], [], am_SH, (g, f))) rfl c23 ?_
      obtain ⟨t2, Et2, h⟩ := am_let_eq h
      refine am_Ev.go hcd 1 (s' := (17, [(0, .ref 216), (1, .int a0), (2, .int t2)], [], am_SH, (g, f))) (by subst Et2; exact rfl) ?_
      refine am_Ev.go hcd 1 (s' := (2, [(0, .ref 216), (1, .int a0), (2, .int t2)], [], am_SH, (g, f))) rfl ?_
      exact am_Ev.weak' (hI1 t2 (Option.some.inj h).symm) (am_sub_cons rfl (am_sub_cons rfl (am_sub_cons rfl am_sub_nil))) rfl
  · refine am_Ev.f hcd (c := s1 < f 217 69) (s1 := (18, [(0, .ref 216), (1, .int a0), (2, .int s1)], [], am_SH, (g, f))) rfl c17 ?_
    exact am_Ev.weak' (hZ1 s1 (Option.some.inj h).symm) (am_sub_cons rfl (am_sub_cons rfl am_sub_nil)) rfl
set_option maxRecDepth 100000 in
set_option maxHeartbeats 4000000 in
theorem m_canBeUnder_ok {sc : Nat × (Nat → Int32)} (d : Nat) (a0 : Int32) (a1 : Int32) (f g : (Nat → Nat → Int32)) (r : Bool) (h : m_canBeUnder a0 a1 f = some r) : am_Ev sc (d + 1) 241 (0, [(0, .ref 216), (1, .int a0), (2, .int a1)], [], am_SH, (g, f)) ((some (.int (am_b r))), am_SH, (g, f)) := by
  have hcd : am_code 241 = am_c241 := rfl
  unfold m_canBeUnder at h
  refine am_Ev.go hcd 5 (s' := (5, [(0, .ref 216), (1, .int a0), (2, .int a1)], [.int (15 + a0), .ref 217], am_SH, (g, f))) rfl ?_
  obtain ⟨c2, h⟩ := am_grd h
  refine am_Ev.t hcd (o := none) (c := am_in (15 + a0) 2008 = true) (s1 := (6, [(0, .ref 216), (1, .int a0), (2, .int a1)], [.int (f 217 (15 + a0).toNatClampNeg)], am_SH, (g, f))) rfl c2 ?_
  refine am_Ev.go hcd 1 (s' := (7, [(0, .ref 216), (1, .int a0), (2, .int a1)], [.int (-1), .int (f 217 (15 + a0).toNatClampNeg)], am_SH, (g, f))) rfl ?_
  rcases am_ite h with ⟨c5, h⟩ | ⟨c5, h⟩
  · refine am_Ev.t hcd (c := f 217 (15 + a0).toNatClampNeg = (-1)) (s1 := (8, [(0, .ref 216), (1, .int a0), (2, .int a1)], [], am_SH, (g, f))) rfl c5 ?_
    refine am_Ev.go hcd 2 (s' := (10, [(0, .ref 216), (1, .int a0), (2, .int a1)], [.int a1, .ref 216], am_SH, (g, f))) rfl ?_
    obtain ⟨p1, hp1, h⟩ := am_bind_some h
    refine am_Ev.call hcd (a := 240) (s0 := (0, [(0, .ref 216), (1, .int a1)], [], am_SH, (g, f))) (q := ((some (.int p1)), am_SH, (g, f))) (s1 := (11, [(0, .ref 216), (1, .int a0), (2, .int a1)], [.int p1], am_SH, (g, f))) rfl rfl (m_glassOf_ok (d) a1 f g p1 hp1) ?_
    refine am_Ev.go hcd 1 (s' := (12, [(0, .ref 216), (1, .int a0), (2, .int a1)], [.int (-1), .int p1], am_SH, (g, f))) rfl ?_
    rcases am_ite h with ⟨c11, h⟩ | ⟨c11, h⟩
    · refine am_Ev.t hcd (c := p1 = (-1)) (s1 := (13, [(0, .ref 216), (1, .int a0), (2, .int a1)], [], am_SH, (g, f))) rfl c11 ?_
      refine am_Ev.go hcd 2 (s' := (16, [(0, .ref 216), (1, .int a0), (2, .int a1)], [.int 1], am_SH, (g, f))) rfl ?_
      exact am_Ev.cast (a := ((some (.int (am_b true))), am_SH, (g, f))) (by cases h; rfl) (am_Ev.ret hcd rfl)
    · refine am_Ev.f hcd (c := p1 = (-1)) (s1 := (15, [(0, .ref 216), (1, .int a0), (2, .int a1)], [], am_SH, (g, f))) rfl c11 ?_
      refine am_Ev.go hcd 1 (s' := (16, [(0, .ref 216), (1, .int a0), (2, .int a1)], [.int 0], am_SH, (g, f))) rfl ?_
      exact am_Ev.cast (a := ((some (.int (am_b false))), am_SH, (g, f))) (by cases h; rfl) (am_Ev.ret hcd rfl)
  · refine am_Ev.f hcd (c := f 217 (15 + a0).toNatClampNeg = (-1)) (s1 := (15, [(0, .ref 216), (1, .int a0), (2, .int a1)], [], am_SH, (g, f))) rfl c5 ?_
    refine am_Ev.go hcd 1 (s' := (16, [(0, .ref 216), (1, .int a0), (2, .int a1)], [.int 0], am_SH, (g, f))) rfl ?_
    exact am_Ev.cast (a := ((some (.int (am_b false))), am_SH, (g, f))) (by cases h; rfl) (am_Ev.ret hcd rfl)
set_option maxRecDepth 100000 in
set_option maxHeartbeats 4000000 in
theorem m_isTopic_ok {sc : Nat × (Nat → Int32)} (d : Nat) (a0 : Int32) (hp : am_H) : am_Ev sc (d + 1) 183 (0, [(0, .int a0)], [], am_SH, hp) ((some (.int (am_b (m_isTopic a0)))), am_SH, hp) := by
  have hcd : am_code 183 = am_c183 := rfl
  obtain ⟨r, h⟩ : ∃ r, r = m_isTopic a0 := ⟨_, rfl⟩
  rw [← h]
  unfold m_isTopic at h
  refine am_Ev.go hcd 3 (s' := (3, [(0, .int a0)], [.int 15, .int 0, .int a0], am_SH, hp)) rfl ?_
  refine am_Ev.call hcd (a := 176) (s0 := (0, [(0, .int a0), (1, .int 0), (2, .int 15)], [], am_SH, hp)) (q := ((some (.int (am_b (m_isIn a0 0 15)))), am_SH, hp)) (s1 := (4, [(0, .int a0)], [.int (am_b (m_isIn a0 0 15))], am_SH, hp)) rfl rfl (m_isIn_ok (d) a0 0 15 hp) ?_
  exact am_Ev.cast (a := ((some (.int (am_b (m_isIn a0 0 15)))), am_SH, hp)) (by subst h; rfl) (am_Ev.retb hcd rfl)
set_option maxRecDepth 100000 in
set_option maxHeartbeats 4000000 in
theorem m_canAct_ok {sc : Nat × (Nat → Int32)} (d : Nat) (a0 : Int32) (a1 : Int32) (a2 : Int32) (f g : (Nat → Nat → Int32)) (r : Bool) (h : m_canAct a0 a1 a2 f = some r) : am_Ev sc (d + 2) 244 (0, [(0, .ref 216), (1, .int a0), (2, .int a1), (3, .int a2)], [], am_SH, (g, f)) ((some (.int (am_b r))), am_SH, (g, f)) := by
  have hcd : am_code 244 = am_c244 := rfl
  unfold m_canAct at h
  refine am_Ev.go hcd 2 (s' := (2, [(0, .ref 216), (1, .int a0), (2, .int a1), (3, .int a2)], [.int a1, .ref 216], am_SH, (g, f))) rfl ?_
  refine am_Ev.call hcd (a := 181) (s0 := (0, [(0, .ref 216), (1, .int a1)], [], am_SH, (g, f))) (q := ((some (.int (am_b (m_isGlass a1 f)))), am_SH, (g, f))) (s1 := (3, [(0, .ref 216), (1, .int a0), (2, .int a1), (3, .int a2)], [.int (am_b (m_isGlass a1 f))], am_SH, (g, f))) rfl rfl (m_isGlass_ok (d) a1 f g) ?_
  rcases am_ite h with ⟨c4, h⟩ | ⟨c4, h⟩
  · refine am_Ev.f hcd (c := am_b (m_isGlass a1 f) = 0) (s1 := (6, [(0, .ref 216), (1, .int a0), (2, .int a1), (3, .int a2)], [], am_SH, (g, f))) rfl (am_b_t c4) ?_
    refine am_Ev.go hcd 1 (s' := (7, [(0, .ref 216), (1, .int a0), (2, .int a1), (3, .int a2)], [.int a0], am_SH, (g, f))) rfl ?_
    refine am_Ev.one hcd (s' := (am_swt a0 [(0, 8), (1, 21), (2, 33), (3, 48)] 60, [(0, .ref 216), (1, .int a0), (2, .int a1), (3, .int a2)], [], am_SH, (g, f))) rfl ?_
    rcases am_ite h with ⟨c8, h⟩ | ⟨c8, h⟩
    · rw [am_swt_t c8]
      refine am_Ev.go hcd 2 (s' := (10, [(0, .ref 216), (1, .int a0), (2, .int a1), (3, .int a2)], [.int a2, .ref 216], am_SH, (g, f))) rfl ?_
      refine am_Ev.call hcd (a := 182) (s0 := (0, [(0, .ref 216), (1, .int a2)], [], am_SH, (g, f))) (q := ((some (.int (am_b (m_isWitness a2 f)))), am_SH, (g, f))) (s1 := (11, [(0, .ref 216), (1, .int a0), (2, .int a1), (3, .int a2)], [.int (am_b (m_isWitness a2 f))], am_SH, (g, f))) rfl rfl (m_isWitness_ok (d) a2 f g) ?_
      rcases am_ite h with ⟨c12, h⟩ | ⟨c12, h⟩
      · refine am_Ev.f hcd (c := am_b (m_isWitness a2 f) = 0) (s1 := (12, [(0, .ref 216), (1, .int a0), (2, .int a1), (3, .int a2)], [], am_SH, (g, f))) rfl (am_b_t c12) ?_
        refine am_Ev.go hcd 3 (s' := (15, [(0, .ref 216), (1, .int a0), (2, .int a1), (3, .int a2)], [.int a2, .int a1, .ref 216], am_SH, (g, f))) rfl ?_
        obtain ⟨p3, hp3, h⟩ := am_bind_some h
        refine am_Ev.call hcd (a := 241) (s0 := (0, [(0, .ref 216), (1, .int a1), (2, .int a2)], [], am_SH, (g, f))) (q := ((some (.int (am_b p3))), am_SH, (g, f))) (s1 := (16, [(0, .ref 216), (1, .int a0), (2, .int a1), (3, .int a2)], [.int (am_b p3)], am_SH, (g, f))) rfl rfl (m_canBeUnder_ok (d) a1 a2 f g p3 hp3) ?_
        rcases am_ite h with ⟨c17, h⟩ | ⟨c17, h⟩
        · refine am_Ev.f hcd (c := am_b p3 = 0) (s1 := (17, [(0, .ref 216), (1, .int a0), (2, .int a1), (3, .int a2)], [], am_SH, (g, f))) rfl (am_b_t c17) ?_
          refine am_Ev.go hcd 2 (s' := (20, [(0, .ref 216), (1, .int a0), (2, .int a1), (3, .int a2)], [.int 1], am_SH, (g, f))) rfl ?_
          exact am_Ev.cast (a := ((some (.int (am_b true))), am_SH, (g, f))) (by cases h; rfl) (am_Ev.ret hcd rfl)
        · refine am_Ev.t hcd (c := am_b p3 = 0) (s1 := (19, [(0, .ref 216), (1, .int a0), (2, .int a1), (3, .int a2)], [], am_SH, (g, f))) rfl (am_b_f c17) ?_
          refine am_Ev.go hcd 1 (s' := (20, [(0, .ref 216), (1, .int a0), (2, .int a1), (3, .int a2)], [.int 0], am_SH, (g, f))) rfl ?_
          exact am_Ev.cast (a := ((some (.int (am_b false))), am_SH, (g, f))) (by cases h; rfl) (am_Ev.ret hcd rfl)
      · refine am_Ev.t hcd (c := am_b (m_isWitness a2 f) = 0) (s1 := (19, [(0, .ref 216), (1, .int a0), (2, .int a1), (3, .int a2)], [], am_SH, (g, f))) rfl (am_b_f c12) ?_
        refine am_Ev.go hcd 1 (s' := (20, [(0, .ref 216), (1, .int a0), (2, .int a1), (3, .int a2)], [.int 0], am_SH, (g, f))) rfl ?_
        exact am_Ev.cast (a := ((some (.int (am_b false))), am_SH, (g, f))) (by cases h; rfl) (am_Ev.ret hcd rfl)
    rw [am_swt_f c8]
    rcases am_ite h with ⟨c28, h⟩ | ⟨c28, h⟩
    · rw [am_swt_t c28]
      refine am_Ev.go hcd 5 (s' := (26, [(0, .ref 216), (1, .int a0), (2, .int a1), (3, .int a2)], [.int (15 + a1), .ref 217], am_SH, (g, f))) rfl ?_
      obtain ⟨c30, h⟩ := am_grd h
      refine am_Ev.t hcd (o := none) (c := am_in (15 + a1) 2008 = true) (s1 := (27, [(0, .ref 216), (1, .int a0), (2, .int a1), (3, .int a2)], [.int (f 217 (15 + a1).toNatClampNeg)], am_SH, (g, f))) rfl c30 ?_
      refine am_Ev.go hcd 1 (s' := (28, [(0, .ref 216), (1, .int a0), (2, .int a1), (3, .int a2)], [.int (-1), .int (f 217 (15 + a1).toNatClampNeg)], am_SH, (g, f))) rfl ?_
      rcases am_ite h with ⟨c33, h⟩ | ⟨c33, h⟩
      · refine am_Ev.t hcd (c := f 217 (15 + a1).toNatClampNeg = (-1)) (s1 := (31, [(0, .ref 216), (1, .int a0), (2, .int a1), (3, .int a2)], [], am_SH, (g, f))) rfl c33 ?_
        refine am_Ev.go hcd 1 (s' := (32, [(0, .ref 216), (1, .int a0), (2, .int a1), (3, .int a2)], [.int 0], am_SH, (g, f))) rfl ?_
        exact am_Ev.cast (a := ((some (.int (am_b false))), am_SH, (g, f))) (by cases h; rfl) (am_Ev.ret hcd rfl)
      · refine am_Ev.f hcd (c := f 217 (15 + a1).toNatClampNeg = (-1)) (s1 := (29, [(0, .ref 216), (1, .int a0), (2, .int a1), (3, .int a2)], [], am_SH, (g, f))) rfl c33 ?_
        refine am_Ev.go hcd 2 (s' := (32, [(0, .ref 216), (1, .int a0), (2, .int a1), (3, .int a2)], [.int 1], am_SH, (g, f))) rfl ?_
        exact am_Ev.cast (a := ((some (.int (am_b true))), am_SH, (g, f))) (by cases h; rfl) (am_Ev.ret hcd rfl)
    rw [am_swt_f c28]
    rcases am_ite h with ⟨c42, h⟩ | ⟨c42, h⟩
    · rw [am_swt_t c42]
      refine am_Ev.go hcd 1 (s' := (34, [(0, .ref 216), (1, .int a0), (2, .int a1), (3, .int a2)], [.int a2], am_SH, (g, f))) rfl ?_
      refine am_Ev.call hcd (a := 183) (s0 := (0, [(0, .int a2)], [], am_SH, (g, f))) (q := ((some (.int (am_b (m_isTopic a2)))), am_SH, (g, f))) (s1 := (35, [(0, .ref 216), (1, .int a0), (2, .int a1), (3, .int a2)], [.int (am_b (m_isTopic a2))], am_SH, (g, f))) rfl rfl (m_isTopic_ok (d) a2 (g, f)) ?_
      rcases am_ite h with ⟨c46, h⟩ | ⟨c46, h⟩
      · refine am_Ev.f hcd (c := am_b (m_isTopic a2) = 0) (s1 := (36, [(0, .ref 216), (1, .int a0), (2, .int a1), (3, .int a2)], [], am_SH, (g, f))) rfl (am_b_t c46) ?_
        refine am_Ev.go hcd 5 (s' := (41, [(0, .ref 216), (1, .int a0), (2, .int a1), (3, .int a2)], [.int (21 + a1), .ref 217], am_SH, (g, f))) rfl ?_
        obtain ⟨c48, h⟩ := am_grd h
        refine am_Ev.t hcd (o := none) (c := am_in (21 + a1) 2008 = true) (s1 := (42, [(0, .ref 216), (1, .int a0), (2, .int a1), (3, .int a2)], [.int (f 217 (21 + a1).toNatClampNeg)], am_SH, (g, f))) rfl c48 ?_
        refine am_Ev.go hcd 1 (s' := (43, [(0, .ref 216), (1, .int a0), (2, .int a1), (3, .int a2)], [.int a2, .int (f 217 (21 + a1).toNatClampNeg)], am_SH, (g, f))) rfl ?_
        rcases am_ite h with ⟨c51, h⟩ | ⟨c51, h⟩
        · refine am_Ev.t hcd (c := f 217 (21 + a1).toNatClampNeg = a2) (s1 := (46, [(0, .ref 216), (1, .int a0), (2, .int a1), (3, .int a2)], [], am_SH, (g, f))) rfl c51 ?_
          refine am_Ev.go hcd 1 (s' := (47, [(0, .ref 216), (1, .int a0), (2, .int a1), (3, .int a2)], [.int 0], am_SH, (g, f))) rfl ?_
          exact am_Ev.cast (a := ((some (.int (am_b false))), am_SH, (g, f))) (by cases h; rfl) (am_Ev.ret hcd rfl)
        · refine am_Ev.f hcd (c := f 217 (21 + a1).toNatClampNeg = a2) (s1 := (44, [(0, .ref 216), (1, .int a0), (2, .int a1), (3, .int a2)], [], am_SH, (g, f))) rfl c51 ?_
          refine am_Ev.go hcd 2 (s' := (47, [(0, .ref 216), (1, .int a0), (2, .int a1), (3, .int a2)], [.int 1], am_SH, (g, f))) rfl ?_
          exact am_Ev.cast (a := ((some (.int (am_b true))), am_SH, (g, f))) (by cases h; rfl) (am_Ev.ret hcd rfl)
      · refine am_Ev.t hcd (c := am_b (m_isTopic a2) = 0) (s1 := (46, [(0, .ref 216), (1, .int a0), (2, .int a1), (3, .int a2)], [], am_SH, (g, f))) rfl (am_b_f c46) ?_
        refine am_Ev.go hcd 1 (s' := (47, [(0, .ref 216), (1, .int a0), (2, .int a1), (3, .int a2)], [.int 0], am_SH, (g, f))) rfl ?_
        exact am_Ev.cast (a := ((some (.int (am_b false))), am_SH, (g, f))) (by cases h; rfl) (am_Ev.ret hcd rfl)
    rw [am_swt_f c42]
    rcases am_ite h with ⟨c63, h⟩ | ⟨c63, h⟩
    · rw [am_swt_t c63]
      refine am_Ev.go hcd 5 (s' := (53, [(0, .ref 216), (1, .int a0), (2, .int a1), (3, .int a2)], [.int (9 + a1), .ref 217], am_SH, (g, f))) rfl ?_
      obtain ⟨c65, h⟩ := am_grd h
      refine am_Ev.t hcd (o := none) (c := am_in (9 + a1) 2008 = true) (s1 := (54, [(0, .ref 216), (1, .int a0), (2, .int a1), (3, .int a2)], [.int (f 217 (9 + a1).toNatClampNeg)], am_SH, (g, f))) rfl c65 ?_
      refine am_Ev.go hcd 1 (s' := (55, [(0, .ref 216), (1, .int a0), (2, .int a1), (3, .int a2)], [.int 300, .int (f 217 (9 + a1).toNatClampNeg)], am_SH, (g, f))) rfl ?_
      rcases am_ite h with ⟨c68, h⟩ | ⟨c68, h⟩
      · refine am_Ev.t hcd (c := 300 < f 217 (9 + a1).toNatClampNeg) (s1 := (56, [(0, .ref 216), (1, .int a0), (2, .int a1), (3, .int a2)], [], am_SH, (g, f))) rfl c68 ?_
        refine am_Ev.go hcd 2 (s' := (59, [(0, .ref 216), (1, .int a0), (2, .int a1), (3, .int a2)], [.int 1], am_SH, (g, f))) rfl ?_
        exact am_Ev.cast (a := ((some (.int (am_b true))), am_SH, (g, f))) (by cases h; rfl) (am_Ev.ret hcd rfl)
      · refine am_Ev.f hcd (c := 300 < f 217 (9 + a1).toNatClampNeg) (s1 := (58, [(0, .ref 216), (1, .int a0), (2, .int a1), (3, .int a2)], [], am_SH, (g, f))) rfl c68 ?_
        refine am_Ev.go hcd 1 (s' := (59, [(0, .ref 216), (1, .int a0), (2, .int a1), (3, .int a2)], [.int 0], am_SH, (g, f))) rfl ?_
        exact am_Ev.cast (a := ((some (.int (am_b false))), am_SH, (g, f))) (by cases h; rfl) (am_Ev.ret hcd rfl)
    rw [am_swt_f c63]
    rw [am_swt_n]
    refine am_Ev.go hcd 2 (s' := (62, [(0, .ref 216), (1, .int a0), (2, .int a1), (3, .int a2)], [.int 4, .int a0], am_SH, (g, f))) rfl ?_
    rcases am_ite h with ⟨c78, h⟩ | ⟨c78, h⟩
    · refine am_Ev.t hcd (c := a0 = 4) (s1 := (63, [(0, .ref 216), (1, .int a0), (2, .int a1), (3, .int a2)], [], am_SH, (g, f))) rfl c78 ?_
      refine am_Ev.go hcd 5 (s' := (68, [(0, .ref 216), (1, .int a0), (2, .int a1), (3, .int a2)], [.int (3 + a1), .ref 217], am_SH, (g, f))) rfl ?_
      obtain ⟨c81, h⟩ := am_grd h
      refine am_Ev.t hcd (o := none) (c := am_in (3 + a1) 2008 = true) (s1 := (69, [(0, .ref 216), (1, .int a0), (2, .int a1), (3, .int a2)], [.int (f 217 (3 + a1).toNatClampNeg)], am_SH, (g, f))) rfl c81 ?_
      rcases am_ite h with ⟨c84, h⟩ | ⟨c84, h⟩
      · refine am_Ev.t hcd (c := 0 < f 217 (3 + a1).toNatClampNeg) (s1 := (70, [(0, .ref 216), (1, .int a0), (2, .int a1), (3, .int a2)], [], am_SH, (g, f))) rfl c84 ?_
        refine am_Ev.go hcd 2 (s' := (73, [(0, .ref 216), (1, .int a0), (2, .int a1), (3, .int a2)], [.int 1], am_SH, (g, f))) rfl ?_
        exact am_Ev.cast (a := ((some (.int (am_b true))), am_SH, (g, f))) (by cases h; rfl) (am_Ev.ret hcd rfl)
      · refine am_Ev.f hcd (c := 0 < f 217 (3 + a1).toNatClampNeg) (s1 := (72, [(0, .ref 216), (1, .int a0), (2, .int a1), (3, .int a2)], [], am_SH, (g, f))) rfl c84 ?_
        refine am_Ev.go hcd 1 (s' := (73, [(0, .ref 216), (1, .int a0), (2, .int a1), (3, .int a2)], [.int 0], am_SH, (g, f))) rfl ?_
        exact am_Ev.cast (a := ((some (.int (am_b false))), am_SH, (g, f))) (by cases h; rfl) (am_Ev.ret hcd rfl)
    · refine am_Ev.f hcd (c := a0 = 4) (s1 := (72, [(0, .ref 216), (1, .int a0), (2, .int a1), (3, .int a2)], [], am_SH, (g, f))) rfl c78 ?_
      refine am_Ev.go hcd 1 (s' := (73, [(0, .ref 216), (1, .int a0), (2, .int a1), (3, .int a2)], [.int 0], am_SH, (g, f))) rfl ?_
      exact am_Ev.cast (a := ((some (.int (am_b false))), am_SH, (g, f))) (by cases h; rfl) (am_Ev.ret hcd rfl)
  · refine am_Ev.t hcd (c := am_b (m_isGlass a1 f) = 0) (s1 := (4, [(0, .ref 216), (1, .int a0), (2, .int a1), (3, .int a2)], [], am_SH, (g, f))) rfl (am_b_f c4) ?_
    refine am_Ev.go hcd 1 (s' := (5, [(0, .ref 216), (1, .int a0), (2, .int a1), (3, .int a2)], [.int 0], am_SH, (g, f))) rfl ?_
    exact am_Ev.cast (a := ((some (.int (am_b false))), am_SH, (g, f))) (by cases h; rfl) (am_Ev.ret hcd rfl)
set_option maxRecDepth 100000 in
set_option maxHeartbeats 4000000 in
theorem m_keeps_ok {sc : Nat × (Nat → Int32)} (d : Nat)  (f g : (Nat → Nat → Int32)) (r : (Nat → Nat → Int32)) (h : m_keeps  f = some r) : am_Ev sc (d) 236 (0, [(0, .ref 216)], [], am_SH, (g, f)) (none, am_SH, (g, r)) := by
  have hcd : am_code 236 = am_c236 := rfl
  unfold m_keeps at h
  obtain ⟨t6, ht6, kt6⟩ := am_bind_some h
  have hKt6 : am_Ev sc (d) 236 (27, [(0, .ref 216)], [], am_SH, (g, t6)) (none, am_SH, (g, r)) := by
    have h := kt6
    refine am_Ev.go hcd 2 (s' := (29, [(0, .ref 216), (1, .int 0)], [], am_SH, (g, t6))) rfl ?_
    obtain ⟨e10, he10, h⟩ := am_bind_some h
    have hK7 : (fun (e10 : (Nat → Nat → Int32)) => am_Ev sc (d) 236 (47, [(0, .ref 216)], [], am_SH, (g, e10)) (none, am_SH, (g, r))) e10 := by
      show am_Ev sc (d) 236 (47, [(0, .ref 216)], [], am_SH, (g, e10)) (none, am_SH, (g, r))
      obtain ⟨f11, Ef11, h⟩ := am_let_eq h
      refine am_Ev.go hcd 6 (s' := (53, [(0, .ref 216)], [], am_SH, (g, f11))) (by subst Ef11; exact rfl) ?_
      obtain ⟨f12, Ef12, h⟩ := am_let_eq h
      refine am_Ev.go hcd 3 (s' := (56, [(0, .ref 216)], [], am_SH, (g, f12))) (by subst Ef12; exact rfl) ?_
      exact am_Ev.cast (a := (none, am_SH, (g, f12))) (by cases h; rfl) (am_Ev.ret hcd rfl)
    refine am_Ev.weak' (am_loop_ok (G := fun (s7 : Int32 × (Nat → Nat → Int32)) => am_Ev sc (d) 236 (29, [(0, .ref 216), (1, .int s7.1)], [], am_SH, (g, s7.2)) (none, am_SH, (g, r))) (Z := fun (e10 : (Nat → Nat → Int32)) => am_Ev sc (d) 236 (47, [(0, .ref 216)], [], am_SH, (g, e10)) (none, am_SH, (g, r))) ?_ am_F (0, t6) e10 he10 hK7) (am_sub_cons rfl (am_sub_cons rfl am_sub_nil)) rfl
    intro s7 q7 h hI7 hZ7
    show am_Ev sc (d) 236 (29, [(0, .ref 216), (1, .int s7.1)], [], am_SH, (g, s7.2)) (none, am_SH, (g, r))
    refine am_Ev.go hcd 2 (s' := (31, [(0, .ref 216), (1, .int s7.1)], [.int 69, .int s7.1], am_SH, (g, s7.2))) rfl ?_
    rcases am_ite h with ⟨c17, h⟩ | ⟨c17, h⟩
    · refine am_Ev.t hcd (c := s7.1 < 69) (s1 := (32, [(0, .ref 216), (1, .int s7.1)], [], am_SH, (g, s7.2))) rfl c17 ?_
      refine am_Ev.go hcd 11 (s' := (43, [(0, .ref 216), (1, .int s7.1)], [.int s7.1, .ref 217, .int ((69 * (s7.2 216 4)) + s7.1), .ref 219], am_SH, (g, s7.2))) rfl ?_
      obtain ⟨c20, h⟩ := am_grd h
      refine am_Ev.t hcd (o := none) (c := am_in s7.1 2008 = true) (s1 := (44, [(0, .ref 216), (1, .int s7.1)], [.int (s7.2 217 s7.1.toNatClampNeg), .int ((69 * (s7.2 216 4)) + s7.1), .ref 219], am_SH, (g, s7.2))) rfl c20 ?_
      obtain ⟨c23, h⟩ := am_grd h
      obtain ⟨f8, Ef8, h⟩ := am_let_eq h
      refine am_Ev.t hcd (o := none) (c := am_in ((69 * (s7.2 216 4)) + s7.1) 414 = true) (s1 := (45, [(0, .ref 216), (1, .int s7.1)], [], am_SH, (g, f8))) (by subst Ef8; exact rfl) c23 ?_
      obtain ⟨t9, Et9, h⟩ := am_let_eq h
      refine am_Ev.go hcd 1 (s' := (46, [(0, .ref 216), (1, .int t9)], [], am_SH, (g, f8))) (by subst Et9; exact rfl) ?_
      refine am_Ev.go hcd 1 (s' := (29, [(0, .ref 216), (1, .int t9)], [], am_SH, (g, f8))) rfl ?_
      exact am_Ev.weak' (hI7 (t9, f8) (Option.some.inj h).symm) (am_sub_cons rfl (am_sub_cons rfl am_sub_nil)) rfl
    · refine am_Ev.f hcd (c := s7.1 < 69) (s1 := (47, [(0, .ref 216), (1, .int s7.1)], [], am_SH, (g, s7.2))) rfl c17 ?_
      exact am_Ev.weak' (hZ7 s7.2 (Option.some.inj h).symm) (am_sub_cons rfl am_sub_nil) rfl
  have hLt6 : ∀ tt, tt = t6 → am_Ev sc (d) 236 (27, [(0, .ref 216)], [], am_SH, (g, tt)) (none, am_SH, (g, r)) := fun tt htt => by subst htt; exact hKt6
  have h := ht6
  refine am_Ev.go hcd 3 (s' := (3, [(0, .ref 216)], [.int 6, .int (f 216 4)], am_SH, (g, f))) rfl ?_
  rcases am_ite h with ⟨c34, h⟩ | ⟨c34, h⟩
  · refine am_Ev.t hcd (c := f 216 4 = 6) (s1 := (4, [(0, .ref 216)], [], am_SH, (g, f))) rfl c34 ?_
    refine am_Ev.go hcd 2 (s' := (6, [(0, .ref 216), (1, .int 0)], [], am_SH, (g, f))) rfl ?_
    obtain ⟨e4, he4, h⟩ := am_bind_some h
    have hK1 : (fun (e4 : (Nat → Nat → Int32)) => am_Ev sc (d) 236 (21, [(0, .ref 216)], [], am_SH, (g, e4)) (none, am_SH, (g, r))) e4 := by
      show am_Ev sc (d) 236 (21, [(0, .ref 216)], [], am_SH, (g, e4)) (none, am_SH, (g, r))
      obtain ⟨f5, Ef5, h⟩ := am_let_eq h
      refine am_Ev.go hcd 6 (s' := (27, [(0, .ref 216)], [], am_SH, (g, f5))) (by subst Ef5; exact rfl) ?_
      exact am_Ev.weak' (hLt6 f5 (Option.some.inj h)) (am_sub_cons rfl am_sub_nil) rfl
    refine am_Ev.weak' (am_loop_ok (G := fun (s1 : Int32 × (Nat → Nat → Int32)) => am_Ev sc (d) 236 (6, [(0, .ref 216), (1, .int s1.1)], [], am_SH, (g, s1.2)) (none, am_SH, (g, r))) (Z := fun (e4 : (Nat → Nat → Int32)) => am_Ev sc (d) 236 (21, [(0, .ref 216)], [], am_SH, (g, e4)) (none, am_SH, (g, r))) ?_ am_F (0, f) e4 he4 hK1) (am_sub_cons rfl (am_sub_cons rfl am_sub_nil)) rfl
    intro s1 q1 h hI1 hZ1
    show am_Ev sc (d) 236 (6, [(0, .ref 216), (1, .int s1.1)], [], am_SH, (g, s1.2)) (none, am_SH, (g, r))
    refine am_Ev.go hcd 2 (s' := (8, [(0, .ref 216), (1, .int s1.1)], [.int 345, .int s1.1], am_SH, (g, s1.2))) rfl ?_
    rcases am_ite h with ⟨c47, h⟩ | ⟨c47, h⟩
    · refine am_Ev.t hcd (c := s1.1 < 345) (s1 := (9, [(0, .ref 216), (1, .int s1.1)], [], am_SH, (g, s1.2))) rfl c47 ?_
      refine am_Ev.go hcd 8 (s' := (17, [(0, .ref 216), (1, .int s1.1)], [.int (s1.1 + 69), .ref 219, .int s1.1, .ref 219], am_SH, (g, s1.2))) rfl ?_
      obtain ⟨c50, h⟩ := am_grd h
      refine am_Ev.t hcd (o := none) (c := am_in (s1.1 + 69) 414 = true) (s1 := (18, [(0, .ref 216), (1, .int s1.1)], [.int (s1.2 219 (s1.1 + 69).toNatClampNeg), .int s1.1, .ref 219], am_SH, (g, s1.2))) rfl c50 ?_
      obtain ⟨c53, h⟩ := am_grd h
      obtain ⟨f2, Ef2, h⟩ := am_let_eq h
      refine am_Ev.t hcd (o := none) (c := am_in s1.1 414 = true) (s1 := (19, [(0, .ref 216), (1, .int s1.1)], [], am_SH, (g, f2))) (by subst Ef2; exact rfl) c53 ?_
      obtain ⟨t3, Et3, h⟩ := am_let_eq h
      refine am_Ev.go hcd 1 (s' := (20, [(0, .ref 216), (1, .int t3)], [], am_SH, (g, f2))) (by subst Et3; exact rfl) ?_
      refine am_Ev.go hcd 1 (s' := (6, [(0, .ref 216), (1, .int t3)], [], am_SH, (g, f2))) rfl ?_
      exact am_Ev.weak' (hI1 (t3, f2) (Option.some.inj h).symm) (am_sub_cons rfl (am_sub_cons rfl am_sub_nil)) rfl
    · refine am_Ev.f hcd (c := s1.1 < 345) (s1 := (21, [(0, .ref 216), (1, .int s1.1)], [], am_SH, (g, s1.2))) rfl c47 ?_
      exact am_Ev.weak' (hZ1 s1.2 (Option.some.inj h).symm) (am_sub_cons rfl am_sub_nil) rfl
  · refine am_Ev.f hcd (c := f 216 4 = 6) (s1 := (27, [(0, .ref 216)], [], am_SH, (g, f))) rfl c34 ?_
    exact am_Ev.weak' (hLt6 f (Option.some.inj h)) (am_sub_cons rfl am_sub_nil) rfl
set_option maxRecDepth 100000 in
set_option maxHeartbeats 4000000 in
theorem m_notes_ok {sc : Nat × (Nat → Int32)} (d : Nat) (a0 : Int32) (a1 : Int32) (a2 : Int32) (f g : (Nat → Nat → Int32)) (r : (Nat → Nat → Int32)) (h : m_notes a0 a1 a2 f = some r) : am_Ev sc (d) 238 (0, [(0, .ref 216), (1, .int a0), (2, .int a1), (3, .int a2)], [], am_SH, (g, f)) (none, am_SH, (g, r)) := by
  have hcd : am_code 238 = am_c238 := rfl
  unfold m_notes at h
  refine am_Ev.go hcd 2 (s' := (2, [(0, .ref 216), (1, .int a0), (2, .int a1), (3, .int a2)], [.int (f 216 26)], am_SH, (g, f))) rfl ?_
  rcases am_ite h with ⟨c2, h⟩ | ⟨c2, h⟩
  · refine am_Ev.t hcd (c := f 216 26 = 0) (s1 := (9, [(0, .ref 216), (1, .int a0), (2, .int a1), (3, .int a2)], [], am_SH, (g, f))) rfl c2 ?_
    exact am_Ev.cast (a := (none, am_SH, (g, f))) (by cases h; rfl) (am_Ev.ret hcd rfl)
  · refine am_Ev.f hcd (c := f 216 26 = 0) (s1 := (3, [(0, .ref 216), (1, .int a0), (2, .int a1), (3, .int a2)], [], am_SH, (g, f))) rfl c2 ?_
    refine am_Ev.go hcd 5 (s' := (8, [(0, .ref 216), (1, .int a0), (2, .int a1), (3, .int a2)], [.int 150, .int (f 217 2)], am_SH, (g, f))) rfl ?_
    rcases am_ite h with ⟨c7, h⟩ | ⟨c7, h⟩
    · refine am_Ev.t hcd (c := f 217 2 = 150) (s1 := (9, [(0, .ref 216), (1, .int a0), (2, .int a1), (3, .int a2)], [], am_SH, (g, f))) rfl c7 ?_
      exact am_Ev.cast (a := (none, am_SH, (g, f))) (by cases h; rfl) (am_Ev.ret hcd rfl)
    · refine am_Ev.f hcd (c := f 217 2 = 150) (s1 := (10, [(0, .ref 216), (1, .int a0), (2, .int a1), (3, .int a2)], [], am_SH, (g, f))) rfl c7 ?_
      obtain ⟨t1, Et1, h⟩ := am_let_eq h
      refine am_Ev.go hcd 9 (s' := (19, [(0, .ref 216), (1, .int a0), (2, .int a1), (3, .int a2), (4, .int t1)], [], am_SH, (g, f))) (by subst Et1; exact rfl) ?_
      refine am_Ev.go hcd 7 (s' := (26, [(0, .ref 216), (1, .int a0), (2, .int a1), (3, .int a2), (4, .int t1)], [.int (f 217 0), .int t1, .ref 217], am_SH, (g, f))) rfl ?_
      obtain ⟨c14, h⟩ := am_grd h
      obtain ⟨f2, Ef2, h⟩ := am_let_eq h
      refine am_Ev.t hcd (o := none) (c := am_in t1 2008 = true) (s1 := (27, [(0, .ref 216), (1, .int a0), (2, .int a1), (3, .int a2), (4, .int t1)], [], am_SH, (g, f2))) (by subst Ef2; exact rfl) c14 ?_
      refine am_Ev.go hcd 6 (s' := (33, [(0, .ref 216), (1, .int a0), (2, .int a1), (3, .int a2), (4, .int t1)], [.int a0, .int (t1 + 1), .ref 217], am_SH, (g, f2))) rfl ?_
      obtain ⟨c18, h⟩ := am_grd h
      obtain ⟨f3, Ef3, h⟩ := am_let_eq h
      refine am_Ev.t hcd (o := none) (c := am_in (t1 + 1) 2008 = true) (s1 := (34, [(0, .ref 216), (1, .int a0), (2, .int a1), (3, .int a2), (4, .int t1)], [], am_SH, (g, f3))) (by subst Ef3; exact rfl) c18 ?_
      refine am_Ev.go hcd 6 (s' := (40, [(0, .ref 216), (1, .int a0), (2, .int a1), (3, .int a2), (4, .int t1)], [.int a1, .int (t1 + 2), .ref 217], am_SH, (g, f3))) rfl ?_
      obtain ⟨c22, h⟩ := am_grd h
      obtain ⟨f4, Ef4, h⟩ := am_let_eq h
      refine am_Ev.t hcd (o := none) (c := am_in (t1 + 2) 2008 = true) (s1 := (41, [(0, .ref 216), (1, .int a0), (2, .int a1), (3, .int a2), (4, .int t1)], [], am_SH, (g, f4))) (by subst Ef4; exact rfl) c22 ?_
      refine am_Ev.go hcd 6 (s' := (47, [(0, .ref 216), (1, .int a0), (2, .int a1), (3, .int a2), (4, .int t1)], [.int a2, .int (t1 + 3), .ref 217], am_SH, (g, f4))) rfl ?_
      obtain ⟨c26, h⟩ := am_grd h
      obtain ⟨f5, Ef5, h⟩ := am_let_eq h
      refine am_Ev.t hcd (o := none) (c := am_in (t1 + 3) 2008 = true) (s1 := (48, [(0, .ref 216), (1, .int a0), (2, .int a1), (3, .int a2), (4, .int t1)], [], am_SH, (g, f5))) (by subst Ef5; exact rfl) c26 ?_
      obtain ⟨f6, Ef6, h⟩ := am_let_eq h
      refine am_Ev.go hcd 8 (s' := (56, [(0, .ref 216), (1, .int a0), (2, .int a1), (3, .int a2), (4, .int t1)], [], am_SH, (g, f6))) (by subst Ef6; exact rfl) ?_
      exact am_Ev.cast (a := (none, am_SH, (g, f6))) (by cases h; rfl) (am_Ev.ret hcd rfl)
set_option maxRecDepth 100000 in
set_option maxHeartbeats 4000000 in
theorem m_putsUnder_ok {sc : Nat × (Nat → Int32)} (d : Nat) (a0 : Int32) (a1 : Int32) (f g : (Nat → Nat → Int32)) (r : (Nat → Nat → Int32)) (h : m_putsUnder a0 a1 f = some r) : am_Ev sc (d + 2) 242 (0, [(0, .ref 216), (1, .int a0), (2, .int a1)], [], am_SH, (g, f)) (none, am_SH, (g, r)) := by
  have hcd : am_code 242 = am_c242 := rfl
  unfold m_putsUnder at h
  refine am_Ev.go hcd 3 (s' := (3, [(0, .ref 216), (1, .int a0), (2, .int a1)], [.int a1, .int a0, .ref 216], am_SH, (g, f))) rfl ?_
  obtain ⟨p1, hp1, h⟩ := am_bind_some h
  refine am_Ev.call hcd (a := 241) (s0 := (0, [(0, .ref 216), (1, .int a0), (2, .int a1)], [], am_SH, (g, f))) (q := ((some (.int (am_b p1))), am_SH, (g, f))) (s1 := (4, [(0, .ref 216), (1, .int a0), (2, .int a1)], [.int (am_b p1)], am_SH, (g, f))) rfl rfl (m_canBeUnder_ok (d) a0 a1 f g p1 hp1) ?_
  rcases am_ite h with ⟨c5, h⟩ | ⟨c5, h⟩
  · refine am_Ev.f hcd (c := am_b p1 = 0) (s1 := (6, [(0, .ref 216), (1, .int a0), (2, .int a1)], [], am_SH, (g, f))) rfl (am_b_t c5) ?_
    refine am_Ev.go hcd 6 (s' := (12, [(0, .ref 216), (1, .int a0), (2, .int a1)], [.int a1, .int (15 + a0), .ref 217], am_SH, (g, f))) rfl ?_
    obtain ⟨c7, h⟩ := am_grd h
    obtain ⟨f2, Ef2, h⟩ := am_let_eq h
    refine am_Ev.t hcd (o := none) (c := am_in (15 + a0) 2008 = true) (s1 := (13, [(0, .ref 216), (1, .int a0), (2, .int a1)], [], am_SH, (g, f2))) (by subst Ef2; exact rfl) c7 ?_
    refine am_Ev.go hcd 6 (s' := (19, [(0, .ref 216), (1, .int a0), (2, .int a1)], [.int (45 + a1), .ref 217, .int (45 + a1), .ref 217], am_SH, (g, f2))) rfl ?_
    obtain ⟨c11, h⟩ := am_grd h
    refine am_Ev.t hcd (o := none) (c := am_in (45 + a1) 2008 = true) (s1 := (20, [(0, .ref 216), (1, .int a0), (2, .int a1)], [.int (f2 217 (45 + a1).toNatClampNeg), .int (45 + a1), .ref 217], am_SH, (g, f2))) rfl c11 ?_
    refine am_Ev.go hcd 2 (s' := (22, [(0, .ref 216), (1, .int a0), (2, .int a1)], [.int ((f2 217 (45 + a1).toNatClampNeg) + 1), .int (45 + a1), .ref 217], am_SH, (g, f2))) rfl ?_
    obtain ⟨c14, h⟩ := am_grd h
    obtain ⟨f3, Ef3, h⟩ := am_let_eq h
    refine am_Ev.t hcd (o := none) (c := am_in (45 + a1) 2008 = true) (s1 := (23, [(0, .ref 216), (1, .int a0), (2, .int a1)], [], am_SH, (g, f3))) (by subst Ef3; exact rfl) c14 ?_
    refine am_Ev.go hcd 4 (s' := (27, [(0, .ref 216), (1, .int a0), (2, .int a1)], [.int a1, .int a0, .int 0, .ref 216], am_SH, (g, f3))) rfl ?_
    obtain ⟨p4, hp4, h⟩ := am_bind_some h
    refine am_Ev.call hcd (a := 238) (s0 := (0, [(0, .ref 216), (1, .int 0), (2, .int a0), (3, .int a1)], [], am_SH, (g, f3))) (q := (none, am_SH, (g, p4))) (s1 := (28, [(0, .ref 216), (1, .int a0), (2, .int a1)], [], am_SH, (g, p4))) rfl rfl (m_notes_ok (d + 1) 0 a0 a1 f3 g p4 hp4) ?_
    exact am_Ev.cast (a := (none, am_SH, (g, p4))) (by cases h; rfl) (am_Ev.ret hcd rfl)
  · refine am_Ev.t hcd (c := am_b p1 = 0) (s1 := (5, [(0, .ref 216), (1, .int a0), (2, .int a1)], [], am_SH, (g, f))) rfl (am_b_f c5) ?_
    exact am_Ev.cast (a := (none, am_SH, (g, f))) (by cases h; rfl) (am_Ev.ret hcd rfl)
set_option maxRecDepth 100000 in
set_option maxHeartbeats 4000000 in
theorem m_takesOut_ok {sc : Nat × (Nat → Int32)} (d : Nat) (a0 : Int32) (f g : (Nat → Nat → Int32)) (r : (Nat → Nat → Int32)) (h : m_takesOut a0 f = some r) : am_Ev sc (d + 1) 243 (0, [(0, .ref 216), (1, .int a0)], [], am_SH, (g, f)) (none, am_SH, (g, r)) := by
  have hcd : am_code 243 = am_c243 := rfl
  unfold m_takesOut at h
  refine am_Ev.go hcd 5 (s' := (5, [(0, .ref 216), (1, .int a0)], [.int (15 + a0), .ref 217], am_SH, (g, f))) rfl ?_
  obtain ⟨c2, h⟩ := am_grd h
  refine am_Ev.t hcd (o := none) (c := am_in (15 + a0) 2008 = true) (s1 := (6, [(0, .ref 216), (1, .int a0)], [.int (f 217 (15 + a0).toNatClampNeg)], am_SH, (g, f))) rfl c2 ?_
  refine am_Ev.go hcd 1 (s' := (7, [(0, .ref 216), (1, .int a0)], [.int (-1), .int (f 217 (15 + a0).toNatClampNeg)], am_SH, (g, f))) rfl ?_
  rcases am_ite h with ⟨c5, h⟩ | ⟨c5, h⟩
  · refine am_Ev.t hcd (c := f 217 (15 + a0).toNatClampNeg = (-1)) (s1 := (8, [(0, .ref 216), (1, .int a0)], [], am_SH, (g, f))) rfl c5 ?_
    exact am_Ev.cast (a := (none, am_SH, (g, f))) (by cases h; rfl) (am_Ev.ret hcd rfl)
  · refine am_Ev.f hcd (c := f 217 (15 + a0).toNatClampNeg = (-1)) (s1 := (9, [(0, .ref 216), (1, .int a0)], [], am_SH, (g, f))) rfl c5 ?_
    refine am_Ev.go hcd 8 (s' := (17, [(0, .ref 216), (1, .int a0)], [.int (15 + a0), .ref 217, .int a0, .int 1, .ref 216], am_SH, (g, f))) rfl ?_
    obtain ⟨c10, h⟩ := am_grd h
    refine am_Ev.t hcd (o := none) (c := am_in (15 + a0) 2008 = true) (s1 := (18, [(0, .ref 216), (1, .int a0)], [.int (f 217 (15 + a0).toNatClampNeg), .int a0, .int 1, .ref 216], am_SH, (g, f))) rfl c10 ?_
    obtain ⟨p1, hp1, h⟩ := am_bind_some h
    refine am_Ev.call hcd (a := 238) (s0 := (0, [(0, .ref 216), (1, .int 1), (2, .int a0), (3, .int (f 217 (15 + a0).toNatClampNeg))], [], am_SH, (g, f))) (q := (none, am_SH, (g, p1))) (s1 := (19, [(0, .ref 216), (1, .int a0)], [], am_SH, (g, p1))) rfl rfl (m_notes_ok (d) 1 a0 (f 217 (15 + a0).toNatClampNeg) f g p1 hp1) ?_
    refine am_Ev.go hcd 6 (s' := (25, [(0, .ref 216), (1, .int a0)], [.int (-1), .int (15 + a0), .ref 217], am_SH, (g, p1))) rfl ?_
    obtain ⟨c15, h⟩ := am_grd h
    obtain ⟨f2, Ef2, h⟩ := am_let_eq h
    refine am_Ev.t hcd (o := none) (c := am_in (15 + a0) 2008 = true) (s1 := (26, [(0, .ref 216), (1, .int a0)], [], am_SH, (g, f2))) (by subst Ef2; exact rfl) c15 ?_
    exact am_Ev.cast (a := (none, am_SH, (g, f2))) (by cases h; rfl) (am_Ev.ret hcd rfl)
