set_option maxRecDepth 100000 in
set_option maxHeartbeats 4000000 in
theorem m_next0_ok {sc : Nat × (Nat → Int32)} (d : Nat)  (f g : (Nat → Nat → Int32)) (r : (Nat → Nat → Int32)) (h : m_next0  f = some r) : am_Ev sc (d + 5) 200 (0, [(0, .ref 216)], [], am_SH, (g, f)) (none, am_SH, (g, r)) := by
  have hcd : am_code 200 = am_c200 := rfl
  unfold m_next0 at h
  obtain ⟨e6, he6, h⟩ := am_bind_some h
  have hK1 : (fun (e6 : (Nat → Nat → Int32)) => am_Ev sc (d + 5) 200 (19, [(0, .ref 216)], [], am_SH, (g, e6)) (none, am_SH, (g, r))) e6 := by
    show am_Ev sc (d + 5) 200 (19, [(0, .ref 216)], [], am_SH, (g, e6)) (none, am_SH, (g, r))
    obtain ⟨f7, Ef7, h⟩ := am_let_eq h
    refine am_Ev.go hcd 4 (s' := (23, [(0, .ref 216)], [], am_SH, (g, f7))) (by subst Ef7; exact rfl) ?_
    refine am_Ev.go hcd 3 (s' := (26, [(0, .ref 216)], [.int (f7 216 17), .ref 216], am_SH, (g, f7))) rfl ?_
    obtain ⟨p8, hp8, h⟩ := am_bind_some h
    refine am_Ev.call hcd (a := 192) (s0 := (0, [(0, .ref 216), (1, .int (f7 216 17))], [], am_SH, (g, f7))) (q := ((some (.int p8)), am_SH, (g, f7))) (s1 := (27, [(0, .ref 216)], [.int p8], am_SH, (g, f7))) rfl rfl (m_see_ok (d + 4) (f7 216 17) f7 g p8 hp8) ?_
    refine am_Ev.go hcd 3 (s' := (30, [(0, .ref 216), (1, .int p8)], [.int (-1), .int p8], am_SH, (g, f7))) rfl ?_
    rcases am_ite h with ⟨c10, h⟩ | ⟨c10, h⟩
    · refine am_Ev.t hcd (c := p8 = (-1)) (s1 := (31, [(0, .ref 216), (1, .int p8)], [], am_SH, (g, f7))) rfl c10 ?_
      obtain ⟨f9, Ef9, h⟩ := am_let_eq h
      refine am_Ev.go hcd 3 (s' := (34, [(0, .ref 216), (1, .int p8)], [], am_SH, (g, f9))) (by subst Ef9; exact rfl) ?_
      refine am_Ev.go hcd 1 (s' := (157, [(0, .ref 216), (1, .int p8)], [], am_SH, (g, f9))) rfl ?_
      exact am_Ev.cast (a := (none, am_SH, (g, f9))) (by cases h; rfl) (am_Ev.ret hcd rfl)
    · refine am_Ev.f hcd (c := p8 = (-1)) (s1 := (35, [(0, .ref 216), (1, .int p8)], [], am_SH, (g, f7))) rfl c10 ?_
      refine am_Ev.go hcd 1 (s' := (36, [(0, .ref 216), (1, .int p8)], [.int p8], am_SH, (g, f7))) rfl ?_
      refine am_Ev.call hcd (a := 193) (s0 := (0, [(0, .int p8)], [], am_SH, (g, f7))) (q := ((some (.int (am_b (m_isLetter p8)))), am_SH, (g, f7))) (s1 := (37, [(0, .ref 216), (1, .int p8)], [.int (am_b (m_isLetter p8))], am_SH, (g, f7))) rfl rfl (m_isLetter_ok (d + 3) p8 (g, f7)) ?_
      rcases am_ite h with ⟨c20, h⟩ | ⟨c20, h⟩
      · refine am_Ev.f hcd (c := am_b (m_isLetter p8) = 0) (s1 := (38, [(0, .ref 216), (1, .int p8)], [], am_SH, (g, f7))) rfl (am_b_t c20) ?_
        obtain ⟨e15, he15, h⟩ := am_bind_some h
        have hK11 : (fun (e15 : (Nat → Nat → Int32)) => am_Ev sc (d + 5) 200 (51, [(0, .ref 216)], [], am_SH, (g, e15)) (none, am_SH, (g, r))) e15 := by
          show am_Ev sc (d + 5) 200 (51, [(0, .ref 216)], [], am_SH, (g, e15)) (none, am_SH, (g, r))
          refine am_Ev.go hcd 2 (s' := (53, [(0, .ref 216)], [.ref 216, .ref 216], am_SH, (g, e15))) rfl ?_
          obtain ⟨p16, hp16, h⟩ := am_bind_some h
          refine am_Ev.call hcd (a := 199) (s0 := (0, [(0, .ref 216)], [], am_SH, (g, e15))) (q := ((some (.int p16)), am_SH, (g, e15))) (s1 := (54, [(0, .ref 216)], [.int p16, .ref 216], am_SH, (g, e15))) rfl rfl (m_wordOf_ok (d)  e15 g p16 hp16) ?_
          obtain ⟨f17, Ef17, h⟩ := am_let_eq h
          refine am_Ev.go hcd 1 (s' := (55, [(0, .ref 216)], [], am_SH, (g, f17))) (by subst Ef17; exact rfl) ?_
          refine am_Ev.go hcd 1 (s' := (157, [(0, .ref 216)], [], am_SH, (g, f17))) rfl ?_
          exact am_Ev.cast (a := (none, am_SH, (g, f17))) (by cases h; rfl) (am_Ev.ret hcd rfl)
        refine am_Ev.weak' (am_loop_ok (G := fun (s11 : (Nat → Nat → Int32)) => am_Ev sc (d + 5) 200 (38, [(0, .ref 216)], [], am_SH, (g, s11)) (none, am_SH, (g, r))) (Z := fun (e15 : (Nat → Nat → Int32)) => am_Ev sc (d + 5) 200 (51, [(0, .ref 216)], [], am_SH, (g, e15)) (none, am_SH, (g, r))) ?_ am_F f7 e15 he15 hK11) (am_sub_cons rfl am_sub_nil) rfl
        intro s11 q11 h hI11 hZ11
        show am_Ev sc (d + 5) 200 (38, [(0, .ref 216)], [], am_SH, (g, s11)) (none, am_SH, (g, r))
        refine am_Ev.go hcd 3 (s' := (41, [(0, .ref 216)], [.int (s11 216 17), .ref 216], am_SH, (g, s11))) rfl ?_
        obtain ⟨p12, hp12, h⟩ := am_bind_some h
        refine am_Ev.call hcd (a := 192) (s0 := (0, [(0, .ref 216), (1, .int (s11 216 17))], [], am_SH, (g, s11))) (q := ((some (.int p12)), am_SH, (g, s11))) (s1 := (42, [(0, .ref 216)], [.int p12], am_SH, (g, s11))) rfl rfl (m_see_ok (d + 4) (s11 216 17) s11 g p12 hp12) ?_
        refine am_Ev.call hcd (a := 193) (s0 := (0, [(0, .int p12)], [], am_SH, (g, s11))) (q := ((some (.int (am_b (m_isLetter p12)))), am_SH, (g, s11))) (s1 := (43, [(0, .ref 216)], [.int (am_b (m_isLetter p12))], am_SH, (g, s11))) rfl rfl (m_isLetter_ok (d + 3) p12 (g, s11)) ?_
        rcases am_ite h with ⟨c39, h⟩ | ⟨c39, h⟩
        · refine am_Ev.f hcd (c := am_b (m_isLetter p12) = 0) (s1 := (44, [(0, .ref 216)], [], am_SH, (g, s11))) rfl (am_b_t c39) ?_
          obtain ⟨f14, Ef14, h⟩ := am_let_eq h
          refine am_Ev.go hcd 6 (s' := (50, [(0, .ref 216)], [], am_SH, (g, f14))) (by subst Ef14; exact rfl) ?_
          refine am_Ev.go hcd 1 (s' := (38, [(0, .ref 216)], [], am_SH, (g, f14))) rfl ?_
          exact am_Ev.weak' (hI11 f14 (Option.some.inj h).symm) (am_sub_cons rfl am_sub_nil) rfl
        · refine am_Ev.t hcd (c := am_b (m_isLetter p12) = 0) (s1 := (51, [(0, .ref 216)], [], am_SH, (g, s11))) rfl (am_b_f c39) ?_
          exact am_Ev.weak' (hZ11 s11 (Option.some.inj h).symm) (am_sub_cons rfl am_sub_nil) rfl
      · refine am_Ev.t hcd (c := am_b (m_isLetter p8) = 0) (s1 := (56, [(0, .ref 216), (1, .int p8)], [], am_SH, (g, f7))) rfl (am_b_f c20) ?_
        refine am_Ev.go hcd 1 (s' := (57, [(0, .ref 216), (1, .int p8)], [.int p8], am_SH, (g, f7))) rfl ?_
        refine am_Ev.call hcd (a := 194) (s0 := (0, [(0, .int p8)], [], am_SH, (g, f7))) (q := ((some (.int (am_b (m_isDigit p8)))), am_SH, (g, f7))) (s1 := (58, [(0, .ref 216), (1, .int p8)], [.int (am_b (m_isDigit p8))], am_SH, (g, f7))) rfl rfl (m_isDigit_ok (d + 3) p8 (g, f7)) ?_
        rcases am_ite h with ⟨c50, h⟩ | ⟨c50, h⟩
        · refine am_Ev.f hcd (c := am_b (m_isDigit p8) = 0) (s1 := (59, [(0, .ref 216), (1, .int p8)], [], am_SH, (g, f7))) rfl (am_b_t c50) ?_
          obtain ⟨f19, Ef19, h⟩ := am_let_eq h
          refine am_Ev.go hcd 3 (s' := (62, [(0, .ref 216), (1, .int p8)], [], am_SH, (g, f19))) (by subst Ef19; exact rfl) ?_
          obtain ⟨e27, he27, h⟩ := am_bind_some h
          have hK20 : (fun (e27 : (Nat → Nat → Int32)) => am_Ev sc (d + 5) 200 (95, [(0, .ref 216)], [], am_SH, (g, e27)) (none, am_SH, (g, r))) e27 := by
            show am_Ev sc (d + 5) 200 (95, [(0, .ref 216)], [], am_SH, (g, e27)) (none, am_SH, (g, r))
            obtain ⟨t28, ht28, kt28⟩ := am_let_eq h
            have hKt28 : am_Ev sc (d + 5) 200 (106, [], [.int t28, .ref 216], am_SH, (g, e27)) (none, am_SH, (g, r)) := by
              have h := kt28
              obtain ⟨f29, Ef29, h⟩ := am_let_eq h
              refine am_Ev.go hcd 1 (s' := (107, [], [], am_SH, (g, f29))) (by subst Ef29; exact rfl) ?_
              refine am_Ev.go hcd 1 (s' := (157, [], [], am_SH, (g, f29))) rfl ?_
              exact am_Ev.cast (a := (none, am_SH, (g, f29))) (by cases h; rfl) (am_Ev.ret hcd rfl)
            have hLt28 : ∀ tt, tt = t28 → am_Ev sc (d + 5) 200 (106, [], [.int tt, .ref 216], am_SH, (g, e27)) (none, am_SH, (g, r)) := fun tt htt => by subst htt; exact hKt28
            have h := ht28
            refine am_Ev.go hcd 7 (s' := (102, [(0, .ref 216)], [.int 5, .int ((e27 216 17) - (e27 216 19)), .ref 216], am_SH, (g, e27))) rfl ?_
            rcases am_itv h with ⟨c66, h⟩ | ⟨c66, h⟩
            · refine am_Ev.t hcd (c := ((e27 216 17) - (e27 216 19)) < 5) (s1 := (103, [(0, .ref 216)], [.ref 216], am_SH, (g, e27))) rfl c66 ?_
              refine am_Ev.go hcd 2 (s' := (106, [(0, .ref 216)], [.int 2, .ref 216], am_SH, (g, e27))) rfl ?_
              exact am_Ev.weak' (hLt28 2 h.symm) am_sub_nil rfl
            · refine am_Ev.f hcd (c := ((e27 216 17) - (e27 216 19)) < 5) (s1 := (105, [(0, .ref 216)], [.ref 216], am_SH, (g, e27))) rfl c66 ?_
              refine am_Ev.go hcd 1 (s' := (106, [(0, .ref 216)], [.int 1, .ref 216], am_SH, (g, e27))) rfl ?_
              exact am_Ev.weak' (hLt28 1 h.symm) am_sub_nil rfl
          refine am_Ev.weak' (am_loop_ok (G := fun (s20 : (Nat → Nat → Int32)) => am_Ev sc (d + 5) 200 (62, [(0, .ref 216)], [], am_SH, (g, s20)) (none, am_SH, (g, r))) (Z := fun (e27 : (Nat → Nat → Int32)) => am_Ev sc (d + 5) 200 (95, [(0, .ref 216)], [], am_SH, (g, e27)) (none, am_SH, (g, r))) ?_ am_F f19 e27 he27 hK20) (am_sub_cons rfl am_sub_nil) rfl
          intro s20 q20 h hI20 hZ20
          show am_Ev sc (d + 5) 200 (62, [(0, .ref 216)], [], am_SH, (g, s20)) (none, am_SH, (g, r))
          refine am_Ev.go hcd 3 (s' := (65, [(0, .ref 216)], [.int (s20 216 17), .ref 216], am_SH, (g, s20))) rfl ?_
          obtain ⟨p21, hp21, h⟩ := am_bind_some h
          refine am_Ev.call hcd (a := 192) (s0 := (0, [(0, .ref 216), (1, .int (s20 216 17))], [], am_SH, (g, s20))) (q := ((some (.int p21)), am_SH, (g, s20))) (s1 := (66, [(0, .ref 216)], [.int p21], am_SH, (g, s20))) rfl rfl (m_see_ok (d + 4) (s20 216 17) s20 g p21 hp21) ?_
          refine am_Ev.call hcd (a := 194) (s0 := (0, [(0, .int p21)], [], am_SH, (g, s20))) (q := ((some (.int (am_b (m_isDigit p21)))), am_SH, (g, s20))) (s1 := (67, [(0, .ref 216)], [.int (am_b (m_isDigit p21))], am_SH, (g, s20))) rfl rfl (m_isDigit_ok (d + 3) p21 (g, s20)) ?_
          rcases am_ite h with ⟨c81, h⟩ | ⟨c81, h⟩
          · refine am_Ev.f hcd (c := am_b (m_isDigit p21) = 0) (s1 := (68, [(0, .ref 216)], [], am_SH, (g, s20))) rfl (am_b_t c81) ?_
            obtain ⟨t25, ht25, kt25⟩ := am_bind_some h
            have hKt25 : am_Ev sc (d + 5) 200 (88, [(0, .ref 216)], [], am_SH, (g, t25)) (none, am_SH, (g, r)) := by
              have h := kt25
              obtain ⟨f26, Ef26, h⟩ := am_let_eq h
              refine am_Ev.go hcd 6 (s' := (94, [(0, .ref 216)], [], am_SH, (g, f26))) (by subst Ef26; exact rfl) ?_
              refine am_Ev.go hcd 1 (s' := (62, [(0, .ref 216)], [], am_SH, (g, f26))) rfl ?_
              exact am_Ev.weak' (hI20 f26 (Option.some.inj h).symm) (am_sub_cons rfl am_sub_nil) rfl
            have hLt25 : ∀ tt, tt = t25 → am_Ev sc (d + 5) 200 (88, [(0, .ref 216)], [], am_SH, (g, tt)) (none, am_SH, (g, r)) := fun tt htt => by subst htt; exact hKt25
            have h := ht25
            refine am_Ev.go hcd 6 (s' := (74, [(0, .ref 216)], [.int ((s20 216 19) + 4), .int (s20 216 17)], am_SH, (g, s20))) rfl ?_
            rcases am_ite h with ⟨c92, h⟩ | ⟨c92, h⟩
            · refine am_Ev.t hcd (c := s20 216 17 < ((s20 216 19) + 4)) (s1 := (75, [(0, .ref 216)], [], am_SH, (g, s20))) rfl c92 ?_
              refine am_Ev.go hcd 8 (s' := (83, [(0, .ref 216)], [.int (s20 216 17), .ref 216, .int (10 * (s20 216 20)), .ref 216], am_SH, (g, s20))) rfl ?_
              obtain ⟨p23, hp23, h⟩ := am_bind_some h
              refine am_Ev.call hcd (a := 192) (s0 := (0, [(0, .ref 216), (1, .int (s20 216 17))], [], am_SH, (g, s20))) (q := ((some (.int p23)), am_SH, (g, s20))) (s1 := (84, [(0, .ref 216)], [.int p23, .int (10 * (s20 216 20)), .ref 216], am_SH, (g, s20))) rfl rfl (m_see_ok (d + 4) (s20 216 17) s20 g p23 hp23) ?_
              obtain ⟨f24, Ef24, h⟩ := am_let_eq h
              refine am_Ev.go hcd 4 (s' := (88, [(0, .ref 216)], [], am_SH, (g, f24))) (by subst Ef24; exact rfl) ?_
              exact am_Ev.weak' (hLt25 f24 (Option.some.inj h)) (am_sub_cons rfl am_sub_nil) rfl
            · refine am_Ev.f hcd (c := s20 216 17 < ((s20 216 19) + 4)) (s1 := (88, [(0, .ref 216)], [], am_SH, (g, s20))) rfl c92 ?_
              exact am_Ev.weak' (hLt25 s20 (Option.some.inj h)) (am_sub_cons rfl am_sub_nil) rfl
          · refine am_Ev.t hcd (c := am_b (m_isDigit p21) = 0) (s1 := (95, [(0, .ref 216)], [], am_SH, (g, s20))) rfl (am_b_f c81) ?_
            exact am_Ev.weak' (hZ20 s20 (Option.some.inj h).symm) (am_sub_cons rfl am_sub_nil) rfl
        · refine am_Ev.t hcd (c := am_b (m_isDigit p8) = 0) (s1 := (108, [(0, .ref 216), (1, .int p8)], [], am_SH, (g, f7))) rfl (am_b_f c50) ?_
          obtain ⟨f30, Ef30, h⟩ := am_let_eq h
          refine am_Ev.go hcd 6 (s' := (114, [(0, .ref 216), (1, .int p8)], [], am_SH, (g, f30))) (by subst Ef30; exact rfl) ?_
          obtain ⟨t31, ht31, kt31⟩ := am_let_eq h
          have hKt31 : am_Ev sc (d + 5) 200 (147, [(0, .ref 216), (1, .int p8)], [.int (am_b t31)], am_SH, (g, f30)) (none, am_SH, (g, r)) := by
            have h := kt31
            obtain ⟨t32, ht32, kt32⟩ := am_let_eq h
            have hKt32 : am_Ev sc (d + 5) 200 (156, [], [.int t32, .ref 216], am_SH, (g, f30)) (none, am_SH, (g, r)) := by
              have h := kt32
              obtain ⟨f33, Ef33, h⟩ := am_let_eq h
              refine am_Ev.go hcd 1 (s' := (157, [], [], am_SH, (g, f33))) (by subst Ef33; exact rfl) ?_
              exact am_Ev.cast (a := (none, am_SH, (g, f33))) (by cases h; rfl) (am_Ev.ret hcd rfl)
            have hLt32 : ∀ tt, tt = t32 → am_Ev sc (d + 5) 200 (156, [], [.int tt, .ref 216], am_SH, (g, f30)) (none, am_SH, (g, r)) := fun tt htt => by subst htt; exact hKt32
            have h := ht32
            refine am_Ev.go hcd 3 (s' := (150, [(0, .ref 216), (1, .int p8), (2, .int (am_b t31))], [.int (am_b t31), .ref 216], am_SH, (g, f30))) rfl ?_
            rcases am_itv h with ⟨c119, h⟩ | ⟨c119, h⟩
            · refine am_Ev.f hcd (c := am_b t31 = 0) (s1 := (151, [(0, .ref 216), (1, .int p8), (2, .int (am_b t31))], [.ref 216], am_SH, (g, f30))) rfl (am_b_t c119) ?_
              refine am_Ev.go hcd 4 (s' := (156, [(0, .ref 216), (1, .int p8), (2, .int (am_b t31))], [.int (100 + p8), .ref 216], am_SH, (g, f30))) rfl ?_
              exact am_Ev.weak' (hLt32 (100 + p8) h.symm) am_sub_nil rfl
            · refine am_Ev.t hcd (c := am_b t31 = 0) (s1 := (155, [(0, .ref 216), (1, .int p8), (2, .int (am_b t31))], [.ref 216], am_SH, (g, f30))) rfl (am_b_f c119) ?_
              refine am_Ev.go hcd 1 (s' := (156, [(0, .ref 216), (1, .int p8), (2, .int (am_b t31))], [.int 1, .ref 216], am_SH, (g, f30))) rfl ?_
              exact am_Ev.weak' (hLt32 1 h.symm) am_sub_nil rfl
          have hLt31 : ∀ tt, tt = t31 → am_Ev sc (d + 5) 200 (147, [(0, .ref 216), (1, .int p8)], [.int (am_b tt)], am_SH, (g, f30)) (none, am_SH, (g, r)) := fun tt htt => by subst htt; exact hKt31
          have h := ht31
          refine am_Ev.go hcd 2 (s' := (116, [(0, .ref 216), (1, .int p8)], [.int 59, .int p8], am_SH, (g, f30))) rfl ?_
          rcases am_itv h with ⟨c129, h⟩ | ⟨c129, h⟩
          · refine am_Ev.t hcd (c := p8 = 59) (s1 := (144, [(0, .ref 216), (1, .int p8)], [], am_SH, (g, f30))) rfl c129 ?_
            refine am_Ev.go hcd 2 (s' := (147, [(0, .ref 216), (1, .int p8)], [.int 1], am_SH, (g, f30))) rfl ?_
            exact am_Ev.weak' (hLt31 true h.symm) (am_sub_cons rfl (am_sub_cons rfl am_sub_nil)) rfl
          · refine am_Ev.f hcd (c := p8 = 59) (s1 := (117, [(0, .ref 216), (1, .int p8)], [], am_SH, (g, f30))) rfl c129 ?_
            refine am_Ev.go hcd 2 (s' := (119, [(0, .ref 216), (1, .int p8)], [.int 43, .int p8], am_SH, (g, f30))) rfl ?_
            rcases am_itv h with ⟨c135, h⟩ | ⟨c135, h⟩
            · refine am_Ev.t hcd (c := p8 = 43) (s1 := (144, [(0, .ref 216), (1, .int p8)], [], am_SH, (g, f30))) rfl c135 ?_
              refine am_Ev.go hcd 2 (s' := (147, [(0, .ref 216), (1, .int p8)], [.int 1], am_SH, (g, f30))) rfl ?_
              exact am_Ev.weak' (hLt31 true h.symm) (am_sub_cons rfl (am_sub_cons rfl am_sub_nil)) rfl
            · refine am_Ev.f hcd (c := p8 = 43) (s1 := (120, [(0, .ref 216), (1, .int p8)], [], am_SH, (g, f30))) rfl c135 ?_
              refine am_Ev.go hcd 2 (s' := (122, [(0, .ref 216), (1, .int p8)], [.int 45, .int p8], am_SH, (g, f30))) rfl ?_
              rcases am_itv h with ⟨c141, h⟩ | ⟨c141, h⟩
              · refine am_Ev.t hcd (c := p8 = 45) (s1 := (144, [(0, .ref 216), (1, .int p8)], [], am_SH, (g, f30))) rfl c141 ?_
                refine am_Ev.go hcd 2 (s' := (147, [(0, .ref 216), (1, .int p8)], [.int 1], am_SH, (g, f30))) rfl ?_
                exact am_Ev.weak' (hLt31 true h.symm) (am_sub_cons rfl (am_sub_cons rfl am_sub_nil)) rfl
              · refine am_Ev.f hcd (c := p8 = 45) (s1 := (123, [(0, .ref 216), (1, .int p8)], [], am_SH, (g, f30))) rfl c141 ?_
                refine am_Ev.go hcd 2 (s' := (125, [(0, .ref 216), (1, .int p8)], [.int 42, .int p8], am_SH, (g, f30))) rfl ?_
                rcases am_itv h with ⟨c147, h⟩ | ⟨c147, h⟩
                · refine am_Ev.t hcd (c := p8 = 42) (s1 := (144, [(0, .ref 216), (1, .int p8)], [], am_SH, (g, f30))) rfl c147 ?_
                  refine am_Ev.go hcd 2 (s' := (147, [(0, .ref 216), (1, .int p8)], [.int 1], am_SH, (g, f30))) rfl ?_
                  exact am_Ev.weak' (hLt31 true h.symm) (am_sub_cons rfl (am_sub_cons rfl am_sub_nil)) rfl
                · refine am_Ev.f hcd (c := p8 = 42) (s1 := (126, [(0, .ref 216), (1, .int p8)], [], am_SH, (g, f30))) rfl c147 ?_
                  refine am_Ev.go hcd 2 (s' := (128, [(0, .ref 216), (1, .int p8)], [.int 47, .int p8], am_SH, (g, f30))) rfl ?_
                  rcases am_itv h with ⟨c153, h⟩ | ⟨c153, h⟩
                  · refine am_Ev.t hcd (c := p8 = 47) (s1 := (144, [(0, .ref 216), (1, .int p8)], [], am_SH, (g, f30))) rfl c153 ?_
                    refine am_Ev.go hcd 2 (s' := (147, [(0, .ref 216), (1, .int p8)], [.int 1], am_SH, (g, f30))) rfl ?_
                    exact am_Ev.weak' (hLt31 true h.symm) (am_sub_cons rfl (am_sub_cons rfl am_sub_nil)) rfl
                  · refine am_Ev.f hcd (c := p8 = 47) (s1 := (129, [(0, .ref 216), (1, .int p8)], [], am_SH, (g, f30))) rfl c153 ?_
                    refine am_Ev.go hcd 2 (s' := (131, [(0, .ref 216), (1, .int p8)], [.int 40, .int p8], am_SH, (g, f30))) rfl ?_
                    rcases am_itv h with ⟨c159, h⟩ | ⟨c159, h⟩
                    · refine am_Ev.t hcd (c := p8 = 40) (s1 := (144, [(0, .ref 216), (1, .int p8)], [], am_SH, (g, f30))) rfl c159 ?_
                      refine am_Ev.go hcd 2 (s' := (147, [(0, .ref 216), (1, .int p8)], [.int 1], am_SH, (g, f30))) rfl ?_
                      exact am_Ev.weak' (hLt31 true h.symm) (am_sub_cons rfl (am_sub_cons rfl am_sub_nil)) rfl
                    · refine am_Ev.f hcd (c := p8 = 40) (s1 := (132, [(0, .ref 216), (1, .int p8)], [], am_SH, (g, f30))) rfl c159 ?_
                      refine am_Ev.go hcd 2 (s' := (134, [(0, .ref 216), (1, .int p8)], [.int 41, .int p8], am_SH, (g, f30))) rfl ?_
                      rcases am_itv h with ⟨c165, h⟩ | ⟨c165, h⟩
                      · refine am_Ev.t hcd (c := p8 = 41) (s1 := (144, [(0, .ref 216), (1, .int p8)], [], am_SH, (g, f30))) rfl c165 ?_
                        refine am_Ev.go hcd 2 (s' := (147, [(0, .ref 216), (1, .int p8)], [.int 1], am_SH, (g, f30))) rfl ?_
                        exact am_Ev.weak' (hLt31 true h.symm) (am_sub_cons rfl (am_sub_cons rfl am_sub_nil)) rfl
                      · refine am_Ev.f hcd (c := p8 = 41) (s1 := (135, [(0, .ref 216), (1, .int p8)], [], am_SH, (g, f30))) rfl c165 ?_
                        refine am_Ev.go hcd 2 (s' := (137, [(0, .ref 216), (1, .int p8)], [.int 60, .int p8], am_SH, (g, f30))) rfl ?_
                        rcases am_itv h with ⟨c171, h⟩ | ⟨c171, h⟩
                        · refine am_Ev.t hcd (c := p8 = 60) (s1 := (144, [(0, .ref 216), (1, .int p8)], [], am_SH, (g, f30))) rfl c171 ?_
                          refine am_Ev.go hcd 2 (s' := (147, [(0, .ref 216), (1, .int p8)], [.int 1], am_SH, (g, f30))) rfl ?_
                          exact am_Ev.weak' (hLt31 true h.symm) (am_sub_cons rfl (am_sub_cons rfl am_sub_nil)) rfl
                        · refine am_Ev.f hcd (c := p8 = 60) (s1 := (138, [(0, .ref 216), (1, .int p8)], [], am_SH, (g, f30))) rfl c171 ?_
                          refine am_Ev.go hcd 2 (s' := (140, [(0, .ref 216), (1, .int p8)], [.int 61, .int p8], am_SH, (g, f30))) rfl ?_
                          rcases am_itv h with ⟨c177, h⟩ | ⟨c177, h⟩
                          · refine am_Ev.t hcd (c := p8 = 61) (s1 := (144, [(0, .ref 216), (1, .int p8)], [], am_SH, (g, f30))) rfl c177 ?_
                            refine am_Ev.go hcd 2 (s' := (147, [(0, .ref 216), (1, .int p8)], [.int 1], am_SH, (g, f30))) rfl ?_
                            exact am_Ev.weak' (hLt31 true h.symm) (am_sub_cons rfl (am_sub_cons rfl am_sub_nil)) rfl
                          · refine am_Ev.f hcd (c := p8 = 61) (s1 := (141, [(0, .ref 216), (1, .int p8)], [], am_SH, (g, f30))) rfl c177 ?_
                            refine am_Ev.go hcd 2 (s' := (143, [(0, .ref 216), (1, .int p8)], [.int 62, .int p8], am_SH, (g, f30))) rfl ?_
                            rcases am_itv h with ⟨c183, h⟩ | ⟨c183, h⟩
                            · refine am_Ev.t hcd (c := p8 = 62) (s1 := (144, [(0, .ref 216), (1, .int p8)], [], am_SH, (g, f30))) rfl c183 ?_
                              refine am_Ev.go hcd 2 (s' := (147, [(0, .ref 216), (1, .int p8)], [.int 1], am_SH, (g, f30))) rfl ?_
                              exact am_Ev.weak' (hLt31 true h.symm) (am_sub_cons rfl (am_sub_cons rfl am_sub_nil)) rfl
                            · refine am_Ev.f hcd (c := p8 = 62) (s1 := (146, [(0, .ref 216), (1, .int p8)], [], am_SH, (g, f30))) rfl c183 ?_
                              refine am_Ev.go hcd 1 (s' := (147, [(0, .ref 216), (1, .int p8)], [.int 0], am_SH, (g, f30))) rfl ?_
                              exact am_Ev.weak' (hLt31 false h.symm) (am_sub_cons rfl (am_sub_cons rfl am_sub_nil)) rfl
  refine am_Ev.weak' (am_loop_ok (G := fun (s1 : (Nat → Nat → Int32)) => am_Ev sc (d + 5) 200 (0, [(0, .ref 216)], [], am_SH, (g, s1)) (none, am_SH, (g, r))) (Z := fun (e6 : (Nat → Nat → Int32)) => am_Ev sc (d + 5) 200 (19, [(0, .ref 216)], [], am_SH, (g, e6)) (none, am_SH, (g, r))) ?_ am_F f e6 he6 hK1) (am_sub_cons rfl am_sub_nil) rfl
  intro s1 q1 h hI1 hZ1
  show am_Ev sc (d + 5) 200 (0, [(0, .ref 216)], [], am_SH, (g, s1)) (none, am_SH, (g, r))
  refine am_Ev.go hcd 3 (s' := (3, [(0, .ref 216)], [.int (s1 216 17), .ref 216], am_SH, (g, s1))) rfl ?_
  obtain ⟨p2, hp2, h⟩ := am_bind_some h
  refine am_Ev.call hcd (a := 192) (s0 := (0, [(0, .ref 216), (1, .int (s1 216 17))], [], am_SH, (g, s1))) (q := ((some (.int p2)), am_SH, (g, s1))) (s1 := (4, [(0, .ref 216)], [.int p2], am_SH, (g, s1))) rfl rfl (m_see_ok (d + 4) (s1 216 17) s1 g p2 hp2) ?_
  refine am_Ev.go hcd 1 (s' := (5, [(0, .ref 216)], [.int 32, .int p2], am_SH, (g, s1))) rfl ?_
  rcases am_ite h with ⟨c197, h⟩ | ⟨c197, h⟩
  · refine am_Ev.t hcd (c := p2 = 32) (s1 := (12, [(0, .ref 216)], [], am_SH, (g, s1))) rfl c197 ?_
    obtain ⟨f3, Ef3, h⟩ := am_let_eq h
    refine am_Ev.go hcd 6 (s' := (18, [(0, .ref 216)], [], am_SH, (g, f3))) (by subst Ef3; exact rfl) ?_
    refine am_Ev.go hcd 1 (s' := (0, [(0, .ref 216)], [], am_SH, (g, f3))) rfl ?_
    exact am_Ev.weak' (hI1 f3 (Option.some.inj h).symm) (am_sub_cons rfl am_sub_nil) rfl
  · refine am_Ev.f hcd (c := p2 = 32) (s1 := (6, [(0, .ref 216)], [], am_SH, (g, s1))) rfl c197 ?_
    refine am_Ev.go hcd 3 (s' := (9, [(0, .ref 216)], [.int (s1 216 17), .ref 216], am_SH, (g, s1))) rfl ?_
    obtain ⟨p4, hp4, h⟩ := am_bind_some h
    refine am_Ev.call hcd (a := 192) (s0 := (0, [(0, .ref 216), (1, .int (s1 216 17))], [], am_SH, (g, s1))) (q := ((some (.int p4)), am_SH, (g, s1))) (s1 := (10, [(0, .ref 216)], [.int p4], am_SH, (g, s1))) rfl rfl (m_see_ok (d + 4) (s1 216 17) s1 g p4 hp4) ?_
    refine am_Ev.go hcd 1 (s' := (11, [(0, .ref 216)], [.int 10, .int p4], am_SH, (g, s1))) rfl ?_
    rcases am_ite h with ⟨c208, h⟩ | ⟨c208, h⟩
    · refine am_Ev.t hcd (c := p4 = 10) (s1 := (12, [(0, .ref 216)], [], am_SH, (g, s1))) rfl c208 ?_
      obtain ⟨f5, Ef5, h⟩ := am_let_eq h
      refine am_Ev.go hcd 6 (s' := (18, [(0, .ref 216)], [], am_SH, (g, f5))) (by subst Ef5; exact rfl) ?_
      refine am_Ev.go hcd 1 (s' := (0, [(0, .ref 216)], [], am_SH, (g, f5))) rfl ?_
      exact am_Ev.weak' (hI1 f5 (Option.some.inj h).symm) (am_sub_cons rfl am_sub_nil) rfl
    · refine am_Ev.f hcd (c := p4 = 10) (s1 := (19, [(0, .ref 216)], [], am_SH, (g, s1))) rfl c208 ?_
      exact am_Ev.weak' (hZ1 s1 (Option.some.inj h).symm) (am_sub_cons rfl am_sub_nil) rfl
set_option maxRecDepth 100000 in
set_option maxHeartbeats 4000000 in
theorem m_bad_ok {sc : Nat × (Nat → Int32)} (d : Nat) (a0 : Int32) (f g : (Nat → Nat → Int32)) : am_Ev sc (d) 201 (0, [(0, .ref 216), (1, .int a0)], [], am_SH, (g, f)) ((some (.int (am_b (m_bad a0 f).1))), am_SH, (g, (m_bad a0 f).2)) := by
  have hcd : am_code 201 = am_c201 := rfl
  obtain ⟨r, h⟩ : ∃ r, r = m_bad a0 f := ⟨_, rfl⟩
  rw [← h]
  unfold m_bad at h
  obtain ⟨f1, Ef1, h⟩ := am_let_eq' h
  refine am_Ev.go hcd 3 (s' := (3, [(0, .ref 216), (1, .int a0)], [], am_SH, (g, f1))) (by subst Ef1; exact rfl) ?_
  obtain ⟨f2, Ef2, h⟩ := am_let_eq' h
  refine am_Ev.go hcd 4 (s' := (7, [(0, .ref 216), (1, .int a0)], [], am_SH, (g, f2))) (by subst Ef2; exact rfl) ?_
  refine am_Ev.go hcd 1 (s' := (8, [(0, .ref 216), (1, .int a0)], [.int 0], am_SH, (g, f2))) rfl ?_
  exact am_Ev.cast (a := ((some (.int (am_b (false, f2).1))), am_SH, (g, (false, f2).2))) (by subst h; rfl) (am_Ev.ret hcd rfl)
set_option maxRecDepth 100000 in
set_option maxHeartbeats 4000000 in
theorem m_lay_ok {sc : Nat × (Nat → Int32)} (d : Nat) (a0 : Int32) (a1 : Int32) (f g : (Nat → Nat → Int32)) (r : (Nat → Nat → Int32)) (h : m_lay a0 a1 f = some r) : am_Ev sc (d) 203 (0, [(0, .ref 216), (1, .int a0), (2, .int a1)], [], am_SH, (g, f)) (none, am_SH, (g, r)) := by
  have hcd : am_code 203 = am_c203 := rfl
  unfold m_lay at h
  refine am_Ev.go hcd 7 (s' := (7, [(0, .ref 216), (1, .int a0), (2, .int a1)], [.int a0, .int (2 * (f 216 14)), .ref 222], am_SH, (g, f))) rfl ?_
  obtain ⟨c2, h⟩ := am_grd h
  obtain ⟨f1, Ef1, h⟩ := am_let_eq h
  refine am_Ev.t hcd (o := none) (c := am_in (2 * (f 216 14)) 820 = true) (s1 := (8, [(0, .ref 216), (1, .int a0), (2, .int a1)], [], am_SH, (g, f1))) (by subst Ef1; exact rfl) c2 ?_
  refine am_Ev.go hcd 9 (s' := (17, [(0, .ref 216), (1, .int a0), (2, .int a1)], [.int a1, .int ((2 * (f1 216 14)) + 1), .ref 222], am_SH, (g, f1))) rfl ?_
  obtain ⟨c6, h⟩ := am_grd h
  obtain ⟨f2, Ef2, h⟩ := am_let_eq h
  refine am_Ev.t hcd (o := none) (c := am_in ((2 * (f1 216 14)) + 1) 820 = true) (s1 := (18, [(0, .ref 216), (1, .int a0), (2, .int a1)], [], am_SH, (g, f2))) (by subst Ef2; exact rfl) c6 ?_
  obtain ⟨f3, Ef3, h⟩ := am_let_eq h
  refine am_Ev.go hcd 6 (s' := (24, [(0, .ref 216), (1, .int a0), (2, .int a1)], [], am_SH, (g, f3))) (by subst Ef3; exact rfl) ?_
  exact am_Ev.cast (a := (none, am_SH, (g, f3))) (by cases h; rfl) (am_Ev.ret hcd rfl)
set_option maxRecDepth 100000 in
set_option maxHeartbeats 4000000 in
theorem m_unit_ok {sc : Nat × (Nat → Int32)} (d : Nat)  (f g : (Nat → Nat → Int32)) (r : Bool × (Nat → Nat → Int32)) (h : m_unit  f = some r) : am_Ev sc (d + 6) 207 (0, [(0, .ref 216)], [], am_SH, (g, f)) ((some (.int (am_b r.1))), am_SH, (g, r.2)) := by
  have hcd : am_code 207 = am_c207 := rfl
  unfold m_unit at h
  refine am_Ev.go hcd 4 (s' := (4, [(0, .ref 216)], [.int 50, .int 41, .int (f 216 18)], am_SH, (g, f))) rfl ?_
  refine am_Ev.call hcd (a := 176) (s0 := (0, [(0, .int (f 216 18)), (1, .int 41), (2, .int 50)], [], am_SH, (g, f))) (q := ((some (.int (am_b (m_isIn (f 216 18) 41 50)))), am_SH, (g, f))) (s1 := (5, [(0, .ref 216)], [.int (am_b (m_isIn (f 216 18) 41 50))], am_SH, (g, f))) rfl rfl (m_isIn_ok (d + 5) (f 216 18) 41 50 (g, f)) ?_
  obtain ⟨t2, Et2, h⟩ := am_let_eq h
  refine am_Ev.go hcd 1 (s' := (6, [(0, .ref 216), (1, .int (am_b t2))], [], am_SH, (g, f))) (by subst Et2; exact rfl) ?_
  refine am_Ev.go hcd 3 (s' := (9, [(0, .ref 216), (1, .int (am_b t2))], [.int 2, .int (f 216 18)], am_SH, (g, f))) rfl ?_
  rcases am_ite h with ⟨c6, h⟩ | ⟨c6, h⟩
  · refine am_Ev.t hcd (c := f 216 18 = 2) (s1 := (16, [(0, .ref 216), (1, .int (am_b t2))], [], am_SH, (g, f))) rfl c6 ?_
    obtain ⟨t3, ht3, kt3⟩ := am_let_eq h
    have hKt3 : am_Ev sc (d + 6) 207 (25, [(0, .ref 216)], [.int t3, .ref 216], am_SH, (g, f)) ((some (.int (am_b r.1))), am_SH, (g, r.2)) := by
      have h := kt3
      refine am_Ev.go hcd 2 (s' := (27, [(0, .ref 216)], [.int (f 216 20), .int t3, .ref 216], am_SH, (g, f))) rfl ?_
      obtain ⟨p4, hp4, h⟩ := am_bind_some h
      refine am_Ev.call hcd (a := 203) (s0 := (0, [(0, .ref 216), (1, .int t3), (2, .int (f 216 20))], [], am_SH, (g, f))) (q := (none, am_SH, (g, p4))) (s1 := (28, [(0, .ref 216)], [], am_SH, (g, p4))) rfl rfl (m_lay_ok (d + 5) t3 (f 216 20) f g p4 hp4) ?_
      refine am_Ev.go hcd 1 (s' := (29, [(0, .ref 216)], [.ref 216], am_SH, (g, p4))) rfl ?_
      obtain ⟨p5, hp5, h⟩ := am_bind_some h
      refine am_Ev.call hcd (a := 200) (s0 := (0, [(0, .ref 216)], [], am_SH, (g, p4))) (q := (none, am_SH, (g, p5))) (s1 := (30, [(0, .ref 216)], [], am_SH, (g, p5))) rfl rfl (m_next0_ok (d)  p4 g p5 hp5) ?_
      refine am_Ev.go hcd 1 (s' := (31, [(0, .ref 216)], [.int 1], am_SH, (g, p5))) rfl ?_
      exact am_Ev.cast (a := ((some (.int (am_b (true, p5).1))), am_SH, (g, (true, p5).2))) (by cases h; rfl) (am_Ev.ret hcd rfl)
    have hLt3 : ∀ tt, tt = t3 → am_Ev sc (d + 6) 207 (25, [(0, .ref 216)], [.int tt, .ref 216], am_SH, (g, f)) ((some (.int (am_b r.1))), am_SH, (g, r.2)) := fun tt htt => by subst htt; exact hKt3
    have h := ht3
    refine am_Ev.go hcd 2 (s' := (18, [(0, .ref 216), (1, .int (am_b t2))], [.int (am_b t2), .ref 216], am_SH, (g, f))) rfl ?_
    rcases am_itv h with ⟨c22, h⟩ | ⟨c22, h⟩
    · refine am_Ev.f hcd (c := am_b t2 = 0) (s1 := (19, [(0, .ref 216), (1, .int (am_b t2))], [.ref 216], am_SH, (g, f))) rfl (am_b_t c22) ?_
      refine am_Ev.go hcd 5 (s' := (25, [(0, .ref 216), (1, .int (am_b t2))], [.int ((f 216 18) - 40), .ref 216], am_SH, (g, f))) rfl ?_
      exact am_Ev.weak' (hLt3 ((f 216 18) - 40) h.symm) (am_sub_cons rfl am_sub_nil) rfl
    · refine am_Ev.t hcd (c := am_b t2 = 0) (s1 := (24, [(0, .ref 216), (1, .int (am_b t2))], [.ref 216], am_SH, (g, f))) rfl (am_b_f c22) ?_
      refine am_Ev.go hcd 1 (s' := (25, [(0, .ref 216), (1, .int (am_b t2))], [.int 0, .ref 216], am_SH, (g, f))) rfl ?_
      exact am_Ev.weak' (hLt3 0 h.symm) (am_sub_cons rfl am_sub_nil) rfl
  · refine am_Ev.f hcd (c := f 216 18 = 2) (s1 := (10, [(0, .ref 216), (1, .int (am_b t2))], [], am_SH, (g, f))) rfl c6 ?_
    refine am_Ev.go hcd 1 (s' := (11, [(0, .ref 216), (1, .int (am_b t2))], [.int (am_b t2)], am_SH, (g, f))) rfl ?_
    rcases am_ite h with ⟨c31, h⟩ | ⟨c31, h⟩
    · refine am_Ev.f hcd (c := am_b t2 = 0) (s1 := (16, [(0, .ref 216), (1, .int (am_b t2))], [], am_SH, (g, f))) rfl (am_b_t c31) ?_
      obtain ⟨t6, ht6, kt6⟩ := am_let_eq h
      have hKt6 : am_Ev sc (d + 6) 207 (25, [(0, .ref 216)], [.int t6, .ref 216], am_SH, (g, f)) ((some (.int (am_b r.1))), am_SH, (g, r.2)) := by
        have h := kt6
        refine am_Ev.go hcd 2 (s' := (27, [(0, .ref 216)], [.int (f 216 20), .int t6, .ref 216], am_SH, (g, f))) rfl ?_
        obtain ⟨p7, hp7, h⟩ := am_bind_some h
        refine am_Ev.call hcd (a := 203) (s0 := (0, [(0, .ref 216), (1, .int t6), (2, .int (f 216 20))], [], am_SH, (g, f))) (q := (none, am_SH, (g, p7))) (s1 := (28, [(0, .ref 216)], [], am_SH, (g, p7))) rfl rfl (m_lay_ok (d + 5) t6 (f 216 20) f g p7 hp7) ?_
        refine am_Ev.go hcd 1 (s' := (29, [(0, .ref 216)], [.ref 216], am_SH, (g, p7))) rfl ?_
        obtain ⟨p8, hp8, h⟩ := am_bind_some h
        refine am_Ev.call hcd (a := 200) (s0 := (0, [(0, .ref 216)], [], am_SH, (g, p7))) (q := (none, am_SH, (g, p8))) (s1 := (30, [(0, .ref 216)], [], am_SH, (g, p8))) rfl rfl (m_next0_ok (d)  p7 g p8 hp8) ?_
        refine am_Ev.go hcd 1 (s' := (31, [(0, .ref 216)], [.int 1], am_SH, (g, p8))) rfl ?_
        exact am_Ev.cast (a := ((some (.int (am_b (true, p8).1))), am_SH, (g, (true, p8).2))) (by cases h; rfl) (am_Ev.ret hcd rfl)
      have hLt6 : ∀ tt, tt = t6 → am_Ev sc (d + 6) 207 (25, [(0, .ref 216)], [.int tt, .ref 216], am_SH, (g, f)) ((some (.int (am_b r.1))), am_SH, (g, r.2)) := fun tt htt => by subst htt; exact hKt6
      have h := ht6
      refine am_Ev.go hcd 2 (s' := (18, [(0, .ref 216), (1, .int (am_b t2))], [.int (am_b t2), .ref 216], am_SH, (g, f))) rfl ?_
      rcases am_itv h with ⟨c47, h⟩ | ⟨c47, h⟩
      · refine am_Ev.f hcd (c := am_b t2 = 0) (s1 := (19, [(0, .ref 216), (1, .int (am_b t2))], [.ref 216], am_SH, (g, f))) rfl (am_b_t c47) ?_
        refine am_Ev.go hcd 5 (s' := (25, [(0, .ref 216), (1, .int (am_b t2))], [.int ((f 216 18) - 40), .ref 216], am_SH, (g, f))) rfl ?_
        exact am_Ev.weak' (hLt6 ((f 216 18) - 40) h.symm) (am_sub_cons rfl am_sub_nil) rfl
      · refine am_Ev.t hcd (c := am_b t2 = 0) (s1 := (24, [(0, .ref 216), (1, .int (am_b t2))], [.ref 216], am_SH, (g, f))) rfl (am_b_f c47) ?_
        refine am_Ev.go hcd 1 (s' := (25, [(0, .ref 216), (1, .int (am_b t2))], [.int 0, .ref 216], am_SH, (g, f))) rfl ?_
        exact am_Ev.weak' (hLt6 0 h.symm) (am_sub_cons rfl am_sub_nil) rfl
    · refine am_Ev.t hcd (c := am_b t2 = 0) (s1 := (12, [(0, .ref 216), (1, .int (am_b t2))], [], am_SH, (g, f))) rfl (am_b_f c31) ?_
      refine am_Ev.go hcd 2 (s' := (14, [(0, .ref 216), (1, .int (am_b t2))], [.int 1, .ref 216], am_SH, (g, f))) rfl ?_
      obtain ⟨p9, Ep9, h⟩ := am_let_eq h
      refine am_Ev.call hcd (a := 201) (s0 := (0, [(0, .ref 216), (1, .int 1)], [], am_SH, (g, f))) (q := ((some (.int (am_b p9.1))), am_SH, (g, p9.2))) (s1 := (15, [(0, .ref 216), (1, .int (am_b t2))], [.int (am_b p9.1)], am_SH, (g, p9.2))) rfl rfl (by subst Ep9; exact m_bad_ok (d + 5) 1 f g) ?_
      exact am_Ev.cast (a := ((some (.int (am_b (p9.1, p9.2).1))), am_SH, (g, (p9.1, p9.2).2))) (by cases h; rfl) (am_Ev.retb hcd rfl)
set_option maxRecDepth 100000 in
set_option maxHeartbeats 4000000 in
theorem m_product_ok {sc : Nat × (Nat → Int32)} (d : Nat)  (f g : (Nat → Nat → Int32)) (r : Bool × (Nat → Nat → Int32)) (h : m_product  f = some r) : am_Ev sc (d + 7) 206 (0, [(0, .ref 216)], [], am_SH, (g, f)) ((some (.int (am_b r.1))), am_SH, (g, r.2)) := by
  have hcd : am_code 206 = am_c206 := rfl
  unfold m_product at h
  refine am_Ev.go hcd 1 (s' := (1, [(0, .ref 216)], [.ref 216], am_SH, (g, f))) rfl ?_
  obtain ⟨p1, hp1, h⟩ := am_bind_some h
  refine am_Ev.call hcd (a := 207) (s0 := (0, [(0, .ref 216)], [], am_SH, (g, f))) (q := ((some (.int (am_b p1.1))), am_SH, (g, p1.2))) (s1 := (2, [(0, .ref 216)], [.int (am_b p1.1)], am_SH, (g, p1.2))) rfl rfl (m_unit_ok (d)  f g p1 hp1) ?_
  rcases am_ite h with ⟨c5, h⟩ | ⟨c5, h⟩
  · refine am_Ev.f hcd (c := am_b p1.1 = 0) (s1 := (5, [(0, .ref 216)], [], am_SH, (g, p1.2))) rfl (am_b_t c5) ?_
    obtain ⟨e21, he21, h⟩ := am_bind_some h
    have hK2 : (fun (v : (Bool × (Nat → Nat → Int32)) ⊕ ((Nat → Nat → Int32))) => v.elim (fun (v : Bool × (Nat → Nat → Int32)) => (((some (.int (am_b v.1))), am_SH, (g, v.2)) : am_R) = ((some (.int (am_b r.1))), am_SH, (g, r.2))) (fun (e22 : (Nat → Nat → Int32)) => am_Ev sc (d + 7) 206 (59, [], [], am_SH, (g, e22)) ((some (.int (am_b r.1))), am_SH, (g, r.2)))) e21 := by
      cases e21 with
      | inl v => exact (by cases h; rfl)
      | inr e22 =>
        have h := am_elim_r h
        show am_Ev sc (d + 7) 206 (59, [], [], am_SH, (g, e22)) ((some (.int (am_b r.1))), am_SH, (g, r.2))
        refine am_Ev.go hcd 1 (s' := (60, [], [.int 1], am_SH, (g, e22))) rfl ?_
        exact am_Ev.cast (a := ((some (.int (am_b (true, e22).1))), am_SH, (g, (true, e22).2))) (by cases h; rfl) (am_Ev.ret hcd rfl)
    refine am_Ev.weak' (am_loop_ok (G := fun (s2 : (Nat → Nat → Int32)) => am_Ev sc (d + 7) 206 (5, [(0, .ref 216)], [], am_SH, (g, s2)) ((some (.int (am_b r.1))), am_SH, (g, r.2))) (Z := fun (v : (Bool × (Nat → Nat → Int32)) ⊕ ((Nat → Nat → Int32))) => v.elim (fun (v : Bool × (Nat → Nat → Int32)) => (((some (.int (am_b v.1))), am_SH, (g, v.2)) : am_R) = ((some (.int (am_b r.1))), am_SH, (g, r.2))) (fun (e22 : (Nat → Nat → Int32)) => am_Ev sc (d + 7) 206 (59, [], [], am_SH, (g, e22)) ((some (.int (am_b r.1))), am_SH, (g, r.2)))) ?_ am_F p1.2 e21 he21 hK2) (am_sub_cons rfl am_sub_nil) rfl
    intro s2 q2 h hI2 hZ2
    show am_Ev sc (d + 7) 206 (5, [(0, .ref 216)], [], am_SH, (g, s2)) ((some (.int (am_b r.1))), am_SH, (g, r.2))
    refine am_Ev.go hcd 3 (s' := (8, [(0, .ref 216)], [.int 142, .int (s2 216 18)], am_SH, (g, s2))) rfl ?_
    rcases am_ite h with ⟨c19, h⟩ | ⟨c19, h⟩
    · refine am_Ev.t hcd (c := s2 216 18 = 142) (s1 := (13, [(0, .ref 216)], [], am_SH, (g, s2))) rfl c19 ?_
      obtain ⟨t3, ht3, kt3⟩ := am_let_eq h
      have hKt3 : am_Ev sc (d + 7) 206 (20, [(0, .ref 216)], [.int (am_b t3)], am_SH, (g, s2)) ((some (.int (am_b r.1))), am_SH, (g, r.2)) := by
        have h := kt3
        refine am_Ev.go hcd 2 (s' := (22, [(0, .ref 216), (1, .int (am_b t3))], [.ref 216], am_SH, (g, s2))) rfl ?_
        obtain ⟨p4, hp4, h⟩ := am_bind_some h
        refine am_Ev.call hcd (a := 200) (s0 := (0, [(0, .ref 216)], [], am_SH, (g, s2))) (q := (none, am_SH, (g, p4))) (s1 := (23, [(0, .ref 216), (1, .int (am_b t3))], [], am_SH, (g, p4))) rfl rfl (m_next0_ok (d + 1)  s2 g p4 hp4) ?_
        refine am_Ev.go hcd 1 (s' := (24, [(0, .ref 216), (1, .int (am_b t3))], [.int (am_b t3)], am_SH, (g, p4))) rfl ?_
        rcases am_ite h with ⟨c28, h⟩ | ⟨c28, h⟩
        · refine am_Ev.f hcd (c := am_b t3 = 0) (s1 := (25, [(0, .ref 216), (1, .int (am_b t3))], [], am_SH, (g, p4))) rfl (am_b_t c28) ?_
          obtain ⟨t5, Et5, h⟩ := am_let_eq h
          refine am_Ev.go hcd 3 (s' := (28, [(0, .ref 216), (1, .int (am_b t3)), (2, .int t5)], [], am_SH, (g, p4))) (by subst Et5; exact rfl) ?_
          refine am_Ev.go hcd 3 (s' := (31, [(0, .ref 216), (1, .int (am_b t3)), (2, .int t5)], [.int 2, .int (p4 216 18)], am_SH, (g, p4))) rfl ?_
          rcases am_ite h with ⟨c33, h⟩ | ⟨c33, h⟩
          · refine am_Ev.t hcd (c := p4 216 18 = 2) (s1 := (36, [(0, .ref 216), (1, .int (am_b t3)), (2, .int t5)], [], am_SH, (g, p4))) rfl c33 ?_
            refine am_Ev.go hcd 1 (s' := (37, [(0, .ref 216), (1, .int (am_b t3)), (2, .int t5)], [.int t5], am_SH, (g, p4))) rfl ?_
            rcases am_ite h with ⟨c36, h⟩ | ⟨c36, h⟩
            · refine am_Ev.t hcd (c := t5 = 0) (s1 := (38, [(0, .ref 216), (1, .int (am_b t3)), (2, .int t5)], [], am_SH, (g, p4))) rfl c36 ?_
              refine am_Ev.go hcd 2 (s' := (40, [(0, .ref 216), (1, .int (am_b t3)), (2, .int t5)], [.int 2, .ref 216], am_SH, (g, p4))) rfl ?_
              obtain ⟨p6, Ep6, h⟩ := am_let_eq h
              refine am_Ev.call hcd (a := 201) (s0 := (0, [(0, .ref 216), (1, .int 2)], [], am_SH, (g, p4))) (q := ((some (.int (am_b p6.1))), am_SH, (g, p6.2))) (s1 := (41, [(0, .ref 216), (1, .int (am_b t3)), (2, .int t5)], [.int (am_b p6.1)], am_SH, (g, p6.2))) rfl rfl (by subst Ep6; exact m_bad_ok (d + 6) 2 p4 g) ?_
              exact am_Ev.cast (a := ((some (.int (am_b (p6.1, p6.2).1))), am_SH, (g, (p6.1, p6.2).2))) (hZ2 _ (Option.some.inj h).symm) (am_Ev.retb hcd rfl)
            · refine am_Ev.f hcd (c := t5 = 0) (s1 := (42, [(0, .ref 216), (1, .int (am_b t3)), (2, .int t5)], [], am_SH, (g, p4))) rfl c36 ?_
              refine am_Ev.go hcd 1 (s' := (43, [(0, .ref 216), (1, .int (am_b t3)), (2, .int t5)], [.ref 216], am_SH, (g, p4))) rfl ?_
              obtain ⟨p7, hp7, h⟩ := am_bind_some h
              refine am_Ev.call hcd (a := 200) (s0 := (0, [(0, .ref 216)], [], am_SH, (g, p4))) (q := (none, am_SH, (g, p7))) (s1 := (44, [(0, .ref 216), (1, .int (am_b t3)), (2, .int t5)], [], am_SH, (g, p7))) rfl rfl (m_next0_ok (d + 1)  p4 g p7 hp7) ?_
              refine am_Ev.go hcd 3 (s' := (47, [(0, .ref 216), (1, .int (am_b t3)), (2, .int t5)], [.int t5, .int 26, .ref 216], am_SH, (g, p7))) rfl ?_
              obtain ⟨p8, hp8, h⟩ := am_bind_some h
              refine am_Ev.call hcd (a := 203) (s0 := (0, [(0, .ref 216), (1, .int 26), (2, .int t5)], [], am_SH, (g, p7))) (q := (none, am_SH, (g, p8))) (s1 := (48, [(0, .ref 216), (1, .int (am_b t3)), (2, .int t5)], [], am_SH, (g, p8))) rfl rfl (m_lay_ok (d + 6) 26 t5 p7 g p8 hp8) ?_
              refine am_Ev.go hcd 2 (s' := (5, [(0, .ref 216), (1, .int (am_b t3)), (2, .int t5)], [], am_SH, (g, p8))) rfl ?_
              exact am_Ev.weak' (hI2 p8 (Option.some.inj h).symm) (am_sub_cons rfl am_sub_nil) rfl
          · refine am_Ev.f hcd (c := p4 216 18 = 2) (s1 := (32, [(0, .ref 216), (1, .int (am_b t3)), (2, .int t5)], [], am_SH, (g, p4))) rfl c33 ?_
            refine am_Ev.go hcd 2 (s' := (34, [(0, .ref 216), (1, .int (am_b t3)), (2, .int t5)], [.int 1, .ref 216], am_SH, (g, p4))) rfl ?_
            obtain ⟨p9, Ep9, h⟩ := am_let_eq h
            refine am_Ev.call hcd (a := 201) (s0 := (0, [(0, .ref 216), (1, .int 1)], [], am_SH, (g, p4))) (q := ((some (.int (am_b p9.1))), am_SH, (g, p9.2))) (s1 := (35, [(0, .ref 216), (1, .int (am_b t3)), (2, .int t5)], [.int (am_b p9.1)], am_SH, (g, p9.2))) rfl rfl (by subst Ep9; exact m_bad_ok (d + 6) 1 p4 g) ?_
            exact am_Ev.cast (a := ((some (.int (am_b (p9.1, p9.2).1))), am_SH, (g, (p9.1, p9.2).2))) (hZ2 _ (Option.some.inj h).symm) (am_Ev.retb hcd rfl)
        · refine am_Ev.t hcd (c := am_b t3 = 0) (s1 := (49, [(0, .ref 216), (1, .int (am_b t3))], [], am_SH, (g, p4))) rfl (am_b_f c28) ?_
          refine am_Ev.go hcd 1 (s' := (50, [(0, .ref 216), (1, .int (am_b t3))], [.ref 216], am_SH, (g, p4))) rfl ?_
          obtain ⟨p10, hp10, h⟩ := am_bind_some h
          refine am_Ev.call hcd (a := 207) (s0 := (0, [(0, .ref 216)], [], am_SH, (g, p4))) (q := ((some (.int (am_b p10.1))), am_SH, (g, p10.2))) (s1 := (51, [(0, .ref 216), (1, .int (am_b t3))], [.int (am_b p10.1)], am_SH, (g, p10.2))) rfl rfl (m_unit_ok (d)  p4 g p10 hp10) ?_
          rcases am_ite h with ⟨c61, h⟩ | ⟨c61, h⟩
          · refine am_Ev.f hcd (c := am_b p10.1 = 0) (s1 := (54, [(0, .ref 216), (1, .int (am_b t3))], [], am_SH, (g, p10.2))) rfl (am_b_t c61) ?_
            refine am_Ev.go hcd 3 (s' := (57, [(0, .ref 216), (1, .int (am_b t3))], [.int 0, .int 25, .ref 216], am_SH, (g, p10.2))) rfl ?_
            obtain ⟨p11, hp11, h⟩ := am_bind_some h
            refine am_Ev.call hcd (a := 203) (s0 := (0, [(0, .ref 216), (1, .int 25), (2, .int 0)], [], am_SH, (g, p10.2))) (q := (none, am_SH, (g, p11))) (s1 := (58, [(0, .ref 216), (1, .int (am_b t3))], [], am_SH, (g, p11))) rfl rfl (m_lay_ok (d + 6) 25 0 p10.2 g p11 hp11) ?_
            refine am_Ev.go hcd 1 (s' := (5, [(0, .ref 216), (1, .int (am_b t3))], [], am_SH, (g, p11))) rfl ?_
            exact am_Ev.weak' (hI2 p11 (Option.some.inj h).symm) (am_sub_cons rfl am_sub_nil) rfl
          · refine am_Ev.t hcd (c := am_b p10.1 = 0) (s1 := (52, [(0, .ref 216), (1, .int (am_b t3))], [], am_SH, (g, p10.2))) rfl (am_b_f c61) ?_
            refine am_Ev.go hcd 1 (s' := (53, [(0, .ref 216), (1, .int (am_b t3))], [.int 0], am_SH, (g, p10.2))) rfl ?_
            exact am_Ev.cast (a := ((some (.int (am_b (false, p10.2).1))), am_SH, (g, (false, p10.2).2))) (hZ2 _ (Option.some.inj h).symm) (am_Ev.ret hcd rfl)
      have hLt3 : ∀ tt, tt = t3 → am_Ev sc (d + 7) 206 (20, [(0, .ref 216)], [.int (am_b tt)], am_SH, (g, s2)) ((some (.int (am_b r.1))), am_SH, (g, r.2)) := fun tt htt => by subst htt; exact hKt3
      have h := ht3
      refine am_Ev.go hcd 3 (s' := (16, [(0, .ref 216)], [.int 147, .int (s2 216 18)], am_SH, (g, s2))) rfl ?_
      rcases am_itv h with ⟨c73, h⟩ | ⟨c73, h⟩
      · refine am_Ev.t hcd (c := s2 216 18 = 147) (s1 := (17, [(0, .ref 216)], [], am_SH, (g, s2))) rfl c73 ?_
        refine am_Ev.go hcd 2 (s' := (20, [(0, .ref 216)], [.int 1], am_SH, (g, s2))) rfl ?_
        exact am_Ev.weak' (hLt3 true h.symm) (am_sub_cons rfl am_sub_nil) rfl
      · refine am_Ev.f hcd (c := s2 216 18 = 147) (s1 := (19, [(0, .ref 216)], [], am_SH, (g, s2))) rfl c73 ?_
        refine am_Ev.go hcd 1 (s' := (20, [(0, .ref 216)], [.int 0], am_SH, (g, s2))) rfl ?_
        exact am_Ev.weak' (hLt3 false h.symm) (am_sub_cons rfl am_sub_nil) rfl
    · refine am_Ev.f hcd (c := s2 216 18 = 142) (s1 := (9, [(0, .ref 216)], [], am_SH, (g, s2))) rfl c19 ?_
      refine am_Ev.go hcd 3 (s' := (12, [(0, .ref 216)], [.int 147, .int (s2 216 18)], am_SH, (g, s2))) rfl ?_
      rcases am_ite h with ⟨c82, h⟩ | ⟨c82, h⟩
      · refine am_Ev.t hcd (c := s2 216 18 = 147) (s1 := (13, [(0, .ref 216)], [], am_SH, (g, s2))) rfl c82 ?_
        obtain ⟨t12, ht12, kt12⟩ := am_let_eq h
        have hKt12 : am_Ev sc (d + 7) 206 (20, [(0, .ref 216)], [.int (am_b t12)], am_SH, (g, s2)) ((some (.int (am_b r.1))), am_SH, (g, r.2)) := by
          have h := kt12
          refine am_Ev.go hcd 2 (s' := (22, [(0, .ref 216), (1, .int (am_b t12))], [.ref 216], am_SH, (g, s2))) rfl ?_
          obtain ⟨p13, hp13, h⟩ := am_bind_some h
          refine am_Ev.call hcd (a := 200) (s0 := (0, [(0, .ref 216)], [], am_SH, (g, s2))) (q := (none, am_SH, (g, p13))) (s1 := (23, [(0, .ref 216), (1, .int (am_b t12))], [], am_SH, (g, p13))) rfl rfl (m_next0_ok (d + 1)  s2 g p13 hp13) ?_
          refine am_Ev.go hcd 1 (s' := (24, [(0, .ref 216), (1, .int (am_b t12))], [.int (am_b t12)], am_SH, (g, p13))) rfl ?_
          rcases am_ite h with ⟨c91, h⟩ | ⟨c91, h⟩
          · refine am_Ev.f hcd (c := am_b t12 = 0) (s1 := (25, [(0, .ref 216), (1, .int (am_b t12))], [], am_SH, (g, p13))) rfl (am_b_t c91) ?_
            obtain ⟨t14, Et14, h⟩ := am_let_eq h
            refine am_Ev.go hcd 3 (s' := (28, [(0, .ref 216), (1, .int (am_b t12)), (2, .int t14)], [], am_SH, (g, p13))) (by subst Et14; exact rfl) ?_
            refine am_Ev.go hcd 3 (s' := (31, [(0, .ref 216), (1, .int (am_b t12)), (2, .int t14)], [.int 2, .int (p13 216 18)], am_SH, (g, p13))) rfl ?_
            rcases am_ite h with ⟨c96, h⟩ | ⟨c96, h⟩
            · refine am_Ev.t hcd (c := p13 216 18 = 2) (s1 := (36, [(0, .ref 216), (1, .int (am_b t12)), (2, .int t14)], [], am_SH, (g, p13))) rfl c96 ?_
              refine am_Ev.go hcd 1 (s' := (37, [(0, .ref 216), (1, .int (am_b t12)), (2, .int t14)], [.int t14], am_SH, (g, p13))) rfl ?_
              rcases am_ite h with ⟨c99, h⟩ | ⟨c99, h⟩
              · refine am_Ev.t hcd (c := t14 = 0) (s1 := (38, [(0, .ref 216), (1, .int (am_b t12)), (2, .int t14)], [], am_SH, (g, p13))) rfl c99 ?_
                refine am_Ev.go hcd 2 (s' := (40, [(0, .ref 216), (1, .int (am_b t12)), (2, .int t14)], [.int 2, .ref 216], am_SH, (g, p13))) rfl ?_
                obtain ⟨p15, Ep15, h⟩ := am_let_eq h
                refine am_Ev.call hcd (a := 201) (s0 := (0, [(0, .ref 216), (1, .int 2)], [], am_SH, (g, p13))) (q := ((some (.int (am_b p15.1))), am_SH, (g, p15.2))) (s1 := (41, [(0, .ref 216), (1, .int (am_b t12)), (2, .int t14)], [.int (am_b p15.1)], am_SH, (g, p15.2))) rfl rfl (by subst Ep15; exact m_bad_ok (d + 6) 2 p13 g) ?_
                exact am_Ev.cast (a := ((some (.int (am_b (p15.1, p15.2).1))), am_SH, (g, (p15.1, p15.2).2))) (hZ2 _ (Option.some.inj h).symm) (am_Ev.retb hcd rfl)
              · refine am_Ev.f hcd (c := t14 = 0) (s1 := (42, [(0, .ref 216), (1, .int (am_b t12)), (2, .int t14)], [], am_SH, (g, p13))) rfl c99 ?_
                refine am_Ev.go hcd 1 (s' := (43, [(0, .ref 216), (1, .int (am_b t12)), (2, .int t14)], [.ref 216], am_SH, (g, p13))) rfl ?_
                obtain ⟨p16, hp16, h⟩ := am_bind_some h
                refine am_Ev.call hcd (a := 200) (s0 := (0, [(0, .ref 216)], [], am_SH, (g, p13))) (q := (none, am_SH, (g, p16))) (s1 := (44, [(0, .ref 216), (1, .int (am_b t12)), (2, .int t14)], [], am_SH, (g, p16))) rfl rfl (m_next0_ok (d + 1)  p13 g p16 hp16) ?_
                refine am_Ev.go hcd 3 (s' := (47, [(0, .ref 216), (1, .int (am_b t12)), (2, .int t14)], [.int t14, .int 26, .ref 216], am_SH, (g, p16))) rfl ?_
                obtain ⟨p17, hp17, h⟩ := am_bind_some h
                refine am_Ev.call hcd (a := 203) (s0 := (0, [(0, .ref 216), (1, .int 26), (2, .int t14)], [], am_SH, (g, p16))) (q := (none, am_SH, (g, p17))) (s1 := (48, [(0, .ref 216), (1, .int (am_b t12)), (2, .int t14)], [], am_SH, (g, p17))) rfl rfl (m_lay_ok (d + 6) 26 t14 p16 g p17 hp17) ?_
                refine am_Ev.go hcd 2 (s' := (5, [(0, .ref 216), (1, .int (am_b t12)), (2, .int t14)], [], am_SH, (g, p17))) rfl ?_
                exact am_Ev.weak' (hI2 p17 (Option.some.inj h).symm) (am_sub_cons rfl am_sub_nil) rfl
            · refine am_Ev.f hcd (c := p13 216 18 = 2) (s1 := (32, [(0, .ref 216), (1, .int (am_b t12)), (2, .int t14)], [], am_SH, (g, p13))) rfl c96 ?_
              refine am_Ev.go hcd 2 (s' := (34, [(0, .ref 216), (1, .int (am_b t12)), (2, .int t14)], [.int 1, .ref 216], am_SH, (g, p13))) rfl ?_
              obtain ⟨p18, Ep18, h⟩ := am_let_eq h
              refine am_Ev.call hcd (a := 201) (s0 := (0, [(0, .ref 216), (1, .int 1)], [], am_SH, (g, p13))) (q := ((some (.int (am_b p18.1))), am_SH, (g, p18.2))) (s1 := (35, [(0, .ref 216), (1, .int (am_b t12)), (2, .int t14)], [.int (am_b p18.1)], am_SH, (g, p18.2))) rfl rfl (by subst Ep18; exact m_bad_ok (d + 6) 1 p13 g) ?_
              exact am_Ev.cast (a := ((some (.int (am_b (p18.1, p18.2).1))), am_SH, (g, (p18.1, p18.2).2))) (hZ2 _ (Option.some.inj h).symm) (am_Ev.retb hcd rfl)
          · refine am_Ev.t hcd (c := am_b t12 = 0) (s1 := (49, [(0, .ref 216), (1, .int (am_b t12))], [], am_SH, (g, p13))) rfl (am_b_f c91) ?_
            refine am_Ev.go hcd 1 (s' := (50, [(0, .ref 216), (1, .int (am_b t12))], [.ref 216], am_SH, (g, p13))) rfl ?_
            obtain ⟨p19, hp19, h⟩ := am_bind_some h
            refine am_Ev.call hcd (a := 207) (s0 := (0, [(0, .ref 216)], [], am_SH, (g, p13))) (q := ((some (.int (am_b p19.1))), am_SH, (g, p19.2))) (s1 := (51, [(0, .ref 216), (1, .int (am_b t12))], [.int (am_b p19.1)], am_SH, (g, p19.2))) rfl rfl (m_unit_ok (d)  p13 g p19 hp19) ?_
            rcases am_ite h with ⟨c124, h⟩ | ⟨c124, h⟩
            · refine am_Ev.f hcd (c := am_b p19.1 = 0) (s1 := (54, [(0, .ref 216), (1, .int (am_b t12))], [], am_SH, (g, p19.2))) rfl (am_b_t c124) ?_
              refine am_Ev.go hcd 3 (s' := (57, [(0, .ref 216), (1, .int (am_b t12))], [.int 0, .int 25, .ref 216], am_SH, (g, p19.2))) rfl ?_
              obtain ⟨p20, hp20, h⟩ := am_bind_some h
              refine am_Ev.call hcd (a := 203) (s0 := (0, [(0, .ref 216), (1, .int 25), (2, .int 0)], [], am_SH, (g, p19.2))) (q := (none, am_SH, (g, p20))) (s1 := (58, [(0, .ref 216), (1, .int (am_b t12))], [], am_SH, (g, p20))) rfl rfl (m_lay_ok (d + 6) 25 0 p19.2 g p20 hp20) ?_
              refine am_Ev.go hcd 1 (s' := (5, [(0, .ref 216), (1, .int (am_b t12))], [], am_SH, (g, p20))) rfl ?_
              exact am_Ev.weak' (hI2 p20 (Option.some.inj h).symm) (am_sub_cons rfl am_sub_nil) rfl
            · refine am_Ev.t hcd (c := am_b p19.1 = 0) (s1 := (52, [(0, .ref 216), (1, .int (am_b t12))], [], am_SH, (g, p19.2))) rfl (am_b_f c124) ?_
              refine am_Ev.go hcd 1 (s' := (53, [(0, .ref 216), (1, .int (am_b t12))], [.int 0], am_SH, (g, p19.2))) rfl ?_
              exact am_Ev.cast (a := ((some (.int (am_b (false, p19.2).1))), am_SH, (g, (false, p19.2).2))) (hZ2 _ (Option.some.inj h).symm) (am_Ev.ret hcd rfl)
        have hLt12 : ∀ tt, tt = t12 → am_Ev sc (d + 7) 206 (20, [(0, .ref 216)], [.int (am_b tt)], am_SH, (g, s2)) ((some (.int (am_b r.1))), am_SH, (g, r.2)) := fun tt htt => by subst htt; exact hKt12
        have h := ht12
        refine am_Ev.go hcd 3 (s' := (16, [(0, .ref 216)], [.int 147, .int (s2 216 18)], am_SH, (g, s2))) rfl ?_
        rcases am_itv h with ⟨c136, h⟩ | ⟨c136, h⟩
        · refine am_Ev.t hcd (c := s2 216 18 = 147) (s1 := (17, [(0, .ref 216)], [], am_SH, (g, s2))) rfl c136 ?_
          refine am_Ev.go hcd 2 (s' := (20, [(0, .ref 216)], [.int 1], am_SH, (g, s2))) rfl ?_
          exact am_Ev.weak' (hLt12 true h.symm) (am_sub_cons rfl am_sub_nil) rfl
        · refine am_Ev.f hcd (c := s2 216 18 = 147) (s1 := (19, [(0, .ref 216)], [], am_SH, (g, s2))) rfl c136 ?_
          refine am_Ev.go hcd 1 (s' := (20, [(0, .ref 216)], [.int 0], am_SH, (g, s2))) rfl ?_
          exact am_Ev.weak' (hLt12 false h.symm) (am_sub_cons rfl am_sub_nil) rfl
      · refine am_Ev.f hcd (c := s2 216 18 = 147) (s1 := (59, [(0, .ref 216)], [], am_SH, (g, s2))) rfl c82 ?_
        exact am_Ev.weak' (hZ2 (.inr s2) (Option.some.inj h).symm) am_sub_nil rfl
  · refine am_Ev.t hcd (c := am_b p1.1 = 0) (s1 := (3, [(0, .ref 216)], [], am_SH, (g, p1.2))) rfl (am_b_f c5) ?_
    refine am_Ev.go hcd 1 (s' := (4, [(0, .ref 216)], [.int 0], am_SH, (g, p1.2))) rfl ?_
    exact am_Ev.cast (a := ((some (.int (am_b (false, p1.2).1))), am_SH, (g, (false, p1.2).2))) (by cases h; rfl) (am_Ev.ret hcd rfl)
