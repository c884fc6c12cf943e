def xt_addToken (a0 : Int32) (a1 : Int32) (a2 : Nat) (f : (Nat → Nat → Int32)) : Option (Int32 × (Nat → Nat → Int32)) :=
  am_let ((if (xt_isMark a1) = true then (
      3)
    else (
      4)) : Int32) fun t2 =>
  ((if (xt_isLetter a1) = true then (
      (xt_endOfLetters a0 f).bind fun p4 =>
      (xt_keyword a2 a0 p4 f).bind fun p5 =>
      am_let ((if p5 = (-1) then (
          4)
        else (
          1)) : Int32) fun t6 =>
      some (p4, t6, p5))
    else (
      if (xt_isDigit a1) = true then (
        (xt_endOfDigits a0 f).bind fun p8 =>
        ((if 4 < (p8 - a0) then (
            some (-1))
          else (
            (xt_number a0 p8 f).bind fun p9 =>
            some p9)) : Option (Int32)).bind fun t10 =>
        am_let ((if t10 = (-1) then (
            4)
          else (
            2)) : Int32) fun t11 =>
        some (p8, t11, t10))
      else (
        some ((a0 + 1), t2, a1)))) : Option (Int32 × Int32 × Int32)).bind fun t12 =>
  if am_in (f 123 8) 401 = true then (
  am_let (am_up f 125 (f 123 8).toNatClampNeg t12.2.1 : Nat → Nat → Int32) fun f13 =>
  if am_in (f13 123 8) 401 = true then (
  am_let (am_up f13 126 (f13 123 8).toNatClampNeg t12.2.2 : Nat → Nat → Int32) fun f14 =>
  if am_in (f14 123 8) 401 = true then (
  am_let (am_up f14 127 (f14 123 8).toNatClampNeg a0 : Nat → Nat → Int32) fun f15 =>
  am_let (am_up f15 123 8 ((f15 123 8) + 1) : Nat → Nat → Int32) fun f16 =>
  some (t12.1, f16)) else none) else none) else none
set_option maxRecDepth 100000 in
set_option maxHeartbeats 4000000 in
theorem xt_addToken_ok {sc : Nat × (Nat → Int32)} (d : Nat) (a0 : Int32) (a1 : Int32) (a2 : Nat) (f g : (Nat → Nat → Int32)) (r : Int32 × (Nat → Nat → Int32)) (h : xt_addToken a0 a1 a2 f = some r) : am_Ev sc (d + 2) 114 (0, [(0, .ref 123), (1, .int a0), (2, .int a1), (3, .retAddr a2)], [], am_SH, (f, g)) ((some (.int r.1)), am_SH, (r.2, g)) := by
  have hcd : am_code 114 = am_c114 := rfl
  unfold xt_addToken at h
  refine am_Ev.go hcd 5 (s' := (5, [(0, .ref 123), (1, .int a0), (2, .int a1), (3, .retAddr a2), (4, .int (a0 + 1))], [.int a1], am_SH, (f, g))) rfl ?_
  refine am_Ev.call hcd (a := 121) (s0 := (0, [(0, .int a1)], [], am_SH, (f, g))) (q := ((some (.int (am_b (xt_isMark a1)))), am_SH, (f, g))) (s1 := (6, [(0, .ref 123), (1, .int a0), (2, .int a1), (3, .retAddr a2), (4, .int (a0 + 1))], [.int (am_b (xt_isMark a1))], am_SH, (f, g))) rfl rfl (xt_isMark_ok (d + 1) a1 (f, g)) ?_
  obtain ⟨t2, ht2, kt2⟩ := am_let_eq h
  have hKt2 : am_Ev sc (d + 2) 114 (10, [(0, .ref 123), (1, .int a0), (2, .int a1), (3, .retAddr a2), (4, .int (a0 + 1))], [.int t2], am_SH, (f, g)) ((some (.int r.1)), am_SH, (r.2, g)) := by
    have h := kt2
    refine am_Ev.go hcd 4 (s' := (14, [(0, .ref 123), (1, .int a0), (2, .int a1), (3, .retAddr a2), (4, .int (a0 + 1)), (5, .int t2), (6, .int a1)], [.int a1], am_SH, (f, g))) rfl ?_
    refine am_Ev.call hcd (a := 119) (s0 := (0, [(0, .int a1)], [], am_SH, (f, g))) (q := ((some (.int (am_b (xt_isLetter a1)))), am_SH, (f, g))) (s1 := (15, [(0, .ref 123), (1, .int a0), (2, .int a1), (3, .retAddr a2), (4, .int (a0 + 1)), (5, .int t2), (6, .int a1)], [.int (am_b (xt_isLetter a1))], am_SH, (f, g))) rfl rfl (xt_isLetter_ok (d + 1) a1 (f, g)) ?_
    obtain ⟨t12, ht12, kt12⟩ := am_bind_some h
    have hKt12 : am_Ev sc (d + 2) 114 (60, [(0, .ref 123), (1, .int a0), (4, .int t12.1), (5, .int t12.2.1), (6, .int t12.2.2)], [], am_SH, (f, g)) ((some (.int r.1)), am_SH, (r.2, g)) := by
      have h := kt12
      refine am_Ev.go hcd 5 (s' := (65, [(0, .ref 123), (1, .int a0), (4, .int t12.1), (5, .int t12.2.1), (6, .int t12.2.2)], [.int t12.2.1, .int (f 123 8), .ref 125], am_SH, (f, g))) rfl ?_
      obtain ⟨c12, h⟩ := am_grd h
      obtain ⟨f13, Ef13, h⟩ := am_let_eq h
      refine am_Ev.t hcd (c := am_in (f 123 8) 401 = true) (s1 := (66, [(0, .ref 123), (1, .int a0), (4, .int t12.1), (5, .int t12.2.1), (6, .int t12.2.2)], [], am_SH, (f13, g))) (by subst Ef13; exact rfl) c12 ?_
      refine am_Ev.go hcd 5 (s' := (71, [(0, .ref 123), (1, .int a0), (4, .int t12.1), (5, .int t12.2.1), (6, .int t12.2.2)], [.int t12.2.2, .int (f13 123 8), .ref 126], am_SH, (f13, g))) rfl ?_
      obtain ⟨c16, h⟩ := am_grd h
      obtain ⟨f14, Ef14, h⟩ := am_let_eq h
      refine am_Ev.t hcd (c := am_in (f13 123 8) 401 = true) (s1 := (72, [(0, .ref 123), (1, .int a0), (4, .int t12.1), (5, .int t12.2.1), (6, .int t12.2.2)], [], am_SH, (f14, g))) (by subst Ef14; exact rfl) c16 ?_
      refine am_Ev.go hcd 5 (s' := (77, [(0, .ref 123), (1, .int a0), (4, .int t12.1), (5, .int t12.2.1), (6, .int t12.2.2)], [.int a0, .int (f14 123 8), .ref 127], am_SH, (f14, g))) rfl ?_
      obtain ⟨c20, h⟩ := am_grd h
      obtain ⟨f15, Ef15, h⟩ := am_let_eq h
      refine am_Ev.t hcd (c := am_in (f14 123 8) 401 = true) (s1 := (78, [(0, .ref 123), (1, .int a0), (4, .int t12.1), (5, .int t12.2.1), (6, .int t12.2.2)], [], am_SH, (f15, g))) (by subst Ef15; exact rfl) c20 ?_
      obtain ⟨f16, Ef16, h⟩ := am_let_eq h
      refine am_Ev.go hcd 6 (s' := (84, [(0, .ref 123), (1, .int a0), (4, .int t12.1), (5, .int t12.2.1), (6, .int t12.2.2)], [], am_SH, (f16, g))) (by subst Ef16; exact rfl) ?_
      refine am_Ev.go hcd 1 (s' := (85, [(0, .ref 123), (1, .int a0), (4, .int t12.1), (5, .int t12.2.1), (6, .int t12.2.2)], [.int t12.1], am_SH, (f16, g))) rfl ?_
      exact am_Ev.cast (a := ((some (.int (t12.1, f16).1)), am_SH, ((t12.1, f16).2, g))) (by cases h; rfl) (am_Ev.ret hcd rfl)
    have hLt12 : ∀ tt, tt = t12 → am_Ev sc (d + 2) 114 (60, [(0, .ref 123), (1, .int a0), (4, .int tt.1), (5, .int tt.2.1), (6, .int tt.2.2)], [], am_SH, (f, g)) ((some (.int r.1)), am_SH, (r.2, g)) := fun tt htt => by subst htt; exact hKt12
    have h := ht12
    rcases am_ite h with ⟨c30, h⟩ | ⟨c30, h⟩
    · refine am_Ev.f hcd (c := am_b (xt_isLetter a1) = 0) (s1 := (16, [(0, .ref 123), (1, .int a0), (2, .int a1), (3, .retAddr a2), (4, .int (a0 + 1)), (5, .int t2), (6, .int a1)], [], am_SH, (f, g))) rfl (am_b_t c30) ?_
      refine am_Ev.go hcd 2 (s' := (18, [(0, .ref 123), (1, .int a0), (2, .int a1), (3, .retAddr a2), (4, .int (a0 + 1)), (5, .int t2), (6, .int a1)], [.int a0, .ref 123], am_SH, (f, g))) rfl ?_
      obtain ⟨p4, hp4, h⟩ := am_bind_some h
      refine am_Ev.call hcd (a := 115) (s0 := (0, [(0, .ref 123), (1, .int a0)], [], am_SH, (f, g))) (q := ((some (.int p4)), am_SH, (f, g))) (s1 := (19, [(0, .ref 123), (1, .int a0), (2, .int a1), (3, .retAddr a2), (4, .int (a0 + 1)), (5, .int t2), (6, .int a1)], [.int p4], am_SH, (f, g))) rfl rfl (xt_endOfLetters_ok (d) a0 f g p4 hp4) ?_
      refine am_Ev.go hcd 5 (s' := (24, [(0, .ref 123), (1, .int a0), (2, .int a1), (3, .retAddr a2), (4, .int p4), (5, .int t2), (6, .int a1)], [.int p4, .int a0, .retAddr a2, .ref 123], am_SH, (f, g))) rfl ?_
      obtain ⟨p5, hp5, h⟩ := am_bind_some h
      refine am_Ev.call hcd (a := 118) (s0 := (0, [(0, .ref 123), (1, .retAddr a2), (2, .int a0), (3, .int p4)], [], am_SH, (f, g))) (q := ((some (.int p5)), am_SH, (f, g))) (s1 := (25, [(0, .ref 123), (1, .int a0), (2, .int a1), (3, .retAddr a2), (4, .int p4), (5, .int t2), (6, .int a1)], [.int p5], am_SH, (f, g))) rfl rfl (xt_keyword_ok (d) a2 a0 p4 f g p5 hp5) ?_
      obtain ⟨t6, ht6, kt6⟩ := am_let_eq h
      have hKt6 : am_Ev sc (d + 2) 114 (32, [(0, .ref 123), (1, .int a0), (4, .int p4), (6, .int p5)], [.int t6], am_SH, (f, g)) ((some (.int r.1)), am_SH, (r.2, g)) := by
        have h := kt6
        refine am_Ev.go hcd 2 (s' := (60, [(0, .ref 123), (1, .int a0), (4, .int p4), (5, .int t6), (6, .int p5)], [], am_SH, (f, g))) rfl ?_
        exact am_Ev.weak' (hLt12 (p4, t6, p5) (Option.some.inj h)) (am_sub_cons rfl (am_sub_cons rfl (am_sub_cons rfl (am_sub_cons rfl (am_sub_cons rfl am_sub_nil))))) rfl
      have hLt6 : ∀ tt, tt = t6 → am_Ev sc (d + 2) 114 (32, [(0, .ref 123), (1, .int a0), (4, .int p4), (6, .int p5)], [.int tt], am_SH, (f, g)) ((some (.int r.1)), am_SH, (r.2, g)) := fun tt htt => by subst htt; exact hKt6
      have h := ht6
      refine am_Ev.go hcd 3 (s' := (28, [(0, .ref 123), (1, .int a0), (2, .int a1), (3, .retAddr a2), (4, .int p4), (5, .int t2), (6, .int p5)], [.int (-1), .int p5], am_SH, (f, g))) rfl ?_
      rcases am_itv h with ⟨c45, h⟩ | ⟨c45, h⟩
      · refine am_Ev.t hcd (c := p5 = (-1)) (s1 := (29, [(0, .ref 123), (1, .int a0), (2, .int a1), (3, .retAddr a2), (4, .int p4), (5, .int t2), (6, .int p5)], [], am_SH, (f, g))) rfl c45 ?_
        refine am_Ev.go hcd 2 (s' := (32, [(0, .ref 123), (1, .int a0), (2, .int a1), (3, .retAddr a2), (4, .int p4), (5, .int t2), (6, .int p5)], [.int 4], am_SH, (f, g))) rfl ?_
        exact am_Ev.weak' (hLt6 4 h.symm) (am_sub_cons rfl (am_sub_cons rfl (am_sub_cons rfl (am_sub_cons rfl am_sub_nil)))) rfl
      · refine am_Ev.f hcd (c := p5 = (-1)) (s1 := (31, [(0, .ref 123), (1, .int a0), (2, .int a1), (3, .retAddr a2), (4, .int p4), (5, .int t2), (6, .int p5)], [], am_SH, (f, g))) rfl c45 ?_
        refine am_Ev.go hcd 1 (s' := (32, [(0, .ref 123), (1, .int a0), (2, .int a1), (3, .retAddr a2), (4, .int p4), (5, .int t2), (6, .int p5)], [.int 1], am_SH, (f, g))) rfl ?_
        exact am_Ev.weak' (hLt6 1 h.symm) (am_sub_cons rfl (am_sub_cons rfl (am_sub_cons rfl (am_sub_cons rfl am_sub_nil)))) rfl
    · refine am_Ev.t hcd (c := am_b (xt_isLetter a1) = 0) (s1 := (34, [(0, .ref 123), (1, .int a0), (2, .int a1), (3, .retAddr a2), (4, .int (a0 + 1)), (5, .int t2), (6, .int a1)], [], am_SH, (f, g))) rfl (am_b_f c30) ?_
      refine am_Ev.go hcd 1 (s' := (35, [(0, .ref 123), (1, .int a0), (2, .int a1), (3, .retAddr a2), (4, .int (a0 + 1)), (5, .int t2), (6, .int a1)], [.int a1], am_SH, (f, g))) rfl ?_
      refine am_Ev.call hcd (a := 120) (s0 := (0, [(0, .int a1)], [], am_SH, (f, g))) (q := ((some (.int (am_b (xt_isDigit a1)))), am_SH, (f, g))) (s1 := (36, [(0, .ref 123), (1, .int a0), (2, .int a1), (3, .retAddr a2), (4, .int (a0 + 1)), (5, .int t2), (6, .int a1)], [.int (am_b (xt_isDigit a1))], am_SH, (f, g))) rfl rfl (xt_isDigit_ok (d + 1) a1 (f, g)) ?_
      rcases am_ite h with ⟨c56, h⟩ | ⟨c56, h⟩
      · refine am_Ev.f hcd (c := am_b (xt_isDigit a1) = 0) (s1 := (37, [(0, .ref 123), (1, .int a0), (2, .int a1), (3, .retAddr a2), (4, .int (a0 + 1)), (5, .int t2), (6, .int a1)], [], am_SH, (f, g))) rfl (am_b_t c56) ?_
        refine am_Ev.go hcd 2 (s' := (39, [(0, .ref 123), (1, .int a0), (2, .int a1), (3, .retAddr a2), (4, .int (a0 + 1)), (5, .int t2), (6, .int a1)], [.int a0, .ref 123], am_SH, (f, g))) rfl ?_
        obtain ⟨p8, hp8, h⟩ := am_bind_some h
        refine am_Ev.call hcd (a := 116) (s0 := (0, [(0, .ref 123), (1, .int a0)], [], am_SH, (f, g))) (q := ((some (.int p8)), am_SH, (f, g))) (s1 := (40, [(0, .ref 123), (1, .int a0), (2, .int a1), (3, .retAddr a2), (4, .int (a0 + 1)), (5, .int t2), (6, .int a1)], [.int p8], am_SH, (f, g))) rfl rfl (xt_endOfDigits_ok (d) a0 f g p8 hp8) ?_
        obtain ⟨t10, ht10, kt10⟩ := am_bind_some h
        have hKt10 : am_Ev sc (d + 2) 114 (52, [(0, .ref 123), (1, .int a0), (4, .int p8)], [.int t10], am_SH, (f, g)) ((some (.int r.1)), am_SH, (r.2, g)) := by
          have h := kt10
          obtain ⟨t11, ht11, kt11⟩ := am_let_eq h
          have hKt11 : am_Ev sc (d + 2) 114 (59, [(0, .ref 123), (1, .int a0), (4, .int p8), (6, .int t10)], [.int t11], am_SH, (f, g)) ((some (.int r.1)), am_SH, (r.2, g)) := by
            have h := kt11
            refine am_Ev.go hcd 1 (s' := (60, [(0, .ref 123), (1, .int a0), (4, .int p8), (5, .int t11), (6, .int t10)], [], am_SH, (f, g))) rfl ?_
            exact am_Ev.weak' (hLt12 (p8, t11, t10) (Option.some.inj h)) (am_sub_cons rfl (am_sub_cons rfl (am_sub_cons rfl (am_sub_cons rfl (am_sub_cons rfl am_sub_nil))))) rfl
          have hLt11 : ∀ tt, tt = t11 → am_Ev sc (d + 2) 114 (59, [(0, .ref 123), (1, .int a0), (4, .int p8), (6, .int t10)], [.int tt], am_SH, (f, g)) ((some (.int r.1)), am_SH, (r.2, g)) := fun tt htt => by subst htt; exact hKt11
          have h := ht11
          refine am_Ev.go hcd 3 (s' := (55, [(0, .ref 123), (1, .int a0), (4, .int p8), (6, .int t10)], [.int (-1), .int t10], am_SH, (f, g))) rfl ?_
          rcases am_itv h with ⟨c71, h⟩ | ⟨c71, h⟩
          · refine am_Ev.t hcd (c := t10 = (-1)) (s1 := (56, [(0, .ref 123), (1, .int a0), (4, .int p8), (6, .int t10)], [], am_SH, (f, g))) rfl c71 ?_
            refine am_Ev.go hcd 2 (s' := (59, [(0, .ref 123), (1, .int a0), (4, .int p8), (6, .int t10)], [.int 4], am_SH, (f, g))) rfl ?_
            exact am_Ev.weak' (hLt11 4 h.symm) (am_sub_cons rfl (am_sub_cons rfl (am_sub_cons rfl (am_sub_cons rfl am_sub_nil)))) rfl
          · refine am_Ev.f hcd (c := t10 = (-1)) (s1 := (58, [(0, .ref 123), (1, .int a0), (4, .int p8), (6, .int t10)], [], am_SH, (f, g))) rfl c71 ?_
            refine am_Ev.go hcd 1 (s' := (59, [(0, .ref 123), (1, .int a0), (4, .int p8), (6, .int t10)], [.int 2], am_SH, (f, g))) rfl ?_
            exact am_Ev.weak' (hLt11 2 h.symm) (am_sub_cons rfl (am_sub_cons rfl (am_sub_cons rfl (am_sub_cons rfl am_sub_nil)))) rfl
        have hLt10 : ∀ tt, tt = t10 → am_Ev sc (d + 2) 114 (52, [(0, .ref 123), (1, .int a0), (4, .int p8)], [.int tt], am_SH, (f, g)) ((some (.int r.1)), am_SH, (r.2, g)) := fun tt htt => by subst htt; exact hKt10
        have h := ht10
        refine am_Ev.go hcd 5 (s' := (45, [(0, .ref 123), (1, .int a0), (2, .int a1), (3, .retAddr a2), (4, .int p8), (5, .int t2), (6, .int a1)], [.int 4, .int (p8 - a0)], am_SH, (f, g))) rfl ?_
        rcases am_ite h with ⟨c81, h⟩ | ⟨c81, h⟩
        · refine am_Ev.t hcd (c := 4 < (p8 - a0)) (s1 := (51, [(0, .ref 123), (1, .int a0), (2, .int a1), (3, .retAddr a2), (4, .int p8), (5, .int t2), (6, .int a1)], [], am_SH, (f, g))) rfl c81 ?_
          refine am_Ev.go hcd 1 (s' := (52, [(0, .ref 123), (1, .int a0), (2, .int a1), (3, .retAddr a2), (4, .int p8), (5, .int t2), (6, .int a1)], [.int (-1)], am_SH, (f, g))) rfl ?_
          exact am_Ev.weak' (hLt10 (-1) (Option.some.inj h)) (am_sub_cons rfl (am_sub_cons rfl (am_sub_cons rfl am_sub_nil))) rfl
        · refine am_Ev.f hcd (c := 4 < (p8 - a0)) (s1 := (46, [(0, .ref 123), (1, .int a0), (2, .int a1), (3, .retAddr a2), (4, .int p8), (5, .int t2), (6, .int a1)], [], am_SH, (f, g))) rfl c81 ?_
          refine am_Ev.go hcd 3 (s' := (49, [(0, .ref 123), (1, .int a0), (2, .int a1), (3, .retAddr a2), (4, .int p8), (5, .int t2), (6, .int a1)], [.int p8, .int a0, .ref 123], am_SH, (f, g))) rfl ?_
          obtain ⟨p9, hp9, h⟩ := am_bind_some h
          refine am_Ev.call hcd (a := 117) (s0 := (0, [(0, .ref 123), (1, .int a0), (2, .int p8)], [], am_SH, (f, g))) (q := ((some (.int p9)), am_SH, (f, g))) (s1 := (50, [(0, .ref 123), (1, .int a0), (2, .int a1), (3, .retAddr a2), (4, .int p8), (5, .int t2), (6, .int a1)], [.int p9], am_SH, (f, g))) rfl rfl (xt_number_ok (d + 1) a0 p8 f g p9 hp9) ?_
          refine am_Ev.go hcd 1 (s' := (52, [(0, .ref 123), (1, .int a0), (2, .int a1), (3, .retAddr a2), (4, .int p8), (5, .int t2), (6, .int a1)], [.int p9], am_SH, (f, g))) rfl ?_
          exact am_Ev.weak' (hLt10 p9 (Option.some.inj h)) (am_sub_cons rfl (am_sub_cons rfl (am_sub_cons rfl am_sub_nil))) rfl
      · refine am_Ev.t hcd (c := am_b (xt_isDigit a1) = 0) (s1 := (60, [(0, .ref 123), (1, .int a0), (2, .int a1), (3, .retAddr a2), (4, .int (a0 + 1)), (5, .int t2), (6, .int a1)], [], am_SH, (f, g))) rfl (am_b_f c56) ?_
        exact am_Ev.weak' (hLt12 ((a0 + 1), t2, a1) (Option.some.inj h)) (am_sub_cons rfl (am_sub_cons rfl (am_sub_cons rfl (am_sub_cons rfl (am_sub_cons rfl am_sub_nil))))) rfl
  have hLt2 : ∀ tt, tt = t2 → am_Ev sc (d + 2) 114 (10, [(0, .ref 123), (1, .int a0), (2, .int a1), (3, .retAddr a2), (4, .int (a0 + 1))], [.int tt], am_SH, (f, g)) ((some (.int r.1)), am_SH, (r.2, g)) := fun tt htt => by subst htt; exact hKt2
  have h := ht2
  rcases am_itv h with ⟨c96, h⟩ | ⟨c96, h⟩
  · refine am_Ev.f hcd (c := am_b (xt_isMark a1) = 0) (s1 := (7, [(0, .ref 123), (1, .int a0), (2, .int a1), (3, .retAddr a2), (4, .int (a0 + 1))], [], am_SH, (f, g))) rfl (am_b_t c96) ?_
    refine am_Ev.go hcd 2 (s' := (10, [(0, .ref 123), (1, .int a0), (2, .int a1), (3, .retAddr a2), (4, .int (a0 + 1))], [.int 3], am_SH, (f, g))) rfl ?_
    exact am_Ev.weak' (hLt2 3 h.symm) (am_sub_cons rfl (am_sub_cons rfl (am_sub_cons rfl (am_sub_cons rfl (am_sub_cons rfl am_sub_nil))))) rfl
  · refine am_Ev.t hcd (c := am_b (xt_isMark a1) = 0) (s1 := (9, [(0, .ref 123), (1, .int a0), (2, .int a1), (3, .retAddr a2), (4, .int (a0 + 1))], [], am_SH, (f, g))) rfl (am_b_f c96) ?_
    refine am_Ev.go hcd 1 (s' := (10, [(0, .ref 123), (1, .int a0), (2, .int a1), (3, .retAddr a2), (4, .int (a0 + 1))], [.int 4], am_SH, (f, g))) rfl ?_
    exact am_Ev.weak' (hLt2 4 h.symm) (am_sub_cons rfl (am_sub_cons rfl (am_sub_cons rfl (am_sub_cons rfl (am_sub_cons rfl am_sub_nil))))) rfl
def xt_advance (f : (Nat → Nat → Int32)) : Option ((Nat → Nat → Int32)) :=
  am_let ((if f 123 9 < f 123 8 then (
      am_let (am_up f 123 9 ((f 123 9) + 1) : Nat → Nat → Int32) fun f1 =>
      f1)
    else (
      f)) : (Nat → Nat → Int32)) fun t2 =>
  if am_in (t2 123 9) 401 = true then (
  am_let (am_up t2 123 1 (t2 125 (t2 123 9).toNatClampNeg) : Nat → Nat → Int32) fun f3 =>
  if am_in (f3 123 9) 401 = true then (
  am_let (am_up f3 123 2 (f3 126 (f3 123 9).toNatClampNeg) : Nat → Nat → Int32) fun f4 =>
  if am_in (f4 123 9) 401 = true then (
  am_let (am_up f4 123 3 (f4 127 (f4 123 9).toNatClampNeg) : Nat → Nat → Int32) fun f5 =>
  some f5) else none) else none) else none
set_option maxRecDepth 100000 in
set_option maxHeartbeats 4000000 in
theorem xt_advance_ok {sc : Nat × (Nat → Int32)} (d : Nat)  (f g : (Nat → Nat → Int32)) (r : (Nat → Nat → Int32)) (h : xt_advance  f = some r) : am_Ev sc (d) 111 (0, [(0, .ref 123)], [], am_SH, (f, g)) (none, am_SH, (r, g)) := by
  have hcd : am_code 111 = am_c111 := rfl
  unfold xt_advance at h
  obtain ⟨t2, ht2, kt2⟩ := am_let_eq h
  have hKt2 : am_Ev sc (d) 111 (11, [(0, .ref 123)], [], am_SH, (t2, g)) (none, am_SH, (r, g)) := by
    have h := kt2
    refine am_Ev.go hcd 5 (s' := (16, [(0, .ref 123)], [.int (t2 123 9), .ref 125, .ref 123], am_SH, (t2, g))) rfl ?_
    obtain ⟨c5, h⟩ := am_grd h
    refine am_Ev.t hcd (c := am_in (t2 123 9) 401 = true) (s1 := (17, [(0, .ref 123)], [.int (t2 125 (t2 123 9).toNatClampNeg), .ref 123], am_SH, (t2, g))) rfl c5 ?_
    obtain ⟨f3, Ef3, h⟩ := am_let_eq h
    refine am_Ev.go hcd 1 (s' := (18, [(0, .ref 123)], [], am_SH, (f3, g))) (by subst Ef3; exact rfl) ?_
    refine am_Ev.go hcd 5 (s' := (23, [(0, .ref 123)], [.int (f3 123 9), .ref 126, .ref 123], am_SH, (f3, g))) rfl ?_
    obtain ⟨c10, h⟩ := am_grd h
    refine am_Ev.t hcd (c := am_in (f3 123 9) 401 = true) (s1 := (24, [(0, .ref 123)], [.int (f3 126 (f3 123 9).toNatClampNeg), .ref 123], am_SH, (f3, g))) rfl c10 ?_
    obtain ⟨f4, Ef4, h⟩ := am_let_eq h
    refine am_Ev.go hcd 1 (s' := (25, [(0, .ref 123)], [], am_SH, (f4, g))) (by subst Ef4; exact rfl) ?_
    refine am_Ev.go hcd 5 (s' := (30, [(0, .ref 123)], [.int (f4 123 9), .ref 127, .ref 123], am_SH, (f4, g))) rfl ?_
    obtain ⟨c15, h⟩ := am_grd h
    refine am_Ev.t hcd (c := am_in (f4 123 9) 401 = true) (s1 := (31, [(0, .ref 123)], [.int (f4 127 (f4 123 9).toNatClampNeg), .ref 123], am_SH, (f4, g))) rfl c15 ?_
    obtain ⟨f5, Ef5, h⟩ := am_let_eq h
    refine am_Ev.go hcd 1 (s' := (32, [(0, .ref 123)], [], am_SH, (f5, g))) (by subst Ef5; exact rfl) ?_
    exact am_Ev.cast (a := (none, am_SH, (f5, g))) (by cases h; rfl) (am_Ev.ret hcd rfl)
  have hLt2 : ∀ tt, tt = t2 → am_Ev sc (d) 111 (11, [(0, .ref 123)], [], am_SH, (tt, g)) (none, am_SH, (r, g)) := fun tt htt => by subst htt; exact hKt2
  have h := ht2
  refine am_Ev.go hcd 4 (s' := (4, [(0, .ref 123)], [.int (f 123 8), .int (f 123 9)], am_SH, (f, g))) rfl ?_
  rcases am_itv h with ⟨c23, h⟩ | ⟨c23, h⟩
  · refine am_Ev.t hcd (c := f 123 9 < f 123 8) (s1 := (5, [(0, .ref 123)], [], am_SH, (f, g))) rfl c23 ?_
    obtain ⟨f1, Ef1, h⟩ := am_let_eq' h
    refine am_Ev.go hcd 6 (s' := (11, [(0, .ref 123)], [], am_SH, (f1, g))) (by subst Ef1; exact rfl) ?_
    exact am_Ev.weak' (hLt2 f1 h.symm) (am_sub_cons rfl am_sub_nil) rfl
  · refine am_Ev.f hcd (c := f 123 9 < f 123 8) (s1 := (11, [(0, .ref 123)], [], am_SH, (f, g))) rfl c23 ?_
    exact am_Ev.weak' (hLt2 f h.symm) (am_sub_cons rfl am_sub_nil) rfl
def xt_split (a0 : Nat) (f : (Nat → Nat → Int32)) : Option ((Nat → Nat → Int32)) :=
  am_let (am_up f 123 8 0 : Nat → Nat → Int32) fun f1 =>
  (am_loop (fun (s2 : Int32 × Int32 × (Nat → Nat → Int32)) => ((
    if s2.2.1 < s2.2.2 123 0 then (
      if s2.1 < s2.2.2 123 0 then (
        if am_in s2.1 400 = true then (
        am_let (s2.2.2 124 s2.1.toNatClampNeg : Int32) fun t3 =>
        ((if t3 = 32 then (
            am_let (s2.1 + 1 : Int32) fun t4 =>
            some (t4, s2.2.2))
          else (
            if t3 = 10 then (
              am_let (s2.1 + 1 : Int32) fun t5 =>
              some (t5, s2.2.2))
            else (
              (xt_addToken s2.1 t3 a0 s2.2.2).bind fun p6 =>
              some (p6.1, p6.2)))) : Option (Int32 × (Nat → Nat → Int32))).bind fun t7 =>
        am_let (s2.2.1 + 1 : Int32) fun t8 =>
        some (.inl (t7.1, t8, t7.2))) else none)
      else (
        some (.inr s2.2.2)))
    else (
      some (.inr s2.2.2))) : Option ((Int32 × Int32 × (Nat → Nat → Int32)) ⊕ ((Nat → Nat → Int32))))) am_F (0, 0, f1)).bind fun e9 =>
  if am_in (e9 123 8) 401 = true then (
  am_let (am_up e9 125 (e9 123 8).toNatClampNeg 0 : Nat → Nat → Int32) fun f10 =>
  if am_in (f10 123 8) 401 = true then (
  am_let (am_up f10 126 (f10 123 8).toNatClampNeg (-1) : Nat → Nat → Int32) fun f11 =>
  if am_in (f11 123 8) 401 = true then (
  am_let (am_up f11 127 (f11 123 8).toNatClampNeg (f11 123 0) : Nat → Nat → Int32) fun f12 =>
  am_let (am_up f12 123 9 (-1) : Nat → Nat → Int32) fun f13 =>
  (xt_advance  f13).bind fun p14 =>
  some p14) else none) else none) else none
set_option maxRecDepth 100000 in
set_option maxHeartbeats 4000000 in
theorem xt_split_ok {sc : Nat × (Nat → Int32)} (d : Nat) (a0 : Nat) (f g : (Nat → Nat → Int32)) (r : (Nat → Nat → Int32)) (h : xt_split a0 f = some r) : am_Ev sc (d + 3) 110 (0, [(0, .ref 123), (1, .retAddr a0)], [], am_SH, (f, g)) (none, am_SH, (r, g)) := by
  have hcd : am_code 110 = am_c110 := rfl
  unfold xt_split at h
  obtain ⟨f1, Ef1, h⟩ := am_let_eq h
  refine am_Ev.go hcd 3 (s' := (3, [(0, .ref 123), (1, .retAddr a0)], [], am_SH, (f1, g))) (by subst Ef1; exact rfl) ?_
  refine am_Ev.go hcd 4 (s' := (7, [(0, .ref 123), (1, .retAddr a0), (2, .int 0), (3, .int 0)], [], am_SH, (f1, g))) rfl ?_
  obtain ⟨e9, he9, h⟩ := am_bind_some h
  have hK2 : (fun (e9 : (Nat → Nat → Int32)) => am_Ev sc (d + 3) 110 (36, [(0, .ref 123)], [], am_SH, (e9, g)) (none, am_SH, (r, g))) e9 := by
    show am_Ev sc (d + 3) 110 (36, [(0, .ref 123)], [], am_SH, (e9, g)) (none, am_SH, (r, g))
    refine am_Ev.go hcd 5 (s' := (41, [(0, .ref 123)], [.int 0, .int (e9 123 8), .ref 125], am_SH, (e9, g))) rfl ?_
    obtain ⟨c8, h⟩ := am_grd h
    obtain ⟨f10, Ef10, h⟩ := am_let_eq h
    refine am_Ev.t hcd (c := am_in (e9 123 8) 401 = true) (s1 := (42, [(0, .ref 123)], [], am_SH, (f10, g))) (by subst Ef10; exact rfl) c8 ?_
    refine am_Ev.go hcd 5 (s' := (47, [(0, .ref 123)], [.int (-1), .int (f10 123 8), .ref 126], am_SH, (f10, g))) rfl ?_
    obtain ⟨c12, h⟩ := am_grd h
    obtain ⟨f11, Ef11, h⟩ := am_let_eq h
    refine am_Ev.t hcd (c := am_in (f10 123 8) 401 = true) (s1 := (48, [(0, .ref 123)], [], am_SH, (f11, g))) (by subst Ef11; exact rfl) c12 ?_
    refine am_Ev.go hcd 6 (s' := (54, [(0, .ref 123)], [.int (f11 123 0), .int (f11 123 8), .ref 127], am_SH, (f11, g))) rfl ?_
    obtain ⟨c16, h⟩ := am_grd h
    obtain ⟨f12, Ef12, h⟩ := am_let_eq h
    refine am_Ev.t hcd (c := am_in (f11 123 8) 401 = true) (s1 := (55, [(0, .ref 123)], [], am_SH, (f12, g))) (by subst Ef12; exact rfl) c16 ?_
    obtain ⟨f13, Ef13, h⟩ := am_let_eq h
    refine am_Ev.go hcd 3 (s' := (58, [(0, .ref 123)], [], am_SH, (f13, g))) (by subst Ef13; exact rfl) ?_
    refine am_Ev.go hcd 1 (s' := (59, [(0, .ref 123)], [.ref 123], am_SH, (f13, g))) rfl ?_
    obtain ⟨p14, hp14, h⟩ := am_bind_some h
    refine am_Ev.call hcd (a := 111) (s0 := (0, [(0, .ref 123)], [], am_SH, (f13, g))) (q := (none, am_SH, (p14, g))) (s1 := (60, [(0, .ref 123)], [], am_SH, (p14, g))) rfl rfl (xt_advance_ok (d + 2)  f13 g p14 hp14) ?_
    exact am_Ev.cast (a := (none, am_SH, (p14, g))) (by cases h; rfl) (am_Ev.ret hcd rfl)
  refine am_Ev.weak' (am_loop_ok (G := fun (s2 : Int32 × Int32 × (Nat → Nat → Int32)) => am_Ev sc (d + 3) 110 (7, [(0, .ref 123), (1, .retAddr a0), (2, .int s2.1), (3, .int s2.2.1)], [], am_SH, (s2.2.2, g)) (none, am_SH, (r, g))) (Z := fun (e9 : (Nat → Nat → Int32)) => am_Ev sc (d + 3) 110 (36, [(0, .ref 123)], [], am_SH, (e9, g)) (none, am_SH, (r, g))) ?_ am_F (0, 0, f1) e9 he9 hK2) (am_sub_cons rfl (am_sub_cons rfl (am_sub_cons rfl (am_sub_cons rfl am_sub_nil)))) rfl
  intro s2 q2 h hI2 hZ2
  show am_Ev sc (d + 3) 110 (7, [(0, .ref 123), (1, .retAddr a0), (2, .int s2.1), (3, .int s2.2.1)], [], am_SH, (s2.2.2, g)) (none, am_SH, (r, g))
  refine am_Ev.go hcd 3 (s' := (10, [(0, .ref 123), (1, .retAddr a0), (2, .int s2.1), (3, .int s2.2.1)], [.int (s2.2.2 123 0), .int s2.2.1], am_SH, (s2.2.2, g))) rfl ?_
  rcases am_ite h with ⟨c29, h⟩ | ⟨c29, h⟩
  · refine am_Ev.t hcd (c := s2.2.1 < s2.2.2 123 0) (s1 := (11, [(0, .ref 123), (1, .retAddr a0), (2, .int s2.1), (3, .int s2.2.1)], [], am_SH, (s2.2.2, g))) rfl c29 ?_
    refine am_Ev.go hcd 3 (s' := (14, [(0, .ref 123), (1, .retAddr a0), (2, .int s2.1), (3, .int s2.2.1)], [.int (s2.2.2 123 0), .int s2.1], am_SH, (s2.2.2, g))) rfl ?_
    rcases am_ite h with ⟨c32, h⟩ | ⟨c32, h⟩
    · refine am_Ev.t hcd (c := s2.1 < s2.2.2 123 0) (s1 := (15, [(0, .ref 123), (1, .retAddr a0), (2, .int s2.1), (3, .int s2.2.1)], [], am_SH, (s2.2.2, g))) rfl c32 ?_
      refine am_Ev.go hcd 3 (s' := (18, [(0, .ref 123), (1, .retAddr a0), (2, .int s2.1), (3, .int s2.2.1)], [.int s2.1, .ref 124], am_SH, (s2.2.2, g))) rfl ?_
      obtain ⟨c35, h⟩ := am_grd h
      refine am_Ev.t hcd (c := am_in s2.1 400 = true) (s1 := (19, [(0, .ref 123), (1, .retAddr a0), (2, .int s2.1), (3, .int s2.2.1)], [.int (s2.2.2 124 s2.1.toNatClampNeg)], am_SH, (s2.2.2, g))) rfl c35 ?_
      obtain ⟨t3, Et3, h⟩ := am_let_eq h
      refine am_Ev.go hcd 1 (s' := (20, [(0, .ref 123), (1, .retAddr a0), (2, .int s2.1), (3, .int s2.2.1), (4, .int t3)], [], am_SH, (s2.2.2, g))) (by subst Et3; exact rfl) ?_
      obtain ⟨t7, ht7, kt7⟩ := am_bind_some h
      have hKt7 : am_Ev sc (d + 3) 110 (34, [(0, .ref 123), (1, .retAddr a0), (2, .int t7.1), (3, .int s2.2.1)], [], am_SH, (t7.2, g)) (none, am_SH, (r, g)) := by
        have h := kt7
        obtain ⟨t8, Et8, h⟩ := am_let_eq h
        refine am_Ev.go hcd 1 (s' := (35, [(0, .ref 123), (1, .retAddr a0), (2, .int t7.1), (3, .int t8)], [], am_SH, (t7.2, g))) (by subst Et8; exact rfl) ?_
        refine am_Ev.go hcd 1 (s' := (7, [(0, .ref 123), (1, .retAddr a0), (2, .int t7.1), (3, .int t8)], [], am_SH, (t7.2, g))) rfl ?_
        exact am_Ev.weak' (hI2 (t7.1, t8, t7.2) (Option.some.inj h).symm) (am_sub_cons rfl (am_sub_cons rfl (am_sub_cons rfl (am_sub_cons rfl am_sub_nil)))) rfl
      have hLt7 : ∀ tt, tt = t7 → am_Ev sc (d + 3) 110 (34, [(0, .ref 123), (1, .retAddr a0), (2, .int tt.1), (3, .int s2.2.1)], [], am_SH, (tt.2, g)) (none, am_SH, (r, g)) := fun tt htt => by subst htt; exact hKt7
      have h := ht7
      refine am_Ev.go hcd 2 (s' := (22, [(0, .ref 123), (1, .retAddr a0), (2, .int s2.1), (3, .int s2.2.1), (4, .int t3)], [.int 32, .int t3], am_SH, (s2.2.2, g))) rfl ?_
      rcases am_ite h with ⟨c49, h⟩ | ⟨c49, h⟩
      · refine am_Ev.t hcd (c := t3 = 32) (s1 := (26, [(0, .ref 123), (1, .retAddr a0), (2, .int s2.1), (3, .int s2.2.1), (4, .int t3)], [], am_SH, (s2.2.2, g))) rfl c49 ?_
        obtain ⟨t4, Et4, h⟩ := am_let_eq h
        refine am_Ev.go hcd 1 (s' := (27, [(0, .ref 123), (1, .retAddr a0), (2, .int t4), (3, .int s2.2.1), (4, .int t3)], [], am_SH, (s2.2.2, g))) (by subst Et4; exact rfl) ?_
        refine am_Ev.go hcd 1 (s' := (34, [(0, .ref 123), (1, .retAddr a0), (2, .int t4), (3, .int s2.2.1), (4, .int t3)], [], am_SH, (s2.2.2, g))) rfl ?_
        exact am_Ev.weak' (hLt7 (t4, s2.2.2) (Option.some.inj h)) (am_sub_cons rfl (am_sub_cons rfl (am_sub_cons rfl (am_sub_cons rfl am_sub_nil)))) rfl
      · refine am_Ev.f hcd (c := t3 = 32) (s1 := (23, [(0, .ref 123), (1, .retAddr a0), (2, .int s2.1), (3, .int s2.2.1), (4, .int t3)], [], am_SH, (s2.2.2, g))) rfl c49 ?_
        refine am_Ev.go hcd 2 (s' := (25, [(0, .ref 123), (1, .retAddr a0), (2, .int s2.1), (3, .int s2.2.1), (4, .int t3)], [.int 10, .int t3], am_SH, (s2.2.2, g))) rfl ?_
        rcases am_ite h with ⟨c57, h⟩ | ⟨c57, h⟩
        · refine am_Ev.t hcd (c := t3 = 10) (s1 := (26, [(0, .ref 123), (1, .retAddr a0), (2, .int s2.1), (3, .int s2.2.1), (4, .int t3)], [], am_SH, (s2.2.2, g))) rfl c57 ?_
          obtain ⟨t5, Et5, h⟩ := am_let_eq h
          refine am_Ev.go hcd 1 (s' := (27, [(0, .ref 123), (1, .retAddr a0), (2, .int t5), (3, .int s2.2.1), (4, .int t3)], [], am_SH, (s2.2.2, g))) (by subst Et5; exact rfl) ?_
          refine am_Ev.go hcd 1 (s' := (34, [(0, .ref 123), (1, .retAddr a0), (2, .int t5), (3, .int s2.2.1), (4, .int t3)], [], am_SH, (s2.2.2, g))) rfl ?_
          exact am_Ev.weak' (hLt7 (t5, s2.2.2) (Option.some.inj h)) (am_sub_cons rfl (am_sub_cons rfl (am_sub_cons rfl (am_sub_cons rfl am_sub_nil)))) rfl
        · refine am_Ev.f hcd (c := t3 = 10) (s1 := (28, [(0, .ref 123), (1, .retAddr a0), (2, .int s2.1), (3, .int s2.2.1), (4, .int t3)], [], am_SH, (s2.2.2, g))) rfl c57 ?_
          refine am_Ev.go hcd 4 (s' := (32, [(0, .ref 123), (1, .retAddr a0), (2, .int s2.1), (3, .int s2.2.1), (4, .int t3)], [.retAddr a0, .int t3, .int s2.1, .ref 123], am_SH, (s2.2.2, g))) rfl ?_
          obtain ⟨p6, hp6, h⟩ := am_bind_some h
          refine am_Ev.call hcd (a := 114) (s0 := (0, [(0, .ref 123), (1, .int s2.1), (2, .int t3), (3, .retAddr a0)], [], am_SH, (s2.2.2, g))) (q := ((some (.int p6.1)), am_SH, (p6.2, g))) (s1 := (33, [(0, .ref 123), (1, .retAddr a0), (2, .int s2.1), (3, .int s2.2.1), (4, .int t3)], [.int p6.1], am_SH, (p6.2, g))) rfl rfl (xt_addToken_ok (d) s2.1 t3 a0 s2.2.2 g p6 hp6) ?_
          refine am_Ev.go hcd 1 (s' := (34, [(0, .ref 123), (1, .retAddr a0), (2, .int p6.1), (3, .int s2.2.1), (4, .int t3)], [], am_SH, (p6.2, g))) rfl ?_
          exact am_Ev.weak' (hLt7 (p6.1, p6.2) (Option.some.inj h)) (am_sub_cons rfl (am_sub_cons rfl (am_sub_cons rfl (am_sub_cons rfl am_sub_nil)))) rfl
    · refine am_Ev.f hcd (c := s2.1 < s2.2.2 123 0) (s1 := (36, [(0, .ref 123), (1, .retAddr a0), (2, .int s2.1), (3, .int s2.2.1)], [], am_SH, (s2.2.2, g))) rfl c32 ?_
      exact am_Ev.weak' (hZ2 s2.2.2 (Option.some.inj h).symm) (am_sub_cons rfl am_sub_nil) rfl
  · refine am_Ev.f hcd (c := s2.2.1 < s2.2.2 123 0) (s1 := (36, [(0, .ref 123), (1, .retAddr a0), (2, .int s2.1), (3, .int s2.2.1)], [], am_SH, (s2.2.2, g))) rfl c29 ?_
    exact am_Ev.weak' (hZ2 s2.2.2 (Option.some.inj h).symm) (am_sub_cons rfl am_sub_nil) rfl
def xs_refuse (a0 : Int32) (f : (Nat → Nat → Int32)) : Bool × (Nat → Nat → Int32) :=
  am_let (am_up f 128 4 a0 : Nat → Nat → Int32) fun f1 =>
  am_let (am_up f1 128 5 (f1 123 3) : Nat → Nat → Int32) fun f2 =>
  (false, f2)
set_option maxRecDepth 100000 in
set_option maxHeartbeats 4000000 in
theorem xs_refuse_ok {sc : Nat × (Nat → Int32)} (d : Nat) (a0 : Int32) (f g : (Nat → Nat → Int32)) : am_Ev sc (d) 92 (0, [(0, .ref 128), (1, .int a0)], [], am_SH, (f, g)) ((some (.int (am_b (xs_refuse a0 f).1))), am_SH, ((xs_refuse a0 f).2, g)) := by
  have hcd : am_code 92 = am_c92 := rfl
  obtain ⟨r, h⟩ : ∃ r, r = xs_refuse a0 f := ⟨_, rfl⟩
  rw [← h]
  unfold xs_refuse at h
  obtain ⟨f1, Ef1, h⟩ := am_let_eq' h
  refine am_Ev.go hcd 3 (s' := (3, [(0, .ref 128), (1, .int a0)], [], am_SH, (f1, g))) (by subst Ef1; exact rfl) ?_
  obtain ⟨f2, Ef2, h⟩ := am_let_eq' h
  refine am_Ev.go hcd 5 (s' := (8, [(0, .ref 128), (1, .int a0)], [], am_SH, (f2, g))) (by subst Ef2; exact rfl) ?_
  refine am_Ev.go hcd 1 (s' := (9, [(0, .ref 128), (1, .int a0)], [.int 0], am_SH, (f2, g))) rfl ?_
  exact am_Ev.cast (a := ((some (.int (am_b (false, f2).1))), am_SH, ((false, f2).2, g))) (by subst h; rfl) (am_Ev.ret hcd rfl)
def xs_takeHead (a0 : Int32) (a1 : Int32) (f : (Nat → Nat → Int32)) : Option (Bool × (Nat → Nat → Int32)) :=
  if f 123 1 = 1 then (
    am_let ((if a0 = 0 then (
        2)
      else (
        0)) : Int32) fun t1 =>
    if t1 < f 123 2 then (
      am_let (xs_refuse 1 f) fun p2 =>
      some (p2.1, p2.2))
    else (
      if a1 < 16 then (
        (xt_advance  f).bind fun p3 =>
        some (true, p3))
      else (
        am_let (xs_refuse 3 f) fun p4 =>
        some (p4.1, p4.2))))
  else (
    am_let (xs_refuse 1 f) fun p5 =>
    some (p5.1, p5.2))
set_option maxRecDepth 100000 in
set_option maxHeartbeats 4000000 in
theorem xs_takeHead_ok {sc : Nat × (Nat → Int32)} (d : Nat) (a0 : Int32) (a1 : Int32) (f g : (Nat → Nat → Int32)) (r : Bool × (Nat → Nat → Int32)) (h : xs_takeHead a0 a1 f = some r) : am_Ev sc (d + 1) 93 (0, [(0, .ref 128), (1, .int a0), (2, .int a1)], [], am_SH, (f, g)) ((some (.int (am_b r.1))), am_SH, (r.2, g)) := by
  have hcd : am_code 93 = am_c93 := rfl
  unfold xs_takeHead at h
  refine am_Ev.go hcd 4 (s' := (4, [(0, .ref 128), (1, .int a0), (2, .int a1)], [.int 1, .int (f 123 1)], am_SH, (f, g))) rfl ?_
  rcases am_ite h with ⟨c2, h⟩ | ⟨c2, h⟩
  · refine am_Ev.t hcd (c := f 123 1 = 1) (s1 := (5, [(0, .ref 128), (1, .int a0), (2, .int a1)], [], am_SH, (f, g))) rfl c2 ?_
    obtain ⟨t1, ht1, kt1⟩ := am_let_eq h
    have hKt1 : am_Ev sc (d + 1) 93 (13, [(0, .ref 128), (2, .int a1)], [.int t1, .int (f 123 2)], am_SH, (f, g)) ((some (.int (am_b r.1))), am_SH, (r.2, g)) := by
      have h := kt1
      rcases am_ite h with ⟨c8, h⟩ | ⟨c8, h⟩
      · refine am_Ev.t hcd (c := t1 < f 123 2) (s1 := (14, [(0, .ref 128), (2, .int a1)], [], am_SH, (f, g))) rfl c8 ?_
        refine am_Ev.go hcd 2 (s' := (16, [(0, .ref 128), (2, .int a1)], [.int 1, .ref 128], am_SH, (f, g))) rfl ?_
        obtain ⟨p2, Ep2, h⟩ := am_let_eq h
        refine am_Ev.call hcd (a := 92) (s0 := (0, [(0, .ref 128), (1, .int 1)], [], am_SH, (f, g))) (q := ((some (.int (am_b p2.1))), am_SH, (p2.2, g))) (s1 := (17, [(0, .ref 128), (2, .int a1)], [.int (am_b p2.1)], am_SH, (p2.2, g))) rfl rfl (by subst Ep2; exact xs_refuse_ok (d) 1 f g) ?_
        exact am_Ev.cast (a := ((some (.int (am_b (p2.1, p2.2).1))), am_SH, ((p2.1, p2.2).2, g))) (by cases h; rfl) (am_Ev.retb hcd rfl)
      · refine am_Ev.f hcd (c := t1 < f 123 2) (s1 := (18, [(0, .ref 128), (2, .int a1)], [], am_SH, (f, g))) rfl c8 ?_
        refine am_Ev.go hcd 2 (s' := (20, [(0, .ref 128), (2, .int a1)], [.int 16, .int a1], am_SH, (f, g))) rfl ?_
        rcases am_ite h with ⟨c15, h⟩ | ⟨c15, h⟩
        · refine am_Ev.t hcd (c := a1 < 16) (s1 := (25, [(0, .ref 128), (2, .int a1)], [], am_SH, (f, g))) rfl c15 ?_
          refine am_Ev.go hcd 2 (s' := (27, [(0, .ref 128), (2, .int a1)], [.ref 123], am_SH, (f, g))) rfl ?_
          obtain ⟨p3, hp3, h⟩ := am_bind_some h
          refine am_Ev.call hcd (a := 111) (s0 := (0, [(0, .ref 123)], [], am_SH, (f, g))) (q := (none, am_SH, (p3, g))) (s1 := (28, [(0, .ref 128), (2, .int a1)], [], am_SH, (p3, g))) rfl rfl (xt_advance_ok (d)  f g p3 hp3) ?_
          refine am_Ev.go hcd 1 (s' := (29, [(0, .ref 128), (2, .int a1)], [.int 1], am_SH, (p3, g))) rfl ?_
          exact am_Ev.cast (a := ((some (.int (am_b (true, p3).1))), am_SH, ((true, p3).2, g))) (by cases h; rfl) (am_Ev.ret hcd rfl)
        · refine am_Ev.f hcd (c := a1 < 16) (s1 := (21, [(0, .ref 128), (2, .int a1)], [], am_SH, (f, g))) rfl c15 ?_
          refine am_Ev.go hcd 2 (s' := (23, [(0, .ref 128), (2, .int a1)], [.int 3, .ref 128], am_SH, (f, g))) rfl ?_
          obtain ⟨p4, Ep4, h⟩ := am_let_eq h
          refine am_Ev.call hcd (a := 92) (s0 := (0, [(0, .ref 128), (1, .int 3)], [], am_SH, (f, g))) (q := ((some (.int (am_b p4.1))), am_SH, (p4.2, g))) (s1 := (24, [(0, .ref 128), (2, .int a1)], [.int (am_b p4.1)], am_SH, (p4.2, g))) rfl rfl (by subst Ep4; exact xs_refuse_ok (d) 3 f g) ?_
          exact am_Ev.cast (a := ((some (.int (am_b (p4.1, p4.2).1))), am_SH, ((p4.1, p4.2).2, g))) (by cases h; rfl) (am_Ev.retb hcd rfl)
    have hLt1 : ∀ tt, tt = t1 → am_Ev sc (d + 1) 93 (13, [(0, .ref 128), (2, .int a1)], [.int tt, .int (f 123 2)], am_SH, (f, g)) ((some (.int (am_b r.1))), am_SH, (r.2, g)) := fun tt htt => by subst htt; exact hKt1
    have h := ht1
    refine am_Ev.go hcd 4 (s' := (9, [(0, .ref 128), (1, .int a0), (2, .int a1)], [.int a0, .int (f 123 2)], am_SH, (f, g))) rfl ?_
    rcases am_itv h with ⟨c30, h⟩ | ⟨c30, h⟩
    · refine am_Ev.t hcd (c := a0 = 0) (s1 := (10, [(0, .ref 128), (1, .int a0), (2, .int a1)], [.int (f 123 2)], am_SH, (f, g))) rfl c30 ?_
      refine am_Ev.go hcd 2 (s' := (13, [(0, .ref 128), (1, .int a0), (2, .int a1)], [.int 2, .int (f 123 2)], am_SH, (f, g))) rfl ?_
      exact am_Ev.weak' (hLt1 2 h.symm) (am_sub_cons rfl (am_sub_cons rfl am_sub_nil)) rfl
    · refine am_Ev.f hcd (c := a0 = 0) (s1 := (12, [(0, .ref 128), (1, .int a0), (2, .int a1)], [.int (f 123 2)], am_SH, (f, g))) rfl c30 ?_
      refine am_Ev.go hcd 1 (s' := (13, [(0, .ref 128), (1, .int a0), (2, .int a1)], [.int 0, .int (f 123 2)], am_SH, (f, g))) rfl ?_
      exact am_Ev.weak' (hLt1 0 h.symm) (am_sub_cons rfl (am_sub_cons rfl am_sub_nil)) rfl
  · refine am_Ev.f hcd (c := f 123 1 = 1) (s1 := (14, [(0, .ref 128), (1, .int a0), (2, .int a1)], [], am_SH, (f, g))) rfl c2 ?_
    refine am_Ev.go hcd 2 (s' := (16, [(0, .ref 128), (1, .int a0), (2, .int a1)], [.int 1, .ref 128], am_SH, (f, g))) rfl ?_
    obtain ⟨p5, Ep5, h⟩ := am_let_eq h
    refine am_Ev.call hcd (a := 92) (s0 := (0, [(0, .ref 128), (1, .int 1)], [], am_SH, (f, g))) (q := ((some (.int (am_b p5.1))), am_SH, (p5.2, g))) (s1 := (17, [(0, .ref 128), (1, .int a0), (2, .int a1)], [.int (am_b p5.1)], am_SH, (p5.2, g))) rfl rfl (by subst Ep5; exact xs_refuse_ok (d) 1 f g) ?_
    exact am_Ev.cast (a := ((some (.int (am_b (p5.1, p5.2).1))), am_SH, ((p5.1, p5.2).2, g))) (by cases h; rfl) (am_Ev.retb hcd rfl)
def xl_emit_129 (a0 : Int32) (f : (Nat → Nat → Int32)) : Option ((Nat → Nat → Int32)) :=
  if f 129 1 < (nI 400) then (
    if am_in (f 129 1) 400 = true then (
    am_let (am_up f 130 (f 129 1).toNatClampNeg a0 : Nat → Nat → Int32) fun f1 =>
    am_let (am_up f1 129 1 ((f1 129 1) + 1) : Nat → Nat → Int32) fun f2 =>
    some f2) else none)
  else (
    some f)
set_option maxRecDepth 100000 in
set_option maxHeartbeats 4000000 in
theorem xl_emit_129_ok {sc : Nat × (Nat → Int32)} (d : Nat) (a0 : Int32) (f g : (Nat → Nat → Int32)) (r : (Nat → Nat → Int32)) (h : xl_emit_129 a0 f = some r) : am_Ev sc (d) 32 (0, [(0, .ref 129), (1, .int a0)], [], am_SH, (f, g)) (none, am_SH, (r, g)) := by
  have hcd : am_code 32 = am_c32 := rfl
  unfold xl_emit_129 at h
  refine am_Ev.go hcd 5 (s' := (5, [(0, .ref 129), (1, .int a0)], [.int (nI 400), .int (f 129 1)], am_SH, (f, g))) rfl ?_
  rcases am_ite h with ⟨c2, h⟩ | ⟨c2, h⟩
  · refine am_Ev.t hcd (c := f 129 1 < (nI 400)) (s1 := (6, [(0, .ref 129), (1, .int a0)], [], am_SH, (f, g))) rfl c2 ?_
    refine am_Ev.go hcd 5 (s' := (11, [(0, .ref 129), (1, .int a0)], [.int a0, .int (f 129 1), .ref 130], am_SH, (f, g))) rfl ?_
    obtain ⟨c5, h⟩ := am_grd h
    obtain ⟨f1, Ef1, h⟩ := am_let_eq h
    refine am_Ev.t hcd (c := am_in (f 129 1) 400 = true) (s1 := (12, [(0, .ref 129), (1, .int a0)], [], am_SH, (f1, g))) (by subst Ef1; exact rfl) c5 ?_
    obtain ⟨f2, Ef2, h⟩ := am_let_eq h
    refine am_Ev.go hcd 6 (s' := (18, [(0, .ref 129), (1, .int a0)], [], am_SH, (f2, g))) (by subst Ef2; exact rfl) ?_
    exact am_Ev.cast (a := (none, am_SH, (f2, g))) (by cases h; rfl) (am_Ev.ret hcd rfl)
  · refine am_Ev.f hcd (c := f 129 1 < (nI 400)) (s1 := (18, [(0, .ref 129), (1, .int a0)], [], am_SH, (f, g))) rfl c2 ?_
    exact am_Ev.cast (a := (none, am_SH, (f, g))) (by cases h; rfl) (am_Ev.ret hcd rfl)
def xs_readUnit (f : (Nat → Nat → Int32)) : Option (Bool × (Nat → Nat → Int32)) :=
  if f 123 1 = 2 then (
    (xl_emit_129 (f 123 2) f).bind fun p1 =>
    (xt_advance  p1).bind fun p2 =>
    some (true, p2))
  else (
    if f 123 1 = 1 then (
      if f 123 2 < 7 then (
        am_let (xs_refuse 1 f) fun p3 =>
        some (p3.1, p3.2))
      else (
        (xl_emit_129 (10000 + (f 123 2)) f).bind fun p4 =>
        (xt_advance  p4).bind fun p5 =>
        some (true, p5)))
    else (
      am_let (xs_refuse 1 f) fun p6 =>
      some (p6.1, p6.2)))
set_option maxRecDepth 100000 in
set_option maxHeartbeats 4000000 in
theorem xs_readUnit_ok {sc : Nat × (Nat → Int32)} (d : Nat)  (f g : (Nat → Nat → Int32)) (r : Bool × (Nat → Nat → Int32)) (h : xs_readUnit  f = some r) : am_Ev sc (d + 1) 107 (0, [(0, .ref 128)], [], am_SH, (f, g)) ((some (.int (am_b r.1))), am_SH, (r.2, g)) := by
  have hcd : am_code 107 = am_c107 := rfl
  unfold xs_readUnit at h
  refine am_Ev.go hcd 4 (s' := (4, [(0, .ref 128)], [.int 2, .int (f 123 1)], am_SH, (f, g))) rfl ?_
  rcases am_ite h with ⟨c2, h⟩ | ⟨c2, h⟩
  · refine am_Ev.t hcd (c := f 123 1 = 2) (s1 := (5, [(0, .ref 128)], [], am_SH, (f, g))) rfl c2 ?_
    refine am_Ev.go hcd 5 (s' := (10, [(0, .ref 128)], [.int (f 123 2), .ref 129], am_SH, (f, g))) rfl ?_
    obtain ⟨p1, hp1, h⟩ := am_bind_some h
    refine am_Ev.call hcd (a := 32) (s0 := (0, [(0, .ref 129), (1, .int (f 123 2))], [], am_SH, (f, g))) (q := (none, am_SH, (p1, g))) (s1 := (11, [(0, .ref 128)], [], am_SH, (p1, g))) rfl rfl (xl_emit_129_ok (d) (f 123 2) f g p1 hp1) ?_
    refine am_Ev.go hcd 3 (s' := (37, [(0, .ref 128)], [.ref 123], am_SH, (p1, g))) rfl ?_
    obtain ⟨p2, hp2, h⟩ := am_bind_some h
    refine am_Ev.call hcd (a := 111) (s0 := (0, [(0, .ref 123)], [], am_SH, (p1, g))) (q := (none, am_SH, (p2, g))) (s1 := (38, [(0, .ref 128)], [], am_SH, (p2, g))) rfl rfl (xt_advance_ok (d)  p1 g p2 hp2) ?_
    refine am_Ev.go hcd 1 (s' := (39, [(0, .ref 128)], [.int 1], am_SH, (p2, g))) rfl ?_
    exact am_Ev.cast (a := ((some (.int (am_b (true, p2).1))), am_SH, ((true, p2).2, g))) (by cases h; rfl) (am_Ev.ret hcd rfl)
  · refine am_Ev.f hcd (c := f 123 1 = 2) (s1 := (12, [(0, .ref 128)], [], am_SH, (f, g))) rfl c2 ?_
    refine am_Ev.go hcd 4 (s' := (16, [(0, .ref 128)], [.int 1, .int (f 123 1)], am_SH, (f, g))) rfl ?_
    rcases am_ite h with ⟨c14, h⟩ | ⟨c14, h⟩
    · refine am_Ev.t hcd (c := f 123 1 = 1) (s1 := (17, [(0, .ref 128)], [], am_SH, (f, g))) rfl c14 ?_
      refine am_Ev.go hcd 4 (s' := (21, [(0, .ref 128)], [.int 7, .int (f 123 2)], am_SH, (f, g))) rfl ?_
      rcases am_ite h with ⟨c17, h⟩ | ⟨c17, h⟩
      · refine am_Ev.t hcd (c := f 123 2 < 7) (s1 := (31, [(0, .ref 128)], [], am_SH, (f, g))) rfl c17 ?_
        refine am_Ev.go hcd 2 (s' := (33, [(0, .ref 128)], [.int 1, .ref 128], am_SH, (f, g))) rfl ?_
        obtain ⟨p3, Ep3, h⟩ := am_let_eq h
        refine am_Ev.call hcd (a := 92) (s0 := (0, [(0, .ref 128), (1, .int 1)], [], am_SH, (f, g))) (q := ((some (.int (am_b p3.1))), am_SH, (p3.2, g))) (s1 := (34, [(0, .ref 128)], [.int (am_b p3.1)], am_SH, (p3.2, g))) rfl rfl (by subst Ep3; exact xs_refuse_ok (d) 1 f g) ?_
        exact am_Ev.cast (a := ((some (.int (am_b (p3.1, p3.2).1))), am_SH, ((p3.1, p3.2).2, g))) (by cases h; rfl) (am_Ev.retb hcd rfl)
      · refine am_Ev.f hcd (c := f 123 2 < 7) (s1 := (22, [(0, .ref 128)], [], am_SH, (f, g))) rfl c17 ?_
        refine am_Ev.go hcd 7 (s' := (29, [(0, .ref 128)], [.int (10000 + (f 123 2)), .ref 129], am_SH, (f, g))) rfl ?_
        obtain ⟨p4, hp4, h⟩ := am_bind_some h
        refine am_Ev.call hcd (a := 32) (s0 := (0, [(0, .ref 129), (1, .int (10000 + (f 123 2)))], [], am_SH, (f, g))) (q := (none, am_SH, (p4, g))) (s1 := (30, [(0, .ref 128)], [], am_SH, (p4, g))) rfl rfl (xl_emit_129_ok (d) (10000 + (f 123 2)) f g p4 hp4) ?_
        refine am_Ev.go hcd 3 (s' := (37, [(0, .ref 128)], [.ref 123], am_SH, (p4, g))) rfl ?_
        obtain ⟨p5, hp5, h⟩ := am_bind_some h
        refine am_Ev.call hcd (a := 111) (s0 := (0, [(0, .ref 123)], [], am_SH, (p4, g))) (q := (none, am_SH, (p5, g))) (s1 := (38, [(0, .ref 128)], [], am_SH, (p5, g))) rfl rfl (xt_advance_ok (d)  p4 g p5 hp5) ?_
        refine am_Ev.go hcd 1 (s' := (39, [(0, .ref 128)], [.int 1], am_SH, (p5, g))) rfl ?_
        exact am_Ev.cast (a := ((some (.int (am_b (true, p5).1))), am_SH, ((true, p5).2, g))) (by cases h; rfl) (am_Ev.ret hcd rfl)
    · refine am_Ev.f hcd (c := f 123 1 = 1) (s1 := (31, [(0, .ref 128)], [], am_SH, (f, g))) rfl c14 ?_
      refine am_Ev.go hcd 2 (s' := (33, [(0, .ref 128)], [.int 1, .ref 128], am_SH, (f, g))) rfl ?_
      obtain ⟨p6, Ep6, h⟩ := am_let_eq h
      refine am_Ev.call hcd (a := 92) (s0 := (0, [(0, .ref 128), (1, .int 1)], [], am_SH, (f, g))) (q := ((some (.int (am_b p6.1))), am_SH, (p6.2, g))) (s1 := (34, [(0, .ref 128)], [.int (am_b p6.1)], am_SH, (p6.2, g))) rfl rfl (by subst Ep6; exact xs_refuse_ok (d) 1 f g) ?_
      exact am_Ev.cast (a := ((some (.int (am_b (p6.1, p6.2).1))), am_SH, ((p6.1, p6.2).2, g))) (by cases h; rfl) (am_Ev.retb hcd rfl)
def xt_isSign (a0 : Int32) (f : (Nat → Nat → Int32)) : Bool :=
  if f 123 1 = 3 then (
    if f 123 2 = a0 then (
      true)
    else (
      false))
  else (
    false)
set_option maxRecDepth 100000 in
set_option maxHeartbeats 4000000 in
theorem xt_isSign_ok {sc : Nat × (Nat → Int32)} (d : Nat) (a0 : Int32) (f g : (Nat → Nat → Int32)) : am_Ev sc (d) 113 (0, [(0, .ref 123), (1, .int a0)], [], am_SH, (f, g)) ((some (.int (am_b (xt_isSign a0 f)))), am_SH, (f, g)) := by
  have hcd : am_code 113 = am_c113 := rfl
  obtain ⟨r, h⟩ : ∃ r, r = xt_isSign a0 f := ⟨_, rfl⟩
  rw [← h]
  unfold xt_isSign at h
  refine am_Ev.go hcd 3 (s' := (3, [(0, .ref 123), (1, .int a0)], [.int 3, .int (f 123 1)], am_SH, (f, g))) rfl ?_
  rcases am_itv h with ⟨c4, h⟩ | ⟨c4, h⟩
  · refine am_Ev.t hcd (c := f 123 1 = 3) (s1 := (4, [(0, .ref 123), (1, .int a0)], [], am_SH, (f, g))) rfl c4 ?_
    refine am_Ev.go hcd 3 (s' := (7, [(0, .ref 123), (1, .int a0)], [.int a0, .int (f 123 2)], am_SH, (f, g))) rfl ?_
    rcases am_itv h with ⟨c7, h⟩ | ⟨c7, h⟩
    · refine am_Ev.t hcd (c := f 123 2 = a0) (s1 := (8, [(0, .ref 123), (1, .int a0)], [], am_SH, (f, g))) rfl c7 ?_
      refine am_Ev.go hcd 2 (s' := (11, [(0, .ref 123), (1, .int a0)], [.int 1], am_SH, (f, g))) rfl ?_
      exact am_Ev.cast (a := ((some (.int (am_b true))), am_SH, (f, g))) (by subst h; rfl) (am_Ev.ret hcd rfl)
    · refine am_Ev.f hcd (c := f 123 2 = a0) (s1 := (10, [(0, .ref 123), (1, .int a0)], [], am_SH, (f, g))) rfl c7 ?_
      refine am_Ev.go hcd 1 (s' := (11, [(0, .ref 123), (1, .int a0)], [.int 0], am_SH, (f, g))) rfl ?_
      exact am_Ev.cast (a := ((some (.int (am_b false))), am_SH, (f, g))) (by subst h; rfl) (am_Ev.ret hcd rfl)
  · refine am_Ev.f hcd (c := f 123 1 = 3) (s1 := (10, [(0, .ref 123), (1, .int a0)], [], am_SH, (f, g))) rfl c4 ?_
    refine am_Ev.go hcd 1 (s' := (11, [(0, .ref 123), (1, .int a0)], [.int 0], am_SH, (f, g))) rfl ?_
    exact am_Ev.cast (a := ((some (.int (am_b false))), am_SH, (f, g))) (by subst h; rfl) (am_Ev.ret hcd rfl)
def xs_isJoin (f : (Nat → Nat → Int32)) : Bool :=
  if (xt_isSign 43 f) = true then (
    true)
  else (
    if (xt_isSign 45 f) = true then (
      true)
    else (
      if (xt_isSign 42 f) = true then (
        true)
      else (
        if (xt_isSign 47 f) = true then (
          true)
        else (
          false))))
set_option maxRecDepth 100000 in
set_option maxHeartbeats 4000000 in
theorem xs_isJoin_ok {sc : Nat × (Nat → Int32)} (d : Nat)  (f g : (Nat → Nat → Int32)) : am_Ev sc (d + 1) 106 (0, [(0, .ref 128)], [], am_SH, (f, g)) ((some (.int (am_b (xs_isJoin  f)))), am_SH, (f, g)) := by
  have hcd : am_code 106 = am_c106 := rfl
  obtain ⟨r, h⟩ : ∃ r, r = xs_isJoin  f := ⟨_, rfl⟩
  rw [← h]
  unfold xs_isJoin at h
  refine am_Ev.go hcd 3 (s' := (3, [(0, .ref 128)], [.int 43, .ref 123], am_SH, (f, g))) rfl ?_
  refine am_Ev.call hcd (a := 113) (s0 := (0, [(0, .ref 123), (1, .int 43)], [], am_SH, (f, g))) (q := ((some (.int (am_b (xt_isSign 43 f)))), am_SH, (f, g))) (s1 := (4, [(0, .ref 128)], [.int (am_b (xt_isSign 43 f))], am_SH, (f, g))) rfl rfl (xt_isSign_ok (d) 43 f g) ?_
  rcases am_itv h with ⟨c6, h⟩ | ⟨c6, h⟩
  · refine am_Ev.f hcd (c := am_b (xt_isSign 43 f) = 0) (s1 := (20, [(0, .ref 128)], [], am_SH, (f, g))) rfl (am_b_t c6) ?_
    refine am_Ev.go hcd 2 (s' := (23, [(0, .ref 128)], [.int 1], am_SH, (f, g))) rfl ?_
    exact am_Ev.cast (a := ((some (.int (am_b true))), am_SH, (f, g))) (by subst h; rfl) (am_Ev.ret hcd rfl)
  · refine am_Ev.t hcd (c := am_b (xt_isSign 43 f) = 0) (s1 := (5, [(0, .ref 128)], [], am_SH, (f, g))) rfl (am_b_f c6) ?_
    refine am_Ev.go hcd 3 (s' := (8, [(0, .ref 128)], [.int 45, .ref 123], am_SH, (f, g))) rfl ?_
    refine am_Ev.call hcd (a := 113) (s0 := (0, [(0, .ref 123), (1, .int 45)], [], am_SH, (f, g))) (q := ((some (.int (am_b (xt_isSign 45 f)))), am_SH, (f, g))) (s1 := (9, [(0, .ref 128)], [.int (am_b (xt_isSign 45 f))], am_SH, (f, g))) rfl rfl (xt_isSign_ok (d) 45 f g) ?_
    rcases am_itv h with ⟨c13, h⟩ | ⟨c13, h⟩
    · refine am_Ev.f hcd (c := am_b (xt_isSign 45 f) = 0) (s1 := (20, [(0, .ref 128)], [], am_SH, (f, g))) rfl (am_b_t c13) ?_
      refine am_Ev.go hcd 2 (s' := (23, [(0, .ref 128)], [.int 1], am_SH, (f, g))) rfl ?_
      exact am_Ev.cast (a := ((some (.int (am_b true))), am_SH, (f, g))) (by subst h; rfl) (am_Ev.ret hcd rfl)
    · refine am_Ev.t hcd (c := am_b (xt_isSign 45 f) = 0) (s1 := (10, [(0, .ref 128)], [], am_SH, (f, g))) rfl (am_b_f c13) ?_
      refine am_Ev.go hcd 3 (s' := (13, [(0, .ref 128)], [.int 42, .ref 123], am_SH, (f, g))) rfl ?_
      refine am_Ev.call hcd (a := 113) (s0 := (0, [(0, .ref 123), (1, .int 42)], [], am_SH, (f, g))) (q := ((some (.int (am_b (xt_isSign 42 f)))), am_SH, (f, g))) (s1 := (14, [(0, .ref 128)], [.int (am_b (xt_isSign 42 f))], am_SH, (f, g))) rfl rfl (xt_isSign_ok (d) 42 f g) ?_
      rcases am_itv h with ⟨c20, h⟩ | ⟨c20, h⟩
      · refine am_Ev.f hcd (c := am_b (xt_isSign 42 f) = 0) (s1 := (20, [(0, .ref 128)], [], am_SH, (f, g))) rfl (am_b_t c20) ?_
        refine am_Ev.go hcd 2 (s' := (23, [(0, .ref 128)], [.int 1], am_SH, (f, g))) rfl ?_
        exact am_Ev.cast (a := ((some (.int (am_b true))), am_SH, (f, g))) (by subst h; rfl) (am_Ev.ret hcd rfl)
      · refine am_Ev.t hcd (c := am_b (xt_isSign 42 f) = 0) (s1 := (15, [(0, .ref 128)], [], am_SH, (f, g))) rfl (am_b_f c20) ?_
        refine am_Ev.go hcd 3 (s' := (18, [(0, .ref 128)], [.int 47, .ref 123], am_SH, (f, g))) rfl ?_
        refine am_Ev.call hcd (a := 113) (s0 := (0, [(0, .ref 123), (1, .int 47)], [], am_SH, (f, g))) (q := ((some (.int (am_b (xt_isSign 47 f)))), am_SH, (f, g))) (s1 := (19, [(0, .ref 128)], [.int (am_b (xt_isSign 47 f))], am_SH, (f, g))) rfl rfl (xt_isSign_ok (d) 47 f g) ?_
        rcases am_itv h with ⟨c27, h⟩ | ⟨c27, h⟩
        · refine am_Ev.f hcd (c := am_b (xt_isSign 47 f) = 0) (s1 := (20, [(0, .ref 128)], [], am_SH, (f, g))) rfl (am_b_t c27) ?_
          refine am_Ev.go hcd 2 (s' := (23, [(0, .ref 128)], [.int 1], am_SH, (f, g))) rfl ?_
          exact am_Ev.cast (a := ((some (.int (am_b true))), am_SH, (f, g))) (by subst h; rfl) (am_Ev.ret hcd rfl)
        · refine am_Ev.t hcd (c := am_b (xt_isSign 47 f) = 0) (s1 := (22, [(0, .ref 128)], [], am_SH, (f, g))) rfl (am_b_f c27) ?_
          refine am_Ev.go hcd 1 (s' := (23, [(0, .ref 128)], [.int 0], am_SH, (f, g))) rfl ?_
          exact am_Ev.cast (a := ((some (.int (am_b false))), am_SH, (f, g))) (by subst h; rfl) (am_Ev.ret hcd rfl)
def xs_takeNumber (a0 : Int32) (a1 : Int32) (f : (Nat → Nat → Int32)) : Option (Bool × (Nat → Nat → Int32)) :=
  if f 123 1 = 2 then (
    if f 123 2 < a0 then (
      am_let (xs_refuse 2 f) fun p1 =>
      some (p1.1, p1.2))
    else (
      if a1 < f 123 2 then (
        am_let (xs_refuse 2 f) fun p2 =>
        some (p2.1, p2.2))
      else (
        am_let (am_up f 128 7 (f 123 2) : Nat → Nat → Int32) fun f3 =>
        (xt_advance  f3).bind fun p4 =>
        some (true, p4))))
  else (
    am_let (xs_refuse 1 f) fun p5 =>
    some (p5.1, p5.2))
set_option maxRecDepth 100000 in
set_option maxHeartbeats 4000000 in
theorem xs_takeNumber_ok {sc : Nat × (Nat → Int32)} (d : Nat) (a0 : Int32) (a1 : Int32) (f g : (Nat → Nat → Int32)) (r : Bool × (Nat → Nat → Int32)) (h : xs_takeNumber a0 a1 f = some r) : am_Ev sc (d + 1) 96 (0, [(0, .ref 128), (1, .int a0), (2, .int a1)], [], am_SH, (f, g)) ((some (.int (am_b r.1))), am_SH, (r.2, g)) := by
  have hcd : am_code 96 = am_c96 := rfl
  unfold xs_takeNumber at h
  refine am_Ev.go hcd 4 (s' := (4, [(0, .ref 128), (1, .int a0), (2, .int a1)], [.int 2, .int (f 123 1)], am_SH, (f, g))) rfl ?_
  rcases am_ite h with ⟨c2, h⟩ | ⟨c2, h⟩
  · refine am_Ev.t hcd (c := f 123 1 = 2) (s1 := (9, [(0, .ref 128), (1, .int a0), (2, .int a1)], [], am_SH, (f, g))) rfl c2 ?_
    refine am_Ev.go hcd 4 (s' := (13, [(0, .ref 128), (1, .int a0), (2, .int a1)], [.int a0, .int (f 123 2)], am_SH, (f, g))) rfl ?_
    rcases am_ite h with ⟨c5, h⟩ | ⟨c5, h⟩
    · refine am_Ev.t hcd (c := f 123 2 < a0) (s1 := (19, [(0, .ref 128), (1, .int a0), (2, .int a1)], [], am_SH, (f, g))) rfl c5 ?_
      refine am_Ev.go hcd 2 (s' := (21, [(0, .ref 128), (1, .int a0), (2, .int a1)], [.int 2, .ref 128], am_SH, (f, g))) rfl ?_
      obtain ⟨p1, Ep1, h⟩ := am_let_eq h
      refine am_Ev.call hcd (a := 92) (s0 := (0, [(0, .ref 128), (1, .int 2)], [], am_SH, (f, g))) (q := ((some (.int (am_b p1.1))), am_SH, (p1.2, g))) (s1 := (22, [(0, .ref 128), (1, .int a0), (2, .int a1)], [.int (am_b p1.1)], am_SH, (p1.2, g))) rfl rfl (by subst Ep1; exact xs_refuse_ok (d) 2 f g) ?_
      exact am_Ev.cast (a := ((some (.int (am_b (p1.1, p1.2).1))), am_SH, ((p1.1, p1.2).2, g))) (by cases h; rfl) (am_Ev.retb hcd rfl)
    · refine am_Ev.f hcd (c := f 123 2 < a0) (s1 := (14, [(0, .ref 128), (1, .int a0), (2, .int a1)], [], am_SH, (f, g))) rfl c5 ?_
      refine am_Ev.go hcd 4 (s' := (18, [(0, .ref 128), (1, .int a0), (2, .int a1)], [.int a1, .int (f 123 2)], am_SH, (f, g))) rfl ?_
      rcases am_ite h with ⟨c13, h⟩ | ⟨c13, h⟩
      · refine am_Ev.t hcd (c := a1 < f 123 2) (s1 := (19, [(0, .ref 128), (1, .int a0), (2, .int a1)], [], am_SH, (f, g))) rfl c13 ?_
        refine am_Ev.go hcd 2 (s' := (21, [(0, .ref 128), (1, .int a0), (2, .int a1)], [.int 2, .ref 128], am_SH, (f, g))) rfl ?_
        obtain ⟨p2, Ep2, h⟩ := am_let_eq h
        refine am_Ev.call hcd (a := 92) (s0 := (0, [(0, .ref 128), (1, .int 2)], [], am_SH, (f, g))) (q := ((some (.int (am_b p2.1))), am_SH, (p2.2, g))) (s1 := (22, [(0, .ref 128), (1, .int a0), (2, .int a1)], [.int (am_b p2.1)], am_SH, (p2.2, g))) rfl rfl (by subst Ep2; exact xs_refuse_ok (d) 2 f g) ?_
        exact am_Ev.cast (a := ((some (.int (am_b (p2.1, p2.2).1))), am_SH, ((p2.1, p2.2).2, g))) (by cases h; rfl) (am_Ev.retb hcd rfl)
      · refine am_Ev.f hcd (c := a1 < f 123 2) (s1 := (23, [(0, .ref 128), (1, .int a0), (2, .int a1)], [], am_SH, (f, g))) rfl c13 ?_
        obtain ⟨f3, Ef3, h⟩ := am_let_eq h
        refine am_Ev.go hcd 5 (s' := (28, [(0, .ref 128), (1, .int a0), (2, .int a1)], [], am_SH, (f3, g))) (by subst Ef3; exact rfl) ?_
        refine am_Ev.go hcd 2 (s' := (30, [(0, .ref 128), (1, .int a0), (2, .int a1)], [.ref 123], am_SH, (f3, g))) rfl ?_
        obtain ⟨p4, hp4, h⟩ := am_bind_some h
        refine am_Ev.call hcd (a := 111) (s0 := (0, [(0, .ref 123)], [], am_SH, (f3, g))) (q := (none, am_SH, (p4, g))) (s1 := (31, [(0, .ref 128), (1, .int a0), (2, .int a1)], [], am_SH, (p4, g))) rfl rfl (xt_advance_ok (d)  f3 g p4 hp4) ?_
        refine am_Ev.go hcd 1 (s' := (32, [(0, .ref 128), (1, .int a0), (2, .int a1)], [.int 1], am_SH, (p4, g))) rfl ?_
        exact am_Ev.cast (a := ((some (.int (am_b (true, p4).1))), am_SH, ((true, p4).2, g))) (by cases h; rfl) (am_Ev.ret hcd rfl)
  · refine am_Ev.f hcd (c := f 123 1 = 2) (s1 := (5, [(0, .ref 128), (1, .int a0), (2, .int a1)], [], am_SH, (f, g))) rfl c2 ?_
    refine am_Ev.go hcd 2 (s' := (7, [(0, .ref 128), (1, .int a0), (2, .int a1)], [.int 1, .ref 128], am_SH, (f, g))) rfl ?_
    obtain ⟨p5, Ep5, h⟩ := am_let_eq h
    refine am_Ev.call hcd (a := 92) (s0 := (0, [(0, .ref 128), (1, .int 1)], [], am_SH, (f, g))) (q := ((some (.int (am_b p5.1))), am_SH, (p5.2, g))) (s1 := (8, [(0, .ref 128), (1, .int a0), (2, .int a1)], [.int (am_b p5.1)], am_SH, (p5.2, g))) rfl rfl (by subst Ep5; exact xs_refuse_ok (d) 1 f g) ?_
    exact am_Ev.cast (a := ((some (.int (am_b (p5.1, p5.2).1))), am_SH, ((p5.1, p5.2).2, g))) (by cases h; rfl) (am_Ev.retb hcd rfl)
