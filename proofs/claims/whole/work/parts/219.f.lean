def xm_winningPart_39 (a0 : Int32) (f : (Nat → Nat → Int32)) : Option (Int32 × (Nat → Nat → Int32)) :=
  (am_loop (fun (s1 : Int32 × Int32 × (Nat → Nat → Int32)) => ((
    if s1.2.1 < s1.2.2 39 0 then (
      if am_in s1.2.1 4 = true then (
      (xm_learnNimbers (s1.2.2 40 s1.2.1.toNatClampNeg) s1.2.2).bind fun p2 =>
      if am_in s1.2.1 4 = true then (
      if am_in (p2 40 s1.2.1.toNatClampNeg) 41 = true then (
      am_let (s1.2.1 + 1 : Int32) fun t3 =>
      some (.inl ((s1.1 ^^^ (p2 150 (p2 40 s1.2.1.toNatClampNeg).toNatClampNeg)), t3, p2))) else none) else none) else none)
    else (
      some (.inr (s1.1, s1.2.2)))) : Option ((Int32 × Int32 × (Nat → Nat → Int32)) ⊕ (Int32 × (Nat → Nat → Int32))))) am_F (0, 0, f)).bind fun e4 =>
  (am_loop (fun (s5 : Int32) => ((
    if s5 < e4.2 39 0 then (
      if am_in s5 4 = true then (
      am_let (e4.2 40 s5.toNatClampNeg : Int32) fun t6 =>
      if am_in t6 41 = true then (
      (am_loop (fun (s7 : Int32) => ((
        if (2 * s7) < t6 then (
          if am_in s7 41 = true then (
          if am_in (t6 - s7) 41 = true then (
          if ((e4.2 150 s7.toNatClampNeg) ^^^ (e4.2 150 (t6 - s7).toNatClampNeg)) = (e4.1 ^^^ (e4.2 150 t6.toNatClampNeg)) then (
            am_let ((if a0 = 0 then (
                s5)
              else (
                s7)) : Int32) fun t8 =>
            some (.inr (.inl (t8, e4.2))))
          else (
            am_let (s7 + 1 : Int32) fun t9 =>
            some (.inl t9))) else none) else none)
        else (
          some (.inr (.inr ())))) : Option ((Int32) ⊕ ((Int32 × (Nat → Nat → Int32)) ⊕ (Unit))))) am_F 1).bind fun e10 =>
      e10.elim (fun v => some (.inr (.inl v))) fun e11 =>
      am_let (s5 + 1 : Int32) fun t12 =>
      some (.inl t12)) else none) else none)
    else (
      some (.inr (.inr ())))) : Option ((Int32) ⊕ ((Int32 × (Nat → Nat → Int32)) ⊕ (Unit))))) am_F 0).bind fun e13 =>
  e13.elim (fun v => some v) fun e14 =>
  some ((-1), e4.2)
set_option maxRecDepth 100000 in
set_option maxHeartbeats 4000000 in
theorem xm_winningPart_39_ok {sc : Nat × (Nat → Int32)} (d : Nat) (a0 : Int32) (f g : (Nat → Nat → Int32)) (r : Int32 × (Nat → Nat → Int32)) (h : xm_winningPart_39 a0 f = some r) : am_Ev sc (d + 2) 57 (0, [(0, .ref 143), (1, .ref 39), (2, .int a0)], [], am_SH, (f, g)) ((some (.int r.1)), am_SH, (r.2, g)) := by
  have hcd : am_code 57 = am_c57 := rfl
  unfold xm_winningPart_39 at h
  refine am_Ev.go hcd 4 (s' := (4, [(0, .ref 143), (1, .ref 39), (2, .int a0), (3, .int 0), (4, .int 0)], [], am_SH, (f, g))) rfl ?_
  obtain ⟨e4, he4, h⟩ := am_bind_some h
  have hK1 : (fun (e4 : Int32 × (Nat → Nat → Int32)) => am_Ev sc (d + 2) 57 (26, [(0, .ref 143), (1, .ref 39), (2, .int a0), (3, .int e4.1)], [], am_SH, (e4.2, g)) ((some (.int r.1)), am_SH, (r.2, g))) e4 := by
    show am_Ev sc (d + 2) 57 (26, [(0, .ref 143), (1, .ref 39), (2, .int a0), (3, .int e4.1)], [], am_SH, (e4.2, g)) ((some (.int r.1)), am_SH, (r.2, g))
    refine am_Ev.go hcd 2 (s' := (28, [(0, .ref 143), (1, .ref 39), (2, .int a0), (3, .int e4.1), (4, .int 0)], [], am_SH, (e4.2, g))) rfl ?_
    obtain ⟨e13, he13, h⟩ := am_bind_some h
    have hK5 : (fun (v : (Int32 × (Nat → Nat → Int32)) ⊕ (Unit)) => v.elim (fun (v : Int32 × (Nat → Nat → Int32)) => (((some (.int v.1)), am_SH, (v.2, g)) : am_R) = ((some (.int r.1)), am_SH, (r.2, g))) (fun (e14 : Unit) => am_Ev sc (d + 2) 57 (74, [], [], am_SH, (e4.2, g)) ((some (.int r.1)), am_SH, (r.2, g)))) e13 := by
      cases e13 with
      | inl v => exact (by cases h; rfl)
      | inr e14 =>
        show am_Ev sc (d + 2) 57 (74, [], [], am_SH, (e4.2, g)) ((some (.int r.1)), am_SH, (r.2, g))
        refine am_Ev.go hcd 1 (s' := (75, [], [.int (-1)], am_SH, (e4.2, g))) rfl ?_
        exact am_Ev.cast (a := ((some (.int ((-1), e4.2).1)), am_SH, (((-1), e4.2).2, g))) (by cases h; rfl) (am_Ev.ret hcd rfl)
    refine am_Ev.weak' (am_loop_ok (G := fun (s5 : Int32) => am_Ev sc (d + 2) 57 (28, [(0, .ref 143), (1, .ref 39), (2, .int a0), (3, .int e4.1), (4, .int s5)], [], am_SH, (e4.2, g)) ((some (.int r.1)), am_SH, (r.2, g))) (Z := fun (v : (Int32 × (Nat → Nat → Int32)) ⊕ (Unit)) => v.elim (fun (v : Int32 × (Nat → Nat → Int32)) => (((some (.int v.1)), am_SH, (v.2, g)) : am_R) = ((some (.int r.1)), am_SH, (r.2, g))) (fun (e14 : Unit) => am_Ev sc (d + 2) 57 (74, [], [], am_SH, (e4.2, g)) ((some (.int r.1)), am_SH, (r.2, g)))) ?_ am_F 0 e13 he13 hK5) (am_sub_cons rfl (am_sub_cons rfl (am_sub_cons rfl (am_sub_cons rfl (am_sub_cons rfl am_sub_nil))))) rfl
    intro s5 q5 h hI5 hZ5
    show am_Ev sc (d + 2) 57 (28, [(0, .ref 143), (1, .ref 39), (2, .int a0), (3, .int e4.1), (4, .int s5)], [], am_SH, (e4.2, g)) ((some (.int r.1)), am_SH, (r.2, g))
    refine am_Ev.go hcd 3 (s' := (31, [(0, .ref 143), (1, .ref 39), (2, .int a0), (3, .int e4.1), (4, .int s5)], [.int (e4.2 39 0), .int s5], am_SH, (e4.2, g))) rfl ?_
    rcases am_ite h with ⟨c18, h⟩ | ⟨c18, h⟩
    · refine am_Ev.t hcd (c := s5 < e4.2 39 0) (s1 := (32, [(0, .ref 143), (1, .ref 39), (2, .int a0), (3, .int e4.1), (4, .int s5)], [], am_SH, (e4.2, g))) rfl c18 ?_
      refine am_Ev.go hcd 3 (s' := (35, [(0, .ref 143), (1, .ref 39), (2, .int a0), (3, .int e4.1), (4, .int s5)], [.int s5, .ref 40], am_SH, (e4.2, g))) rfl ?_
      obtain ⟨c21, h⟩ := am_grd h
      refine am_Ev.t hcd (c := am_in s5 4 = true) (s1 := (36, [(0, .ref 143), (1, .ref 39), (2, .int a0), (3, .int e4.1), (4, .int s5)], [.int (e4.2 40 s5.toNatClampNeg)], am_SH, (e4.2, g))) rfl c21 ?_
      obtain ⟨t6, Et6, h⟩ := am_let_eq h
      refine am_Ev.go hcd 1 (s' := (37, [(0, .ref 143), (1, .ref 39), (2, .int a0), (3, .int e4.1), (4, .int s5), (5, .int t6)], [], am_SH, (e4.2, g))) (by subst Et6; exact rfl) ?_
      refine am_Ev.go hcd 4 (s' := (41, [(0, .ref 143), (1, .ref 39), (2, .int a0), (3, .int e4.1), (4, .int s5), (5, .int t6)], [.int t6, .ref 150, .int e4.1], am_SH, (e4.2, g))) rfl ?_
      obtain ⟨c26, h⟩ := am_grd h
      refine am_Ev.t hcd (c := am_in t6 41 = true) (s1 := (42, [(0, .ref 143), (1, .ref 39), (2, .int a0), (3, .int e4.1), (4, .int s5), (5, .int t6)], [.int (e4.2 150 t6.toNatClampNeg), .int e4.1], am_SH, (e4.2, g))) rfl c26 ?_
      refine am_Ev.go hcd 4 (s' := (46, [(0, .ref 143), (1, .ref 39), (2, .int a0), (3, .int e4.1), (4, .int s5), (5, .int t6), (6, .int (e4.1 ^^^ (e4.2 150 t6.toNatClampNeg))), (7, .int 1)], [], am_SH, (e4.2, g))) rfl ?_
      obtain ⟨e10, he10, h⟩ := am_bind_some h
      have hK7 : (fun (v : (Int32 × (Nat → Nat → Int32)) ⊕ (Unit)) => v.elim (fun (v : Int32 × (Nat → Nat → Int32)) => (((some (.int v.1)), am_SH, (v.2, g)) : am_R) = ((some (.int r.1)), am_SH, (r.2, g))) (fun (e11 : Unit) => am_Ev sc (d + 2) 57 (72, [(0, .ref 143), (1, .ref 39), (2, .int a0), (3, .int e4.1), (4, .int s5)], [], am_SH, (e4.2, g)) ((some (.int r.1)), am_SH, (r.2, g)))) e10 := by
        cases e10 with
        | inl v => exact (hZ5 _ (Option.some.inj h).symm)
        | inr e11 =>
          show am_Ev sc (d + 2) 57 (72, [(0, .ref 143), (1, .ref 39), (2, .int a0), (3, .int e4.1), (4, .int s5)], [], am_SH, (e4.2, g)) ((some (.int r.1)), am_SH, (r.2, g))
          obtain ⟨t12, Et12, h⟩ := am_let_eq h
          refine am_Ev.go hcd 1 (s' := (73, [(0, .ref 143), (1, .ref 39), (2, .int a0), (3, .int e4.1), (4, .int t12)], [], am_SH, (e4.2, g))) (by subst Et12; exact rfl) ?_
          refine am_Ev.go hcd 1 (s' := (28, [(0, .ref 143), (1, .ref 39), (2, .int a0), (3, .int e4.1), (4, .int t12)], [], am_SH, (e4.2, g))) rfl ?_
          exact am_Ev.weak' (hI5 t12 (Option.some.inj h).symm) (am_sub_cons rfl (am_sub_cons rfl (am_sub_cons rfl (am_sub_cons rfl (am_sub_cons rfl am_sub_nil))))) rfl
      refine am_Ev.weak' (am_loop_ok (G := fun (s7 : Int32) => am_Ev sc (d + 2) 57 (46, [(0, .ref 143), (1, .ref 39), (2, .int a0), (3, .int e4.1), (4, .int s5), (5, .int t6), (6, .int (e4.1 ^^^ (e4.2 150 t6.toNatClampNeg))), (7, .int s7)], [], am_SH, (e4.2, g)) ((some (.int r.1)), am_SH, (r.2, g))) (Z := fun (v : (Int32 × (Nat → Nat → Int32)) ⊕ (Unit)) => v.elim (fun (v : Int32 × (Nat → Nat → Int32)) => (((some (.int v.1)), am_SH, (v.2, g)) : am_R) = ((some (.int r.1)), am_SH, (r.2, g))) (fun (e11 : Unit) => am_Ev sc (d + 2) 57 (72, [(0, .ref 143), (1, .ref 39), (2, .int a0), (3, .int e4.1), (4, .int s5)], [], am_SH, (e4.2, g)) ((some (.int r.1)), am_SH, (r.2, g)))) ?_ am_F 1 e10 he10 hK7) (am_sub_cons rfl (am_sub_cons rfl (am_sub_cons rfl (am_sub_cons rfl (am_sub_cons rfl (am_sub_cons rfl (am_sub_cons rfl (am_sub_cons rfl am_sub_nil)))))))) rfl
      intro s7 q7 h hI7 hZ7
      show am_Ev sc (d + 2) 57 (46, [(0, .ref 143), (1, .ref 39), (2, .int a0), (3, .int e4.1), (4, .int s5), (5, .int t6), (6, .int (e4.1 ^^^ (e4.2 150 t6.toNatClampNeg))), (7, .int s7)], [], am_SH, (e4.2, g)) ((some (.int r.1)), am_SH, (r.2, g))
      refine am_Ev.go hcd 4 (s' := (50, [(0, .ref 143), (1, .ref 39), (2, .int a0), (3, .int e4.1), (4, .int s5), (5, .int t6), (6, .int (e4.1 ^^^ (e4.2 150 t6.toNatClampNeg))), (7, .int s7)], [.int t6, .int (2 * s7)], am_SH, (e4.2, g))) rfl ?_
      rcases am_ite h with ⟨c43, h⟩ | ⟨c43, h⟩
      · refine am_Ev.t hcd (c := (2 * s7) < t6) (s1 := (51, [(0, .ref 143), (1, .ref 39), (2, .int a0), (3, .int e4.1), (4, .int s5), (5, .int t6), (6, .int (e4.1 ^^^ (e4.2 150 t6.toNatClampNeg))), (7, .int s7)], [], am_SH, (e4.2, g))) rfl c43 ?_
        refine am_Ev.go hcd 3 (s' := (54, [(0, .ref 143), (1, .ref 39), (2, .int a0), (3, .int e4.1), (4, .int s5), (5, .int t6), (6, .int (e4.1 ^^^ (e4.2 150 t6.toNatClampNeg))), (7, .int s7)], [.int s7, .ref 150], am_SH, (e4.2, g))) rfl ?_
        obtain ⟨c46, h⟩ := am_grd h
        refine am_Ev.t hcd (c := am_in s7 41 = true) (s1 := (55, [(0, .ref 143), (1, .ref 39), (2, .int a0), (3, .int e4.1), (4, .int s5), (5, .int t6), (6, .int (e4.1 ^^^ (e4.2 150 t6.toNatClampNeg))), (7, .int s7)], [.int (e4.2 150 s7.toNatClampNeg)], am_SH, (e4.2, g))) rfl c46 ?_
        refine am_Ev.go hcd 5 (s' := (60, [(0, .ref 143), (1, .ref 39), (2, .int a0), (3, .int e4.1), (4, .int s5), (5, .int t6), (6, .int (e4.1 ^^^ (e4.2 150 t6.toNatClampNeg))), (7, .int s7)], [.int (t6 - s7), .ref 150, .int (e4.2 150 s7.toNatClampNeg)], am_SH, (e4.2, g))) rfl ?_
        obtain ⟨c49, h⟩ := am_grd h
        refine am_Ev.t hcd (c := am_in (t6 - s7) 41 = true) (s1 := (61, [(0, .ref 143), (1, .ref 39), (2, .int a0), (3, .int e4.1), (4, .int s5), (5, .int t6), (6, .int (e4.1 ^^^ (e4.2 150 t6.toNatClampNeg))), (7, .int s7)], [.int (e4.2 150 (t6 - s7).toNatClampNeg), .int (e4.2 150 s7.toNatClampNeg)], am_SH, (e4.2, g))) rfl c49 ?_
        refine am_Ev.go hcd 2 (s' := (63, [(0, .ref 143), (1, .ref 39), (2, .int a0), (3, .int e4.1), (4, .int s5), (5, .int t6), (6, .int (e4.1 ^^^ (e4.2 150 t6.toNatClampNeg))), (7, .int s7)], [.int (e4.1 ^^^ (e4.2 150 t6.toNatClampNeg)), .int ((e4.2 150 s7.toNatClampNeg) ^^^ (e4.2 150 (t6 - s7).toNatClampNeg))], am_SH, (e4.2, g))) rfl ?_
        rcases am_ite h with ⟨c52, h⟩ | ⟨c52, h⟩
        · refine am_Ev.t hcd (c := ((e4.2 150 s7.toNatClampNeg) ^^^ (e4.2 150 (t6 - s7).toNatClampNeg)) = (e4.1 ^^^ (e4.2 150 t6.toNatClampNeg))) (s1 := (64, [(0, .ref 143), (1, .ref 39), (2, .int a0), (3, .int e4.1), (4, .int s5), (5, .int t6), (6, .int (e4.1 ^^^ (e4.2 150 t6.toNatClampNeg))), (7, .int s7)], [], am_SH, (e4.2, g))) rfl c52 ?_
          obtain ⟨t8, ht8, kt8⟩ := am_let_eq h
          have hKt8 : am_Ev sc (d + 2) 57 (69, [], [.int t8], am_SH, (e4.2, g)) ((some (.int r.1)), am_SH, (r.2, g)) := by
            have h := kt8
            exact am_Ev.cast (a := ((some (.int (t8, e4.2).1)), am_SH, ((t8, e4.2).2, g))) (hZ7 _ (Option.some.inj h).symm) (am_Ev.ret hcd rfl)
          have hLt8 : ∀ tt, tt = t8 → am_Ev sc (d + 2) 57 (69, [], [.int tt], am_SH, (e4.2, g)) ((some (.int r.1)), am_SH, (r.2, g)) := fun tt htt => by subst htt; exact hKt8
          have h := ht8
          refine am_Ev.go hcd 1 (s' := (65, [(0, .ref 143), (1, .ref 39), (2, .int a0), (3, .int e4.1), (4, .int s5), (5, .int t6), (6, .int (e4.1 ^^^ (e4.2 150 t6.toNatClampNeg))), (7, .int s7)], [.int a0], am_SH, (e4.2, g))) rfl ?_
          rcases am_itv h with ⟨c61, h⟩ | ⟨c61, h⟩
          · refine am_Ev.t hcd (c := a0 = 0) (s1 := (66, [(0, .ref 143), (1, .ref 39), (2, .int a0), (3, .int e4.1), (4, .int s5), (5, .int t6), (6, .int (e4.1 ^^^ (e4.2 150 t6.toNatClampNeg))), (7, .int s7)], [], am_SH, (e4.2, g))) rfl c61 ?_
            refine am_Ev.go hcd 2 (s' := (69, [(0, .ref 143), (1, .ref 39), (2, .int a0), (3, .int e4.1), (4, .int s5), (5, .int t6), (6, .int (e4.1 ^^^ (e4.2 150 t6.toNatClampNeg))), (7, .int s7)], [.int s5], am_SH, (e4.2, g))) rfl ?_
            exact am_Ev.weak' (hLt8 s5 h.symm) am_sub_nil rfl
          · refine am_Ev.f hcd (c := a0 = 0) (s1 := (68, [(0, .ref 143), (1, .ref 39), (2, .int a0), (3, .int e4.1), (4, .int s5), (5, .int t6), (6, .int (e4.1 ^^^ (e4.2 150 t6.toNatClampNeg))), (7, .int s7)], [], am_SH, (e4.2, g))) rfl c61 ?_
            refine am_Ev.go hcd 1 (s' := (69, [(0, .ref 143), (1, .ref 39), (2, .int a0), (3, .int e4.1), (4, .int s5), (5, .int t6), (6, .int (e4.1 ^^^ (e4.2 150 t6.toNatClampNeg))), (7, .int s7)], [.int s7], am_SH, (e4.2, g))) rfl ?_
            exact am_Ev.weak' (hLt8 s7 h.symm) am_sub_nil rfl
        · refine am_Ev.f hcd (c := ((e4.2 150 s7.toNatClampNeg) ^^^ (e4.2 150 (t6 - s7).toNatClampNeg)) = (e4.1 ^^^ (e4.2 150 t6.toNatClampNeg))) (s1 := (70, [(0, .ref 143), (1, .ref 39), (2, .int a0), (3, .int e4.1), (4, .int s5), (5, .int t6), (6, .int (e4.1 ^^^ (e4.2 150 t6.toNatClampNeg))), (7, .int s7)], [], am_SH, (e4.2, g))) rfl c52 ?_
          obtain ⟨t9, Et9, h⟩ := am_let_eq h
          refine am_Ev.go hcd 1 (s' := (71, [(0, .ref 143), (1, .ref 39), (2, .int a0), (3, .int e4.1), (4, .int s5), (5, .int t6), (6, .int (e4.1 ^^^ (e4.2 150 t6.toNatClampNeg))), (7, .int t9)], [], am_SH, (e4.2, g))) (by subst Et9; exact rfl) ?_
          refine am_Ev.go hcd 1 (s' := (46, [(0, .ref 143), (1, .ref 39), (2, .int a0), (3, .int e4.1), (4, .int s5), (5, .int t6), (6, .int (e4.1 ^^^ (e4.2 150 t6.toNatClampNeg))), (7, .int t9)], [], am_SH, (e4.2, g))) rfl ?_
          exact am_Ev.weak' (hI7 t9 (Option.some.inj h).symm) (am_sub_cons rfl (am_sub_cons rfl (am_sub_cons rfl (am_sub_cons rfl (am_sub_cons rfl (am_sub_cons rfl (am_sub_cons rfl (am_sub_cons rfl am_sub_nil)))))))) rfl
      · refine am_Ev.f hcd (c := (2 * s7) < t6) (s1 := (72, [(0, .ref 143), (1, .ref 39), (2, .int a0), (3, .int e4.1), (4, .int s5), (5, .int t6), (6, .int (e4.1 ^^^ (e4.2 150 t6.toNatClampNeg))), (7, .int s7)], [], am_SH, (e4.2, g))) rfl c43 ?_
        exact am_Ev.weak' (hZ7 (.inr ()) (Option.some.inj h).symm) (am_sub_cons rfl (am_sub_cons rfl (am_sub_cons rfl (am_sub_cons rfl (am_sub_cons rfl am_sub_nil))))) rfl
    · refine am_Ev.f hcd (c := s5 < e4.2 39 0) (s1 := (74, [(0, .ref 143), (1, .ref 39), (2, .int a0), (3, .int e4.1), (4, .int s5)], [], am_SH, (e4.2, g))) rfl c18 ?_
      exact am_Ev.weak' (hZ5 (.inr ()) (Option.some.inj h).symm) am_sub_nil rfl
  refine am_Ev.weak' (am_loop_ok (G := fun (s1 : Int32 × Int32 × (Nat → Nat → Int32)) => am_Ev sc (d + 2) 57 (4, [(0, .ref 143), (1, .ref 39), (2, .int a0), (3, .int s1.1), (4, .int s1.2.1)], [], am_SH, (s1.2.2, g)) ((some (.int r.1)), am_SH, (r.2, g))) (Z := fun (e4 : Int32 × (Nat → Nat → Int32)) => am_Ev sc (d + 2) 57 (26, [(0, .ref 143), (1, .ref 39), (2, .int a0), (3, .int e4.1)], [], am_SH, (e4.2, g)) ((some (.int r.1)), am_SH, (r.2, g))) ?_ am_F (0, 0, f) e4 he4 hK1) (am_sub_cons rfl (am_sub_cons rfl (am_sub_cons rfl (am_sub_cons rfl (am_sub_cons rfl am_sub_nil))))) rfl
  intro s1 q1 h hI1 hZ1
  show am_Ev sc (d + 2) 57 (4, [(0, .ref 143), (1, .ref 39), (2, .int a0), (3, .int s1.1), (4, .int s1.2.1)], [], am_SH, (s1.2.2, g)) ((some (.int r.1)), am_SH, (r.2, g))
  refine am_Ev.go hcd 3 (s' := (7, [(0, .ref 143), (1, .ref 39), (2, .int a0), (3, .int s1.1), (4, .int s1.2.1)], [.int (s1.2.2 39 0), .int s1.2.1], am_SH, (s1.2.2, g))) rfl ?_
  rcases am_ite h with ⟨c81, h⟩ | ⟨c81, h⟩
  · refine am_Ev.t hcd (c := s1.2.1 < s1.2.2 39 0) (s1 := (8, [(0, .ref 143), (1, .ref 39), (2, .int a0), (3, .int s1.1), (4, .int s1.2.1)], [], am_SH, (s1.2.2, g))) rfl c81 ?_
    refine am_Ev.go hcd 4 (s' := (12, [(0, .ref 143), (1, .ref 39), (2, .int a0), (3, .int s1.1), (4, .int s1.2.1)], [.int s1.2.1, .ref 40, .ref 143], am_SH, (s1.2.2, g))) rfl ?_
    obtain ⟨c84, h⟩ := am_grd h
    refine am_Ev.t hcd (c := am_in s1.2.1 4 = true) (s1 := (13, [(0, .ref 143), (1, .ref 39), (2, .int a0), (3, .int s1.1), (4, .int s1.2.1)], [.int (s1.2.2 40 s1.2.1.toNatClampNeg), .ref 143], am_SH, (s1.2.2, g))) rfl c84 ?_
    obtain ⟨p2, hp2, h⟩ := am_bind_some h
    refine am_Ev.call hcd (a := 58) (s0 := (0, [(0, .ref 143), (1, .int (s1.2.2 40 s1.2.1.toNatClampNeg))], [], am_SH, (s1.2.2, g))) (q := (none, am_SH, (p2, g))) (s1 := (14, [(0, .ref 143), (1, .ref 39), (2, .int a0), (3, .int s1.1), (4, .int s1.2.1)], [], am_SH, (p2, g))) rfl rfl (xm_learnNimbers_ok (d) (s1.2.2 40 s1.2.1.toNatClampNeg) s1.2.2 g p2 hp2) ?_
    refine am_Ev.go hcd 6 (s' := (20, [(0, .ref 143), (1, .ref 39), (2, .int a0), (3, .int s1.1), (4, .int s1.2.1)], [.int s1.2.1, .ref 40, .ref 150, .int s1.1], am_SH, (p2, g))) rfl ?_
    obtain ⟨c89, h⟩ := am_grd h
    refine am_Ev.t hcd (c := am_in s1.2.1 4 = true) (s1 := (21, [(0, .ref 143), (1, .ref 39), (2, .int a0), (3, .int s1.1), (4, .int s1.2.1)], [.int (p2 40 s1.2.1.toNatClampNeg), .ref 150, .int s1.1], am_SH, (p2, g))) rfl c89 ?_
    obtain ⟨c92, h⟩ := am_grd h
    refine am_Ev.t hcd (c := am_in (p2 40 s1.2.1.toNatClampNeg) 41 = true) (s1 := (22, [(0, .ref 143), (1, .ref 39), (2, .int a0), (3, .int s1.1), (4, .int s1.2.1)], [.int (p2 150 (p2 40 s1.2.1.toNatClampNeg).toNatClampNeg), .int s1.1], am_SH, (p2, g))) rfl c92 ?_
    obtain ⟨t3, Et3, h⟩ := am_let_eq h
    refine am_Ev.go hcd 3 (s' := (25, [(0, .ref 143), (1, .ref 39), (2, .int a0), (3, .int (s1.1 ^^^ (p2 150 (p2 40 s1.2.1.toNatClampNeg).toNatClampNeg))), (4, .int t3)], [], am_SH, (p2, g))) (by subst Et3; exact rfl) ?_
    refine am_Ev.go hcd 1 (s' := (4, [(0, .ref 143), (1, .ref 39), (2, .int a0), (3, .int (s1.1 ^^^ (p2 150 (p2 40 s1.2.1.toNatClampNeg).toNatClampNeg))), (4, .int t3)], [], am_SH, (p2, g))) rfl ?_
    exact am_Ev.weak' (hI1 ((s1.1 ^^^ (p2 150 (p2 40 s1.2.1.toNatClampNeg).toNatClampNeg)), t3, p2) (Option.some.inj h).symm) (am_sub_cons rfl (am_sub_cons rfl (am_sub_cons rfl (am_sub_cons rfl (am_sub_cons rfl am_sub_nil))))) rfl
  · refine am_Ev.f hcd (c := s1.2.1 < s1.2.2 39 0) (s1 := (26, [(0, .ref 143), (1, .ref 39), (2, .int a0), (3, .int s1.1), (4, .int s1.2.1)], [], am_SH, (s1.2.2, g))) rfl c81 ?_
    exact am_Ev.weak' (hZ1 (s1.1, s1.2.2) (Option.some.inj h).symm) (am_sub_cons rfl (am_sub_cons rfl (am_sub_cons rfl (am_sub_cons rfl am_sub_nil)))) rfl
def x_coals (a0 : Int32) (f : (Nat → Nat → Int32)) : Option (Int32 × (Nat → Nat → Int32)) :=
  if (x_within a0 0 1) = true then (
    (xm_winningPart_39 a0 f).bind fun p2 =>
    some (p2.1, p2.2))
  else (
    some ((-1), f))
set_option maxRecDepth 100000 in
set_option maxHeartbeats 4000000 in
theorem x_coals_ok {sc : Nat × (Nat → Int32)} (d : Nat) (a0 : Int32) (f g : (Nat → Nat → Int32)) (r : Int32 × (Nat → Nat → Int32)) (h : x_coals a0 f = some r) : am_Ev sc (d + 3) 154 (0, [(0, .ref 0), (1, .int a0)], [], am_SH, (f, g)) ((some (.int r.1)), am_SH, (r.2, g)) := by
  have hcd : am_code 154 = am_c154 := rfl
  unfold x_coals at h
  refine am_Ev.go hcd 3 (s' := (3, [(0, .ref 0), (1, .int a0)], [.int 1, .int 0, .int a0], am_SH, (f, g))) rfl ?_
  refine am_Ev.call hcd (a := 170) (s0 := (0, [(0, .int a0), (1, .int 0), (2, .int 1)], [], am_SH, (f, g))) (q := ((some (.int (am_b (x_within a0 0 1)))), am_SH, (f, g))) (s1 := (4, [(0, .ref 0), (1, .int a0)], [.int (am_b (x_within a0 0 1))], am_SH, (f, g))) rfl rfl (x_within_ok (d + 2) a0 0 1 (f, g)) ?_
  rcases am_ite h with ⟨c4, h⟩ | ⟨c4, h⟩
  · refine am_Ev.f hcd (c := am_b (x_within a0 0 1) = 0) (s1 := (5, [(0, .ref 0), (1, .int a0)], [], am_SH, (f, g))) rfl (am_b_t c4) ?_
    refine am_Ev.go hcd 6 (s' := (11, [(0, .ref 0), (1, .int a0)], [.int a0, .ref 39, .ref 143], am_SH, (f, g))) rfl ?_
    obtain ⟨p2, hp2, h⟩ := am_bind_some h
    refine am_Ev.call hcd (a := 57) (s0 := (0, [(0, .ref 143), (1, .ref 39), (2, .int a0)], [], am_SH, (f, g))) (q := ((some (.int p2.1)), am_SH, (p2.2, g))) (s1 := (12, [(0, .ref 0), (1, .int a0)], [.int p2.1], am_SH, (p2.2, g))) rfl rfl (xm_winningPart_39_ok (d) a0 f g p2 hp2) ?_
    refine am_Ev.go hcd 1 (s' := (14, [(0, .ref 0), (1, .int a0)], [.int p2.1], am_SH, (p2.2, g))) rfl ?_
    exact am_Ev.cast (a := ((some (.int (p2.1, p2.2).1)), am_SH, ((p2.1, p2.2).2, g))) (by cases h; rfl) (am_Ev.ret hcd rfl)
  · refine am_Ev.t hcd (c := am_b (x_within a0 0 1) = 0) (s1 := (13, [(0, .ref 0), (1, .int a0)], [], am_SH, (f, g))) rfl (am_b_f c4) ?_
    refine am_Ev.go hcd 1 (s' := (14, [(0, .ref 0), (1, .int a0)], [.int (-1)], am_SH, (f, g))) rfl ?_
    exact am_Ev.cast (a := ((some (.int ((-1), f).1)), am_SH, (((-1), f).2, g))) (by cases h; rfl) (am_Ev.ret hcd rfl)
def xr_clearAll_42 (f : (Nat → Nat → Int32)) : Int32 × (Nat → Nat → Int32) :=
  am_let (am_up f 42 0 0 : Nat → Nat → Int32) fun f1 =>
  (f1 42 0, f1)
set_option maxRecDepth 100000 in
set_option maxHeartbeats 4000000 in
theorem xr_clearAll_42_ok {sc : Nat × (Nat → Int32)} (d : Nat)  (f g : (Nat → Nat → Int32)) : am_Ev sc (d) 86 (0, [(0, .ref 42)], [], am_SH, (f, g)) ((some (.int (xr_clearAll_42  f).1)), am_SH, ((xr_clearAll_42  f).2, g)) := by
  have hcd : am_code 86 = am_c86 := rfl
  obtain ⟨r, h⟩ : ∃ r, r = xr_clearAll_42  f := ⟨_, rfl⟩
  rw [← h]
  unfold xr_clearAll_42 at h
  obtain ⟨f1, Ef1, h⟩ := am_let_eq' h
  refine am_Ev.go hcd 3 (s' := (3, [(0, .ref 42)], [], am_SH, (f1, g))) (by subst Ef1; exact rfl) ?_
  refine am_Ev.go hcd 2 (s' := (5, [(0, .ref 42)], [.int (f1 42 0)], am_SH, (f1, g))) rfl ?_
  exact am_Ev.cast (a := ((some (.int (f1 42 0, f1).1)), am_SH, ((f1 42 0, f1).2, g))) (by subst h; rfl) (am_Ev.ret hcd rfl)
def xr_append_42 (a0 : Int32) (a1 : Int32) (f : (Nat → Nat → Int32)) : Option (Int32 × (Nat → Nat → Int32)) :=
  if f 42 0 < (nI 8) then (
    if am_in (f 42 0) 8 = true then (
    am_let (am_up f 43 (f 42 0).toNatClampNeg a0 : Nat → Nat → Int32) fun f1 =>
    if am_in (f1 42 0) 8 = true then (
    am_let (am_up f1 44 (f1 42 0).toNatClampNeg a1 : Nat → Nat → Int32) fun f2 =>
    am_let (am_up f2 42 0 ((f2 42 0) + 1) : Nat → Nat → Int32) fun f3 =>
    some (f3 42 0, f3)) else none) else none)
  else (
    some ((-1), f))
set_option maxRecDepth 100000 in
set_option maxHeartbeats 4000000 in
theorem xr_append_42_ok {sc : Nat × (Nat → Int32)} (d : Nat) (a0 : Int32) (a1 : Int32) (f g : (Nat → Nat → Int32)) (r : Int32 × (Nat → Nat → Int32)) (h : xr_append_42 a0 a1 f = some r) : am_Ev sc (d) 85 (0, [(0, .ref 42), (1, .int a0), (2, .int a1)], [], am_SH, (f, g)) ((some (.int r.1)), am_SH, (r.2, g)) := by
  have hcd : am_code 85 = am_c85 := rfl
  unfold xr_append_42 at h
  refine am_Ev.go hcd 5 (s' := (5, [(0, .ref 42), (1, .int a0), (2, .int a1)], [.int (nI 8), .int (f 42 0)], am_SH, (f, g))) rfl ?_
  rcases am_ite h with ⟨c2, h⟩ | ⟨c2, h⟩
  · refine am_Ev.t hcd (c := f 42 0 < (nI 8)) (s1 := (8, [(0, .ref 42), (1, .int a0), (2, .int a1)], [], am_SH, (f, g))) rfl c2 ?_
    refine am_Ev.go hcd 5 (s' := (13, [(0, .ref 42), (1, .int a0), (2, .int a1)], [.int a0, .int (f 42 0), .ref 43], am_SH, (f, g))) rfl ?_
    obtain ⟨c5, h⟩ := am_grd h
    obtain ⟨f1, Ef1, h⟩ := am_let_eq h
    refine am_Ev.t hcd (c := am_in (f 42 0) 8 = true) (s1 := (14, [(0, .ref 42), (1, .int a0), (2, .int a1)], [], am_SH, (f1, g))) (by subst Ef1; exact rfl) c5 ?_
    refine am_Ev.go hcd 5 (s' := (19, [(0, .ref 42), (1, .int a0), (2, .int a1)], [.int a1, .int (f1 42 0), .ref 44], am_SH, (f1, g))) rfl ?_
    obtain ⟨c9, h⟩ := am_grd h
    obtain ⟨f2, Ef2, h⟩ := am_let_eq h
    refine am_Ev.t hcd (c := am_in (f1 42 0) 8 = true) (s1 := (20, [(0, .ref 42), (1, .int a0), (2, .int a1)], [], am_SH, (f2, g))) (by subst Ef2; exact rfl) c9 ?_
    obtain ⟨f3, Ef3, h⟩ := am_let_eq h
    refine am_Ev.go hcd 6 (s' := (26, [(0, .ref 42), (1, .int a0), (2, .int a1)], [], am_SH, (f3, g))) (by subst Ef3; exact rfl) ?_
    refine am_Ev.go hcd 2 (s' := (28, [(0, .ref 42), (1, .int a0), (2, .int a1)], [.int (f3 42 0)], am_SH, (f3, g))) rfl ?_
    exact am_Ev.cast (a := ((some (.int (f3 42 0, f3).1)), am_SH, ((f3 42 0, f3).2, g))) (by cases h; rfl) (am_Ev.ret hcd rfl)
  · refine am_Ev.f hcd (c := f 42 0 < (nI 8)) (s1 := (6, [(0, .ref 42), (1, .int a0), (2, .int a1)], [], am_SH, (f, g))) rfl c2 ?_
    refine am_Ev.go hcd 1 (s' := (7, [(0, .ref 42), (1, .int a0), (2, .int a1)], [.int (-1)], am_SH, (f, g))) rfl ?_
    exact am_Ev.cast (a := ((some (.int ((-1), f).1)), am_SH, (((-1), f).2, g))) (by cases h; rfl) (am_Ev.ret hcd rfl)
def x_shown (a0 : Int32) (f : (Nat → Nat → Int32)) : Option (Int32 × (Nat → Nat → Int32)) :=
  if a0 = (-1) then (
    am_let (xr_clearAll_42  f) fun p1 =>
    some (p1.1, p1.2))
  else (
    if (x_within a0 0 65535) = true then (
      (xr_append_42 a0 0 f).bind fun p3 =>
      some (p3.1, p3.2))
    else (
      some ((-1), f)))
set_option maxRecDepth 100000 in
set_option maxHeartbeats 4000000 in
theorem x_shown_ok {sc : Nat × (Nat → Int32)} (d : Nat) (a0 : Int32) (f g : (Nat → Nat → Int32)) (r : Int32 × (Nat → Nat → Int32)) (h : x_shown a0 f = some r) : am_Ev sc (d + 1) 155 (0, [(0, .ref 0), (1, .int a0)], [], am_SH, (f, g)) ((some (.int r.1)), am_SH, (r.2, g)) := by
  have hcd : am_code 155 = am_c155 := rfl
  unfold x_shown at h
  refine am_Ev.go hcd 2 (s' := (2, [(0, .ref 0), (1, .int a0)], [.int (-1), .int a0], am_SH, (f, g))) rfl ?_
  rcases am_ite h with ⟨c2, h⟩ | ⟨c2, h⟩
  · refine am_Ev.t hcd (c := a0 = (-1)) (s1 := (3, [(0, .ref 0), (1, .int a0)], [], am_SH, (f, g))) rfl c2 ?_
    refine am_Ev.go hcd 3 (s' := (6, [(0, .ref 0), (1, .int a0)], [.ref 42], am_SH, (f, g))) rfl ?_
    obtain ⟨p1, Ep1, h⟩ := am_let_eq h
    refine am_Ev.call hcd (a := 86) (s0 := (0, [(0, .ref 42)], [], am_SH, (f, g))) (q := ((some (.int p1.1)), am_SH, (p1.2, g))) (s1 := (7, [(0, .ref 0), (1, .int a0)], [.int p1.1], am_SH, (p1.2, g))) rfl rfl (by subst Ep1; exact xr_clearAll_42_ok (d)  f g) ?_
    exact am_Ev.cast (a := ((some (.int (p1.1, p1.2).1)), am_SH, ((p1.1, p1.2).2, g))) (by cases h; rfl) (am_Ev.ret hcd rfl)
  · refine am_Ev.f hcd (c := a0 = (-1)) (s1 := (8, [(0, .ref 0), (1, .int a0)], [], am_SH, (f, g))) rfl c2 ?_
    refine am_Ev.go hcd 3 (s' := (11, [(0, .ref 0), (1, .int a0)], [.int 65535, .int 0, .int a0], am_SH, (f, g))) rfl ?_
    refine am_Ev.call hcd (a := 170) (s0 := (0, [(0, .int a0), (1, .int 0), (2, .int 65535)], [], am_SH, (f, g))) (q := ((some (.int (am_b (x_within a0 0 65535)))), am_SH, (f, g))) (s1 := (12, [(0, .ref 0), (1, .int a0)], [.int (am_b (x_within a0 0 65535))], am_SH, (f, g))) rfl rfl (x_within_ok (d) a0 0 65535 (f, g)) ?_
    rcases am_ite h with ⟨c12, h⟩ | ⟨c12, h⟩
    · refine am_Ev.f hcd (c := am_b (x_within a0 0 65535) = 0) (s1 := (13, [(0, .ref 0), (1, .int a0)], [], am_SH, (f, g))) rfl (am_b_t c12) ?_
      refine am_Ev.go hcd 5 (s' := (18, [(0, .ref 0), (1, .int a0)], [.int 0, .int a0, .ref 42], am_SH, (f, g))) rfl ?_
      obtain ⟨p3, hp3, h⟩ := am_bind_some h
      refine am_Ev.call hcd (a := 85) (s0 := (0, [(0, .ref 42), (1, .int a0), (2, .int 0)], [], am_SH, (f, g))) (q := ((some (.int p3.1)), am_SH, (p3.2, g))) (s1 := (19, [(0, .ref 0), (1, .int a0)], [.int p3.1], am_SH, (p3.2, g))) rfl rfl (xr_append_42_ok (d) a0 0 f g p3 hp3) ?_
      refine am_Ev.go hcd 1 (s' := (21, [(0, .ref 0), (1, .int a0)], [.int p3.1], am_SH, (p3.2, g))) rfl ?_
      exact am_Ev.cast (a := ((some (.int (p3.1, p3.2).1)), am_SH, ((p3.1, p3.2).2, g))) (by cases h; rfl) (am_Ev.ret hcd rfl)
    · refine am_Ev.t hcd (c := am_b (x_within a0 0 65535) = 0) (s1 := (20, [(0, .ref 0), (1, .int a0)], [], am_SH, (f, g))) rfl (am_b_f c12) ?_
      refine am_Ev.go hcd 1 (s' := (21, [(0, .ref 0), (1, .int a0)], [.int (-1)], am_SH, (f, g))) rfl ?_
      exact am_Ev.cast (a := ((some (.int ((-1), f).1)), am_SH, (((-1), f).2, g))) (by cases h; rfl) (am_Ev.ret hcd rfl)
def xm_rank_42 (f : (Nat → Nat → Int32)) : Option (Int32 × (Nat → Nat → Int32)) :=
  (am_loop (fun (s1 : Int32 × (Nat → Nat → Int32)) => ((
    if s1.1 < (nI 16) then (
      if am_in s1.1 16 = true then (
      am_let (am_up s1.2 151 s1.1.toNatClampNeg 0 : Nat → Nat → Int32) fun f2 =>
      am_let (s1.1 + 1 : Int32) fun t3 =>
      some (.inl (t3, f2))) else none)
    else (
      some (.inr s1.2))) : Option ((Int32 × (Nat → Nat → Int32)) ⊕ ((Nat → Nat → Int32))))) am_F (0, f)).bind fun e4 =>
  am_loop (fun (s5 : Int32 × Int32 × (Nat → Nat → Int32)) => ((
    if s5.2.1 < s5.2.2 42 0 then (
      if am_in s5.2.1 8 = true then (
      am_let (s5.2.2 43 s5.2.1.toNatClampNeg : Int32) fun t6 =>
      (am_loop (fun (s7 : Int32 × Int32 × Int32 × (Nat → Nat → Int32)) => ((
        if s7.2.2.1 < 0 then (
          some (.inr (s7.1, s7.2.2.2)))
        else (
          if s7.2.1 = 0 then (
            some (.inr (s7.1, s7.2.2.2)))
          else (
            ((if ((s7.2.1 >>> (s7.2.2.1 &&& 31)) &&& 1) = 0 then (
                some (s7.1, s7.2.1, s7.2.2.2))
              else (
                if am_in s7.2.2.1 16 = true then (
                if s7.2.2.2 151 s7.2.2.1.toNatClampNeg = 0 then (
                  if am_in s7.2.2.1 16 = true then (
                  am_let (am_up s7.2.2.2 151 s7.2.2.1.toNatClampNeg s7.2.1 : Nat → Nat → Int32) fun f8 =>
                  am_let (s7.1 + 1 : Int32) fun t9 =>
                  some (t9, 0, f8)) else none)
                else (
                  if am_in s7.2.2.1 16 = true then (
                  some (s7.1, (s7.2.1 ^^^ (s7.2.2.2 151 s7.2.2.1.toNatClampNeg)), s7.2.2.2)) else none)) else none)) : Option (Int32 × Int32 × (Nat → Nat → Int32))).bind fun t10 =>
            am_let (s7.2.2.1 + (-1) : Int32) fun t11 =>
            some (.inl (t10.1, t10.2.1, t11, t10.2.2))))) : Option ((Int32 × Int32 × Int32 × (Nat → Nat → Int32)) ⊕ (Int32 × (Nat → Nat → Int32))))) am_F (s5.1, t6, ((nI 16) - 1), s5.2.2)).bind fun e12 =>
      am_let (s5.2.1 + 1 : Int32) fun t13 =>
      some (.inl (e12.1, t13, e12.2))) else none)
    else (
      some (.inr (s5.1, s5.2.2)))) : Option ((Int32 × Int32 × (Nat → Nat → Int32)) ⊕ (Int32 × (Nat → Nat → Int32))))) am_F (0, 0, e4)
set_option maxRecDepth 100000 in
set_option maxHeartbeats 4000000 in
theorem xm_rank_42_ok {sc : Nat × (Nat → Int32)} (d : Nat)  (f g : (Nat → Nat → Int32)) (r : Int32 × (Nat → Nat → Int32)) (h : xm_rank_42  f = some r) : am_Ev sc (d) 59 (0, [(0, .ref 143), (1, .ref 42)], [], am_SH, (f, g)) ((some (.int r.1)), am_SH, (r.2, g)) := by
  have hcd : am_code 59 = am_c59 := rfl
  unfold xm_rank_42 at h
  refine am_Ev.go hcd 2 (s' := (2, [(0, .ref 143), (1, .ref 42), (2, .int 0)], [], am_SH, (f, g))) rfl ?_
  obtain ⟨e4, he4, h⟩ := am_bind_some h
  have hK1 : (fun (e4 : (Nat → Nat → Int32)) => am_Ev sc (d) 59 (14, [(0, .ref 143), (1, .ref 42)], [], am_SH, (e4, g)) ((some (.int r.1)), am_SH, (r.2, g))) e4 := by
    show am_Ev sc (d) 59 (14, [(0, .ref 143), (1, .ref 42)], [], am_SH, (e4, g)) ((some (.int r.1)), am_SH, (r.2, g))
    refine am_Ev.go hcd 4 (s' := (18, [(0, .ref 143), (1, .ref 42), (2, .int 0), (3, .int 0)], [], am_SH, (e4, g))) rfl ?_
    refine am_Ev.weak' (am_loop_ok (G := fun (s5 : Int32 × Int32 × (Nat → Nat → Int32)) => am_Ev sc (d) 59 (18, [(0, .ref 143), (1, .ref 42), (2, .int s5.1), (3, .int s5.2.1)], [], am_SH, (s5.2.2, g)) ((some (.int r.1)), am_SH, (r.2, g))) (Z := fun (v : Int32 × (Nat → Nat → Int32)) => (((some (.int v.1)), am_SH, (v.2, g)) : am_R) = ((some (.int r.1)), am_SH, (r.2, g))) ?_ am_F (0, 0, e4) r h rfl) (am_sub_cons rfl (am_sub_cons rfl (am_sub_cons rfl (am_sub_cons rfl am_sub_nil)))) rfl
    intro s5 q5 h hI5 hZ5
    show am_Ev sc (d) 59 (18, [(0, .ref 143), (1, .ref 42), (2, .int s5.1), (3, .int s5.2.1)], [], am_SH, (s5.2.2, g)) ((some (.int r.1)), am_SH, (r.2, g))
    refine am_Ev.go hcd 3 (s' := (21, [(0, .ref 143), (1, .ref 42), (2, .int s5.1), (3, .int s5.2.1)], [.int (s5.2.2 42 0), .int s5.2.1], am_SH, (s5.2.2, g))) rfl ?_
    rcases am_ite h with ⟨c10, h⟩ | ⟨c10, h⟩
    · refine am_Ev.t hcd (c := s5.2.1 < s5.2.2 42 0) (s1 := (22, [(0, .ref 143), (1, .ref 42), (2, .int s5.1), (3, .int s5.2.1)], [], am_SH, (s5.2.2, g))) rfl c10 ?_
      refine am_Ev.go hcd 3 (s' := (25, [(0, .ref 143), (1, .ref 42), (2, .int s5.1), (3, .int s5.2.1)], [.int s5.2.1, .ref 43], am_SH, (s5.2.2, g))) rfl ?_
      obtain ⟨c13, h⟩ := am_grd h
      refine am_Ev.t hcd (c := am_in s5.2.1 8 = true) (s1 := (26, [(0, .ref 143), (1, .ref 42), (2, .int s5.1), (3, .int s5.2.1)], [.int (s5.2.2 43 s5.2.1.toNatClampNeg)], am_SH, (s5.2.2, g))) rfl c13 ?_
      obtain ⟨t6, Et6, h⟩ := am_let_eq h
      refine am_Ev.go hcd 1 (s' := (27, [(0, .ref 143), (1, .ref 42), (2, .int s5.1), (3, .int s5.2.1), (4, .int t6)], [], am_SH, (s5.2.2, g))) (by subst Et6; exact rfl) ?_
      refine am_Ev.go hcd 6 (s' := (33, [(0, .ref 143), (1, .ref 42), (2, .int s5.1), (3, .int s5.2.1), (4, .int t6), (5, .int ((nI 16) - 1))], [], am_SH, (s5.2.2, g))) rfl ?_
      obtain ⟨e12, he12, h⟩ := am_bind_some h
      have hK7 : (fun (e12 : Int32 × (Nat → Nat → Int32)) => am_Ev sc (d) 59 (67, [(0, .ref 143), (1, .ref 42), (2, .int e12.1), (3, .int s5.2.1)], [], am_SH, (e12.2, g)) ((some (.int r.1)), am_SH, (r.2, g))) e12 := by
        show am_Ev sc (d) 59 (67, [(0, .ref 143), (1, .ref 42), (2, .int e12.1), (3, .int s5.2.1)], [], am_SH, (e12.2, g)) ((some (.int r.1)), am_SH, (r.2, g))
        obtain ⟨t13, Et13, h⟩ := am_let_eq h
        refine am_Ev.go hcd 1 (s' := (68, [(0, .ref 143), (1, .ref 42), (2, .int e12.1), (3, .int t13)], [], am_SH, (e12.2, g))) (by subst Et13; exact rfl) ?_
        refine am_Ev.go hcd 1 (s' := (18, [(0, .ref 143), (1, .ref 42), (2, .int e12.1), (3, .int t13)], [], am_SH, (e12.2, g))) rfl ?_
        exact am_Ev.weak' (hI5 (e12.1, t13, e12.2) (Option.some.inj h).symm) (am_sub_cons rfl (am_sub_cons rfl (am_sub_cons rfl (am_sub_cons rfl am_sub_nil)))) rfl
      refine am_Ev.weak' (am_loop_ok (G := fun (s7 : Int32 × Int32 × Int32 × (Nat → Nat → Int32)) => am_Ev sc (d) 59 (33, [(0, .ref 143), (1, .ref 42), (2, .int s7.1), (3, .int s5.2.1), (4, .int s7.2.1), (5, .int s7.2.2.1)], [], am_SH, (s7.2.2.2, g)) ((some (.int r.1)), am_SH, (r.2, g))) (Z := fun (e12 : Int32 × (Nat → Nat → Int32)) => am_Ev sc (d) 59 (67, [(0, .ref 143), (1, .ref 42), (2, .int e12.1), (3, .int s5.2.1)], [], am_SH, (e12.2, g)) ((some (.int r.1)), am_SH, (r.2, g))) ?_ am_F (s5.1, t6, ((nI 16) - 1), s5.2.2) e12 he12 hK7) (am_sub_cons rfl (am_sub_cons rfl (am_sub_cons rfl (am_sub_cons rfl (am_sub_cons rfl (am_sub_cons rfl am_sub_nil)))))) rfl
      intro s7 q7 h hI7 hZ7
      show am_Ev sc (d) 59 (33, [(0, .ref 143), (1, .ref 42), (2, .int s7.1), (3, .int s5.2.1), (4, .int s7.2.1), (5, .int s7.2.2.1)], [], am_SH, (s7.2.2.2, g)) ((some (.int r.1)), am_SH, (r.2, g))
      refine am_Ev.go hcd 1 (s' := (34, [(0, .ref 143), (1, .ref 42), (2, .int s7.1), (3, .int s5.2.1), (4, .int s7.2.1), (5, .int s7.2.2.1)], [.int s7.2.2.1], am_SH, (s7.2.2.2, g))) rfl ?_
      rcases am_ite h with ⟨c29, h⟩ | ⟨c29, h⟩
      · refine am_Ev.t hcd (c := s7.2.2.1 < 0) (s1 := (67, [(0, .ref 143), (1, .ref 42), (2, .int s7.1), (3, .int s5.2.1), (4, .int s7.2.1), (5, .int s7.2.2.1)], [], am_SH, (s7.2.2.2, g))) rfl c29 ?_
        exact am_Ev.weak' (hZ7 (s7.1, s7.2.2.2) (Option.some.inj h).symm) (am_sub_cons rfl (am_sub_cons rfl (am_sub_cons rfl (am_sub_cons rfl am_sub_nil)))) rfl
      · refine am_Ev.f hcd (c := s7.2.2.1 < 0) (s1 := (35, [(0, .ref 143), (1, .ref 42), (2, .int s7.1), (3, .int s5.2.1), (4, .int s7.2.1), (5, .int s7.2.2.1)], [], am_SH, (s7.2.2.2, g))) rfl c29 ?_
        refine am_Ev.go hcd 1 (s' := (36, [(0, .ref 143), (1, .ref 42), (2, .int s7.1), (3, .int s5.2.1), (4, .int s7.2.1), (5, .int s7.2.2.1)], [.int s7.2.1], am_SH, (s7.2.2.2, g))) rfl ?_
        rcases am_ite h with ⟨c34, h⟩ | ⟨c34, h⟩
        · refine am_Ev.t hcd (c := s7.2.1 = 0) (s1 := (67, [(0, .ref 143), (1, .ref 42), (2, .int s7.1), (3, .int s5.2.1), (4, .int s7.2.1), (5, .int s7.2.2.1)], [], am_SH, (s7.2.2.2, g))) rfl c34 ?_
          exact am_Ev.weak' (hZ7 (s7.1, s7.2.2.2) (Option.some.inj h).symm) (am_sub_cons rfl (am_sub_cons rfl (am_sub_cons rfl (am_sub_cons rfl am_sub_nil)))) rfl
        · refine am_Ev.f hcd (c := s7.2.1 = 0) (s1 := (37, [(0, .ref 143), (1, .ref 42), (2, .int s7.1), (3, .int s5.2.1), (4, .int s7.2.1), (5, .int s7.2.2.1)], [], am_SH, (s7.2.2.2, g))) rfl c34 ?_
          obtain ⟨t10, ht10, kt10⟩ := am_bind_some h
          have hKt10 : am_Ev sc (d) 59 (65, [(0, .ref 143), (1, .ref 42), (2, .int t10.1), (3, .int s5.2.1), (4, .int t10.2.1), (5, .int s7.2.2.1)], [], am_SH, (t10.2.2, g)) ((some (.int r.1)), am_SH, (r.2, g)) := by
            have h := kt10
            obtain ⟨t11, Et11, h⟩ := am_let_eq h
            refine am_Ev.go hcd 1 (s' := (66, [(0, .ref 143), (1, .ref 42), (2, .int t10.1), (3, .int s5.2.1), (4, .int t10.2.1), (5, .int t11)], [], am_SH, (t10.2.2, g))) (by subst Et11; exact rfl) ?_
            refine am_Ev.go hcd 1 (s' := (33, [(0, .ref 143), (1, .ref 42), (2, .int t10.1), (3, .int s5.2.1), (4, .int t10.2.1), (5, .int t11)], [], am_SH, (t10.2.2, g))) rfl ?_
            exact am_Ev.weak' (hI7 (t10.1, t10.2.1, t11, t10.2.2) (Option.some.inj h).symm) (am_sub_cons rfl (am_sub_cons rfl (am_sub_cons rfl (am_sub_cons rfl (am_sub_cons rfl (am_sub_cons rfl am_sub_nil)))))) rfl
          have hLt10 : ∀ tt, tt = t10 → am_Ev sc (d) 59 (65, [(0, .ref 143), (1, .ref 42), (2, .int tt.1), (3, .int s5.2.1), (4, .int tt.2.1), (5, .int s7.2.2.1)], [], am_SH, (tt.2.2, g)) ((some (.int r.1)), am_SH, (r.2, g)) := fun tt htt => by subst htt; exact hKt10
          have h := ht10
          refine am_Ev.go hcd 5 (s' := (42, [(0, .ref 143), (1, .ref 42), (2, .int s7.1), (3, .int s5.2.1), (4, .int s7.2.1), (5, .int s7.2.2.1)], [.int ((s7.2.1 >>> (s7.2.2.1 &&& 31)) &&& 1)], am_SH, (s7.2.2.2, g))) rfl ?_
          rcases am_ite h with ⟨c48, h⟩ | ⟨c48, h⟩
          · refine am_Ev.t hcd (c := ((s7.2.1 >>> (s7.2.2.1 &&& 31)) &&& 1) = 0) (s1 := (43, [(0, .ref 143), (1, .ref 42), (2, .int s7.1), (3, .int s5.2.1), (4, .int s7.2.1), (5, .int s7.2.2.1)], [], am_SH, (s7.2.2.2, g))) rfl c48 ?_
            refine am_Ev.go hcd 1 (s' := (65, [(0, .ref 143), (1, .ref 42), (2, .int s7.1), (3, .int s5.2.1), (4, .int s7.2.1), (5, .int s7.2.2.1)], [], am_SH, (s7.2.2.2, g))) rfl ?_
            exact am_Ev.weak' (hLt10 (s7.1, s7.2.1, s7.2.2.2) (Option.some.inj h)) (am_sub_cons rfl (am_sub_cons rfl (am_sub_cons rfl (am_sub_cons rfl (am_sub_cons rfl (am_sub_cons rfl am_sub_nil)))))) rfl
          · refine am_Ev.f hcd (c := ((s7.2.1 >>> (s7.2.2.1 &&& 31)) &&& 1) = 0) (s1 := (44, [(0, .ref 143), (1, .ref 42), (2, .int s7.1), (3, .int s5.2.1), (4, .int s7.2.1), (5, .int s7.2.2.1)], [], am_SH, (s7.2.2.2, g))) rfl c48 ?_
            refine am_Ev.go hcd 3 (s' := (47, [(0, .ref 143), (1, .ref 42), (2, .int s7.1), (3, .int s5.2.1), (4, .int s7.2.1), (5, .int s7.2.2.1)], [.int s7.2.2.1, .ref 151], am_SH, (s7.2.2.2, g))) rfl ?_
            obtain ⟨c54, h⟩ := am_grd h
            refine am_Ev.t hcd (c := am_in s7.2.2.1 16 = true) (s1 := (48, [(0, .ref 143), (1, .ref 42), (2, .int s7.1), (3, .int s5.2.1), (4, .int s7.2.1), (5, .int s7.2.2.1)], [.int (s7.2.2.2 151 s7.2.2.1.toNatClampNeg)], am_SH, (s7.2.2.2, g))) rfl c54 ?_
            rcases am_ite h with ⟨c57, h⟩ | ⟨c57, h⟩
            · refine am_Ev.t hcd (c := s7.2.2.2 151 s7.2.2.1.toNatClampNeg = 0) (s1 := (49, [(0, .ref 143), (1, .ref 42), (2, .int s7.1), (3, .int s5.2.1), (4, .int s7.2.1), (5, .int s7.2.2.1)], [], am_SH, (s7.2.2.2, g))) rfl c57 ?_
              refine am_Ev.go hcd 4 (s' := (53, [(0, .ref 143), (1, .ref 42), (2, .int s7.1), (3, .int s5.2.1), (4, .int s7.2.1), (5, .int s7.2.2.1)], [.int s7.2.1, .int s7.2.2.1, .ref 151], am_SH, (s7.2.2.2, g))) rfl ?_
              obtain ⟨c59, h⟩ := am_grd h
              obtain ⟨f8, Ef8, h⟩ := am_let_eq h
              refine am_Ev.t hcd (c := am_in s7.2.2.1 16 = true) (s1 := (54, [(0, .ref 143), (1, .ref 42), (2, .int s7.1), (3, .int s5.2.1), (4, .int s7.2.1), (5, .int s7.2.2.1)], [], am_SH, (f8, g))) (by subst Ef8; exact rfl) c59 ?_
              obtain ⟨t9, Et9, h⟩ := am_let_eq h
              refine am_Ev.go hcd 1 (s' := (55, [(0, .ref 143), (1, .ref 42), (2, .int t9), (3, .int s5.2.1), (4, .int s7.2.1), (5, .int s7.2.2.1)], [], am_SH, (f8, g))) (by subst Et9; exact rfl) ?_
              refine am_Ev.go hcd 3 (s' := (65, [(0, .ref 143), (1, .ref 42), (2, .int t9), (3, .int s5.2.1), (4, .int 0), (5, .int s7.2.2.1)], [], am_SH, (f8, g))) rfl ?_
              exact am_Ev.weak' (hLt10 (t9, 0, f8) (Option.some.inj h)) (am_sub_cons rfl (am_sub_cons rfl (am_sub_cons rfl (am_sub_cons rfl (am_sub_cons rfl (am_sub_cons rfl am_sub_nil)))))) rfl
            · refine am_Ev.f hcd (c := s7.2.2.2 151 s7.2.2.1.toNatClampNeg = 0) (s1 := (58, [(0, .ref 143), (1, .ref 42), (2, .int s7.1), (3, .int s5.2.1), (4, .int s7.2.1), (5, .int s7.2.2.1)], [], am_SH, (s7.2.2.2, g))) rfl c57 ?_
              refine am_Ev.go hcd 4 (s' := (62, [(0, .ref 143), (1, .ref 42), (2, .int s7.1), (3, .int s5.2.1), (4, .int s7.2.1), (5, .int s7.2.2.1)], [.int s7.2.2.1, .ref 151, .int s7.2.1], am_SH, (s7.2.2.2, g))) rfl ?_
              obtain ⟨c68, h⟩ := am_grd h
              refine am_Ev.t hcd (c := am_in s7.2.2.1 16 = true) (s1 := (63, [(0, .ref 143), (1, .ref 42), (2, .int s7.1), (3, .int s5.2.1), (4, .int s7.2.1), (5, .int s7.2.2.1)], [.int (s7.2.2.2 151 s7.2.2.1.toNatClampNeg), .int s7.2.1], am_SH, (s7.2.2.2, g))) rfl c68 ?_
              refine am_Ev.go hcd 2 (s' := (65, [(0, .ref 143), (1, .ref 42), (2, .int s7.1), (3, .int s5.2.1), (4, .int (s7.2.1 ^^^ (s7.2.2.2 151 s7.2.2.1.toNatClampNeg))), (5, .int s7.2.2.1)], [], am_SH, (s7.2.2.2, g))) rfl ?_
              exact am_Ev.weak' (hLt10 (s7.1, (s7.2.1 ^^^ (s7.2.2.2 151 s7.2.2.1.toNatClampNeg)), s7.2.2.2) (Option.some.inj h)) (am_sub_cons rfl (am_sub_cons rfl (am_sub_cons rfl (am_sub_cons rfl (am_sub_cons rfl (am_sub_cons rfl am_sub_nil)))))) rfl
    · refine am_Ev.f hcd (c := s5.2.1 < s5.2.2 42 0) (s1 := (69, [(0, .ref 143), (1, .ref 42), (2, .int s5.1), (3, .int s5.2.1)], [], am_SH, (s5.2.2, g))) rfl c10 ?_
      refine am_Ev.go hcd 1 (s' := (70, [(0, .ref 143), (1, .ref 42), (2, .int s5.1), (3, .int s5.2.1)], [.int s5.1], am_SH, (s5.2.2, g))) rfl ?_
      exact am_Ev.cast (a := ((some (.int (s5.1, s5.2.2).1)), am_SH, ((s5.1, s5.2.2).2, g))) (hZ5 _ (Option.some.inj h).symm) (am_Ev.ret hcd rfl)
  refine am_Ev.weak' (am_loop_ok (G := fun (s1 : Int32 × (Nat → Nat → Int32)) => am_Ev sc (d) 59 (2, [(0, .ref 143), (1, .ref 42), (2, .int s1.1)], [], am_SH, (s1.2, g)) ((some (.int r.1)), am_SH, (r.2, g))) (Z := fun (e4 : (Nat → Nat → Int32)) => am_Ev sc (d) 59 (14, [(0, .ref 143), (1, .ref 42)], [], am_SH, (e4, g)) ((some (.int r.1)), am_SH, (r.2, g))) ?_ am_F (0, f) e4 he4 hK1) (am_sub_cons rfl (am_sub_cons rfl (am_sub_cons rfl am_sub_nil))) rfl
  intro s1 q1 h hI1 hZ1
  show am_Ev sc (d) 59 (2, [(0, .ref 143), (1, .ref 42), (2, .int s1.1)], [], am_SH, (s1.2, g)) ((some (.int r.1)), am_SH, (r.2, g))
  refine am_Ev.go hcd 4 (s' := (6, [(0, .ref 143), (1, .ref 42), (2, .int s1.1)], [.int (nI 16), .int s1.1], am_SH, (s1.2, g))) rfl ?_
  rcases am_ite h with ⟨c79, h⟩ | ⟨c79, h⟩
  · refine am_Ev.t hcd (c := s1.1 < (nI 16)) (s1 := (7, [(0, .ref 143), (1, .ref 42), (2, .int s1.1)], [], am_SH, (s1.2, g))) rfl c79 ?_
    refine am_Ev.go hcd 4 (s' := (11, [(0, .ref 143), (1, .ref 42), (2, .int s1.1)], [.int 0, .int s1.1, .ref 151], am_SH, (s1.2, g))) rfl ?_
    obtain ⟨c82, h⟩ := am_grd h
    obtain ⟨f2, Ef2, h⟩ := am_let_eq h
    refine am_Ev.t hcd (c := am_in s1.1 16 = true) (s1 := (12, [(0, .ref 143), (1, .ref 42), (2, .int s1.1)], [], am_SH, (f2, g))) (by subst Ef2; exact rfl) c82 ?_
    obtain ⟨t3, Et3, h⟩ := am_let_eq h
    refine am_Ev.go hcd 1 (s' := (13, [(0, .ref 143), (1, .ref 42), (2, .int t3)], [], am_SH, (f2, g))) (by subst Et3; exact rfl) ?_
    refine am_Ev.go hcd 1 (s' := (2, [(0, .ref 143), (1, .ref 42), (2, .int t3)], [], am_SH, (f2, g))) rfl ?_
    exact am_Ev.weak' (hI1 (t3, f2) (Option.some.inj h).symm) (am_sub_cons rfl (am_sub_cons rfl (am_sub_cons rfl am_sub_nil))) rfl
  · refine am_Ev.f hcd (c := s1.1 < (nI 16)) (s1 := (14, [(0, .ref 143), (1, .ref 42), (2, .int s1.1)], [], am_SH, (s1.2, g))) rfl c79 ?_
    exact am_Ev.weak' (hZ1 s1.2 (Option.some.inj h).symm) (am_sub_cons rfl (am_sub_cons rfl am_sub_nil)) rfl
def xm_fewestLaid_42 (a0 : Int32) (f : (Nat → Nat → Int32)) : Option (Int32) :=
  am_loop (fun (s1 : Int32 × Int32) => ((
    if s1.2 < (1 <<< ((f 42 0) &&& 31)) then (
      (am_loop (fun (s2 : Int32 × Int32) => ((
        if s2.2 < f 42 0 then (
          ((if ((s1.2 >>> (s2.2 &&& 31)) &&& 1) = 1 then (
              if am_in s2.2 8 = true then (
              some (s2.1 ^^^ (f 43 s2.2.toNatClampNeg))) else none)
            else (
              some s2.1)) : Option (Int32)).bind fun t3 =>
          am_let (s2.2 + 1 : Int32) fun t4 =>
          some (.inl (t3, t4)))
        else (
          some (.inr s2.1))) : Option ((Int32 × Int32) ⊕ (Int32)))) am_F (0, 0)).bind fun e5 =>
      am_let ((if e5 = a0 then (
          if s1.1 = (-1) then (
            (ji_bitCount s1.2))
          else (
            if (ji_bitCount s1.2) < s1.1 then (
              (ji_bitCount s1.2))
            else (
              s1.1)))
        else (
          s1.1)) : Int32) fun t7 =>
      am_let (s1.2 + 1 : Int32) fun t8 =>
      some (.inl (t7, t8)))
    else (
      some (.inr s1.1))) : Option ((Int32 × Int32) ⊕ (Int32)))) am_F ((-1), 0)
set_option maxRecDepth 100000 in
set_option maxHeartbeats 4000000 in
theorem xm_fewestLaid_42_ok {sc : Nat × (Nat → Int32)} (d : Nat) (a0 : Int32) (f g : (Nat → Nat → Int32)) (r : Int32) (h : xm_fewestLaid_42 a0 f = some r) : am_Ev sc (d + 1) 60 (0, [(0, .ref 143), (1, .ref 42), (2, .int a0)], [], am_SH, (f, g)) ((some (.int r)), am_SH, (f, g)) := by
  have hcd : am_code 60 = am_c60 := rfl
  unfold xm_fewestLaid_42 at h
  refine am_Ev.go hcd 4 (s' := (4, [(0, .ref 143), (1, .ref 42), (2, .int a0), (3, .int (-1)), (4, .int 0)], [], am_SH, (f, g))) rfl ?_
  refine am_Ev.weak' (am_loop_ok (G := fun (s1 : Int32 × Int32) => am_Ev sc (d + 1) 60 (4, [(1, .ref 42), (2, .int a0), (3, .int s1.1), (4, .int s1.2)], [], am_SH, (f, g)) ((some (.int r)), am_SH, (f, g))) (Z := fun (v : Int32) => (((some (.int v)), am_SH, (f, g)) : am_R) = ((some (.int r)), am_SH, (f, g))) ?_ am_F ((-1), 0) r h rfl) (am_sub_cons rfl (am_sub_cons rfl (am_sub_cons rfl (am_sub_cons rfl am_sub_nil)))) rfl
  intro s1 q1 h hI1 hZ1
  show am_Ev sc (d + 1) 60 (4, [(1, .ref 42), (2, .int a0), (3, .int s1.1), (4, .int s1.2)], [], am_SH, (f, g)) ((some (.int r)), am_SH, (f, g))
  refine am_Ev.go hcd 5 (s' := (9, [(1, .ref 42), (2, .int a0), (3, .int s1.1), (4, .int s1.2)], [.int (1 <<< ((f 42 0) &&& 31)), .int s1.2], am_SH, (f, g))) rfl ?_
  rcases am_ite h with ⟨c6, h⟩ | ⟨c6, h⟩
  · refine am_Ev.t hcd (c := s1.2 < (1 <<< ((f 42 0) &&& 31))) (s1 := (10, [(1, .ref 42), (2, .int a0), (3, .int s1.1), (4, .int s1.2)], [], am_SH, (f, g))) rfl c6 ?_
    refine am_Ev.go hcd 4 (s' := (14, [(1, .ref 42), (2, .int a0), (3, .int s1.1), (4, .int s1.2), (5, .int 0), (6, .int 0)], [], am_SH, (f, g))) rfl ?_
    obtain ⟨e5, he5, h⟩ := am_bind_some h
    have hK2 : (fun (e5 : Int32) => am_Ev sc (d + 1) 60 (34, [(1, .ref 42), (2, .int a0), (3, .int s1.1), (4, .int s1.2), (5, .int e5)], [], am_SH, (f, g)) ((some (.int r)), am_SH, (f, g))) e5 := by
      show am_Ev sc (d + 1) 60 (34, [(1, .ref 42), (2, .int a0), (3, .int s1.1), (4, .int s1.2), (5, .int e5)], [], am_SH, (f, g)) ((some (.int r)), am_SH, (f, g))
      refine am_Ev.go hcd 1 (s' := (35, [(1, .ref 42), (2, .int a0), (3, .int s1.1), (4, .int s1.2), (5, .int e5)], [.int s1.2], am_SH, (f, g))) rfl ?_
      refine am_Ev.call hcd (a := 312) (s0 := (0, [(0, .int s1.2)], [], am_SH, (f, g))) (q := ((some (.int (ji_bitCount s1.2))), am_SH, (f, g))) (s1 := (36, [(1, .ref 42), (2, .int a0), (3, .int s1.1), (4, .int s1.2), (5, .int e5)], [.int (ji_bitCount s1.2)], am_SH, (f, g))) rfl rfl (ji_bitCount_ok (d) s1.2 (f, g)) ?_
      obtain ⟨t7, ht7, kt7⟩ := am_let_eq h
      have hKt7 : am_Ev sc (d + 1) 60 (48, [(1, .ref 42), (2, .int a0), (3, .int t7), (4, .int s1.2)], [], am_SH, (f, g)) ((some (.int r)), am_SH, (f, g)) := by
        have h := kt7
        obtain ⟨t8, Et8, h⟩ := am_let_eq h
        refine am_Ev.go hcd 1 (s' := (49, [(1, .ref 42), (2, .int a0), (3, .int t7), (4, .int t8)], [], am_SH, (f, g))) (by subst Et8; exact rfl) ?_
        refine am_Ev.go hcd 1 (s' := (4, [(1, .ref 42), (2, .int a0), (3, .int t7), (4, .int t8)], [], am_SH, (f, g))) rfl ?_
        exact am_Ev.weak' (hI1 (t7, t8) (Option.some.inj h).symm) (am_sub_cons rfl (am_sub_cons rfl (am_sub_cons rfl (am_sub_cons rfl am_sub_nil)))) rfl
      have hLt7 : ∀ tt, tt = t7 → am_Ev sc (d + 1) 60 (48, [(1, .ref 42), (2, .int a0), (3, .int tt), (4, .int s1.2)], [], am_SH, (f, g)) ((some (.int r)), am_SH, (f, g)) := fun tt htt => by subst htt; exact hKt7
      have h := ht7
      refine am_Ev.go hcd 3 (s' := (39, [(1, .ref 42), (2, .int a0), (3, .int s1.1), (4, .int s1.2), (5, .int e5), (6, .int (ji_bitCount s1.2))], [.int a0, .int e5], am_SH, (f, g))) rfl ?_
      rcases am_itv h with ⟨c24, h⟩ | ⟨c24, h⟩
      · refine am_Ev.t hcd (c := e5 = a0) (s1 := (40, [(1, .ref 42), (2, .int a0), (3, .int s1.1), (4, .int s1.2), (5, .int e5), (6, .int (ji_bitCount s1.2))], [], am_SH, (f, g))) rfl c24 ?_
        refine am_Ev.go hcd 2 (s' := (42, [(1, .ref 42), (2, .int a0), (3, .int s1.1), (4, .int s1.2), (5, .int e5), (6, .int (ji_bitCount s1.2))], [.int (-1), .int s1.1], am_SH, (f, g))) rfl ?_
        rcases am_itv h with ⟨c27, h⟩ | ⟨c27, h⟩
        · refine am_Ev.t hcd (c := s1.1 = (-1)) (s1 := (46, [(1, .ref 42), (2, .int a0), (3, .int s1.1), (4, .int s1.2), (5, .int e5), (6, .int (ji_bitCount s1.2))], [], am_SH, (f, g))) rfl c27 ?_
          refine am_Ev.go hcd 2 (s' := (48, [(1, .ref 42), (2, .int a0), (3, .int (ji_bitCount s1.2)), (4, .int s1.2), (5, .int e5), (6, .int (ji_bitCount s1.2))], [], am_SH, (f, g))) rfl ?_
          exact am_Ev.weak' (hLt7 (ji_bitCount s1.2) h.symm) (am_sub_cons rfl (am_sub_cons rfl (am_sub_cons rfl (am_sub_cons rfl am_sub_nil)))) rfl
        · refine am_Ev.f hcd (c := s1.1 = (-1)) (s1 := (43, [(1, .ref 42), (2, .int a0), (3, .int s1.1), (4, .int s1.2), (5, .int e5), (6, .int (ji_bitCount s1.2))], [], am_SH, (f, g))) rfl c27 ?_
          refine am_Ev.go hcd 2 (s' := (45, [(1, .ref 42), (2, .int a0), (3, .int s1.1), (4, .int s1.2), (5, .int e5), (6, .int (ji_bitCount s1.2))], [.int s1.1, .int (ji_bitCount s1.2)], am_SH, (f, g))) rfl ?_
          rcases am_itv h with ⟨c33, h⟩ | ⟨c33, h⟩
          · refine am_Ev.t hcd (c := (ji_bitCount s1.2) < s1.1) (s1 := (46, [(1, .ref 42), (2, .int a0), (3, .int s1.1), (4, .int s1.2), (5, .int e5), (6, .int (ji_bitCount s1.2))], [], am_SH, (f, g))) rfl c33 ?_
            refine am_Ev.go hcd 2 (s' := (48, [(1, .ref 42), (2, .int a0), (3, .int (ji_bitCount s1.2)), (4, .int s1.2), (5, .int e5), (6, .int (ji_bitCount s1.2))], [], am_SH, (f, g))) rfl ?_
            exact am_Ev.weak' (hLt7 (ji_bitCount s1.2) h.symm) (am_sub_cons rfl (am_sub_cons rfl (am_sub_cons rfl (am_sub_cons rfl am_sub_nil)))) rfl
          · refine am_Ev.f hcd (c := (ji_bitCount s1.2) < s1.1) (s1 := (48, [(1, .ref 42), (2, .int a0), (3, .int s1.1), (4, .int s1.2), (5, .int e5), (6, .int (ji_bitCount s1.2))], [], am_SH, (f, g))) rfl c33 ?_
            exact am_Ev.weak' (hLt7 s1.1 h.symm) (am_sub_cons rfl (am_sub_cons rfl (am_sub_cons rfl (am_sub_cons rfl am_sub_nil)))) rfl
      · refine am_Ev.f hcd (c := e5 = a0) (s1 := (48, [(1, .ref 42), (2, .int a0), (3, .int s1.1), (4, .int s1.2), (5, .int e5), (6, .int (ji_bitCount s1.2))], [], am_SH, (f, g))) rfl c24 ?_
        exact am_Ev.weak' (hLt7 s1.1 h.symm) (am_sub_cons rfl (am_sub_cons rfl (am_sub_cons rfl (am_sub_cons rfl am_sub_nil)))) rfl
    refine am_Ev.weak' (am_loop_ok (G := fun (s2 : Int32 × Int32) => am_Ev sc (d + 1) 60 (14, [(1, .ref 42), (2, .int a0), (3, .int s1.1), (4, .int s1.2), (5, .int s2.1), (6, .int s2.2)], [], am_SH, (f, g)) ((some (.int r)), am_SH, (f, g))) (Z := fun (e5 : Int32) => am_Ev sc (d + 1) 60 (34, [(1, .ref 42), (2, .int a0), (3, .int s1.1), (4, .int s1.2), (5, .int e5)], [], am_SH, (f, g)) ((some (.int r)), am_SH, (f, g))) ?_ am_F (0, 0) e5 he5 hK2) (am_sub_cons rfl (am_sub_cons rfl (am_sub_cons rfl (am_sub_cons rfl (am_sub_cons rfl (am_sub_cons rfl am_sub_nil)))))) rfl
    intro s2 q2 h hI2 hZ2
    show am_Ev sc (d + 1) 60 (14, [(1, .ref 42), (2, .int a0), (3, .int s1.1), (4, .int s1.2), (5, .int s2.1), (6, .int s2.2)], [], am_SH, (f, g)) ((some (.int r)), am_SH, (f, g))
    refine am_Ev.go hcd 3 (s' := (17, [(1, .ref 42), (2, .int a0), (3, .int s1.1), (4, .int s1.2), (5, .int s2.1), (6, .int s2.2)], [.int (f 42 0), .int s2.2], am_SH, (f, g))) rfl ?_
    rcases am_ite h with ⟨c45, h⟩ | ⟨c45, h⟩
    · refine am_Ev.t hcd (c := s2.2 < f 42 0) (s1 := (18, [(1, .ref 42), (2, .int a0), (3, .int s1.1), (4, .int s1.2), (5, .int s2.1), (6, .int s2.2)], [], am_SH, (f, g))) rfl c45 ?_
      obtain ⟨t3, ht3, kt3⟩ := am_bind_some h
      have hKt3 : am_Ev sc (d + 1) 60 (32, [(1, .ref 42), (2, .int a0), (3, .int s1.1), (4, .int s1.2), (5, .int t3), (6, .int s2.2)], [], am_SH, (f, g)) ((some (.int r)), am_SH, (f, g)) := by
        have h := kt3
        obtain ⟨t4, Et4, h⟩ := am_let_eq h
        refine am_Ev.go hcd 1 (s' := (33, [(1, .ref 42), (2, .int a0), (3, .int s1.1), (4, .int s1.2), (5, .int t3), (6, .int t4)], [], am_SH, (f, g))) (by subst Et4; exact rfl) ?_
        refine am_Ev.go hcd 1 (s' := (14, [(1, .ref 42), (2, .int a0), (3, .int s1.1), (4, .int s1.2), (5, .int t3), (6, .int t4)], [], am_SH, (f, g))) rfl ?_
        exact am_Ev.weak' (hI2 (t3, t4) (Option.some.inj h).symm) (am_sub_cons rfl (am_sub_cons rfl (am_sub_cons rfl (am_sub_cons rfl (am_sub_cons rfl (am_sub_cons rfl am_sub_nil)))))) rfl
      have hLt3 : ∀ tt, tt = t3 → am_Ev sc (d + 1) 60 (32, [(1, .ref 42), (2, .int a0), (3, .int s1.1), (4, .int s1.2), (5, .int tt), (6, .int s2.2)], [], am_SH, (f, g)) ((some (.int r)), am_SH, (f, g)) := fun tt htt => by subst htt; exact hKt3
      have h := ht3
      refine am_Ev.go hcd 6 (s' := (24, [(1, .ref 42), (2, .int a0), (3, .int s1.1), (4, .int s1.2), (5, .int s2.1), (6, .int s2.2)], [.int 1, .int ((s1.2 >>> (s2.2 &&& 31)) &&& 1)], am_SH, (f, g))) rfl ?_
      rcases am_ite h with ⟨c57, h⟩ | ⟨c57, h⟩
      · refine am_Ev.t hcd (c := ((s1.2 >>> (s2.2 &&& 31)) &&& 1) = 1) (s1 := (25, [(1, .ref 42), (2, .int a0), (3, .int s1.1), (4, .int s1.2), (5, .int s2.1), (6, .int s2.2)], [], am_SH, (f, g))) rfl c57 ?_
        refine am_Ev.go hcd 4 (s' := (29, [(1, .ref 42), (2, .int a0), (3, .int s1.1), (4, .int s1.2), (5, .int s2.1), (6, .int s2.2)], [.int s2.2, .ref 43, .int s2.1], am_SH, (f, g))) rfl ?_
        obtain ⟨c60, h⟩ := am_grd h
        refine am_Ev.t hcd (c := am_in s2.2 8 = true) (s1 := (30, [(1, .ref 42), (2, .int a0), (3, .int s1.1), (4, .int s1.2), (5, .int s2.1), (6, .int s2.2)], [.int (f 43 s2.2.toNatClampNeg), .int s2.1], am_SH, (f, g))) rfl c60 ?_
        refine am_Ev.go hcd 2 (s' := (32, [(1, .ref 42), (2, .int a0), (3, .int s1.1), (4, .int s1.2), (5, .int (s2.1 ^^^ (f 43 s2.2.toNatClampNeg))), (6, .int s2.2)], [], am_SH, (f, g))) rfl ?_
        exact am_Ev.weak' (hLt3 (s2.1 ^^^ (f 43 s2.2.toNatClampNeg)) (Option.some.inj h)) (am_sub_cons rfl (am_sub_cons rfl (am_sub_cons rfl (am_sub_cons rfl (am_sub_cons rfl (am_sub_cons rfl am_sub_nil)))))) rfl
      · refine am_Ev.f hcd (c := ((s1.2 >>> (s2.2 &&& 31)) &&& 1) = 1) (s1 := (32, [(1, .ref 42), (2, .int a0), (3, .int s1.1), (4, .int s1.2), (5, .int s2.1), (6, .int s2.2)], [], am_SH, (f, g))) rfl c57 ?_
        exact am_Ev.weak' (hLt3 s2.1 (Option.some.inj h)) (am_sub_cons rfl (am_sub_cons rfl (am_sub_cons rfl (am_sub_cons rfl (am_sub_cons rfl (am_sub_cons rfl am_sub_nil)))))) rfl
    · refine am_Ev.f hcd (c := s2.2 < f 42 0) (s1 := (34, [(1, .ref 42), (2, .int a0), (3, .int s1.1), (4, .int s1.2), (5, .int s2.1), (6, .int s2.2)], [], am_SH, (f, g))) rfl c45 ?_
      exact am_Ev.weak' (hZ2 s2.1 (Option.some.inj h).symm) (am_sub_cons rfl (am_sub_cons rfl (am_sub_cons rfl (am_sub_cons rfl (am_sub_cons rfl am_sub_nil))))) rfl
  · refine am_Ev.f hcd (c := s1.2 < (1 <<< ((f 42 0) &&& 31))) (s1 := (50, [(1, .ref 42), (2, .int a0), (3, .int s1.1), (4, .int s1.2)], [], am_SH, (f, g))) rfl c6 ?_
    refine am_Ev.go hcd 1 (s' := (51, [(1, .ref 42), (2, .int a0), (3, .int s1.1), (4, .int s1.2)], [.int s1.1], am_SH, (f, g))) rfl ?_
    exact am_Ev.cast (a := ((some (.int s1.1)), am_SH, (f, g))) (hZ1 _ (Option.some.inj h).symm) (am_Ev.ret hcd rfl)
