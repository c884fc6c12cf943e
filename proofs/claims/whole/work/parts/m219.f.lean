set_option maxRecDepth 100000 in
set_option maxHeartbeats 4000000 in
theorem xm_winningPart_39_ok {sc : Nat × (Nat → Int32)} (d : Nat) (a0 : Int32) (f g : (Nat → Nat → Int32)) (r : Int32 × (Nat → Nat → Int32)) (h : xm_winningPart_39 a0 f = some r) : am_Ev sc (d + 2) 57 (0, [(0, .ref 143), (1, .ref 39), (2, .int a0)], [], am_SH, (f, g)) ((some (.int r.1)), am_SH, (r.2, g)) := by
  have hcd : am_code 57 = am_c57 := rfl
  unfold xm_winningPart_39 at h
  refine am_Ev.go hcd 4 (s' := (4, [(0, .ref 143), (1, .ref 39), (2, .int a0), (3, .int 0), (4, .int 0)], [], am_SH, (f, g))) rfl ?_
  obtain ⟨e5, he5, h⟩ := am_bind_some h
  have hK1 : (fun (e5 : Int32 × (Nat → Nat → Int32)) => am_Ev sc (d + 2) 57 (26, [(0, .ref 143), (1, .ref 39), (2, .int a0), (3, .int e5.1)], [], am_SH, (e5.2, g)) ((some (.int r.1)), am_SH, (r.2, g))) e5 := by
    show am_Ev sc (d + 2) 57 (26, [(0, .ref 143), (1, .ref 39), (2, .int a0), (3, .int e5.1)], [], am_SH, (e5.2, g)) ((some (.int r.1)), am_SH, (r.2, g))
    refine am_Ev.go hcd 2 (s' := (28, [(0, .ref 143), (1, .ref 39), (2, .int a0), (3, .int e5.1), (4, .int 0)], [], am_SH, (e5.2, g))) rfl ?_
    obtain ⟨e15, he15, h⟩ := am_bind_some h
    have hK6 : (fun (v : (Int32 × (Nat → Nat → Int32)) ⊕ (Unit)) => v.elim (fun (v : Int32 × (Nat → Nat → Int32)) => (((some (.int v.1)), am_SH, (v.2, g)) : am_R) = ((some (.int r.1)), am_SH, (r.2, g))) (fun (e16 : Unit) => am_Ev sc (d + 2) 57 (74, [], [], am_SH, (e5.2, g)) ((some (.int r.1)), am_SH, (r.2, g)))) e15 := by
      cases e15 with
      | inl v => exact (by cases h; rfl)
      | inr e16 =>
        have h := am_elim_r h
        show am_Ev sc (d + 2) 57 (74, [], [], am_SH, (e5.2, g)) ((some (.int r.1)), am_SH, (r.2, g))
        refine am_Ev.go hcd 1 (s' := (75, [], [.int (-1)], am_SH, (e5.2, g))) rfl ?_
        exact am_Ev.cast (a := ((some (.int ((-1), e5.2).1)), am_SH, (((-1), e5.2).2, g))) (by cases h; rfl) (am_Ev.ret hcd rfl)
    refine am_Ev.weak' (am_loop_ok (G := fun (s6 : Int32) => am_Ev sc (d + 2) 57 (28, [(0, .ref 143), (1, .ref 39), (2, .int a0), (3, .int e5.1), (4, .int s6)], [], am_SH, (e5.2, g)) ((some (.int r.1)), am_SH, (r.2, g))) (Z := fun (v : (Int32 × (Nat → Nat → Int32)) ⊕ (Unit)) => v.elim (fun (v : Int32 × (Nat → Nat → Int32)) => (((some (.int v.1)), am_SH, (v.2, g)) : am_R) = ((some (.int r.1)), am_SH, (r.2, g))) (fun (e16 : Unit) => am_Ev sc (d + 2) 57 (74, [], [], am_SH, (e5.2, g)) ((some (.int r.1)), am_SH, (r.2, g)))) ?_ am_F 0 e15 he15 hK6) (am_sub_cons rfl (am_sub_cons rfl (am_sub_cons rfl (am_sub_cons rfl (am_sub_cons rfl am_sub_nil))))) rfl
    intro s6 q6 h hI6 hZ6
    show am_Ev sc (d + 2) 57 (28, [(0, .ref 143), (1, .ref 39), (2, .int a0), (3, .int e5.1), (4, .int s6)], [], am_SH, (e5.2, g)) ((some (.int r.1)), am_SH, (r.2, g))
    refine am_Ev.go hcd 3 (s' := (31, [(0, .ref 143), (1, .ref 39), (2, .int a0), (3, .int e5.1), (4, .int s6)], [.int (e5.2 39 0), .int s6], am_SH, (e5.2, g))) rfl ?_
    rcases am_ite h with ⟨c19, h⟩ | ⟨c19, h⟩
    · refine am_Ev.t hcd (c := s6 < e5.2 39 0) (s1 := (32, [(0, .ref 143), (1, .ref 39), (2, .int a0), (3, .int e5.1), (4, .int s6)], [], am_SH, (e5.2, g))) rfl c19 ?_
      refine am_Ev.go hcd 3 (s' := (35, [(0, .ref 143), (1, .ref 39), (2, .int a0), (3, .int e5.1), (4, .int s6)], [.int s6, .ref 40], am_SH, (e5.2, g))) rfl ?_
      obtain ⟨c22, h⟩ := am_grd h
      refine am_Ev.t hcd (o := none) (c := am_in s6 4 = true) (s1 := (36, [(0, .ref 143), (1, .ref 39), (2, .int a0), (3, .int e5.1), (4, .int s6)], [.int (e5.2 40 s6.toNatClampNeg)], am_SH, (e5.2, g))) rfl c22 ?_
      obtain ⟨t7, Et7, h⟩ := am_let_eq h
      refine am_Ev.go hcd 1 (s' := (37, [(0, .ref 143), (1, .ref 39), (2, .int a0), (3, .int e5.1), (4, .int s6), (5, .int t7)], [], am_SH, (e5.2, g))) (by subst Et7; exact rfl) ?_
      refine am_Ev.go hcd 4 (s' := (41, [(0, .ref 143), (1, .ref 39), (2, .int a0), (3, .int e5.1), (4, .int s6), (5, .int t7)], [.int t7, .ref 150, .int e5.1], am_SH, (e5.2, g))) rfl ?_
      obtain ⟨c27, h⟩ := am_grd h
      refine am_Ev.t hcd (o := none) (c := am_in t7 41 = true) (s1 := (42, [(0, .ref 143), (1, .ref 39), (2, .int a0), (3, .int e5.1), (4, .int s6), (5, .int t7)], [.int (e5.2 150 t7.toNatClampNeg), .int e5.1], am_SH, (e5.2, g))) rfl c27 ?_
      obtain ⟨t8, Et8, h⟩ := am_let_eq h
      refine am_Ev.go hcd 2 (s' := (44, [(0, .ref 143), (1, .ref 39), (2, .int a0), (3, .int e5.1), (4, .int s6), (5, .int t7), (6, .int t8)], [], am_SH, (e5.2, g))) (by subst Et8; exact rfl) ?_
      refine am_Ev.go hcd 2 (s' := (46, [(0, .ref 143), (1, .ref 39), (2, .int a0), (3, .int e5.1), (4, .int s6), (5, .int t7), (6, .int t8), (7, .int 1)], [], am_SH, (e5.2, g))) rfl ?_
      obtain ⟨e12, he12, h⟩ := am_bind_some h
      have hK9 : (fun (v : (Int32 × (Nat → Nat → Int32)) ⊕ (Unit)) => v.elim (fun (v : Int32 × (Nat → Nat → Int32)) => (((some (.int v.1)), am_SH, (v.2, g)) : am_R) = ((some (.int r.1)), am_SH, (r.2, g))) (fun (e13 : Unit) => am_Ev sc (d + 2) 57 (72, [(0, .ref 143), (1, .ref 39), (2, .int a0), (3, .int e5.1), (4, .int s6)], [], am_SH, (e5.2, g)) ((some (.int r.1)), am_SH, (r.2, g)))) e12 := by
        cases e12 with
        | inl v => exact (hZ6 _ (Option.some.inj h).symm)
        | inr e13 =>
          have h := am_elim_r h
          show am_Ev sc (d + 2) 57 (72, [(0, .ref 143), (1, .ref 39), (2, .int a0), (3, .int e5.1), (4, .int s6)], [], am_SH, (e5.2, g)) ((some (.int r.1)), am_SH, (r.2, g))
          obtain ⟨t14, Et14, h⟩ := am_let_eq h
          refine am_Ev.go hcd 1 (s' := (73, [(0, .ref 143), (1, .ref 39), (2, .int a0), (3, .int e5.1), (4, .int t14)], [], am_SH, (e5.2, g))) (by subst Et14; exact rfl) ?_
          refine am_Ev.go hcd 1 (s' := (28, [(0, .ref 143), (1, .ref 39), (2, .int a0), (3, .int e5.1), (4, .int t14)], [], am_SH, (e5.2, g))) rfl ?_
          exact am_Ev.weak' (hI6 t14 (Option.some.inj h).symm) (am_sub_cons rfl (am_sub_cons rfl (am_sub_cons rfl (am_sub_cons rfl (am_sub_cons rfl am_sub_nil))))) rfl
      refine am_Ev.weak' (am_loop_ok (G := fun (s9 : Int32) => am_Ev sc (d + 2) 57 (46, [(0, .ref 143), (1, .ref 39), (2, .int a0), (3, .int e5.1), (4, .int s6), (5, .int t7), (6, .int t8), (7, .int s9)], [], am_SH, (e5.2, g)) ((some (.int r.1)), am_SH, (r.2, g))) (Z := fun (v : (Int32 × (Nat → Nat → Int32)) ⊕ (Unit)) => v.elim (fun (v : Int32 × (Nat → Nat → Int32)) => (((some (.int v.1)), am_SH, (v.2, g)) : am_R) = ((some (.int r.1)), am_SH, (r.2, g))) (fun (e13 : Unit) => am_Ev sc (d + 2) 57 (72, [(0, .ref 143), (1, .ref 39), (2, .int a0), (3, .int e5.1), (4, .int s6)], [], am_SH, (e5.2, g)) ((some (.int r.1)), am_SH, (r.2, g)))) ?_ am_F 1 e12 he12 hK9) (am_sub_cons rfl (am_sub_cons rfl (am_sub_cons rfl (am_sub_cons rfl (am_sub_cons rfl (am_sub_cons rfl (am_sub_cons rfl (am_sub_cons rfl am_sub_nil)))))))) rfl
      intro s9 q9 h hI9 hZ9
      show am_Ev sc (d + 2) 57 (46, [(0, .ref 143), (1, .ref 39), (2, .int a0), (3, .int e5.1), (4, .int s6), (5, .int t7), (6, .int t8), (7, .int s9)], [], am_SH, (e5.2, g)) ((some (.int r.1)), am_SH, (r.2, g))
      refine am_Ev.go hcd 4 (s' := (50, [(0, .ref 143), (1, .ref 39), (2, .int a0), (3, .int e5.1), (4, .int s6), (5, .int t7), (6, .int t8), (7, .int s9)], [.int t7, .int (2 * s9)], am_SH, (e5.2, g))) rfl ?_
      rcases am_ite h with ⟨c47, h⟩ | ⟨c47, h⟩
      · refine am_Ev.t hcd (c := (2 * s9) < t7) (s1 := (51, [(0, .ref 143), (1, .ref 39), (2, .int a0), (3, .int e5.1), (4, .int s6), (5, .int t7), (6, .int t8), (7, .int s9)], [], am_SH, (e5.2, g))) rfl c47 ?_
        refine am_Ev.go hcd 3 (s' := (54, [(0, .ref 143), (1, .ref 39), (2, .int a0), (3, .int e5.1), (4, .int s6), (5, .int t7), (6, .int t8), (7, .int s9)], [.int s9, .ref 150], am_SH, (e5.2, g))) rfl ?_
        obtain ⟨c50, h⟩ := am_grd h
        refine am_Ev.t hcd (o := none) (c := am_in s9 41 = true) (s1 := (55, [(0, .ref 143), (1, .ref 39), (2, .int a0), (3, .int e5.1), (4, .int s6), (5, .int t7), (6, .int t8), (7, .int s9)], [.int (e5.2 150 s9.toNatClampNeg)], am_SH, (e5.2, g))) rfl c50 ?_
        refine am_Ev.go hcd 5 (s' := (60, [(0, .ref 143), (1, .ref 39), (2, .int a0), (3, .int e5.1), (4, .int s6), (5, .int t7), (6, .int t8), (7, .int s9)], [.int (t7 - s9), .ref 150, .int (e5.2 150 s9.toNatClampNeg)], am_SH, (e5.2, g))) rfl ?_
        obtain ⟨c53, h⟩ := am_grd h
        refine am_Ev.t hcd (o := none) (c := am_in (t7 - s9) 41 = true) (s1 := (61, [(0, .ref 143), (1, .ref 39), (2, .int a0), (3, .int e5.1), (4, .int s6), (5, .int t7), (6, .int t8), (7, .int s9)], [.int (e5.2 150 (t7 - s9).toNatClampNeg), .int (e5.2 150 s9.toNatClampNeg)], am_SH, (e5.2, g))) rfl c53 ?_
        refine am_Ev.go hcd 2 (s' := (63, [(0, .ref 143), (1, .ref 39), (2, .int a0), (3, .int e5.1), (4, .int s6), (5, .int t7), (6, .int t8), (7, .int s9)], [.int t8, .int ((e5.2 150 s9.toNatClampNeg) ^^^ (e5.2 150 (t7 - s9).toNatClampNeg))], am_SH, (e5.2, g))) rfl ?_
        rcases am_ite h with ⟨c56, h⟩ | ⟨c56, h⟩
        · refine am_Ev.t hcd (c := ((e5.2 150 s9.toNatClampNeg) ^^^ (e5.2 150 (t7 - s9).toNatClampNeg)) = t8) (s1 := (64, [(0, .ref 143), (1, .ref 39), (2, .int a0), (3, .int e5.1), (4, .int s6), (5, .int t7), (6, .int t8), (7, .int s9)], [], am_SH, (e5.2, g))) rfl c56 ?_
          obtain ⟨t10, ht10, kt10⟩ := am_let_eq h
          have hKt10 : am_Ev sc (d + 2) 57 (69, [], [.int t10], am_SH, (e5.2, g)) ((some (.int r.1)), am_SH, (r.2, g)) := by
            have h := kt10
            exact am_Ev.cast (a := ((some (.int (t10, e5.2).1)), am_SH, ((t10, e5.2).2, g))) (hZ9 _ (Option.some.inj h).symm) (am_Ev.ret hcd rfl)
          have hLt10 : ∀ tt, tt = t10 → am_Ev sc (d + 2) 57 (69, [], [.int tt], am_SH, (e5.2, g)) ((some (.int r.1)), am_SH, (r.2, g)) := fun tt htt => by subst htt; exact hKt10
          have h := ht10
          refine am_Ev.go hcd 1 (s' := (65, [(0, .ref 143), (1, .ref 39), (2, .int a0), (3, .int e5.1), (4, .int s6), (5, .int t7), (6, .int t8), (7, .int s9)], [.int a0], am_SH, (e5.2, g))) rfl ?_
          rcases am_itv h with ⟨c65, h⟩ | ⟨c65, h⟩
          · refine am_Ev.t hcd (c := a0 = 0) (s1 := (66, [(0, .ref 143), (1, .ref 39), (2, .int a0), (3, .int e5.1), (4, .int s6), (5, .int t7), (6, .int t8), (7, .int s9)], [], am_SH, (e5.2, g))) rfl c65 ?_
            refine am_Ev.go hcd 2 (s' := (69, [(0, .ref 143), (1, .ref 39), (2, .int a0), (3, .int e5.1), (4, .int s6), (5, .int t7), (6, .int t8), (7, .int s9)], [.int s6], am_SH, (e5.2, g))) rfl ?_
            exact am_Ev.weak' (hLt10 s6 h.symm) am_sub_nil rfl
          · refine am_Ev.f hcd (c := a0 = 0) (s1 := (68, [(0, .ref 143), (1, .ref 39), (2, .int a0), (3, .int e5.1), (4, .int s6), (5, .int t7), (6, .int t8), (7, .int s9)], [], am_SH, (e5.2, g))) rfl c65 ?_
            refine am_Ev.go hcd 1 (s' := (69, [(0, .ref 143), (1, .ref 39), (2, .int a0), (3, .int e5.1), (4, .int s6), (5, .int t7), (6, .int t8), (7, .int s9)], [.int s9], am_SH, (e5.2, g))) rfl ?_
            exact am_Ev.weak' (hLt10 s9 h.symm) am_sub_nil rfl
        · refine am_Ev.f hcd (c := ((e5.2 150 s9.toNatClampNeg) ^^^ (e5.2 150 (t7 - s9).toNatClampNeg)) = t8) (s1 := (70, [(0, .ref 143), (1, .ref 39), (2, .int a0), (3, .int e5.1), (4, .int s6), (5, .int t7), (6, .int t8), (7, .int s9)], [], am_SH, (e5.2, g))) rfl c56 ?_
          obtain ⟨t11, Et11, h⟩ := am_let_eq h
          refine am_Ev.go hcd 1 (s' := (71, [(0, .ref 143), (1, .ref 39), (2, .int a0), (3, .int e5.1), (4, .int s6), (5, .int t7), (6, .int t8), (7, .int t11)], [], am_SH, (e5.2, g))) (by subst Et11; exact rfl) ?_
          refine am_Ev.go hcd 1 (s' := (46, [(0, .ref 143), (1, .ref 39), (2, .int a0), (3, .int e5.1), (4, .int s6), (5, .int t7), (6, .int t8), (7, .int t11)], [], am_SH, (e5.2, g))) rfl ?_
          exact am_Ev.weak' (hI9 t11 (Option.some.inj h).symm) (am_sub_cons rfl (am_sub_cons rfl (am_sub_cons rfl (am_sub_cons rfl (am_sub_cons rfl (am_sub_cons rfl (am_sub_cons rfl (am_sub_cons rfl am_sub_nil)))))))) rfl
      · refine am_Ev.f hcd (c := (2 * s9) < t7) (s1 := (72, [(0, .ref 143), (1, .ref 39), (2, .int a0), (3, .int e5.1), (4, .int s6), (5, .int t7), (6, .int t8), (7, .int s9)], [], am_SH, (e5.2, g))) rfl c47 ?_
        exact am_Ev.weak' (hZ9 (.inr ()) (Option.some.inj h).symm) (am_sub_cons rfl (am_sub_cons rfl (am_sub_cons rfl (am_sub_cons rfl (am_sub_cons rfl am_sub_nil))))) rfl
    · refine am_Ev.f hcd (c := s6 < e5.2 39 0) (s1 := (74, [(0, .ref 143), (1, .ref 39), (2, .int a0), (3, .int e5.1), (4, .int s6)], [], am_SH, (e5.2, g))) rfl c19 ?_
      exact am_Ev.weak' (hZ6 (.inr ()) (Option.some.inj h).symm) am_sub_nil rfl
  refine am_Ev.weak' (am_loop_ok (G := fun (s1 : Int32 × Int32 × (Nat → Nat → Int32)) => am_Ev sc (d + 2) 57 (4, [(0, .ref 143), (1, .ref 39), (2, .int a0), (3, .int s1.1), (4, .int s1.2.1)], [], am_SH, (s1.2.2, g)) ((some (.int r.1)), am_SH, (r.2, g))) (Z := fun (e5 : Int32 × (Nat → Nat → Int32)) => am_Ev sc (d + 2) 57 (26, [(0, .ref 143), (1, .ref 39), (2, .int a0), (3, .int e5.1)], [], am_SH, (e5.2, g)) ((some (.int r.1)), am_SH, (r.2, g))) ?_ am_F (0, 0, f) e5 he5 hK1) (am_sub_cons rfl (am_sub_cons rfl (am_sub_cons rfl (am_sub_cons rfl (am_sub_cons rfl am_sub_nil))))) rfl
  intro s1 q1 h hI1 hZ1
  show am_Ev sc (d + 2) 57 (4, [(0, .ref 143), (1, .ref 39), (2, .int a0), (3, .int s1.1), (4, .int s1.2.1)], [], am_SH, (s1.2.2, g)) ((some (.int r.1)), am_SH, (r.2, g))
  refine am_Ev.go hcd 3 (s' := (7, [(0, .ref 143), (1, .ref 39), (2, .int a0), (3, .int s1.1), (4, .int s1.2.1)], [.int (s1.2.2 39 0), .int s1.2.1], am_SH, (s1.2.2, g))) rfl ?_
  rcases am_ite h with ⟨c85, h⟩ | ⟨c85, h⟩
  · refine am_Ev.t hcd (c := s1.2.1 < s1.2.2 39 0) (s1 := (8, [(0, .ref 143), (1, .ref 39), (2, .int a0), (3, .int s1.1), (4, .int s1.2.1)], [], am_SH, (s1.2.2, g))) rfl c85 ?_
    refine am_Ev.go hcd 4 (s' := (12, [(0, .ref 143), (1, .ref 39), (2, .int a0), (3, .int s1.1), (4, .int s1.2.1)], [.int s1.2.1, .ref 40, .ref 143], am_SH, (s1.2.2, g))) rfl ?_
    obtain ⟨c88, h⟩ := am_grd h
    refine am_Ev.t hcd (o := none) (c := am_in s1.2.1 4 = true) (s1 := (13, [(0, .ref 143), (1, .ref 39), (2, .int a0), (3, .int s1.1), (4, .int s1.2.1)], [.int (s1.2.2 40 s1.2.1.toNatClampNeg), .ref 143], am_SH, (s1.2.2, g))) rfl c88 ?_
    obtain ⟨p2, hp2, h⟩ := am_bind_some h
    refine am_Ev.call hcd (a := 58) (s0 := (0, [(0, .ref 143), (1, .int (s1.2.2 40 s1.2.1.toNatClampNeg))], [], am_SH, (s1.2.2, g))) (q := (none, am_SH, (p2, g))) (s1 := (14, [(0, .ref 143), (1, .ref 39), (2, .int a0), (3, .int s1.1), (4, .int s1.2.1)], [], am_SH, (p2, g))) rfl rfl (xm_learnNimbers_ok (d) (s1.2.2 40 s1.2.1.toNatClampNeg) s1.2.2 g p2 hp2) ?_
    refine am_Ev.go hcd 6 (s' := (20, [(0, .ref 143), (1, .ref 39), (2, .int a0), (3, .int s1.1), (4, .int s1.2.1)], [.int s1.2.1, .ref 40, .ref 150, .int s1.1], am_SH, (p2, g))) rfl ?_
    obtain ⟨c93, h⟩ := am_grd h
    refine am_Ev.t hcd (o := none) (c := am_in s1.2.1 4 = true) (s1 := (21, [(0, .ref 143), (1, .ref 39), (2, .int a0), (3, .int s1.1), (4, .int s1.2.1)], [.int (p2 40 s1.2.1.toNatClampNeg), .ref 150, .int s1.1], am_SH, (p2, g))) rfl c93 ?_
    obtain ⟨c96, h⟩ := am_grd h
    refine am_Ev.t hcd (o := none) (c := am_in (p2 40 s1.2.1.toNatClampNeg) 41 = true) (s1 := (22, [(0, .ref 143), (1, .ref 39), (2, .int a0), (3, .int s1.1), (4, .int s1.2.1)], [.int (p2 150 (p2 40 s1.2.1.toNatClampNeg).toNatClampNeg), .int s1.1], am_SH, (p2, g))) rfl c96 ?_
    obtain ⟨t3, Et3, h⟩ := am_let_eq h
    refine am_Ev.go hcd 2 (s' := (24, [(0, .ref 143), (1, .ref 39), (2, .int a0), (3, .int t3), (4, .int s1.2.1)], [], am_SH, (p2, g))) (by subst Et3; exact rfl) ?_
    obtain ⟨t4, Et4, h⟩ := am_let_eq h
    refine am_Ev.go hcd 1 (s' := (25, [(0, .ref 143), (1, .ref 39), (2, .int a0), (3, .int t3), (4, .int t4)], [], am_SH, (p2, g))) (by subst Et4; exact rfl) ?_
    refine am_Ev.go hcd 1 (s' := (4, [(0, .ref 143), (1, .ref 39), (2, .int a0), (3, .int t3), (4, .int t4)], [], am_SH, (p2, g))) rfl ?_
    exact am_Ev.weak' (hI1 (t3, t4, p2) (Option.some.inj h).symm) (am_sub_cons rfl (am_sub_cons rfl (am_sub_cons rfl (am_sub_cons rfl (am_sub_cons rfl am_sub_nil))))) rfl
  · refine am_Ev.f hcd (c := s1.2.1 < s1.2.2 39 0) (s1 := (26, [(0, .ref 143), (1, .ref 39), (2, .int a0), (3, .int s1.1), (4, .int s1.2.1)], [], am_SH, (s1.2.2, g))) rfl c85 ?_
    exact am_Ev.weak' (hZ1 (s1.1, s1.2.2) (Option.some.inj h).symm) (am_sub_cons rfl (am_sub_cons rfl (am_sub_cons rfl (am_sub_cons rfl am_sub_nil)))) rfl
set_option maxRecDepth 100000 in
set_option maxHeartbeats 4000000 in
theorem x_coals_ok {sc : Nat × (Nat → Int32)} (d : Nat) (a0 : Int32) (f g : (Nat → Nat → Int32)) (r : Int32 × (Nat → Nat → Int32)) (h : x_coals a0 f = some r) : am_Ev sc (d + 3) 154 (0, [(0, .ref 0), (1, .int a0)], [], am_SH, (f, g)) ((some (.int r.1)), am_SH, (r.2, g)) := by
  have hcd : am_code 154 = am_c154 := rfl
  unfold x_coals at h
  refine am_Ev.go hcd 3 (s' := (3, [(0, .ref 0), (1, .int a0)], [.int 1, .int 0, .int a0], am_SH, (f, g))) rfl ?_
  refine am_Ev.call hcd (a := 170) (s0 := (0, [(0, .int a0), (1, .int 0), (2, .int 1)], [], am_SH, (f, g))) (q := ((some (.int (am_b (x_within a0 0 1)))), am_SH, (f, g))) (s1 := (4, [(0, .ref 0), (1, .int a0)], [.int (am_b (x_within a0 0 1))], am_SH, (f, g))) rfl rfl (x_within_ok (d + 2) a0 0 1 (f, g)) ?_
  rcases am_ite h with ⟨c4, h⟩ | ⟨c4, h⟩
  · refine am_Ev.f hcd (c := am_b (x_within a0 0 1) = 0) (s1 := (5, [(0, .ref 0), (1, .int a0)], [], am_SH, (f, g))) rfl (am_b_t c4) ?_
    refine am_Ev.go hcd 6 (s' := (11, [(0, .ref 0), (1, .int a0)], [.int a0, .ref 39, .ref 143], am_SH, (f, g))) rfl ?_
    obtain ⟨p2, hp2, h⟩ := am_bind_some h
    refine am_Ev.call hcd (a := 57) (s0 := (0, [(0, .ref 143), (1, .ref 39), (2, .int a0)], [], am_SH, (f, g))) (q := ((some (.int p2.1)), am_SH, (p2.2, g))) (s1 := (12, [(0, .ref 0), (1, .int a0)], [.int p2.1], am_SH, (p2.2, g))) rfl rfl (xm_winningPart_39_ok (d) a0 f g p2 hp2) ?_
    refine am_Ev.go hcd 1 (s' := (14, [(0, .ref 0), (1, .int a0)], [.int p2.1], am_SH, (p2.2, g))) rfl ?_
    exact am_Ev.cast (a := ((some (.int (p2.1, p2.2).1)), am_SH, ((p2.1, p2.2).2, g))) (by cases h; rfl) (am_Ev.ret hcd rfl)
  · refine am_Ev.t hcd (c := am_b (x_within a0 0 1) = 0) (s1 := (13, [(0, .ref 0), (1, .int a0)], [], am_SH, (f, g))) rfl (am_b_f c4) ?_
    refine am_Ev.go hcd 1 (s' := (14, [(0, .ref 0), (1, .int a0)], [.int (-1)], am_SH, (f, g))) rfl ?_
    exact am_Ev.cast (a := ((some (.int ((-1), f).1)), am_SH, (((-1), f).2, g))) (by cases h; rfl) (am_Ev.ret hcd rfl)
set_option maxRecDepth 100000 in
set_option maxHeartbeats 4000000 in
theorem xr_clearAll_42_ok {sc : Nat × (Nat → Int32)} (d : Nat)  (f g : (Nat → Nat → Int32)) : am_Ev sc (d) 86 (0, [(0, .ref 42)], [], am_SH, (f, g)) ((some (.int (xr_clearAll_42  f).1)), am_SH, ((xr_clearAll_42  f).2, g)) := by
  have hcd : am_code 86 = am_c86 := rfl
  obtain ⟨r, h⟩ : ∃ r, r = xr_clearAll_42  f := ⟨_, rfl⟩
  rw [← h]
  unfold xr_clearAll_42 at h
  obtain ⟨f1, Ef1, h⟩ := am_let_eq' h
  refine am_Ev.go hcd 3 (s' := (3, [(0, .ref 42)], [], am_SH, (f1, g))) (by subst Ef1; exact rfl) ?_
  refine am_Ev.go hcd 2 (s' := (5, [(0, .ref 42)], [.int (f1 42 0)], am_SH, (f1, g))) rfl ?_
  exact am_Ev.cast (a := ((some (.int (f1 42 0, f1).1)), am_SH, ((f1 42 0, f1).2, g))) (by subst h; rfl) (am_Ev.ret hcd rfl)
set_option maxRecDepth 100000 in
set_option maxHeartbeats 4000000 in
theorem xr_append_42_ok {sc : Nat × (Nat → Int32)} (d : Nat) (a0 : Int32) (a1 : Int32) (f g : (Nat → Nat → Int32)) (r : Int32 × (Nat → Nat → Int32)) (h : xr_append_42 a0 a1 f = some r) : am_Ev sc (d) 85 (0, [(0, .ref 42), (1, .int a0), (2, .int a1)], [], am_SH, (f, g)) ((some (.int r.1)), am_SH, (r.2, g)) := by
  have hcd : am_code 85 = am_c85 := rfl
  unfold xr_append_42 at h
  refine am_Ev.go hcd 5 (s' := (5, [(0, .ref 42), (1, .int a0), (2, .int a1)], [.int (nI 8), .int (f 42 0)], am_SH, (f, g))) rfl ?_
  rcases am_ite h with ⟨c2, h⟩ | ⟨c2, h⟩
  · refine am_Ev.t hcd (c := f 42 0 < (nI 8)) (s1 := (8, [(0, .ref 42), (1, .int a0), (2, .int a1)], [], am_SH, (f, g))) rfl c2 ?_
    refine am_Ev.go hcd 5 (s' := (13, [(0, .ref 42), (1, .int a0), (2, .int a1)], [.int a0, .int (f 42 0), .ref 43], am_SH, (f, g))) rfl ?_
    obtain ⟨c5, h⟩ := am_grd h
    obtain ⟨f1, Ef1, h⟩ := am_let_eq h
    refine am_Ev.t hcd (o := none) (c := am_in (f 42 0) 8 = true) (s1 := (14, [(0, .ref 42), (1, .int a0), (2, .int a1)], [], am_SH, (f1, g))) (by subst Ef1; exact rfl) c5 ?_
    refine am_Ev.go hcd 5 (s' := (19, [(0, .ref 42), (1, .int a0), (2, .int a1)], [.int a1, .int (f1 42 0), .ref 44], am_SH, (f1, g))) rfl ?_
    obtain ⟨c9, h⟩ := am_grd h
    obtain ⟨f2, Ef2, h⟩ := am_let_eq h
    refine am_Ev.t hcd (o := none) (c := am_in (f1 42 0) 8 = true) (s1 := (20, [(0, .ref 42), (1, .int a0), (2, .int a1)], [], am_SH, (f2, g))) (by subst Ef2; exact rfl) c9 ?_
    obtain ⟨f3, Ef3, h⟩ := am_let_eq h
    refine am_Ev.go hcd 6 (s' := (26, [(0, .ref 42), (1, .int a0), (2, .int a1)], [], am_SH, (f3, g))) (by subst Ef3; exact rfl) ?_
    refine am_Ev.go hcd 2 (s' := (28, [(0, .ref 42), (1, .int a0), (2, .int a1)], [.int (f3 42 0)], am_SH, (f3, g))) rfl ?_
    exact am_Ev.cast (a := ((some (.int (f3 42 0, f3).1)), am_SH, ((f3 42 0, f3).2, g))) (by cases h; rfl) (am_Ev.ret hcd rfl)
  · refine am_Ev.f hcd (c := f 42 0 < (nI 8)) (s1 := (6, [(0, .ref 42), (1, .int a0), (2, .int a1)], [], am_SH, (f, g))) rfl c2 ?_
    refine am_Ev.go hcd 1 (s' := (7, [(0, .ref 42), (1, .int a0), (2, .int a1)], [.int (-1)], am_SH, (f, g))) rfl ?_
    exact am_Ev.cast (a := ((some (.int ((-1), f).1)), am_SH, (((-1), f).2, g))) (by cases h; rfl) (am_Ev.ret hcd rfl)
set_option maxRecDepth 100000 in
set_option maxHeartbeats 4000000 in
theorem x_shown_ok {sc : Nat × (Nat → Int32)} (d : Nat) (a0 : Int32) (f g : (Nat → Nat → Int32)) (r : Int32 × (Nat → Nat → Int32)) (h : x_shown a0 f = some r) : am_Ev sc (d + 1) 155 (0, [(0, .ref 0), (1, .int a0)], [], am_SH, (f, g)) ((some (.int r.1)), am_SH, (r.2, g)) := by
  have hcd : am_code 155 = am_c155 := rfl
  unfold x_shown at h
  refine am_Ev.go hcd 2 (s' := (2, [(0, .ref 0), (1, .int a0)], [.int (-1), .int a0], am_SH, (f, g))) rfl ?_
  rcases am_ite h with ⟨c2, h⟩ | ⟨c2, h⟩
  · refine am_Ev.t hcd (c := a0 = (-1)) (s1 := (3, [(0, .ref 0), (1, .int a0)], [], am_SH, (f, g))) rfl c2 ?_
    refine am_Ev.go hcd 3 (s' := (6, [(0, .ref 0), (1, .int a0)], [.ref 42], am_SH, (f, g))) rfl ?_
    obtain ⟨p1, Ep1, h⟩ := am_let_eq h
    refine am_Ev.call hcd (a := 86) (s0 := (0, [(0, .ref 42)], [], am_SH, (f, g))) (q := ((some (.int p1.1)), am_SH, (p1.2, g))) (s1 := (7, [(0, .ref 0), (1, .int a0)], [.int p1.1], am_SH, (p1.2, g))) rfl rfl (by subst Ep1; exact xr_clearAll_42_ok (d)  f g) ?_
    exact am_Ev.cast (a := ((some (.int (p1.1, p1.2).1)), am_SH, ((p1.1, p1.2).2, g))) (by cases h; rfl) (am_Ev.ret hcd rfl)
  · refine am_Ev.f hcd (c := a0 = (-1)) (s1 := (8, [(0, .ref 0), (1, .int a0)], [], am_SH, (f, g))) rfl c2 ?_
    refine am_Ev.go hcd 3 (s' := (11, [(0, .ref 0), (1, .int a0)], [.int 65535, .int 0, .int a0], am_SH, (f, g))) rfl ?_
    refine am_Ev.call hcd (a := 170) (s0 := (0, [(0, .int a0), (1, .int 0), (2, .int 65535)], [], am_SH, (f, g))) (q := ((some (.int (am_b (x_within a0 0 65535)))), am_SH, (f, g))) (s1 := (12, [(0, .ref 0), (1, .int a0)], [.int (am_b (x_within a0 0 65535))], am_SH, (f, g))) rfl rfl (x_within_ok (d) a0 0 65535 (f, g)) ?_
    rcases am_ite h with ⟨c12, h⟩ | ⟨c12, h⟩
    · refine am_Ev.f hcd (c := am_b (x_within a0 0 65535) = 0) (s1 := (13, [(0, .ref 0), (1, .int a0)], [], am_SH, (f, g))) rfl (am_b_t c12) ?_
      refine am_Ev.go hcd 5 (s' := (18, [(0, .ref 0), (1, .int a0)], [.int 0, .int a0, .ref 42], am_SH, (f, g))) rfl ?_
      obtain ⟨p3, hp3, h⟩ := am_bind_some h
      refine am_Ev.call hcd (a := 85) (s0 := (0, [(0, .ref 42), (1, .int a0), (2, .int 0)], [], am_SH, (f, g))) (q := ((some (.int p3.1)), am_SH, (p3.2, g))) (s1 := (19, [(0, .ref 0), (1, .int a0)], [.int p3.1], am_SH, (p3.2, g))) rfl rfl (xr_append_42_ok (d) a0 0 f g p3 hp3) ?_
      refine am_Ev.go hcd 1 (s' := (21, [(0, .ref 0), (1, .int a0)], [.int p3.1], am_SH, (p3.2, g))) rfl ?_
      exact am_Ev.cast (a := ((some (.int (p3.1, p3.2).1)), am_SH, ((p3.1, p3.2).2, g))) (by cases h; rfl) (am_Ev.ret hcd rfl)
    · refine am_Ev.t hcd (c := am_b (x_within a0 0 65535) = 0) (s1 := (20, [(0, .ref 0), (1, .int a0)], [], am_SH, (f, g))) rfl (am_b_f c12) ?_
      refine am_Ev.go hcd 1 (s' := (21, [(0, .ref 0), (1, .int a0)], [.int (-1)], am_SH, (f, g))) rfl ?_
      exact am_Ev.cast (a := ((some (.int ((-1), f).1)), am_SH, (((-1), f).2, g))) (by cases h; rfl) (am_Ev.ret hcd rfl)
set_option maxRecDepth 100000 in
set_option maxHeartbeats 4000000 in
theorem xm_rank_42_ok {sc : Nat × (Nat → Int32)} (d : Nat)  (f g : (Nat → Nat → Int32)) (r : Int32 × (Nat → Nat → Int32)) (h : xm_rank_42  f = some r) : am_Ev sc (d) 59 (0, [(0, .ref 143), (1, .ref 42)], [], am_SH, (f, g)) ((some (.int r.1)), am_SH, (r.2, g)) := by
  have hcd : am_code 59 = am_c59 := rfl
  unfold xm_rank_42 at h
  refine am_Ev.go hcd 2 (s' := (2, [(0, .ref 143), (1, .ref 42), (2, .int 0)], [], am_SH, (f, g))) rfl ?_
  obtain ⟨e4, he4, h⟩ := am_bind_some h
  have hK1 : (fun (e4 : (Nat → Nat → Int32)) => am_Ev sc (d) 59 (14, [(0, .ref 143), (1, .ref 42)], [], am_SH, (e4, g)) ((some (.int r.1)), am_SH, (r.2, g))) e4 := by
    show am_Ev sc (d) 59 (14, [(0, .ref 143), (1, .ref 42)], [], am_SH, (e4, g)) ((some (.int r.1)), am_SH, (r.2, g))
    refine am_Ev.go hcd 4 (s' := (18, [(0, .ref 143), (1, .ref 42), (2, .int 0), (3, .int 0)], [], am_SH, (e4, g))) rfl ?_
    refine am_Ev.weak' (am_loop_ok (G := fun (s5 : Int32 × Int32 × (Nat → Nat → Int32)) => am_Ev sc (d) 59 (18, [(0, .ref 143), (1, .ref 42), (2, .int s5.1), (3, .int s5.2.1)], [], am_SH, (s5.2.2, g)) ((some (.int r.1)), am_SH, (r.2, g))) (Z := fun (v : Int32 × (Nat → Nat → Int32)) => (((some (.int v.1)), am_SH, (v.2, g)) : am_R) = ((some (.int r.1)), am_SH, (r.2, g))) ?_ am_F (0, 0, e4) r h rfl) (am_sub_cons rfl (am_sub_cons rfl (am_sub_cons rfl (am_sub_cons rfl am_sub_nil)))) rfl
    intro s5 q5 h hI5 hZ5
    show am_Ev sc (d) 59 (18, [(0, .ref 143), (1, .ref 42), (2, .int s5.1), (3, .int s5.2.1)], [], am_SH, (s5.2.2, g)) ((some (.int r.1)), am_SH, (r.2, g))
    refine am_Ev.go hcd 3 (s' := (21, [(0, .ref 143), (1, .ref 42), (2, .int s5.1), (3, .int s5.2.1)], [.int (s5.2.2 42 0), .int s5.2.1], am_SH, (s5.2.2, g))) rfl ?_
    rcases am_ite h with ⟨c10, h⟩ | ⟨c10, h⟩
    · refine am_Ev.t hcd (c := s5.2.1 < s5.2.2 42 0) (s1 := (22, [(0, .ref 143), (1, .ref 42), (2, .int s5.1), (3, .int s5.2.1)], [], am_SH, (s5.2.2, g))) rfl c10 ?_
      refine am_Ev.go hcd 3 (s' := (25, [(0, .ref 143), (1, .ref 42), (2, .int s5.1), (3, .int s5.2.1)], [.int s5.2.1, .ref 43], am_SH, (s5.2.2, g))) rfl ?_
      obtain ⟨c13, h⟩ := am_grd h
      refine am_Ev.t hcd (o := none) (c := am_in s5.2.1 8 = true) (s1 := (26, [(0, .ref 143), (1, .ref 42), (2, .int s5.1), (3, .int s5.2.1)], [.int (s5.2.2 43 s5.2.1.toNatClampNeg)], am_SH, (s5.2.2, g))) rfl c13 ?_
      obtain ⟨t6, Et6, h⟩ := am_let_eq h
      refine am_Ev.go hcd 1 (s' := (27, [(0, .ref 143), (1, .ref 42), (2, .int s5.1), (3, .int s5.2.1), (4, .int t6)], [], am_SH, (s5.2.2, g))) (by subst Et6; exact rfl) ?_
      obtain ⟨t7, Et7, h⟩ := am_let_eq h
      refine am_Ev.go hcd 6 (s' := (33, [(0, .ref 143), (1, .ref 42), (2, .int s5.1), (3, .int s5.2.1), (4, .int t6), (5, .int t7)], [], am_SH, (s5.2.2, g))) (by subst Et7; exact rfl) ?_
      obtain ⟨e14, he14, h⟩ := am_bind_some h
      have hK8 : (fun (e14 : Int32 × (Nat → Nat → Int32)) => am_Ev sc (d) 59 (67, [(0, .ref 143), (1, .ref 42), (2, .int e14.1), (3, .int s5.2.1)], [], am_SH, (e14.2, g)) ((some (.int r.1)), am_SH, (r.2, g))) e14 := by
        show am_Ev sc (d) 59 (67, [(0, .ref 143), (1, .ref 42), (2, .int e14.1), (3, .int s5.2.1)], [], am_SH, (e14.2, g)) ((some (.int r.1)), am_SH, (r.2, g))
        obtain ⟨t15, Et15, h⟩ := am_let_eq h
        refine am_Ev.go hcd 1 (s' := (68, [(0, .ref 143), (1, .ref 42), (2, .int e14.1), (3, .int t15)], [], am_SH, (e14.2, g))) (by subst Et15; exact rfl) ?_
        refine am_Ev.go hcd 1 (s' := (18, [(0, .ref 143), (1, .ref 42), (2, .int e14.1), (3, .int t15)], [], am_SH, (e14.2, g))) rfl ?_
        exact am_Ev.weak' (hI5 (e14.1, t15, e14.2) (Option.some.inj h).symm) (am_sub_cons rfl (am_sub_cons rfl (am_sub_cons rfl (am_sub_cons rfl am_sub_nil)))) rfl
      refine am_Ev.weak' (am_loop_ok (G := fun (s8 : Int32 × Int32 × Int32 × (Nat → Nat → Int32)) => am_Ev sc (d) 59 (33, [(0, .ref 143), (1, .ref 42), (2, .int s8.1), (3, .int s5.2.1), (4, .int s8.2.1), (5, .int s8.2.2.1)], [], am_SH, (s8.2.2.2, g)) ((some (.int r.1)), am_SH, (r.2, g))) (Z := fun (e14 : Int32 × (Nat → Nat → Int32)) => am_Ev sc (d) 59 (67, [(0, .ref 143), (1, .ref 42), (2, .int e14.1), (3, .int s5.2.1)], [], am_SH, (e14.2, g)) ((some (.int r.1)), am_SH, (r.2, g))) ?_ am_F (s5.1, t6, t7, s5.2.2) e14 he14 hK8) (am_sub_cons rfl (am_sub_cons rfl (am_sub_cons rfl (am_sub_cons rfl (am_sub_cons rfl (am_sub_cons rfl am_sub_nil)))))) rfl
      intro s8 q8 h hI8 hZ8
      show am_Ev sc (d) 59 (33, [(0, .ref 143), (1, .ref 42), (2, .int s8.1), (3, .int s5.2.1), (4, .int s8.2.1), (5, .int s8.2.2.1)], [], am_SH, (s8.2.2.2, g)) ((some (.int r.1)), am_SH, (r.2, g))
      refine am_Ev.go hcd 1 (s' := (34, [(0, .ref 143), (1, .ref 42), (2, .int s8.1), (3, .int s5.2.1), (4, .int s8.2.1), (5, .int s8.2.2.1)], [.int s8.2.2.1], am_SH, (s8.2.2.2, g))) rfl ?_
      rcases am_ite h with ⟨c30, h⟩ | ⟨c30, h⟩
      · refine am_Ev.t hcd (c := s8.2.2.1 < 0) (s1 := (67, [(0, .ref 143), (1, .ref 42), (2, .int s8.1), (3, .int s5.2.1), (4, .int s8.2.1), (5, .int s8.2.2.1)], [], am_SH, (s8.2.2.2, g))) rfl c30 ?_
        exact am_Ev.weak' (hZ8 (s8.1, s8.2.2.2) (Option.some.inj h).symm) (am_sub_cons rfl (am_sub_cons rfl (am_sub_cons rfl (am_sub_cons rfl am_sub_nil)))) rfl
      · refine am_Ev.f hcd (c := s8.2.2.1 < 0) (s1 := (35, [(0, .ref 143), (1, .ref 42), (2, .int s8.1), (3, .int s5.2.1), (4, .int s8.2.1), (5, .int s8.2.2.1)], [], am_SH, (s8.2.2.2, g))) rfl c30 ?_
        refine am_Ev.go hcd 1 (s' := (36, [(0, .ref 143), (1, .ref 42), (2, .int s8.1), (3, .int s5.2.1), (4, .int s8.2.1), (5, .int s8.2.2.1)], [.int s8.2.1], am_SH, (s8.2.2.2, g))) rfl ?_
        rcases am_ite h with ⟨c35, h⟩ | ⟨c35, h⟩
        · refine am_Ev.t hcd (c := s8.2.1 = 0) (s1 := (67, [(0, .ref 143), (1, .ref 42), (2, .int s8.1), (3, .int s5.2.1), (4, .int s8.2.1), (5, .int s8.2.2.1)], [], am_SH, (s8.2.2.2, g))) rfl c35 ?_
          exact am_Ev.weak' (hZ8 (s8.1, s8.2.2.2) (Option.some.inj h).symm) (am_sub_cons rfl (am_sub_cons rfl (am_sub_cons rfl (am_sub_cons rfl am_sub_nil)))) rfl
        · refine am_Ev.f hcd (c := s8.2.1 = 0) (s1 := (37, [(0, .ref 143), (1, .ref 42), (2, .int s8.1), (3, .int s5.2.1), (4, .int s8.2.1), (5, .int s8.2.2.1)], [], am_SH, (s8.2.2.2, g))) rfl c35 ?_
          obtain ⟨t12, ht12, kt12⟩ := am_bind_some h
          have hKt12 : am_Ev sc (d) 59 (65, [(0, .ref 143), (1, .ref 42), (2, .int t12.1), (3, .int s5.2.1), (4, .int t12.2.1), (5, .int s8.2.2.1)], [], am_SH, (t12.2.2, g)) ((some (.int r.1)), am_SH, (r.2, g)) := by
            have h := kt12
            obtain ⟨t13, Et13, h⟩ := am_let_eq h
            refine am_Ev.go hcd 1 (s' := (66, [(0, .ref 143), (1, .ref 42), (2, .int t12.1), (3, .int s5.2.1), (4, .int t12.2.1), (5, .int t13)], [], am_SH, (t12.2.2, g))) (by subst Et13; exact rfl) ?_
            refine am_Ev.go hcd 1 (s' := (33, [(0, .ref 143), (1, .ref 42), (2, .int t12.1), (3, .int s5.2.1), (4, .int t12.2.1), (5, .int t13)], [], am_SH, (t12.2.2, g))) rfl ?_
            exact am_Ev.weak' (hI8 (t12.1, t12.2.1, t13, t12.2.2) (Option.some.inj h).symm) (am_sub_cons rfl (am_sub_cons rfl (am_sub_cons rfl (am_sub_cons rfl (am_sub_cons rfl (am_sub_cons rfl am_sub_nil)))))) rfl
          have hLt12 : ∀ tt, tt = t12 → am_Ev sc (d) 59 (65, [(0, .ref 143), (1, .ref 42), (2, .int tt.1), (3, .int s5.2.1), (4, .int tt.2.1), (5, .int s8.2.2.1)], [], am_SH, (tt.2.2, g)) ((some (.int r.1)), am_SH, (r.2, g)) := fun tt htt => by subst htt; exact hKt12
          have h := ht12
          refine am_Ev.go hcd 5 (s' := (42, [(0, .ref 143), (1, .ref 42), (2, .int s8.1), (3, .int s5.2.1), (4, .int s8.2.1), (5, .int s8.2.2.1)], [.int ((s8.2.1 >>> (s8.2.2.1 &&& 31)) &&& 1)], am_SH, (s8.2.2.2, g))) rfl ?_
          rcases am_ite h with ⟨c49, h⟩ | ⟨c49, h⟩
          · refine am_Ev.t hcd (c := ((s8.2.1 >>> (s8.2.2.1 &&& 31)) &&& 1) = 0) (s1 := (43, [(0, .ref 143), (1, .ref 42), (2, .int s8.1), (3, .int s5.2.1), (4, .int s8.2.1), (5, .int s8.2.2.1)], [], am_SH, (s8.2.2.2, g))) rfl c49 ?_
            refine am_Ev.go hcd 1 (s' := (65, [(0, .ref 143), (1, .ref 42), (2, .int s8.1), (3, .int s5.2.1), (4, .int s8.2.1), (5, .int s8.2.2.1)], [], am_SH, (s8.2.2.2, g))) rfl ?_
            exact am_Ev.weak' (hLt12 (s8.1, s8.2.1, s8.2.2.2) (Option.some.inj h)) (am_sub_cons rfl (am_sub_cons rfl (am_sub_cons rfl (am_sub_cons rfl (am_sub_cons rfl (am_sub_cons rfl am_sub_nil)))))) rfl
          · refine am_Ev.f hcd (c := ((s8.2.1 >>> (s8.2.2.1 &&& 31)) &&& 1) = 0) (s1 := (44, [(0, .ref 143), (1, .ref 42), (2, .int s8.1), (3, .int s5.2.1), (4, .int s8.2.1), (5, .int s8.2.2.1)], [], am_SH, (s8.2.2.2, g))) rfl c49 ?_
            refine am_Ev.go hcd 3 (s' := (47, [(0, .ref 143), (1, .ref 42), (2, .int s8.1), (3, .int s5.2.1), (4, .int s8.2.1), (5, .int s8.2.2.1)], [.int s8.2.2.1, .ref 151], am_SH, (s8.2.2.2, g))) rfl ?_
            obtain ⟨c55, h⟩ := am_grd h
            refine am_Ev.t hcd (o := none) (c := am_in s8.2.2.1 16 = true) (s1 := (48, [(0, .ref 143), (1, .ref 42), (2, .int s8.1), (3, .int s5.2.1), (4, .int s8.2.1), (5, .int s8.2.2.1)], [.int (s8.2.2.2 151 s8.2.2.1.toNatClampNeg)], am_SH, (s8.2.2.2, g))) rfl c55 ?_
            rcases am_ite h with ⟨c58, h⟩ | ⟨c58, h⟩
            · refine am_Ev.t hcd (c := s8.2.2.2 151 s8.2.2.1.toNatClampNeg = 0) (s1 := (49, [(0, .ref 143), (1, .ref 42), (2, .int s8.1), (3, .int s5.2.1), (4, .int s8.2.1), (5, .int s8.2.2.1)], [], am_SH, (s8.2.2.2, g))) rfl c58 ?_
              refine am_Ev.go hcd 4 (s' := (53, [(0, .ref 143), (1, .ref 42), (2, .int s8.1), (3, .int s5.2.1), (4, .int s8.2.1), (5, .int s8.2.2.1)], [.int s8.2.1, .int s8.2.2.1, .ref 151], am_SH, (s8.2.2.2, g))) rfl ?_
              obtain ⟨c60, h⟩ := am_grd h
              obtain ⟨f9, Ef9, h⟩ := am_let_eq h
              refine am_Ev.t hcd (o := none) (c := am_in s8.2.2.1 16 = true) (s1 := (54, [(0, .ref 143), (1, .ref 42), (2, .int s8.1), (3, .int s5.2.1), (4, .int s8.2.1), (5, .int s8.2.2.1)], [], am_SH, (f9, g))) (by subst Ef9; exact rfl) c60 ?_
              obtain ⟨t10, Et10, h⟩ := am_let_eq h
              refine am_Ev.go hcd 1 (s' := (55, [(0, .ref 143), (1, .ref 42), (2, .int t10), (3, .int s5.2.1), (4, .int s8.2.1), (5, .int s8.2.2.1)], [], am_SH, (f9, g))) (by subst Et10; exact rfl) ?_
              refine am_Ev.go hcd 3 (s' := (65, [(0, .ref 143), (1, .ref 42), (2, .int t10), (3, .int s5.2.1), (4, .int 0), (5, .int s8.2.2.1)], [], am_SH, (f9, g))) rfl ?_
              exact am_Ev.weak' (hLt12 (t10, 0, f9) (Option.some.inj h)) (am_sub_cons rfl (am_sub_cons rfl (am_sub_cons rfl (am_sub_cons rfl (am_sub_cons rfl (am_sub_cons rfl am_sub_nil)))))) rfl
            · refine am_Ev.f hcd (c := s8.2.2.2 151 s8.2.2.1.toNatClampNeg = 0) (s1 := (58, [(0, .ref 143), (1, .ref 42), (2, .int s8.1), (3, .int s5.2.1), (4, .int s8.2.1), (5, .int s8.2.2.1)], [], am_SH, (s8.2.2.2, g))) rfl c58 ?_
              refine am_Ev.go hcd 4 (s' := (62, [(0, .ref 143), (1, .ref 42), (2, .int s8.1), (3, .int s5.2.1), (4, .int s8.2.1), (5, .int s8.2.2.1)], [.int s8.2.2.1, .ref 151, .int s8.2.1], am_SH, (s8.2.2.2, g))) rfl ?_
              obtain ⟨c69, h⟩ := am_grd h
              refine am_Ev.t hcd (o := none) (c := am_in s8.2.2.1 16 = true) (s1 := (63, [(0, .ref 143), (1, .ref 42), (2, .int s8.1), (3, .int s5.2.1), (4, .int s8.2.1), (5, .int s8.2.2.1)], [.int (s8.2.2.2 151 s8.2.2.1.toNatClampNeg), .int s8.2.1], am_SH, (s8.2.2.2, g))) rfl c69 ?_
              obtain ⟨t11, Et11, h⟩ := am_let_eq h
              refine am_Ev.go hcd 2 (s' := (65, [(0, .ref 143), (1, .ref 42), (2, .int s8.1), (3, .int s5.2.1), (4, .int t11), (5, .int s8.2.2.1)], [], am_SH, (s8.2.2.2, g))) (by subst Et11; exact rfl) ?_
              exact am_Ev.weak' (hLt12 (s8.1, t11, s8.2.2.2) (Option.some.inj h)) (am_sub_cons rfl (am_sub_cons rfl (am_sub_cons rfl (am_sub_cons rfl (am_sub_cons rfl (am_sub_cons rfl am_sub_nil)))))) rfl
    · refine am_Ev.f hcd (c := s5.2.1 < s5.2.2 42 0) (s1 := (69, [(0, .ref 143), (1, .ref 42), (2, .int s5.1), (3, .int s5.2.1)], [], am_SH, (s5.2.2, g))) rfl c10 ?_
      refine am_Ev.go hcd 1 (s' := (70, [(0, .ref 143), (1, .ref 42), (2, .int s5.1), (3, .int s5.2.1)], [.int s5.1], am_SH, (s5.2.2, g))) rfl ?_
      exact am_Ev.cast (a := ((some (.int (s5.1, s5.2.2).1)), am_SH, ((s5.1, s5.2.2).2, g))) (hZ5 _ (Option.some.inj h).symm) (am_Ev.ret hcd rfl)
  refine am_Ev.weak' (am_loop_ok (G := fun (s1 : Int32 × (Nat → Nat → Int32)) => am_Ev sc (d) 59 (2, [(0, .ref 143), (1, .ref 42), (2, .int s1.1)], [], am_SH, (s1.2, g)) ((some (.int r.1)), am_SH, (r.2, g))) (Z := fun (e4 : (Nat → Nat → Int32)) => am_Ev sc (d) 59 (14, [(0, .ref 143), (1, .ref 42)], [], am_SH, (e4, g)) ((some (.int r.1)), am_SH, (r.2, g))) ?_ am_F (0, f) e4 he4 hK1) (am_sub_cons rfl (am_sub_cons rfl (am_sub_cons rfl am_sub_nil))) rfl
  intro s1 q1 h hI1 hZ1
  show am_Ev sc (d) 59 (2, [(0, .ref 143), (1, .ref 42), (2, .int s1.1)], [], am_SH, (s1.2, g)) ((some (.int r.1)), am_SH, (r.2, g))
  refine am_Ev.go hcd 4 (s' := (6, [(0, .ref 143), (1, .ref 42), (2, .int s1.1)], [.int (nI 16), .int s1.1], am_SH, (s1.2, g))) rfl ?_
  rcases am_ite h with ⟨c81, h⟩ | ⟨c81, h⟩
  · refine am_Ev.t hcd (c := s1.1 < (nI 16)) (s1 := (7, [(0, .ref 143), (1, .ref 42), (2, .int s1.1)], [], am_SH, (s1.2, g))) rfl c81 ?_
    refine am_Ev.go hcd 4 (s' := (11, [(0, .ref 143), (1, .ref 42), (2, .int s1.1)], [.int 0, .int s1.1, .ref 151], am_SH, (s1.2, g))) rfl ?_
    obtain ⟨c84, h⟩ := am_grd h
    obtain ⟨f2, Ef2, h⟩ := am_let_eq h
    refine am_Ev.t hcd (o := none) (c := am_in s1.1 16 = true) (s1 := (12, [(0, .ref 143), (1, .ref 42), (2, .int s1.1)], [], am_SH, (f2, g))) (by subst Ef2; exact rfl) c84 ?_
    obtain ⟨t3, Et3, h⟩ := am_let_eq h
    refine am_Ev.go hcd 1 (s' := (13, [(0, .ref 143), (1, .ref 42), (2, .int t3)], [], am_SH, (f2, g))) (by subst Et3; exact rfl) ?_
    refine am_Ev.go hcd 1 (s' := (2, [(0, .ref 143), (1, .ref 42), (2, .int t3)], [], am_SH, (f2, g))) rfl ?_
    exact am_Ev.weak' (hI1 (t3, f2) (Option.some.inj h).symm) (am_sub_cons rfl (am_sub_cons rfl (am_sub_cons rfl am_sub_nil))) rfl
  · refine am_Ev.f hcd (c := s1.1 < (nI 16)) (s1 := (14, [(0, .ref 143), (1, .ref 42), (2, .int s1.1)], [], am_SH, (s1.2, g))) rfl c81 ?_
    exact am_Ev.weak' (hZ1 s1.2 (Option.some.inj h).symm) (am_sub_cons rfl (am_sub_cons rfl am_sub_nil)) rfl
set_option maxRecDepth 100000 in
set_option maxHeartbeats 4000000 in
theorem xm_fewestLaid_42_ok {sc : Nat × (Nat → Int32)} (d : Nat) (a0 : Int32) (f g : (Nat → Nat → Int32)) (r : Int32) (h : xm_fewestLaid_42 a0 f = some r) : am_Ev sc (d + 1) 60 (0, [(0, .ref 143), (1, .ref 42), (2, .int a0)], [], am_SH, (f, g)) ((some (.int r)), am_SH, (f, g)) := by
  have hcd : am_code 60 = am_c60 := rfl
  unfold xm_fewestLaid_42 at h
  refine am_Ev.go hcd 4 (s' := (4, [(0, .ref 143), (1, .ref 42), (2, .int a0), (3, .int (-1)), (4, .int 0)], [], am_SH, (f, g))) rfl ?_
  refine am_Ev.weak' (am_loop_ok (G := fun (s1 : Int32 × Int32) => am_Ev sc (d + 1) 60 (4, [(1, .ref 42), (2, .int a0), (3, .int s1.1), (4, .int s1.2)], [], am_SH, (f, g)) ((some (.int r)), am_SH, (f, g))) (Z := fun (v : Int32) => (((some (.int v)), am_SH, (f, g)) : am_R) = ((some (.int r)), am_SH, (f, g))) ?_ am_F ((-1), 0) r h rfl) (am_sub_cons rfl (am_sub_cons rfl (am_sub_cons rfl (am_sub_cons rfl am_sub_nil)))) rfl
  intro s1 q1 h hI1 hZ1
  show am_Ev sc (d + 1) 60 (4, [(1, .ref 42), (2, .int a0), (3, .int s1.1), (4, .int s1.2)], [], am_SH, (f, g)) ((some (.int r)), am_SH, (f, g))
  refine am_Ev.go hcd 5 (s' := (9, [(1, .ref 42), (2, .int a0), (3, .int s1.1), (4, .int s1.2)], [.int (1 <<< ((f 42 0) &&& 31)), .int s1.2], am_SH, (f, g))) rfl ?_
  rcases am_ite h with ⟨c6, h⟩ | ⟨c6, h⟩
  · refine am_Ev.t hcd (c := s1.2 < (1 <<< ((f 42 0) &&& 31))) (s1 := (10, [(1, .ref 42), (2, .int a0), (3, .int s1.1), (4, .int s1.2)], [], am_SH, (f, g))) rfl c6 ?_
    refine am_Ev.go hcd 4 (s' := (14, [(1, .ref 42), (2, .int a0), (3, .int s1.1), (4, .int s1.2), (5, .int 0), (6, .int 0)], [], am_SH, (f, g))) rfl ?_
    obtain ⟨e6, he6, h⟩ := am_bind_some h
    have hK2 : (fun (e6 : Int32) => am_Ev sc (d + 1) 60 (34, [(1, .ref 42), (2, .int a0), (3, .int s1.1), (4, .int s1.2), (5, .int e6)], [], am_SH, (f, g)) ((some (.int r)), am_SH, (f, g))) e6 := by
      show am_Ev sc (d + 1) 60 (34, [(1, .ref 42), (2, .int a0), (3, .int s1.1), (4, .int s1.2), (5, .int e6)], [], am_SH, (f, g)) ((some (.int r)), am_SH, (f, g))
      refine am_Ev.go hcd 1 (s' := (35, [(1, .ref 42), (2, .int a0), (3, .int s1.1), (4, .int s1.2), (5, .int e6)], [.int s1.2], am_SH, (f, g))) rfl ?_
      refine am_Ev.call hcd (a := 312) (s0 := (0, [(0, .int s1.2)], [], am_SH, (f, g))) (q := ((some (.int (ji_bitCount s1.2))), am_SH, (f, g))) (s1 := (36, [(1, .ref 42), (2, .int a0), (3, .int s1.1), (4, .int s1.2), (5, .int e6)], [.int (ji_bitCount s1.2)], am_SH, (f, g))) rfl rfl (ji_bitCount_ok (d) s1.2 (f, g)) ?_
      obtain ⟨t8, Et8, h⟩ := am_let_eq h
      refine am_Ev.go hcd 1 (s' := (37, [(1, .ref 42), (2, .int a0), (3, .int s1.1), (4, .int s1.2), (5, .int e6), (6, .int t8)], [], am_SH, (f, g))) (by subst Et8; exact rfl) ?_
      obtain ⟨t9, ht9, kt9⟩ := am_let_eq h
      have hKt9 : am_Ev sc (d + 1) 60 (48, [(1, .ref 42), (2, .int a0), (3, .int t9), (4, .int s1.2)], [], am_SH, (f, g)) ((some (.int r)), am_SH, (f, g)) := by
        have h := kt9
        obtain ⟨t10, Et10, h⟩ := am_let_eq h
        refine am_Ev.go hcd 1 (s' := (49, [(1, .ref 42), (2, .int a0), (3, .int t9), (4, .int t10)], [], am_SH, (f, g))) (by subst Et10; exact rfl) ?_
        refine am_Ev.go hcd 1 (s' := (4, [(1, .ref 42), (2, .int a0), (3, .int t9), (4, .int t10)], [], am_SH, (f, g))) rfl ?_
        exact am_Ev.weak' (hI1 (t9, t10) (Option.some.inj h).symm) (am_sub_cons rfl (am_sub_cons rfl (am_sub_cons rfl (am_sub_cons rfl am_sub_nil)))) rfl
      have hLt9 : ∀ tt, tt = t9 → am_Ev sc (d + 1) 60 (48, [(1, .ref 42), (2, .int a0), (3, .int tt), (4, .int s1.2)], [], am_SH, (f, g)) ((some (.int r)), am_SH, (f, g)) := fun tt htt => by subst htt; exact hKt9
      have h := ht9
      refine am_Ev.go hcd 2 (s' := (39, [(1, .ref 42), (2, .int a0), (3, .int s1.1), (4, .int s1.2), (5, .int e6), (6, .int t8)], [.int a0, .int e6], am_SH, (f, g))) rfl ?_
      rcases am_itv h with ⟨c26, h⟩ | ⟨c26, h⟩
      · refine am_Ev.t hcd (c := e6 = a0) (s1 := (40, [(1, .ref 42), (2, .int a0), (3, .int s1.1), (4, .int s1.2), (5, .int e6), (6, .int t8)], [], am_SH, (f, g))) rfl c26 ?_
        refine am_Ev.go hcd 2 (s' := (42, [(1, .ref 42), (2, .int a0), (3, .int s1.1), (4, .int s1.2), (5, .int e6), (6, .int t8)], [.int (-1), .int s1.1], am_SH, (f, g))) rfl ?_
        rcases am_itv h with ⟨c29, h⟩ | ⟨c29, h⟩
        · refine am_Ev.t hcd (c := s1.1 = (-1)) (s1 := (46, [(1, .ref 42), (2, .int a0), (3, .int s1.1), (4, .int s1.2), (5, .int e6), (6, .int t8)], [], am_SH, (f, g))) rfl c29 ?_
          refine am_Ev.go hcd 2 (s' := (48, [(1, .ref 42), (2, .int a0), (3, .int t8), (4, .int s1.2), (5, .int e6), (6, .int t8)], [], am_SH, (f, g))) rfl ?_
          exact am_Ev.weak' (hLt9 t8 h.symm) (am_sub_cons rfl (am_sub_cons rfl (am_sub_cons rfl (am_sub_cons rfl am_sub_nil)))) rfl
        · refine am_Ev.f hcd (c := s1.1 = (-1)) (s1 := (43, [(1, .ref 42), (2, .int a0), (3, .int s1.1), (4, .int s1.2), (5, .int e6), (6, .int t8)], [], am_SH, (f, g))) rfl c29 ?_
          refine am_Ev.go hcd 2 (s' := (45, [(1, .ref 42), (2, .int a0), (3, .int s1.1), (4, .int s1.2), (5, .int e6), (6, .int t8)], [.int s1.1, .int t8], am_SH, (f, g))) rfl ?_
          rcases am_itv h with ⟨c35, h⟩ | ⟨c35, h⟩
          · refine am_Ev.t hcd (c := t8 < s1.1) (s1 := (46, [(1, .ref 42), (2, .int a0), (3, .int s1.1), (4, .int s1.2), (5, .int e6), (6, .int t8)], [], am_SH, (f, g))) rfl c35 ?_
            refine am_Ev.go hcd 2 (s' := (48, [(1, .ref 42), (2, .int a0), (3, .int t8), (4, .int s1.2), (5, .int e6), (6, .int t8)], [], am_SH, (f, g))) rfl ?_
            exact am_Ev.weak' (hLt9 t8 h.symm) (am_sub_cons rfl (am_sub_cons rfl (am_sub_cons rfl (am_sub_cons rfl am_sub_nil)))) rfl
          · refine am_Ev.f hcd (c := t8 < s1.1) (s1 := (48, [(1, .ref 42), (2, .int a0), (3, .int s1.1), (4, .int s1.2), (5, .int e6), (6, .int t8)], [], am_SH, (f, g))) rfl c35 ?_
            exact am_Ev.weak' (hLt9 s1.1 h.symm) (am_sub_cons rfl (am_sub_cons rfl (am_sub_cons rfl (am_sub_cons rfl am_sub_nil)))) rfl
      · refine am_Ev.f hcd (c := e6 = a0) (s1 := (48, [(1, .ref 42), (2, .int a0), (3, .int s1.1), (4, .int s1.2), (5, .int e6), (6, .int t8)], [], am_SH, (f, g))) rfl c26 ?_
        exact am_Ev.weak' (hLt9 s1.1 h.symm) (am_sub_cons rfl (am_sub_cons rfl (am_sub_cons rfl (am_sub_cons rfl am_sub_nil)))) rfl
    refine am_Ev.weak' (am_loop_ok (G := fun (s2 : Int32 × Int32) => am_Ev sc (d + 1) 60 (14, [(1, .ref 42), (2, .int a0), (3, .int s1.1), (4, .int s1.2), (5, .int s2.1), (6, .int s2.2)], [], am_SH, (f, g)) ((some (.int r)), am_SH, (f, g))) (Z := fun (e6 : Int32) => am_Ev sc (d + 1) 60 (34, [(1, .ref 42), (2, .int a0), (3, .int s1.1), (4, .int s1.2), (5, .int e6)], [], am_SH, (f, g)) ((some (.int r)), am_SH, (f, g))) ?_ am_F (0, 0) e6 he6 hK2) (am_sub_cons rfl (am_sub_cons rfl (am_sub_cons rfl (am_sub_cons rfl (am_sub_cons rfl (am_sub_cons rfl am_sub_nil)))))) rfl
    intro s2 q2 h hI2 hZ2
    show am_Ev sc (d + 1) 60 (14, [(1, .ref 42), (2, .int a0), (3, .int s1.1), (4, .int s1.2), (5, .int s2.1), (6, .int s2.2)], [], am_SH, (f, g)) ((some (.int r)), am_SH, (f, g))
    refine am_Ev.go hcd 3 (s' := (17, [(1, .ref 42), (2, .int a0), (3, .int s1.1), (4, .int s1.2), (5, .int s2.1), (6, .int s2.2)], [.int (f 42 0), .int s2.2], am_SH, (f, g))) rfl ?_
    rcases am_ite h with ⟨c47, h⟩ | ⟨c47, h⟩
    · refine am_Ev.t hcd (c := s2.2 < f 42 0) (s1 := (18, [(1, .ref 42), (2, .int a0), (3, .int s1.1), (4, .int s1.2), (5, .int s2.1), (6, .int s2.2)], [], am_SH, (f, g))) rfl c47 ?_
      obtain ⟨t4, ht4, kt4⟩ := am_bind_some h
      have hKt4 : am_Ev sc (d + 1) 60 (32, [(1, .ref 42), (2, .int a0), (3, .int s1.1), (4, .int s1.2), (5, .int t4), (6, .int s2.2)], [], am_SH, (f, g)) ((some (.int r)), am_SH, (f, g)) := by
        have h := kt4
        obtain ⟨t5, Et5, h⟩ := am_let_eq h
        refine am_Ev.go hcd 1 (s' := (33, [(1, .ref 42), (2, .int a0), (3, .int s1.1), (4, .int s1.2), (5, .int t4), (6, .int t5)], [], am_SH, (f, g))) (by subst Et5; exact rfl) ?_
        refine am_Ev.go hcd 1 (s' := (14, [(1, .ref 42), (2, .int a0), (3, .int s1.1), (4, .int s1.2), (5, .int t4), (6, .int t5)], [], am_SH, (f, g))) rfl ?_
        exact am_Ev.weak' (hI2 (t4, t5) (Option.some.inj h).symm) (am_sub_cons rfl (am_sub_cons rfl (am_sub_cons rfl (am_sub_cons rfl (am_sub_cons rfl (am_sub_cons rfl am_sub_nil)))))) rfl
      have hLt4 : ∀ tt, tt = t4 → am_Ev sc (d + 1) 60 (32, [(1, .ref 42), (2, .int a0), (3, .int s1.1), (4, .int s1.2), (5, .int tt), (6, .int s2.2)], [], am_SH, (f, g)) ((some (.int r)), am_SH, (f, g)) := fun tt htt => by subst htt; exact hKt4
      have h := ht4
      refine am_Ev.go hcd 6 (s' := (24, [(1, .ref 42), (2, .int a0), (3, .int s1.1), (4, .int s1.2), (5, .int s2.1), (6, .int s2.2)], [.int 1, .int ((s1.2 >>> (s2.2 &&& 31)) &&& 1)], am_SH, (f, g))) rfl ?_
      rcases am_ite h with ⟨c59, h⟩ | ⟨c59, h⟩
      · refine am_Ev.t hcd (c := ((s1.2 >>> (s2.2 &&& 31)) &&& 1) = 1) (s1 := (25, [(1, .ref 42), (2, .int a0), (3, .int s1.1), (4, .int s1.2), (5, .int s2.1), (6, .int s2.2)], [], am_SH, (f, g))) rfl c59 ?_
        refine am_Ev.go hcd 4 (s' := (29, [(1, .ref 42), (2, .int a0), (3, .int s1.1), (4, .int s1.2), (5, .int s2.1), (6, .int s2.2)], [.int s2.2, .ref 43, .int s2.1], am_SH, (f, g))) rfl ?_
        obtain ⟨c62, h⟩ := am_grd h
        refine am_Ev.t hcd (o := none) (c := am_in s2.2 8 = true) (s1 := (30, [(1, .ref 42), (2, .int a0), (3, .int s1.1), (4, .int s1.2), (5, .int s2.1), (6, .int s2.2)], [.int (f 43 s2.2.toNatClampNeg), .int s2.1], am_SH, (f, g))) rfl c62 ?_
        obtain ⟨t3, Et3, h⟩ := am_let_eq h
        refine am_Ev.go hcd 2 (s' := (32, [(1, .ref 42), (2, .int a0), (3, .int s1.1), (4, .int s1.2), (5, .int t3), (6, .int s2.2)], [], am_SH, (f, g))) (by subst Et3; exact rfl) ?_
        exact am_Ev.weak' (hLt4 t3 (Option.some.inj h)) (am_sub_cons rfl (am_sub_cons rfl (am_sub_cons rfl (am_sub_cons rfl (am_sub_cons rfl (am_sub_cons rfl am_sub_nil)))))) rfl
      · refine am_Ev.f hcd (c := ((s1.2 >>> (s2.2 &&& 31)) &&& 1) = 1) (s1 := (32, [(1, .ref 42), (2, .int a0), (3, .int s1.1), (4, .int s1.2), (5, .int s2.1), (6, .int s2.2)], [], am_SH, (f, g))) rfl c59 ?_
        exact am_Ev.weak' (hLt4 s2.1 (Option.some.inj h)) (am_sub_cons rfl (am_sub_cons rfl (am_sub_cons rfl (am_sub_cons rfl (am_sub_cons rfl (am_sub_cons rfl am_sub_nil)))))) rfl
    · refine am_Ev.f hcd (c := s2.2 < f 42 0) (s1 := (34, [(1, .ref 42), (2, .int a0), (3, .int s1.1), (4, .int s1.2), (5, .int s2.1), (6, .int s2.2)], [], am_SH, (f, g))) rfl c47 ?_
      exact am_Ev.weak' (hZ2 s2.1 (Option.some.inj h).symm) (am_sub_cons rfl (am_sub_cons rfl (am_sub_cons rfl (am_sub_cons rfl (am_sub_cons rfl am_sub_nil))))) rfl
  · refine am_Ev.f hcd (c := s1.2 < (1 <<< ((f 42 0) &&& 31))) (s1 := (50, [(1, .ref 42), (2, .int a0), (3, .int s1.1), (4, .int s1.2)], [], am_SH, (f, g))) rfl c6 ?_
    refine am_Ev.go hcd 1 (s' := (51, [(1, .ref 42), (2, .int a0), (3, .int s1.1), (4, .int s1.2)], [.int s1.1], am_SH, (f, g))) rfl ?_
    exact am_Ev.cast (a := ((some (.int s1.1)), am_SH, (f, g))) (hZ1 _ (Option.some.inj h).symm) (am_Ev.ret hcd rfl)
