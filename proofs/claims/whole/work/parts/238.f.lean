def m_makesAny (a0 : Int32) (f : (Nat → Nat → Int32)) : Option (Bool) :=
  am_loop (fun (s1 : Int32) => ((
    if s1 < 1000 then (
      (am_loop (fun (s2 : Int32) => ((
        if s2 < 9 then (
          (m_makes a0 s1 s2 0 f).bind fun p3 =>
          if p3 = true then (
            some (.inr (.inl true)))
          else (
            (m_makes a0 s1 s2 1 f).bind fun p4 =>
            if p4 = true then (
              some (.inr (.inl true)))
            else (
              am_let (s2 + 1 : Int32) fun t5 =>
              some (.inl t5))))
        else (
          some (.inr (.inr ())))) : Option ((Int32) ⊕ ((Bool) ⊕ (Unit))))) am_F 0).bind fun e6 =>
      e6.elim (fun v => some (.inr v)) fun e7 =>
      am_let (s1 + 1 : Int32) fun t8 =>
      some (.inl t8))
    else (
      some (.inr false))) : Option ((Int32) ⊕ (Bool)))) am_F 0
set_option maxRecDepth 100000 in
set_option maxHeartbeats 4000000 in
theorem m_makesAny_ok {sc : Nat × (Nat → Int32)} (d : Nat) (a0 : Int32) (f g : (Nat → Nat → Int32)) (r : Bool) (h : m_makesAny a0 f = some r) : am_Ev sc (d + 2) 276 (0, [(0, .ref 216), (1, .int a0)], [], am_SH, (g, f)) ((some (.int (am_b r))), am_SH, (g, f)) := by
  have hcd : am_code 276 = am_c276 := rfl
  unfold m_makesAny at h
  refine am_Ev.go hcd 2 (s' := (2, [(0, .ref 216), (1, .int a0), (2, .int 0)], [], am_SH, (g, f))) rfl ?_
  refine am_Ev.weak' (am_loop_ok (G := fun (s1 : Int32) => am_Ev sc (d + 2) 276 (2, [(0, .ref 216), (1, .int a0), (2, .int s1)], [], am_SH, (g, f)) ((some (.int (am_b r))), am_SH, (g, f))) (Z := fun (v : Bool) => (((some (.int (am_b v))), am_SH, (g, f)) : am_R) = ((some (.int (am_b r))), am_SH, (g, f))) ?_ am_F 0 r h rfl) (am_sub_cons rfl (am_sub_cons rfl (am_sub_cons rfl am_sub_nil))) rfl
  intro s1 q1 h hI1 hZ1
  show am_Ev sc (d + 2) 276 (2, [(0, .ref 216), (1, .int a0), (2, .int s1)], [], am_SH, (g, f)) ((some (.int (am_b r))), am_SH, (g, f))
  refine am_Ev.go hcd 2 (s' := (4, [(0, .ref 216), (1, .int a0), (2, .int s1)], [.int 1000, .int s1], am_SH, (g, f))) rfl ?_
  rcases am_ite h with ⟨c6, h⟩ | ⟨c6, h⟩
  · refine am_Ev.t hcd (c := s1 < 1000) (s1 := (5, [(0, .ref 216), (1, .int a0), (2, .int s1)], [], am_SH, (g, f))) rfl c6 ?_
    refine am_Ev.go hcd 2 (s' := (7, [(0, .ref 216), (1, .int a0), (2, .int s1), (3, .int 0)], [], am_SH, (g, f))) rfl ?_
    obtain ⟨e6, he6, h⟩ := am_bind_some h
    have hK2 : (fun (v : (Bool) ⊕ (Unit)) => v.elim (fun (v : Bool) => (((some (.int (am_b v))), am_SH, (g, f)) : am_R) = ((some (.int (am_b r))), am_SH, (g, f))) (fun (e7 : Unit) => am_Ev sc (d + 2) 276 (28, [(0, .ref 216), (1, .int a0), (2, .int s1)], [], am_SH, (g, f)) ((some (.int (am_b r))), am_SH, (g, f)))) e6 := by
      cases e6 with
      | inl v => exact (hZ1 _ (Option.some.inj h).symm)
      | inr e7 =>
        show am_Ev sc (d + 2) 276 (28, [(0, .ref 216), (1, .int a0), (2, .int s1)], [], am_SH, (g, f)) ((some (.int (am_b r))), am_SH, (g, f))
        obtain ⟨t8, Et8, h⟩ := am_let_eq h
        refine am_Ev.go hcd 1 (s' := (29, [(0, .ref 216), (1, .int a0), (2, .int t8)], [], am_SH, (g, f))) (by subst Et8; exact rfl) ?_
        refine am_Ev.go hcd 1 (s' := (2, [(0, .ref 216), (1, .int a0), (2, .int t8)], [], am_SH, (g, f))) rfl ?_
        exact am_Ev.weak' (hI1 t8 (Option.some.inj h).symm) (am_sub_cons rfl (am_sub_cons rfl (am_sub_cons rfl am_sub_nil))) rfl
    refine am_Ev.weak' (am_loop_ok (G := fun (s2 : Int32) => am_Ev sc (d + 2) 276 (7, [(0, .ref 216), (1, .int a0), (2, .int s1), (3, .int s2)], [], am_SH, (g, f)) ((some (.int (am_b r))), am_SH, (g, f))) (Z := fun (v : (Bool) ⊕ (Unit)) => v.elim (fun (v : Bool) => (((some (.int (am_b v))), am_SH, (g, f)) : am_R) = ((some (.int (am_b r))), am_SH, (g, f))) (fun (e7 : Unit) => am_Ev sc (d + 2) 276 (28, [(0, .ref 216), (1, .int a0), (2, .int s1)], [], am_SH, (g, f)) ((some (.int (am_b r))), am_SH, (g, f)))) ?_ am_F 0 e6 he6 hK2) (am_sub_cons rfl (am_sub_cons rfl (am_sub_cons rfl (am_sub_cons rfl am_sub_nil)))) rfl
    intro s2 q2 h hI2 hZ2
    show am_Ev sc (d + 2) 276 (7, [(0, .ref 216), (1, .int a0), (2, .int s1), (3, .int s2)], [], am_SH, (g, f)) ((some (.int (am_b r))), am_SH, (g, f))
    refine am_Ev.go hcd 2 (s' := (9, [(0, .ref 216), (1, .int a0), (2, .int s1), (3, .int s2)], [.int 9, .int s2], am_SH, (g, f))) rfl ?_
    rcases am_ite h with ⟨c23, h⟩ | ⟨c23, h⟩
    · refine am_Ev.t hcd (c := s2 < 9) (s1 := (10, [(0, .ref 216), (1, .int a0), (2, .int s1), (3, .int s2)], [], am_SH, (g, f))) rfl c23 ?_
      refine am_Ev.go hcd 5 (s' := (15, [(0, .ref 216), (1, .int a0), (2, .int s1), (3, .int s2)], [.int 0, .int s2, .int s1, .int a0, .ref 216], am_SH, (g, f))) rfl ?_
      obtain ⟨p3, hp3, h⟩ := am_bind_some h
      refine am_Ev.call hcd (a := 275) (s0 := (0, [(0, .ref 216), (1, .int a0), (2, .int s1), (3, .int s2), (4, .int 0)], [], am_SH, (g, f))) (q := ((some (.int (am_b p3))), am_SH, (g, f))) (s1 := (16, [(0, .ref 216), (1, .int a0), (2, .int s1), (3, .int s2)], [.int (am_b p3)], am_SH, (g, f))) rfl rfl (m_makes_ok (d) a0 s1 s2 0 f g p3 hp3) ?_
      rcases am_ite h with ⟨c29, h⟩ | ⟨c29, h⟩
      · refine am_Ev.f hcd (c := am_b p3 = 0) (s1 := (24, [(0, .ref 216), (1, .int a0), (2, .int s1), (3, .int s2)], [], am_SH, (g, f))) rfl (am_b_t c29) ?_
        refine am_Ev.go hcd 1 (s' := (25, [(0, .ref 216), (1, .int a0), (2, .int s1), (3, .int s2)], [.int 1], am_SH, (g, f))) rfl ?_
        exact am_Ev.cast (a := ((some (.int (am_b true))), am_SH, (g, f))) (hZ2 _ (Option.some.inj h).symm) (am_Ev.ret hcd rfl)
      · refine am_Ev.t hcd (c := am_b p3 = 0) (s1 := (17, [(0, .ref 216), (1, .int a0), (2, .int s1), (3, .int s2)], [], am_SH, (g, f))) rfl (am_b_f c29) ?_
        refine am_Ev.go hcd 5 (s' := (22, [(0, .ref 216), (1, .int a0), (2, .int s1), (3, .int s2)], [.int 1, .int s2, .int s1, .int a0, .ref 216], am_SH, (g, f))) rfl ?_
        obtain ⟨p4, hp4, h⟩ := am_bind_some h
        refine am_Ev.call hcd (a := 275) (s0 := (0, [(0, .ref 216), (1, .int a0), (2, .int s1), (3, .int s2), (4, .int 1)], [], am_SH, (g, f))) (q := ((some (.int (am_b p4))), am_SH, (g, f))) (s1 := (23, [(0, .ref 216), (1, .int a0), (2, .int s1), (3, .int s2)], [.int (am_b p4)], am_SH, (g, f))) rfl rfl (m_makes_ok (d) a0 s1 s2 1 f g p4 hp4) ?_
        rcases am_ite h with ⟨c37, h⟩ | ⟨c37, h⟩
        · refine am_Ev.f hcd (c := am_b p4 = 0) (s1 := (24, [(0, .ref 216), (1, .int a0), (2, .int s1), (3, .int s2)], [], am_SH, (g, f))) rfl (am_b_t c37) ?_
          refine am_Ev.go hcd 1 (s' := (25, [(0, .ref 216), (1, .int a0), (2, .int s1), (3, .int s2)], [.int 1], am_SH, (g, f))) rfl ?_
          exact am_Ev.cast (a := ((some (.int (am_b true))), am_SH, (g, f))) (hZ2 _ (Option.some.inj h).symm) (am_Ev.ret hcd rfl)
        · refine am_Ev.t hcd (c := am_b p4 = 0) (s1 := (26, [(0, .ref 216), (1, .int a0), (2, .int s1), (3, .int s2)], [], am_SH, (g, f))) rfl (am_b_f c37) ?_
          obtain ⟨t5, Et5, h⟩ := am_let_eq h
          refine am_Ev.go hcd 1 (s' := (27, [(0, .ref 216), (1, .int a0), (2, .int s1), (3, .int t5)], [], am_SH, (g, f))) (by subst Et5; exact rfl) ?_
          refine am_Ev.go hcd 1 (s' := (7, [(0, .ref 216), (1, .int a0), (2, .int s1), (3, .int t5)], [], am_SH, (g, f))) rfl ?_
          exact am_Ev.weak' (hI2 t5 (Option.some.inj h).symm) (am_sub_cons rfl (am_sub_cons rfl (am_sub_cons rfl (am_sub_cons rfl am_sub_nil)))) rfl
    · refine am_Ev.f hcd (c := s2 < 9) (s1 := (28, [(0, .ref 216), (1, .int a0), (2, .int s1), (3, .int s2)], [], am_SH, (g, f))) rfl c23 ?_
      exact am_Ev.weak' (hZ2 (.inr ()) (Option.some.inj h).symm) (am_sub_cons rfl (am_sub_cons rfl (am_sub_cons rfl am_sub_nil))) rfl
  · refine am_Ev.f hcd (c := s1 < 1000) (s1 := (30, [(0, .ref 216), (1, .int a0), (2, .int s1)], [], am_SH, (g, f))) rfl c6 ?_
    refine am_Ev.go hcd 1 (s' := (31, [(0, .ref 216), (1, .int a0), (2, .int s1)], [.int 0], am_SH, (g, f))) rfl ?_
    exact am_Ev.cast (a := ((some (.int (am_b false))), am_SH, (g, f))) (hZ1 _ (Option.some.inj h).symm) (am_Ev.ret hcd rfl)
def m_term (f : (Nat → Nat → Int32)) : Option (Int32) :=
  am_loop (fun (s1 : Int32) => ((
    if s1 < 4 then (
      (m_makesAny s1 f).bind fun p2 =>
      if p2 = true then (
        some (.inr s1))
      else (
        am_let (s1 + 1 : Int32) fun t3 =>
        some (.inl t3)))
    else (
      some (.inr (-1)))) : Option ((Int32) ⊕ (Int32)))) am_F 1
set_option maxRecDepth 100000 in
set_option maxHeartbeats 4000000 in
theorem m_term_ok {sc : Nat × (Nat → Int32)} (d : Nat)  (f g : (Nat → Nat → Int32)) (r : Int32) (h : m_term  f = some r) : am_Ev sc (d + 3) 277 (0, [(0, .ref 216)], [], am_SH, (g, f)) ((some (.int r)), am_SH, (g, f)) := by
  have hcd : am_code 277 = am_c277 := rfl
  unfold m_term at h
  refine am_Ev.go hcd 2 (s' := (2, [(0, .ref 216), (1, .int 1)], [], am_SH, (g, f))) rfl ?_
  refine am_Ev.weak' (am_loop_ok (G := fun (s1 : Int32) => am_Ev sc (d + 3) 277 (2, [(0, .ref 216), (1, .int s1)], [], am_SH, (g, f)) ((some (.int r)), am_SH, (g, f))) (Z := fun (v : Int32) => (((some (.int v)), am_SH, (g, f)) : am_R) = ((some (.int r)), am_SH, (g, f))) ?_ am_F 1 r h rfl) (am_sub_cons rfl (am_sub_cons rfl am_sub_nil)) rfl
  intro s1 q1 h hI1 hZ1
  show am_Ev sc (d + 3) 277 (2, [(0, .ref 216), (1, .int s1)], [], am_SH, (g, f)) ((some (.int r)), am_SH, (g, f))
  refine am_Ev.go hcd 2 (s' := (4, [(0, .ref 216), (1, .int s1)], [.int 4, .int s1], am_SH, (g, f))) rfl ?_
  rcases am_ite h with ⟨c6, h⟩ | ⟨c6, h⟩
  · refine am_Ev.t hcd (c := s1 < 4) (s1 := (5, [(0, .ref 216), (1, .int s1)], [], am_SH, (g, f))) rfl c6 ?_
    refine am_Ev.go hcd 2 (s' := (7, [(0, .ref 216), (1, .int s1)], [.int s1, .ref 216], am_SH, (g, f))) rfl ?_
    obtain ⟨p2, hp2, h⟩ := am_bind_some h
    refine am_Ev.call hcd (a := 276) (s0 := (0, [(0, .ref 216), (1, .int s1)], [], am_SH, (g, f))) (q := ((some (.int (am_b p2))), am_SH, (g, f))) (s1 := (8, [(0, .ref 216), (1, .int s1)], [.int (am_b p2)], am_SH, (g, f))) rfl rfl (m_makesAny_ok (d) s1 f g p2 hp2) ?_
    rcases am_ite h with ⟨c12, h⟩ | ⟨c12, h⟩
    · refine am_Ev.f hcd (c := am_b p2 = 0) (s1 := (9, [(0, .ref 216), (1, .int s1)], [], am_SH, (g, f))) rfl (am_b_t c12) ?_
      refine am_Ev.go hcd 1 (s' := (10, [(0, .ref 216), (1, .int s1)], [.int s1], am_SH, (g, f))) rfl ?_
      exact am_Ev.cast (a := ((some (.int s1)), am_SH, (g, f))) (hZ1 _ (Option.some.inj h).symm) (am_Ev.ret hcd rfl)
    · refine am_Ev.t hcd (c := am_b p2 = 0) (s1 := (11, [(0, .ref 216), (1, .int s1)], [], am_SH, (g, f))) rfl (am_b_f c12) ?_
      obtain ⟨t3, Et3, h⟩ := am_let_eq h
      refine am_Ev.go hcd 1 (s' := (12, [(0, .ref 216), (1, .int t3)], [], am_SH, (g, f))) (by subst Et3; exact rfl) ?_
      refine am_Ev.go hcd 1 (s' := (2, [(0, .ref 216), (1, .int t3)], [], am_SH, (g, f))) rfl ?_
      exact am_Ev.weak' (hI1 t3 (Option.some.inj h).symm) (am_sub_cons rfl (am_sub_cons rfl am_sub_nil)) rfl
  · refine am_Ev.f hcd (c := s1 < 4) (s1 := (13, [(0, .ref 216), (1, .int s1)], [], am_SH, (g, f))) rfl c6 ?_
    refine am_Ev.go hcd 1 (s' := (14, [(0, .ref 216), (1, .int s1)], [.int (-1)], am_SH, (g, f))) rfl ?_
    exact am_Ev.cast (a := ((some (.int (-1))), am_SH, (g, f))) (hZ1 _ (Option.some.inj h).symm) (am_Ev.ret hcd rfl)
def m_saying (a0 : Int32) (a1 : Int32) (f : (Nat → Nat → Int32)) : Option (Int32 × (Nat → Nat → Int32)) :=
  if a0 = (-1) then (
    (m_endsRow 446 f).bind fun p1 =>
    some (p1.1, p1.2))
  else (
    if (m_isIn a0 0 3) = true then (
      if 1 < a0 then (
        (m_tellsTwo 446 6 a0 a1 f).bind fun p3 =>
        some (p3.1, p3.2))
      else (
        if (m_isIn a1 1 50) = true then (
          (m_tellsTwo 446 6 a0 a1 f).bind fun p5 =>
          some (p5.1, p5.2))
        else (
          some ((-1), f))))
    else (
      some ((-1), f)))
set_option maxRecDepth 100000 in
set_option maxHeartbeats 4000000 in
theorem m_saying_ok {sc : Nat × (Nat → Int32)} (d : Nat) (a0 : Int32) (a1 : Int32) (f g : (Nat → Nat → Int32)) (r : Int32 × (Nat → Nat → Int32)) (h : m_saying a0 a1 f = some r) : am_Ev sc (d + 1) 278 (0, [(0, .ref 216), (1, .int a0), (2, .int a1)], [], am_SH, (g, f)) ((some (.int r.1)), am_SH, (g, r.2)) := by
  have hcd : am_code 278 = am_c278 := rfl
  unfold m_saying at h
  refine am_Ev.go hcd 2 (s' := (2, [(0, .ref 216), (1, .int a0), (2, .int a1)], [.int (-1), .int a0], am_SH, (g, f))) rfl ?_
  rcases am_ite h with ⟨c2, h⟩ | ⟨c2, h⟩
  · refine am_Ev.t hcd (c := a0 = (-1)) (s1 := (3, [(0, .ref 216), (1, .int a0), (2, .int a1)], [], am_SH, (g, f))) rfl c2 ?_
    refine am_Ev.go hcd 2 (s' := (5, [(0, .ref 216), (1, .int a0), (2, .int a1)], [.int 446, .ref 216], am_SH, (g, f))) rfl ?_
    obtain ⟨p1, hp1, h⟩ := am_bind_some h
    refine am_Ev.call hcd (a := 262) (s0 := (0, [(0, .ref 216), (1, .int 446)], [], am_SH, (g, f))) (q := ((some (.int p1.1)), am_SH, (g, p1.2))) (s1 := (6, [(0, .ref 216), (1, .int a0), (2, .int a1)], [.int p1.1], am_SH, (g, p1.2))) rfl rfl (m_endsRow_ok (d) 446 f g p1 hp1) ?_
    exact am_Ev.cast (a := ((some (.int (p1.1, p1.2).1)), am_SH, (g, (p1.1, p1.2).2))) (by cases h; rfl) (am_Ev.ret hcd rfl)
  · refine am_Ev.f hcd (c := a0 = (-1)) (s1 := (7, [(0, .ref 216), (1, .int a0), (2, .int a1)], [], am_SH, (g, f))) rfl c2 ?_
    refine am_Ev.go hcd 3 (s' := (10, [(0, .ref 216), (1, .int a0), (2, .int a1)], [.int 3, .int 0, .int a0], am_SH, (g, f))) rfl ?_
    refine am_Ev.call hcd (a := 176) (s0 := (0, [(0, .int a0), (1, .int 0), (2, .int 3)], [], am_SH, (g, f))) (q := ((some (.int (am_b (m_isIn a0 0 3)))), am_SH, (g, f))) (s1 := (11, [(0, .ref 216), (1, .int a0), (2, .int a1)], [.int (am_b (m_isIn a0 0 3))], am_SH, (g, f))) rfl rfl (m_isIn_ok (d) a0 0 3 (g, f)) ?_
    rcases am_ite h with ⟨c12, h⟩ | ⟨c12, h⟩
    · refine am_Ev.f hcd (c := am_b (m_isIn a0 0 3) = 0) (s1 := (12, [(0, .ref 216), (1, .int a0), (2, .int a1)], [], am_SH, (g, f))) rfl (am_b_t c12) ?_
      refine am_Ev.go hcd 2 (s' := (14, [(0, .ref 216), (1, .int a0), (2, .int a1)], [.int 1, .int a0], am_SH, (g, f))) rfl ?_
      rcases am_ite h with ⟨c14, h⟩ | ⟨c14, h⟩
      · refine am_Ev.t hcd (c := 1 < a0) (s1 := (20, [(0, .ref 216), (1, .int a0), (2, .int a1)], [], am_SH, (g, f))) rfl c14 ?_
        refine am_Ev.go hcd 5 (s' := (25, [(0, .ref 216), (1, .int a0), (2, .int a1)], [.int a1, .int a0, .int 6, .int 446, .ref 216], am_SH, (g, f))) rfl ?_
        obtain ⟨p3, hp3, h⟩ := am_bind_some h
        refine am_Ev.call hcd (a := 261) (s0 := (0, [(0, .ref 216), (1, .int 446), (2, .int 6), (3, .int a0), (4, .int a1)], [], am_SH, (g, f))) (q := ((some (.int p3.1)), am_SH, (g, p3.2))) (s1 := (26, [(0, .ref 216), (1, .int a0), (2, .int a1)], [.int p3.1], am_SH, (g, p3.2))) rfl rfl (m_tellsTwo_ok (d) 446 6 a0 a1 f g p3 hp3) ?_
        refine am_Ev.go hcd 1 (s' := (28, [(0, .ref 216), (1, .int a0), (2, .int a1)], [.int p3.1], am_SH, (g, p3.2))) rfl ?_
        exact am_Ev.cast (a := ((some (.int (p3.1, p3.2).1)), am_SH, (g, (p3.1, p3.2).2))) (by cases h; rfl) (am_Ev.ret hcd rfl)
      · refine am_Ev.f hcd (c := 1 < a0) (s1 := (15, [(0, .ref 216), (1, .int a0), (2, .int a1)], [], am_SH, (g, f))) rfl c14 ?_
        refine am_Ev.go hcd 3 (s' := (18, [(0, .ref 216), (1, .int a0), (2, .int a1)], [.int 50, .int 1, .int a1], am_SH, (g, f))) rfl ?_
        refine am_Ev.call hcd (a := 176) (s0 := (0, [(0, .int a1), (1, .int 1), (2, .int 50)], [], am_SH, (g, f))) (q := ((some (.int (am_b (m_isIn a1 1 50)))), am_SH, (g, f))) (s1 := (19, [(0, .ref 216), (1, .int a0), (2, .int a1)], [.int (am_b (m_isIn a1 1 50))], am_SH, (g, f))) rfl rfl (m_isIn_ok (d) a1 1 50 (g, f)) ?_
        rcases am_ite h with ⟨c25, h⟩ | ⟨c25, h⟩
        · refine am_Ev.f hcd (c := am_b (m_isIn a1 1 50) = 0) (s1 := (20, [(0, .ref 216), (1, .int a0), (2, .int a1)], [], am_SH, (g, f))) rfl (am_b_t c25) ?_
          refine am_Ev.go hcd 5 (s' := (25, [(0, .ref 216), (1, .int a0), (2, .int a1)], [.int a1, .int a0, .int 6, .int 446, .ref 216], am_SH, (g, f))) rfl ?_
          obtain ⟨p5, hp5, h⟩ := am_bind_some h
          refine am_Ev.call hcd (a := 261) (s0 := (0, [(0, .ref 216), (1, .int 446), (2, .int 6), (3, .int a0), (4, .int a1)], [], am_SH, (g, f))) (q := ((some (.int p5.1)), am_SH, (g, p5.2))) (s1 := (26, [(0, .ref 216), (1, .int a0), (2, .int a1)], [.int p5.1], am_SH, (g, p5.2))) rfl rfl (m_tellsTwo_ok (d) 446 6 a0 a1 f g p5 hp5) ?_
          refine am_Ev.go hcd 1 (s' := (28, [(0, .ref 216), (1, .int a0), (2, .int a1)], [.int p5.1], am_SH, (g, p5.2))) rfl ?_
          exact am_Ev.cast (a := ((some (.int (p5.1, p5.2).1)), am_SH, (g, (p5.1, p5.2).2))) (by cases h; rfl) (am_Ev.ret hcd rfl)
        · refine am_Ev.t hcd (c := am_b (m_isIn a1 1 50) = 0) (s1 := (27, [(0, .ref 216), (1, .int a0), (2, .int a1)], [], am_SH, (g, f))) rfl (am_b_f c25) ?_
          refine am_Ev.go hcd 1 (s' := (28, [(0, .ref 216), (1, .int a0), (2, .int a1)], [.int (-1)], am_SH, (g, f))) rfl ?_
          exact am_Ev.cast (a := ((some (.int ((-1), f).1)), am_SH, (g, ((-1), f).2))) (by cases h; rfl) (am_Ev.ret hcd rfl)
    · refine am_Ev.t hcd (c := am_b (m_isIn a0 0 3) = 0) (s1 := (27, [(0, .ref 216), (1, .int a0), (2, .int a1)], [], am_SH, (g, f))) rfl (am_b_f c12) ?_
      refine am_Ev.go hcd 1 (s' := (28, [(0, .ref 216), (1, .int a0), (2, .int a1)], [.int (-1)], am_SH, (g, f))) rfl ?_
      exact am_Ev.cast (a := ((some (.int ((-1), f).1)), am_SH, (g, ((-1), f).2))) (by cases h; rfl) (am_Ev.ret hcd rfl)
def m_heatBy (a0 : Int32) (a1 : Int32) (f : (Nat → Nat → Int32)) : Option (Int32) :=
  if am_in (448 + (2 * a0)) 2008 = true then (
  am_let (f 217 (448 + (2 * a0)).toNatClampNeg : Int32) fun t1 =>
  if am_in (447 + (2 * a0)) 2008 = true then (
  if f 217 (447 + (2 * a0)).toNatClampNeg = 0 then (
    some (a1 - t1))
  else if f 217 (447 + (2 * a0)).toNatClampNeg = 1 then (
    some (a1 + t1))
  else if f 217 (447 + (2 * a0)).toNatClampNeg = 2 then (
    some (a1 / 2))
  else (some (2 * a1))) else none) else none
set_option maxRecDepth 100000 in
set_option maxHeartbeats 4000000 in
theorem m_heatBy_ok {sc : Nat × (Nat → Int32)} (d : Nat) (a0 : Int32) (a1 : Int32) (f g : (Nat → Nat → Int32)) (r : Int32) (h : m_heatBy a0 a1 f = some r) : am_Ev sc (d) 279 (0, [(0, .ref 216), (1, .int a0), (2, .int a1)], [], am_SH, (g, f)) ((some (.int r)), am_SH, (g, f)) := by
  have hcd : am_code 279 = am_c279 := rfl
  unfold m_heatBy at h
  refine am_Ev.go hcd 7 (s' := (7, [(0, .ref 216), (1, .int a0), (2, .int a1)], [.int (448 + (2 * a0)), .ref 217], am_SH, (g, f))) rfl ?_
  obtain ⟨c2, h⟩ := am_grd h
  refine am_Ev.t hcd (c := am_in (448 + (2 * a0)) 2008 = true) (s1 := (8, [(0, .ref 216), (1, .int a0), (2, .int a1)], [.int (f 217 (448 + (2 * a0)).toNatClampNeg)], am_SH, (g, f))) rfl c2 ?_
  obtain ⟨t1, Et1, h⟩ := am_let_eq h
  refine am_Ev.go hcd 1 (s' := (9, [(0, .ref 216), (1, .int a0), (2, .int a1), (3, .int t1)], [], am_SH, (g, f))) (by subst Et1; exact rfl) ?_
  refine am_Ev.go hcd 7 (s' := (16, [(0, .ref 216), (1, .int a0), (2, .int a1), (3, .int t1)], [.int (447 + (2 * a0)), .ref 217], am_SH, (g, f))) rfl ?_
  obtain ⟨c7, h⟩ := am_grd h
  refine am_Ev.t hcd (c := am_in (447 + (2 * a0)) 2008 = true) (s1 := (17, [(0, .ref 216), (1, .int a0), (2, .int a1), (3, .int t1)], [.int (f 217 (447 + (2 * a0)).toNatClampNeg)], am_SH, (g, f))) rfl c7 ?_
  refine am_Ev.one hcd (s' := (am_swt (f 217 (447 + (2 * a0)).toNatClampNeg) [(0, 18), (1, 22), (2, 26)] 30, [(0, .ref 216), (1, .int a0), (2, .int a1), (3, .int t1)], [], am_SH, (g, f))) rfl ?_
  rcases am_ite h with ⟨c11, h⟩ | ⟨c11, h⟩
  · rw [am_swt_t c11]
    refine am_Ev.go hcd 3 (s' := (21, [(0, .ref 216), (1, .int a0), (2, .int a1), (3, .int t1)], [.int (a1 - t1)], am_SH, (g, f))) rfl ?_
    exact am_Ev.cast (a := ((some (.int (a1 - t1))), am_SH, (g, f))) (by cases h; rfl) (am_Ev.ret hcd rfl)
  rw [am_swt_f c11]
  rcases am_ite h with ⟨c16, h⟩ | ⟨c16, h⟩
  · rw [am_swt_t c16]
    refine am_Ev.go hcd 3 (s' := (25, [(0, .ref 216), (1, .int a0), (2, .int a1), (3, .int t1)], [.int (a1 + t1)], am_SH, (g, f))) rfl ?_
    exact am_Ev.cast (a := ((some (.int (a1 + t1))), am_SH, (g, f))) (by cases h; rfl) (am_Ev.ret hcd rfl)
  rw [am_swt_f c16]
  rcases am_ite h with ⟨c21, h⟩ | ⟨c21, h⟩
  · rw [am_swt_t c21]
    refine am_Ev.go hcd 3 (s' := (29, [(0, .ref 216), (1, .int a0), (2, .int a1), (3, .int t1)], [.int (a1 / 2)], am_SH, (g, f))) rfl ?_
    exact am_Ev.cast (a := ((some (.int (a1 / 2))), am_SH, (g, f))) (by cases h; rfl) (am_Ev.ret hcd rfl)
  rw [am_swt_f c21]
  rw [am_swt_n]
  refine am_Ev.go hcd 3 (s' := (33, [(0, .ref 216), (1, .int a0), (2, .int a1), (3, .int t1)], [.int (2 * a1)], am_SH, (g, f))) rfl ?_
  exact am_Ev.cast (a := ((some (.int (2 * a1))), am_SH, (g, f))) (by cases h; rfl) (am_Ev.ret hcd rfl)
def m_cool (a0 : Int32) (a1 : Int32) (f : (Nat → Nat → Int32)) : Option (Int32 × (Nat → Nat → Int32)) :=
  if (m_isIn a0 0 99) = true then (
    if (m_isIn a1 0 99) = true then (
      (am_loop (fun (s3 : Int32 × (Nat → Nat → Int32)) => ((
        if s3.1 < 100 then (
          if am_in s3.1 100 = true then (
          am_let (am_up s3.2 230 s3.1.toNatClampNeg (-1) : Nat → Nat → Int32) fun f4 =>
          am_let (s3.1 + 1 : Int32) fun t5 =>
          some (.inl (t5, f4))) else none)
        else (
          some (.inr s3.2))) : Option ((Int32 × (Nat → Nat → Int32)) ⊕ ((Nat → Nat → Int32))))) am_F (0, f)).bind fun e6 =>
      if am_in a0 100 = true then (
      am_let (am_up e6 230 a0.toNatClampNeg 0 : Nat → Nat → Int32) fun f7 =>
      am_let (am_up f7 231 0 a0 : Nat → Nat → Int32) fun f8 =>
      (am_loop (fun (s9 : Int32 × Int32 × (Nat → Nat → Int32)) => ((
        if s9.2.1 < s9.1 then (
          (am_loop (fun (s10 : Int32 × Int32 × (Nat → Nat → Int32)) => ((
            if s10.2.1 < s10.2.2 217 446 then (
              if am_in s9.2.1 100 = true then (
              (m_heatBy s10.2.1 (s10.2.2 231 s9.2.1.toNatClampNeg) s10.2.2).bind fun p11 =>
              ((if (m_isIn p11 0 99) = true then (
                  if am_in p11 100 = true then (
                  if s10.2.2 230 p11.toNatClampNeg = (-1) then (
                    if am_in s9.2.1 100 = true then (
                    if am_in (s10.2.2 231 s9.2.1.toNatClampNeg) 100 = true then (
                    if am_in p11 100 = true then (
                    am_let (am_up s10.2.2 230 p11.toNatClampNeg ((s10.2.2 230 (s10.2.2 231 s9.2.1.toNatClampNeg).toNatClampNeg) + 1) : Nat → Nat → Int32) fun f13 =>
                    if am_in s10.1 100 = true then (
                    am_let (am_up f13 231 s10.1.toNatClampNeg p11 : Nat → Nat → Int32) fun f14 =>
                    am_let (s10.1 + 1 : Int32) fun t15 =>
                    some (t15, f14)) else none) else none) else none) else none)
                  else (
                    some (s10.1, s10.2.2))) else none)
                else (
                  some (s10.1, s10.2.2))) : Option (Int32 × (Nat → Nat → Int32))).bind fun t16 =>
              am_let (s10.2.1 + 1 : Int32) fun t17 =>
              some (.inl (t16.1, t17, t16.2))) else none)
            else (
              some (.inr (s10.1, s10.2.2)))) : Option ((Int32 × Int32 × (Nat → Nat → Int32)) ⊕ (Int32 × (Nat → Nat → Int32))))) am_F (s9.1, 0, s9.2.2)).bind fun e18 =>
          am_let (s9.2.1 + 1 : Int32) fun t19 =>
          some (.inl (e18.1, t19, e18.2)))
        else (
          some (.inr s9.2.2))) : Option ((Int32 × Int32 × (Nat → Nat → Int32)) ⊕ ((Nat → Nat → Int32))))) am_F (1, 0, f8)).bind fun e20 =>
      if am_in a1 100 = true then (
      some (e20 230 a1.toNatClampNeg, e20)) else none) else none)
    else (
      some ((-1), f)))
  else (
    some ((-1), f))
set_option maxRecDepth 100000 in
set_option maxHeartbeats 4000000 in
theorem m_cool_ok {sc : Nat × (Nat → Int32)} (d : Nat) (a0 : Int32) (a1 : Int32) (f g : (Nat → Nat → Int32)) (r : Int32 × (Nat → Nat → Int32)) (h : m_cool a0 a1 f = some r) : am_Ev sc (d + 1) 280 (0, [(0, .ref 216), (1, .int a0), (2, .int a1)], [], am_SH, (g, f)) ((some (.int r.1)), am_SH, (g, r.2)) := by
  have hcd : am_code 280 = am_c280 := rfl
  unfold m_cool at h
  refine am_Ev.go hcd 3 (s' := (3, [(0, .ref 216), (1, .int a0), (2, .int a1)], [.int 99, .int 0, .int a0], am_SH, (g, f))) rfl ?_
  refine am_Ev.call hcd (a := 176) (s0 := (0, [(0, .int a0), (1, .int 0), (2, .int 99)], [], am_SH, (g, f))) (q := ((some (.int (am_b (m_isIn a0 0 99)))), am_SH, (g, f))) (s1 := (4, [(0, .ref 216), (1, .int a0), (2, .int a1)], [.int (am_b (m_isIn a0 0 99))], am_SH, (g, f))) rfl rfl (m_isIn_ok (d) a0 0 99 (g, f)) ?_
  rcases am_ite h with ⟨c4, h⟩ | ⟨c4, h⟩
  · refine am_Ev.f hcd (c := am_b (m_isIn a0 0 99) = 0) (s1 := (5, [(0, .ref 216), (1, .int a0), (2, .int a1)], [], am_SH, (g, f))) rfl (am_b_t c4) ?_
    refine am_Ev.go hcd 3 (s' := (8, [(0, .ref 216), (1, .int a0), (2, .int a1)], [.int 99, .int 0, .int a1], am_SH, (g, f))) rfl ?_
    refine am_Ev.call hcd (a := 176) (s0 := (0, [(0, .int a1), (1, .int 0), (2, .int 99)], [], am_SH, (g, f))) (q := ((some (.int (am_b (m_isIn a1 0 99)))), am_SH, (g, f))) (s1 := (9, [(0, .ref 216), (1, .int a0), (2, .int a1)], [.int (am_b (m_isIn a1 0 99))], am_SH, (g, f))) rfl rfl (m_isIn_ok (d) a1 0 99 (g, f)) ?_
    rcases am_ite h with ⟨c8, h⟩ | ⟨c8, h⟩
    · refine am_Ev.f hcd (c := am_b (m_isIn a1 0 99) = 0) (s1 := (12, [(0, .ref 216), (1, .int a0), (2, .int a1)], [], am_SH, (g, f))) rfl (am_b_t c8) ?_
      refine am_Ev.go hcd 2 (s' := (14, [(0, .ref 216), (1, .int a0), (2, .int a1), (3, .int 0)], [], am_SH, (g, f))) rfl ?_
      obtain ⟨e6, he6, h⟩ := am_bind_some h
      have hK3 : (fun (e6 : (Nat → Nat → Int32)) => am_Ev sc (d + 1) 280 (24, [(0, .ref 216), (1, .int a0), (2, .int a1)], [], am_SH, (g, e6)) ((some (.int r.1)), am_SH, (g, r.2))) e6 := by
        show am_Ev sc (d + 1) 280 (24, [(0, .ref 216), (1, .int a0), (2, .int a1)], [], am_SH, (g, e6)) ((some (.int r.1)), am_SH, (g, r.2))
        refine am_Ev.go hcd 4 (s' := (28, [(0, .ref 216), (1, .int a0), (2, .int a1)], [.int 0, .int a0, .ref 230], am_SH, (g, e6))) rfl ?_
        obtain ⟨c14, h⟩ := am_grd h
        obtain ⟨f7, Ef7, h⟩ := am_let_eq h
        refine am_Ev.t hcd (c := am_in a0 100 = true) (s1 := (29, [(0, .ref 216), (1, .int a0), (2, .int a1)], [], am_SH, (g, f7))) (by subst Ef7; exact rfl) c14 ?_
        obtain ⟨f8, Ef8, h⟩ := am_let_eq h
        refine am_Ev.go hcd 5 (s' := (34, [(0, .ref 216), (1, .int a0), (2, .int a1)], [], am_SH, (g, f8))) (by subst Ef8; exact rfl) ?_
        refine am_Ev.go hcd 4 (s' := (38, [(0, .ref 216), (1, .int a0), (2, .int a1), (3, .int 1), (4, .int 0)], [], am_SH, (g, f8))) rfl ?_
        obtain ⟨e20, he20, h⟩ := am_bind_some h
        have hK9 : (fun (e20 : (Nat → Nat → Int32)) => am_Ev sc (d + 1) 280 (92, [(0, .ref 216), (2, .int a1)], [], am_SH, (g, e20)) ((some (.int r.1)), am_SH, (g, r.2))) e20 := by
          show am_Ev sc (d + 1) 280 (92, [(0, .ref 216), (2, .int a1)], [], am_SH, (g, e20)) ((some (.int r.1)), am_SH, (g, r.2))
          refine am_Ev.go hcd 3 (s' := (95, [(0, .ref 216), (2, .int a1)], [.int a1, .ref 230], am_SH, (g, e20))) rfl ?_
          obtain ⟨c24, h⟩ := am_grd h
          refine am_Ev.t hcd (c := am_in a1 100 = true) (s1 := (96, [(0, .ref 216), (2, .int a1)], [.int (e20 230 a1.toNatClampNeg)], am_SH, (g, e20))) rfl c24 ?_
          exact am_Ev.cast (a := ((some (.int (e20 230 a1.toNatClampNeg, e20).1)), am_SH, (g, (e20 230 a1.toNatClampNeg, e20).2))) (by cases h; rfl) (am_Ev.ret hcd rfl)
        refine am_Ev.weak' (am_loop_ok (G := fun (s9 : Int32 × Int32 × (Nat → Nat → Int32)) => am_Ev sc (d + 1) 280 (38, [(0, .ref 216), (2, .int a1), (3, .int s9.1), (4, .int s9.2.1)], [], am_SH, (g, s9.2.2)) ((some (.int r.1)), am_SH, (g, r.2))) (Z := fun (e20 : (Nat → Nat → Int32)) => am_Ev sc (d + 1) 280 (92, [(0, .ref 216), (2, .int a1)], [], am_SH, (g, e20)) ((some (.int r.1)), am_SH, (g, r.2))) ?_ am_F (1, 0, f8) e20 he20 hK9) (am_sub_cons rfl (am_sub_cons rfl (am_sub_cons rfl (am_sub_cons rfl am_sub_nil)))) rfl
        intro s9 q9 h hI9 hZ9
        show am_Ev sc (d + 1) 280 (38, [(0, .ref 216), (2, .int a1), (3, .int s9.1), (4, .int s9.2.1)], [], am_SH, (g, s9.2.2)) ((some (.int r.1)), am_SH, (g, r.2))
        refine am_Ev.go hcd 2 (s' := (40, [(0, .ref 216), (2, .int a1), (3, .int s9.1), (4, .int s9.2.1)], [.int s9.1, .int s9.2.1], am_SH, (g, s9.2.2))) rfl ?_
        rcases am_ite h with ⟨c31, h⟩ | ⟨c31, h⟩
        · refine am_Ev.t hcd (c := s9.2.1 < s9.1) (s1 := (41, [(0, .ref 216), (2, .int a1), (3, .int s9.1), (4, .int s9.2.1)], [], am_SH, (g, s9.2.2))) rfl c31 ?_
          refine am_Ev.go hcd 2 (s' := (43, [(0, .ref 216), (2, .int a1), (3, .int s9.1), (4, .int s9.2.1), (5, .int 0)], [], am_SH, (g, s9.2.2))) rfl ?_
          obtain ⟨e18, he18, h⟩ := am_bind_some h
          have hK10 : (fun (e18 : Int32 × (Nat → Nat → Int32)) => am_Ev sc (d + 1) 280 (90, [(0, .ref 216), (2, .int a1), (3, .int e18.1), (4, .int s9.2.1)], [], am_SH, (g, e18.2)) ((some (.int r.1)), am_SH, (g, r.2))) e18 := by
            show am_Ev sc (d + 1) 280 (90, [(0, .ref 216), (2, .int a1), (3, .int e18.1), (4, .int s9.2.1)], [], am_SH, (g, e18.2)) ((some (.int r.1)), am_SH, (g, r.2))
            obtain ⟨t19, Et19, h⟩ := am_let_eq h
            refine am_Ev.go hcd 1 (s' := (91, [(0, .ref 216), (2, .int a1), (3, .int e18.1), (4, .int t19)], [], am_SH, (g, e18.2))) (by subst Et19; exact rfl) ?_
            refine am_Ev.go hcd 1 (s' := (38, [(0, .ref 216), (2, .int a1), (3, .int e18.1), (4, .int t19)], [], am_SH, (g, e18.2))) rfl ?_
            exact am_Ev.weak' (hI9 (e18.1, t19, e18.2) (Option.some.inj h).symm) (am_sub_cons rfl (am_sub_cons rfl (am_sub_cons rfl (am_sub_cons rfl am_sub_nil)))) rfl
          refine am_Ev.weak' (am_loop_ok (G := fun (s10 : Int32 × Int32 × (Nat → Nat → Int32)) => am_Ev sc (d + 1) 280 (43, [(0, .ref 216), (2, .int a1), (3, .int s10.1), (4, .int s9.2.1), (5, .int s10.2.1)], [], am_SH, (g, s10.2.2)) ((some (.int r.1)), am_SH, (g, r.2))) (Z := fun (e18 : Int32 × (Nat → Nat → Int32)) => am_Ev sc (d + 1) 280 (90, [(0, .ref 216), (2, .int a1), (3, .int e18.1), (4, .int s9.2.1)], [], am_SH, (g, e18.2)) ((some (.int r.1)), am_SH, (g, r.2))) ?_ am_F (s9.1, 0, s9.2.2) e18 he18 hK10) (am_sub_cons rfl (am_sub_cons rfl (am_sub_cons rfl (am_sub_cons rfl (am_sub_cons rfl am_sub_nil))))) rfl
          intro s10 q10 h hI10 hZ10
          show am_Ev sc (d + 1) 280 (43, [(0, .ref 216), (2, .int a1), (3, .int s10.1), (4, .int s9.2.1), (5, .int s10.2.1)], [], am_SH, (g, s10.2.2)) ((some (.int r.1)), am_SH, (g, r.2))
          refine am_Ev.go hcd 5 (s' := (48, [(0, .ref 216), (2, .int a1), (3, .int s10.1), (4, .int s9.2.1), (5, .int s10.2.1)], [.int (s10.2.2 217 446), .int s10.2.1], am_SH, (g, s10.2.2))) rfl ?_
          rcases am_ite h with ⟨c45, h⟩ | ⟨c45, h⟩
          · refine am_Ev.t hcd (c := s10.2.1 < s10.2.2 217 446) (s1 := (49, [(0, .ref 216), (2, .int a1), (3, .int s10.1), (4, .int s9.2.1), (5, .int s10.2.1)], [], am_SH, (g, s10.2.2))) rfl c45 ?_
            refine am_Ev.go hcd 5 (s' := (54, [(0, .ref 216), (2, .int a1), (3, .int s10.1), (4, .int s9.2.1), (5, .int s10.2.1)], [.int s9.2.1, .ref 231, .int s10.2.1, .ref 216], am_SH, (g, s10.2.2))) rfl ?_
            obtain ⟨c48, h⟩ := am_grd h
            refine am_Ev.t hcd (c := am_in s9.2.1 100 = true) (s1 := (55, [(0, .ref 216), (2, .int a1), (3, .int s10.1), (4, .int s9.2.1), (5, .int s10.2.1)], [.int (s10.2.2 231 s9.2.1.toNatClampNeg), .int s10.2.1, .ref 216], am_SH, (g, s10.2.2))) rfl c48 ?_
            obtain ⟨p11, hp11, h⟩ := am_bind_some h
            refine am_Ev.call hcd (a := 279) (s0 := (0, [(0, .ref 216), (1, .int s10.2.1), (2, .int (s10.2.2 231 s9.2.1.toNatClampNeg))], [], am_SH, (g, s10.2.2))) (q := ((some (.int p11)), am_SH, (g, s10.2.2))) (s1 := (56, [(0, .ref 216), (2, .int a1), (3, .int s10.1), (4, .int s9.2.1), (5, .int s10.2.1)], [.int p11], am_SH, (g, s10.2.2))) rfl rfl (m_heatBy_ok (d) s10.2.1 (s10.2.2 231 s9.2.1.toNatClampNeg) s10.2.2 g p11 hp11) ?_
            refine am_Ev.go hcd 4 (s' := (60, [(0, .ref 216), (2, .int a1), (3, .int s10.1), (4, .int s9.2.1), (5, .int s10.2.1), (6, .int p11)], [.int 99, .int 0, .int p11], am_SH, (g, s10.2.2))) rfl ?_
            refine am_Ev.call hcd (a := 176) (s0 := (0, [(0, .int p11), (1, .int 0), (2, .int 99)], [], am_SH, (g, s10.2.2))) (q := ((some (.int (am_b (m_isIn p11 0 99)))), am_SH, (g, s10.2.2))) (s1 := (61, [(0, .ref 216), (2, .int a1), (3, .int s10.1), (4, .int s9.2.1), (5, .int s10.2.1), (6, .int p11)], [.int (am_b (m_isIn p11 0 99))], am_SH, (g, s10.2.2))) rfl rfl (m_isIn_ok (d) p11 0 99 (g, s10.2.2)) ?_
            obtain ⟨t16, ht16, kt16⟩ := am_bind_some h
            have hKt16 : am_Ev sc (d + 1) 280 (88, [(0, .ref 216), (2, .int a1), (3, .int t16.1), (4, .int s9.2.1), (5, .int s10.2.1)], [], am_SH, (g, t16.2)) ((some (.int r.1)), am_SH, (g, r.2)) := by
              have h := kt16
              obtain ⟨t17, Et17, h⟩ := am_let_eq h
              refine am_Ev.go hcd 1 (s' := (89, [(0, .ref 216), (2, .int a1), (3, .int t16.1), (4, .int s9.2.1), (5, .int t17)], [], am_SH, (g, t16.2))) (by subst Et17; exact rfl) ?_
              refine am_Ev.go hcd 1 (s' := (43, [(0, .ref 216), (2, .int a1), (3, .int t16.1), (4, .int s9.2.1), (5, .int t17)], [], am_SH, (g, t16.2))) rfl ?_
              exact am_Ev.weak' (hI10 (t16.1, t17, t16.2) (Option.some.inj h).symm) (am_sub_cons rfl (am_sub_cons rfl (am_sub_cons rfl (am_sub_cons rfl (am_sub_cons rfl am_sub_nil))))) rfl
            have hLt16 : ∀ tt, tt = t16 → am_Ev sc (d + 1) 280 (88, [(0, .ref 216), (2, .int a1), (3, .int tt.1), (4, .int s9.2.1), (5, .int s10.2.1)], [], am_SH, (g, tt.2)) ((some (.int r.1)), am_SH, (g, r.2)) := fun tt htt => by subst htt; exact hKt16
            have h := ht16
            rcases am_ite h with ⟨c64, h⟩ | ⟨c64, h⟩
            · refine am_Ev.f hcd (c := am_b (m_isIn p11 0 99) = 0) (s1 := (62, [(0, .ref 216), (2, .int a1), (3, .int s10.1), (4, .int s9.2.1), (5, .int s10.2.1), (6, .int p11)], [], am_SH, (g, s10.2.2))) rfl (am_b_t c64) ?_
              refine am_Ev.go hcd 3 (s' := (65, [(0, .ref 216), (2, .int a1), (3, .int s10.1), (4, .int s9.2.1), (5, .int s10.2.1), (6, .int p11)], [.int p11, .ref 230], am_SH, (g, s10.2.2))) rfl ?_
              obtain ⟨c66, h⟩ := am_grd h
              refine am_Ev.t hcd (c := am_in p11 100 = true) (s1 := (66, [(0, .ref 216), (2, .int a1), (3, .int s10.1), (4, .int s9.2.1), (5, .int s10.2.1), (6, .int p11)], [.int (s10.2.2 230 p11.toNatClampNeg)], am_SH, (g, s10.2.2))) rfl c66 ?_
              refine am_Ev.go hcd 1 (s' := (67, [(0, .ref 216), (2, .int a1), (3, .int s10.1), (4, .int s9.2.1), (5, .int s10.2.1), (6, .int p11)], [.int (-1), .int (s10.2.2 230 p11.toNatClampNeg)], am_SH, (g, s10.2.2))) rfl ?_
              rcases am_ite h with ⟨c69, h⟩ | ⟨c69, h⟩
              · refine am_Ev.t hcd (c := s10.2.2 230 p11.toNatClampNeg = (-1)) (s1 := (69, [(0, .ref 216), (2, .int a1), (3, .int s10.1), (4, .int s9.2.1), (5, .int s10.2.1), (6, .int p11)], [], am_SH, (g, s10.2.2))) rfl c69 ?_
                refine am_Ev.go hcd 8 (s' := (77, [(0, .ref 216), (2, .int a1), (3, .int s10.1), (4, .int s9.2.1), (5, .int s10.2.1), (6, .int p11)], [.int s9.2.1, .ref 231, .ref 230, .int p11, .ref 230], am_SH, (g, s10.2.2))) rfl ?_
                obtain ⟨c72, h⟩ := am_grd h
                refine am_Ev.t hcd (c := am_in s9.2.1 100 = true) (s1 := (78, [(0, .ref 216), (2, .int a1), (3, .int s10.1), (4, .int s9.2.1), (5, .int s10.2.1), (6, .int p11)], [.int (s10.2.2 231 s9.2.1.toNatClampNeg), .ref 230, .int p11, .ref 230], am_SH, (g, s10.2.2))) rfl c72 ?_
                obtain ⟨c75, h⟩ := am_grd h
                refine am_Ev.t hcd (c := am_in (s10.2.2 231 s9.2.1.toNatClampNeg) 100 = true) (s1 := (79, [(0, .ref 216), (2, .int a1), (3, .int s10.1), (4, .int s9.2.1), (5, .int s10.2.1), (6, .int p11)], [.int (s10.2.2 230 (s10.2.2 231 s9.2.1.toNatClampNeg).toNatClampNeg), .int p11, .ref 230], am_SH, (g, s10.2.2))) rfl c75 ?_
                refine am_Ev.go hcd 2 (s' := (81, [(0, .ref 216), (2, .int a1), (3, .int s10.1), (4, .int s9.2.1), (5, .int s10.2.1), (6, .int p11)], [.int ((s10.2.2 230 (s10.2.2 231 s9.2.1.toNatClampNeg).toNatClampNeg) + 1), .int p11, .ref 230], am_SH, (g, s10.2.2))) rfl ?_
                obtain ⟨c77, h⟩ := am_grd h
                obtain ⟨f13, Ef13, h⟩ := am_let_eq h
                refine am_Ev.t hcd (c := am_in p11 100 = true) (s1 := (82, [(0, .ref 216), (2, .int a1), (3, .int s10.1), (4, .int s9.2.1), (5, .int s10.2.1), (6, .int p11)], [], am_SH, (g, f13))) (by subst Ef13; exact rfl) c77 ?_
                refine am_Ev.go hcd 4 (s' := (86, [(0, .ref 216), (2, .int a1), (3, .int s10.1), (4, .int s9.2.1), (5, .int s10.2.1), (6, .int p11)], [.int p11, .int s10.1, .ref 231], am_SH, (g, f13))) rfl ?_
                obtain ⟨c81, h⟩ := am_grd h
                obtain ⟨f14, Ef14, h⟩ := am_let_eq h
                refine am_Ev.t hcd (c := am_in s10.1 100 = true) (s1 := (87, [(0, .ref 216), (2, .int a1), (3, .int s10.1), (4, .int s9.2.1), (5, .int s10.2.1), (6, .int p11)], [], am_SH, (g, f14))) (by subst Ef14; exact rfl) c81 ?_
                obtain ⟨t15, Et15, h⟩ := am_let_eq h
                refine am_Ev.go hcd 1 (s' := (88, [(0, .ref 216), (2, .int a1), (3, .int t15), (4, .int s9.2.1), (5, .int s10.2.1), (6, .int p11)], [], am_SH, (g, f14))) (by subst Et15; exact rfl) ?_
                exact am_Ev.weak' (hLt16 (t15, f14) (Option.some.inj h)) (am_sub_cons rfl (am_sub_cons rfl (am_sub_cons rfl (am_sub_cons rfl (am_sub_cons rfl am_sub_nil))))) rfl
              · refine am_Ev.f hcd (c := s10.2.2 230 p11.toNatClampNeg = (-1)) (s1 := (68, [(0, .ref 216), (2, .int a1), (3, .int s10.1), (4, .int s9.2.1), (5, .int s10.2.1), (6, .int p11)], [], am_SH, (g, s10.2.2))) rfl c69 ?_
                refine am_Ev.go hcd 1 (s' := (88, [(0, .ref 216), (2, .int a1), (3, .int s10.1), (4, .int s9.2.1), (5, .int s10.2.1), (6, .int p11)], [], am_SH, (g, s10.2.2))) rfl ?_
                exact am_Ev.weak' (hLt16 (s10.1, s10.2.2) (Option.some.inj h)) (am_sub_cons rfl (am_sub_cons rfl (am_sub_cons rfl (am_sub_cons rfl (am_sub_cons rfl am_sub_nil))))) rfl
            · refine am_Ev.t hcd (c := am_b (m_isIn p11 0 99) = 0) (s1 := (88, [(0, .ref 216), (2, .int a1), (3, .int s10.1), (4, .int s9.2.1), (5, .int s10.2.1), (6, .int p11)], [], am_SH, (g, s10.2.2))) rfl (am_b_f c64) ?_
              exact am_Ev.weak' (hLt16 (s10.1, s10.2.2) (Option.some.inj h)) (am_sub_cons rfl (am_sub_cons rfl (am_sub_cons rfl (am_sub_cons rfl (am_sub_cons rfl am_sub_nil))))) rfl
          · refine am_Ev.f hcd (c := s10.2.1 < s10.2.2 217 446) (s1 := (90, [(0, .ref 216), (2, .int a1), (3, .int s10.1), (4, .int s9.2.1), (5, .int s10.2.1)], [], am_SH, (g, s10.2.2))) rfl c45 ?_
            exact am_Ev.weak' (hZ10 (s10.1, s10.2.2) (Option.some.inj h).symm) (am_sub_cons rfl (am_sub_cons rfl (am_sub_cons rfl (am_sub_cons rfl am_sub_nil)))) rfl
        · refine am_Ev.f hcd (c := s9.2.1 < s9.1) (s1 := (92, [(0, .ref 216), (2, .int a1), (3, .int s9.1), (4, .int s9.2.1)], [], am_SH, (g, s9.2.2))) rfl c31 ?_
          exact am_Ev.weak' (hZ9 s9.2.2 (Option.some.inj h).symm) (am_sub_cons rfl (am_sub_cons rfl am_sub_nil)) rfl
      refine am_Ev.weak' (am_loop_ok (G := fun (s3 : Int32 × (Nat → Nat → Int32)) => am_Ev sc (d + 1) 280 (14, [(0, .ref 216), (1, .int a0), (2, .int a1), (3, .int s3.1)], [], am_SH, (g, s3.2)) ((some (.int r.1)), am_SH, (g, r.2))) (Z := fun (e6 : (Nat → Nat → Int32)) => am_Ev sc (d + 1) 280 (24, [(0, .ref 216), (1, .int a0), (2, .int a1)], [], am_SH, (g, e6)) ((some (.int r.1)), am_SH, (g, r.2))) ?_ am_F (0, f) e6 he6 hK3) (am_sub_cons rfl (am_sub_cons rfl (am_sub_cons rfl (am_sub_cons rfl am_sub_nil)))) rfl
      intro s3 q3 h hI3 hZ3
      show am_Ev sc (d + 1) 280 (14, [(0, .ref 216), (1, .int a0), (2, .int a1), (3, .int s3.1)], [], am_SH, (g, s3.2)) ((some (.int r.1)), am_SH, (g, r.2))
      refine am_Ev.go hcd 2 (s' := (16, [(0, .ref 216), (1, .int a0), (2, .int a1), (3, .int s3.1)], [.int 100, .int s3.1], am_SH, (g, s3.2))) rfl ?_
      rcases am_ite h with ⟨c100, h⟩ | ⟨c100, h⟩
      · refine am_Ev.t hcd (c := s3.1 < 100) (s1 := (17, [(0, .ref 216), (1, .int a0), (2, .int a1), (3, .int s3.1)], [], am_SH, (g, s3.2))) rfl c100 ?_
        refine am_Ev.go hcd 4 (s' := (21, [(0, .ref 216), (1, .int a0), (2, .int a1), (3, .int s3.1)], [.int (-1), .int s3.1, .ref 230], am_SH, (g, s3.2))) rfl ?_
        obtain ⟨c103, h⟩ := am_grd h
        obtain ⟨f4, Ef4, h⟩ := am_let_eq h
        refine am_Ev.t hcd (c := am_in s3.1 100 = true) (s1 := (22, [(0, .ref 216), (1, .int a0), (2, .int a1), (3, .int s3.1)], [], am_SH, (g, f4))) (by subst Ef4; exact rfl) c103 ?_
        obtain ⟨t5, Et5, h⟩ := am_let_eq h
        refine am_Ev.go hcd 1 (s' := (23, [(0, .ref 216), (1, .int a0), (2, .int a1), (3, .int t5)], [], am_SH, (g, f4))) (by subst Et5; exact rfl) ?_
        refine am_Ev.go hcd 1 (s' := (14, [(0, .ref 216), (1, .int a0), (2, .int a1), (3, .int t5)], [], am_SH, (g, f4))) rfl ?_
        exact am_Ev.weak' (hI3 (t5, f4) (Option.some.inj h).symm) (am_sub_cons rfl (am_sub_cons rfl (am_sub_cons rfl (am_sub_cons rfl am_sub_nil)))) rfl
      · refine am_Ev.f hcd (c := s3.1 < 100) (s1 := (24, [(0, .ref 216), (1, .int a0), (2, .int a1), (3, .int s3.1)], [], am_SH, (g, s3.2))) rfl c100 ?_
        exact am_Ev.weak' (hZ3 s3.2 (Option.some.inj h).symm) (am_sub_cons rfl (am_sub_cons rfl (am_sub_cons rfl am_sub_nil))) rfl
    · refine am_Ev.t hcd (c := am_b (m_isIn a1 0 99) = 0) (s1 := (10, [(0, .ref 216), (1, .int a0), (2, .int a1)], [], am_SH, (g, f))) rfl (am_b_f c8) ?_
      refine am_Ev.go hcd 1 (s' := (11, [(0, .ref 216), (1, .int a0), (2, .int a1)], [.int (-1)], am_SH, (g, f))) rfl ?_
      exact am_Ev.cast (a := ((some (.int ((-1), f).1)), am_SH, (g, ((-1), f).2))) (by cases h; rfl) (am_Ev.ret hcd rfl)
  · refine am_Ev.t hcd (c := am_b (m_isIn a0 0 99) = 0) (s1 := (10, [(0, .ref 216), (1, .int a0), (2, .int a1)], [], am_SH, (g, f))) rfl (am_b_f c4) ?_
    refine am_Ev.go hcd 1 (s' := (11, [(0, .ref 216), (1, .int a0), (2, .int a1)], [.int (-1)], am_SH, (g, f))) rfl ?_
    exact am_Ev.cast (a := ((some (.int ((-1), f).1)), am_SH, (g, ((-1), f).2))) (by cases h; rfl) (am_Ev.ret hcd rfl)
def m_tellsOne (a0 : Int32) (a1 : Int32) (a2 : Int32) (f : (Nat → Nat → Int32)) : Option (Int32 × (Nat → Nat → Int32)) :=
  if am_in a0 2008 = true then (
  if f 217 a0.toNatClampNeg = a1 then (
    some ((-1), f))
  else (
    if am_in a0 2008 = true then (
    if am_in ((a0 + 1) + (f 217 a0.toNatClampNeg)) 2008 = true then (
    am_let (am_up f 217 ((a0 + 1) + (f 217 a0.toNatClampNeg)).toNatClampNeg a2 : Nat → Nat → Int32) fun f1 =>
    if am_in a0 2008 = true then (
    if am_in a0 2008 = true then (
    am_let (am_up f1 217 a0.toNatClampNeg ((f1 217 a0.toNatClampNeg) + 1) : Nat → Nat → Int32) fun f2 =>
    if am_in a0 2008 = true then (
    some (f2 217 a0.toNatClampNeg, f2)) else none) else none) else none) else none) else none)) else none
set_option maxRecDepth 100000 in
set_option maxHeartbeats 4000000 in
theorem m_tellsOne_ok {sc : Nat × (Nat → Int32)} (d : Nat) (a0 : Int32) (a1 : Int32) (a2 : Int32) (f g : (Nat → Nat → Int32)) (r : Int32 × (Nat → Nat → Int32)) (h : m_tellsOne a0 a1 a2 f = some r) : am_Ev sc (d) 260 (0, [(0, .ref 216), (1, .int a0), (2, .int a1), (3, .int a2)], [], am_SH, (g, f)) ((some (.int r.1)), am_SH, (g, r.2)) := by
  have hcd : am_code 260 = am_c260 := rfl
  unfold m_tellsOne at h
  refine am_Ev.go hcd 3 (s' := (3, [(0, .ref 216), (1, .int a0), (2, .int a1), (3, .int a2)], [.int a0, .ref 217], am_SH, (g, f))) rfl ?_
  obtain ⟨c2, h⟩ := am_grd h
  refine am_Ev.t hcd (c := am_in a0 2008 = true) (s1 := (4, [(0, .ref 216), (1, .int a0), (2, .int a1), (3, .int a2)], [.int (f 217 a0.toNatClampNeg)], am_SH, (g, f))) rfl c2 ?_
  refine am_Ev.go hcd 1 (s' := (5, [(0, .ref 216), (1, .int a0), (2, .int a1), (3, .int a2)], [.int a1, .int (f 217 a0.toNatClampNeg)], am_SH, (g, f))) rfl ?_
  rcases am_ite h with ⟨c5, h⟩ | ⟨c5, h⟩
  · refine am_Ev.t hcd (c := f 217 a0.toNatClampNeg = a1) (s1 := (6, [(0, .ref 216), (1, .int a0), (2, .int a1), (3, .int a2)], [], am_SH, (g, f))) rfl c5 ?_
    refine am_Ev.go hcd 1 (s' := (7, [(0, .ref 216), (1, .int a0), (2, .int a1), (3, .int a2)], [.int (-1)], am_SH, (g, f))) rfl ?_
    exact am_Ev.cast (a := ((some (.int ((-1), f).1)), am_SH, (g, ((-1), f).2))) (by cases h; rfl) (am_Ev.ret hcd rfl)
  · refine am_Ev.f hcd (c := f 217 a0.toNatClampNeg = a1) (s1 := (8, [(0, .ref 216), (1, .int a0), (2, .int a1), (3, .int a2)], [], am_SH, (g, f))) rfl c5 ?_
    refine am_Ev.go hcd 8 (s' := (16, [(0, .ref 216), (1, .int a0), (2, .int a1), (3, .int a2)], [.int a0, .ref 217, .int (a0 + 1), .ref 217], am_SH, (g, f))) rfl ?_
    obtain ⟨c11, h⟩ := am_grd h
    refine am_Ev.t hcd (c := am_in a0 2008 = true) (s1 := (17, [(0, .ref 216), (1, .int a0), (2, .int a1), (3, .int a2)], [.int (f 217 a0.toNatClampNeg), .int (a0 + 1), .ref 217], am_SH, (g, f))) rfl c11 ?_
    refine am_Ev.go hcd 2 (s' := (19, [(0, .ref 216), (1, .int a0), (2, .int a1), (3, .int a2)], [.int a2, .int ((a0 + 1) + (f 217 a0.toNatClampNeg)), .ref 217], am_SH, (g, f))) rfl ?_
    obtain ⟨c14, h⟩ := am_grd h
    obtain ⟨f1, Ef1, h⟩ := am_let_eq h
    refine am_Ev.t hcd (c := am_in ((a0 + 1) + (f 217 a0.toNatClampNeg)) 2008 = true) (s1 := (20, [(0, .ref 216), (1, .int a0), (2, .int a1), (3, .int a2)], [], am_SH, (g, f1))) (by subst Ef1; exact rfl) c14 ?_
    refine am_Ev.go hcd 4 (s' := (24, [(0, .ref 216), (1, .int a0), (2, .int a1), (3, .int a2)], [.int a0, .ref 217, .int a0, .ref 217], am_SH, (g, f1))) rfl ?_
    obtain ⟨c18, h⟩ := am_grd h
    refine am_Ev.t hcd (c := am_in a0 2008 = true) (s1 := (25, [(0, .ref 216), (1, .int a0), (2, .int a1), (3, .int a2)], [.int (f1 217 a0.toNatClampNeg), .int a0, .ref 217], am_SH, (g, f1))) rfl c18 ?_
    refine am_Ev.go hcd 2 (s' := (27, [(0, .ref 216), (1, .int a0), (2, .int a1), (3, .int a2)], [.int ((f1 217 a0.toNatClampNeg) + 1), .int a0, .ref 217], am_SH, (g, f1))) rfl ?_
    obtain ⟨c21, h⟩ := am_grd h
    obtain ⟨f2, Ef2, h⟩ := am_let_eq h
    refine am_Ev.t hcd (c := am_in a0 2008 = true) (s1 := (28, [(0, .ref 216), (1, .int a0), (2, .int a1), (3, .int a2)], [], am_SH, (g, f2))) (by subst Ef2; exact rfl) c21 ?_
    refine am_Ev.go hcd 3 (s' := (31, [(0, .ref 216), (1, .int a0), (2, .int a1), (3, .int a2)], [.int a0, .ref 217], am_SH, (g, f2))) rfl ?_
    obtain ⟨c25, h⟩ := am_grd h
    refine am_Ev.t hcd (c := am_in a0 2008 = true) (s1 := (32, [(0, .ref 216), (1, .int a0), (2, .int a1), (3, .int a2)], [.int (f2 217 a0.toNatClampNeg)], am_SH, (g, f2))) rfl c25 ?_
    exact am_Ev.cast (a := ((some (.int (f2 217 a0.toNatClampNeg, f2).1)), am_SH, (g, (f2 217 a0.toNatClampNeg, f2).2))) (by cases h; rfl) (am_Ev.ret hcd rfl)
def m_coal (a0 : Int32) (f : (Nat → Nat → Int32)) : Option (Int32 × (Nat → Nat → Int32)) :=
  if a0 = (-1) then (
    (m_endsRow 459 f).bind fun p1 =>
    some (p1.1, p1.2))
  else (
    if (m_isIn a0 1 40) = true then (
      (m_tellsOne 459 4 a0 f).bind fun p3 =>
      some (p3.1, p3.2))
    else (
      some ((-1), f)))
set_option maxRecDepth 100000 in
set_option maxHeartbeats 4000000 in
theorem m_coal_ok {sc : Nat × (Nat → Int32)} (d : Nat) (a0 : Int32) (f g : (Nat → Nat → Int32)) (r : Int32 × (Nat → Nat → Int32)) (h : m_coal a0 f = some r) : am_Ev sc (d + 1) 281 (0, [(0, .ref 216), (1, .int a0)], [], am_SH, (g, f)) ((some (.int r.1)), am_SH, (g, r.2)) := by
  have hcd : am_code 281 = am_c281 := rfl
  unfold m_coal at h
  refine am_Ev.go hcd 2 (s' := (2, [(0, .ref 216), (1, .int a0)], [.int (-1), .int a0], am_SH, (g, f))) rfl ?_
  rcases am_ite h with ⟨c2, h⟩ | ⟨c2, h⟩
  · refine am_Ev.t hcd (c := a0 = (-1)) (s1 := (3, [(0, .ref 216), (1, .int a0)], [], am_SH, (g, f))) rfl c2 ?_
    refine am_Ev.go hcd 2 (s' := (5, [(0, .ref 216), (1, .int a0)], [.int 459, .ref 216], am_SH, (g, f))) rfl ?_
    obtain ⟨p1, hp1, h⟩ := am_bind_some h
    refine am_Ev.call hcd (a := 262) (s0 := (0, [(0, .ref 216), (1, .int 459)], [], am_SH, (g, f))) (q := ((some (.int p1.1)), am_SH, (g, p1.2))) (s1 := (6, [(0, .ref 216), (1, .int a0)], [.int p1.1], am_SH, (g, p1.2))) rfl rfl (m_endsRow_ok (d) 459 f g p1 hp1) ?_
    refine am_Ev.go hcd 1 (s' := (19, [(0, .ref 216), (1, .int a0)], [.int p1.1], am_SH, (g, p1.2))) rfl ?_
    exact am_Ev.cast (a := ((some (.int (p1.1, p1.2).1)), am_SH, (g, (p1.1, p1.2).2))) (by cases h; rfl) (am_Ev.ret hcd rfl)
  · refine am_Ev.f hcd (c := a0 = (-1)) (s1 := (7, [(0, .ref 216), (1, .int a0)], [], am_SH, (g, f))) rfl c2 ?_
    refine am_Ev.go hcd 3 (s' := (10, [(0, .ref 216), (1, .int a0)], [.int 40, .int 1, .int a0], am_SH, (g, f))) rfl ?_
    refine am_Ev.call hcd (a := 176) (s0 := (0, [(0, .int a0), (1, .int 1), (2, .int 40)], [], am_SH, (g, f))) (q := ((some (.int (am_b (m_isIn a0 1 40)))), am_SH, (g, f))) (s1 := (11, [(0, .ref 216), (1, .int a0)], [.int (am_b (m_isIn a0 1 40))], am_SH, (g, f))) rfl rfl (m_isIn_ok (d) a0 1 40 (g, f)) ?_
    rcases am_ite h with ⟨c13, h⟩ | ⟨c13, h⟩
    · refine am_Ev.f hcd (c := am_b (m_isIn a0 1 40) = 0) (s1 := (12, [(0, .ref 216), (1, .int a0)], [], am_SH, (g, f))) rfl (am_b_t c13) ?_
      refine am_Ev.go hcd 4 (s' := (16, [(0, .ref 216), (1, .int a0)], [.int a0, .int 4, .int 459, .ref 216], am_SH, (g, f))) rfl ?_
      obtain ⟨p3, hp3, h⟩ := am_bind_some h
      refine am_Ev.call hcd (a := 260) (s0 := (0, [(0, .ref 216), (1, .int 459), (2, .int 4), (3, .int a0)], [], am_SH, (g, f))) (q := ((some (.int p3.1)), am_SH, (g, p3.2))) (s1 := (17, [(0, .ref 216), (1, .int a0)], [.int p3.1], am_SH, (g, p3.2))) rfl rfl (m_tellsOne_ok (d) 459 4 a0 f g p3 hp3) ?_
      refine am_Ev.go hcd 1 (s' := (19, [(0, .ref 216), (1, .int a0)], [.int p3.1], am_SH, (g, p3.2))) rfl ?_
      exact am_Ev.cast (a := ((some (.int (p3.1, p3.2).1)), am_SH, (g, (p3.1, p3.2).2))) (by cases h; rfl) (am_Ev.ret hcd rfl)
    · refine am_Ev.t hcd (c := am_b (m_isIn a0 1 40) = 0) (s1 := (18, [(0, .ref 216), (1, .int a0)], [], am_SH, (g, f))) rfl (am_b_f c13) ?_
      refine am_Ev.go hcd 1 (s' := (19, [(0, .ref 216), (1, .int a0)], [.int (-1)], am_SH, (g, f))) rfl ?_
      exact am_Ev.cast (a := ((some (.int ((-1), f).1)), am_SH, (g, ((-1), f).2))) (by cases h; rfl) (am_Ev.ret hcd rfl)
