def m_layWorth (f : (Nat → Nat → Int32)) : Option ((Nat → Nat → Int32)) :=
  am_loop (fun (s1 : Int32 × (Nat → Nat → Int32)) => ((
    if s1.1 < 41 then (
      (am_loop (fun (s2 : Int64 × Int32) => ((
        if (2 * s2.2) < s1.1 then (
          if am_in s2.2 41 = true then (
          if am_in (s1.1 - s2.2) 41 = true then (
          am_let (s2.2 + 1 : Int32) fun t3 =>
          some (.inl ((s2.1 ||| (((1 : Int32).toInt64) <<< (((s1.2 232 s2.2.toNatClampNeg) ^^^ (s1.2 232 (s1.1 - s2.2).toNatClampNeg)).toInt64 &&& 63))), t3))) else none) else none)
        else (
          some (.inr s2.1))) : Option ((Int64 × Int32) ⊕ (Int64)))) am_F (((0 : Int32).toInt64), 1)).bind fun e4 =>
      (am_loop (fun (s5 : Int32) => ((
        if (if ((e4 >>> (s5.toInt64 &&& 63)) &&& ((1 : Int32).toInt64)) < ((1 : Int32).toInt64) then (-1) else if ((e4 >>> (s5.toInt64 &&& 63)) &&& ((1 : Int32).toInt64)) = ((1 : Int32).toInt64) then 0 else 1) = 0 then (
          am_let (s5 + 1 : Int32) fun t6 =>
          some (.inl t6))
        else (
          some (.inr s5))) : Option ((Int32) ⊕ (Int32)))) am_F 0).bind fun e7 =>
      if am_in s1.1 41 = true then (
      am_let (am_up s1.2 232 s1.1.toNatClampNeg e7 : Nat → Nat → Int32) fun f8 =>
      am_let (s1.1 + 1 : Int32) fun t9 =>
      some (.inl (t9, f8))) else none)
    else (
      some (.inr s1.2))) : Option ((Int32 × (Nat → Nat → Int32)) ⊕ ((Nat → Nat → Int32))))) am_F (0, f)
set_option maxRecDepth 100000 in
set_option maxHeartbeats 4000000 in
theorem m_layWorth_ok {sc : Nat × (Nat → Int32)} (d : Nat)  (f g : (Nat → Nat → Int32)) (r : (Nat → Nat → Int32)) (h : m_layWorth  f = some r) : am_Ev sc (d) 282 (0, [(0, .ref 216)], [], am_SH, (g, f)) (none, am_SH, (g, r)) := by
  have hcd : am_code 282 = am_c282 := rfl
  unfold m_layWorth at h
  refine am_Ev.go hcd 2 (s' := (2, [(0, .ref 216), (1, .int 0)], [], am_SH, (g, f))) rfl ?_
  refine am_Ev.weak' (am_loop_ok (G := fun (s1 : Int32 × (Nat → Nat → Int32)) => am_Ev sc (d) 282 (2, [(0, .ref 216), (1, .int s1.1)], [], am_SH, (g, s1.2)) (none, am_SH, (g, r))) (Z := fun (v : (Nat → Nat → Int32)) => ((none, am_SH, (g, v)) : am_R) = (none, am_SH, (g, r))) ?_ am_F (0, f) r h rfl) (am_sub_cons rfl (am_sub_cons rfl am_sub_nil)) rfl
  intro s1 q1 h hI1 hZ1
  show am_Ev sc (d) 282 (2, [(0, .ref 216), (1, .int s1.1)], [], am_SH, (g, s1.2)) (none, am_SH, (g, r))
  refine am_Ev.go hcd 2 (s' := (4, [(0, .ref 216), (1, .int s1.1)], [.int 41, .int s1.1], am_SH, (g, s1.2))) rfl ?_
  rcases am_ite h with ⟨c6, h⟩ | ⟨c6, h⟩
  · refine am_Ev.t hcd (c := s1.1 < 41) (s1 := (5, [(0, .ref 216), (1, .int s1.1)], [], am_SH, (g, s1.2))) rfl c6 ?_
    refine am_Ev.go hcd 4 (s' := (9, [(0, .ref 216), (1, .int s1.1), (2, .long ((0 : Int32).toInt64)), (4, .int 1)], [], am_SH, (g, s1.2))) rfl ?_
    obtain ⟨e4, he4, h⟩ := am_bind_some h
    have hK2 : (fun (e4 : Int64) => am_Ev sc (d) 282 (32, [(0, .ref 216), (1, .int s1.1), (2, .long e4)], [], am_SH, (g, s1.2)) (none, am_SH, (g, r))) e4 := by
      show am_Ev sc (d) 282 (32, [(0, .ref 216), (1, .int s1.1), (2, .long e4)], [], am_SH, (g, s1.2)) (none, am_SH, (g, r))
      refine am_Ev.go hcd 2 (s' := (34, [(0, .ref 216), (1, .int s1.1), (2, .long e4), (4, .int 0)], [], am_SH, (g, s1.2))) rfl ?_
      obtain ⟨e7, he7, h⟩ := am_bind_some h
      have hK5 : (fun (e7 : Int32) => am_Ev sc (d) 282 (44, [(0, .ref 216), (1, .int s1.1), (4, .int e7)], [], am_SH, (g, s1.2)) (none, am_SH, (g, r))) e7 := by
        show am_Ev sc (d) 282 (44, [(0, .ref 216), (1, .int s1.1), (4, .int e7)], [], am_SH, (g, s1.2)) (none, am_SH, (g, r))
        refine am_Ev.go hcd 4 (s' := (48, [(0, .ref 216), (1, .int s1.1), (4, .int e7)], [.int e7, .int s1.1, .ref 232], am_SH, (g, s1.2))) rfl ?_
        obtain ⟨c17, h⟩ := am_grd h
        obtain ⟨f8, Ef8, h⟩ := am_let_eq h
        refine am_Ev.t hcd (c := am_in s1.1 41 = true) (s1 := (49, [(0, .ref 216), (1, .int s1.1), (4, .int e7)], [], am_SH, (g, f8))) (by subst Ef8; exact rfl) c17 ?_
        obtain ⟨t9, Et9, h⟩ := am_let_eq h
        refine am_Ev.go hcd 1 (s' := (50, [(0, .ref 216), (1, .int t9), (4, .int e7)], [], am_SH, (g, f8))) (by subst Et9; exact rfl) ?_
        refine am_Ev.go hcd 1 (s' := (2, [(0, .ref 216), (1, .int t9), (4, .int e7)], [], am_SH, (g, f8))) rfl ?_
        exact am_Ev.weak' (hI1 (t9, f8) (Option.some.inj h).symm) (am_sub_cons rfl (am_sub_cons rfl am_sub_nil)) rfl
      refine am_Ev.weak' (am_loop_ok (G := fun (s5 : Int32) => am_Ev sc (d) 282 (34, [(0, .ref 216), (1, .int s1.1), (2, .long e4), (4, .int s5)], [], am_SH, (g, s1.2)) (none, am_SH, (g, r))) (Z := fun (e7 : Int32) => am_Ev sc (d) 282 (44, [(0, .ref 216), (1, .int s1.1), (4, .int e7)], [], am_SH, (g, s1.2)) (none, am_SH, (g, r))) ?_ am_F 0 e7 he7 hK5) (am_sub_cons rfl (am_sub_cons rfl (am_sub_cons rfl (am_sub_cons rfl am_sub_nil)))) rfl
      intro s5 q5 h hI5 hZ5
      show am_Ev sc (d) 282 (34, [(0, .ref 216), (1, .int s1.1), (2, .long e4), (4, .int s5)], [], am_SH, (g, s1.2)) (none, am_SH, (g, r))
      refine am_Ev.go hcd 7 (s' := (41, [(0, .ref 216), (1, .int s1.1), (2, .long e4), (4, .int s5)], [.int (if ((e4 >>> (s5.toInt64 &&& 63)) &&& ((1 : Int32).toInt64)) < ((1 : Int32).toInt64) then (-1) else if ((e4 >>> (s5.toInt64 &&& 63)) &&& ((1 : Int32).toInt64)) = ((1 : Int32).toInt64) then 0 else 1)], am_SH, (g, s1.2))) rfl ?_
      rcases am_ite h with ⟨c28, h⟩ | ⟨c28, h⟩
      · refine am_Ev.t hcd (c := (if ((e4 >>> (s5.toInt64 &&& 63)) &&& ((1 : Int32).toInt64)) < ((1 : Int32).toInt64) then (-1) else if ((e4 >>> (s5.toInt64 &&& 63)) &&& ((1 : Int32).toInt64)) = ((1 : Int32).toInt64) then 0 else 1) = 0) (s1 := (42, [(0, .ref 216), (1, .int s1.1), (2, .long e4), (4, .int s5)], [], am_SH, (g, s1.2))) rfl c28 ?_
        obtain ⟨t6, Et6, h⟩ := am_let_eq h
        refine am_Ev.go hcd 1 (s' := (43, [(0, .ref 216), (1, .int s1.1), (2, .long e4), (4, .int t6)], [], am_SH, (g, s1.2))) (by subst Et6; exact rfl) ?_
        refine am_Ev.go hcd 1 (s' := (34, [(0, .ref 216), (1, .int s1.1), (2, .long e4), (4, .int t6)], [], am_SH, (g, s1.2))) rfl ?_
        exact am_Ev.weak' (hI5 t6 (Option.some.inj h).symm) (am_sub_cons rfl (am_sub_cons rfl (am_sub_cons rfl (am_sub_cons rfl am_sub_nil)))) rfl
      · refine am_Ev.f hcd (c := (if ((e4 >>> (s5.toInt64 &&& 63)) &&& ((1 : Int32).toInt64)) < ((1 : Int32).toInt64) then (-1) else if ((e4 >>> (s5.toInt64 &&& 63)) &&& ((1 : Int32).toInt64)) = ((1 : Int32).toInt64) then 0 else 1) = 0) (s1 := (44, [(0, .ref 216), (1, .int s1.1), (2, .long e4), (4, .int s5)], [], am_SH, (g, s1.2))) rfl c28 ?_
        exact am_Ev.weak' (hZ5 s5 (Option.some.inj h).symm) (am_sub_cons rfl (am_sub_cons rfl (am_sub_cons rfl am_sub_nil))) rfl
    refine am_Ev.weak' (am_loop_ok (G := fun (s2 : Int64 × Int32) => am_Ev sc (d) 282 (9, [(0, .ref 216), (1, .int s1.1), (2, .long s2.1), (4, .int s2.2)], [], am_SH, (g, s1.2)) (none, am_SH, (g, r))) (Z := fun (e4 : Int64) => am_Ev sc (d) 282 (32, [(0, .ref 216), (1, .int s1.1), (2, .long e4)], [], am_SH, (g, s1.2)) (none, am_SH, (g, r))) ?_ am_F (((0 : Int32).toInt64), 1) e4 he4 hK2) (am_sub_cons rfl (am_sub_cons rfl (am_sub_cons rfl (am_sub_cons rfl am_sub_nil)))) rfl
    intro s2 q2 h hI2 hZ2
    show am_Ev sc (d) 282 (9, [(0, .ref 216), (1, .int s1.1), (2, .long s2.1), (4, .int s2.2)], [], am_SH, (g, s1.2)) (none, am_SH, (g, r))
    refine am_Ev.go hcd 4 (s' := (13, [(0, .ref 216), (1, .int s1.1), (2, .long s2.1), (4, .int s2.2)], [.int s1.1, .int (2 * s2.2)], am_SH, (g, s1.2))) rfl ?_
    rcases am_ite h with ⟨c40, h⟩ | ⟨c40, h⟩
    · refine am_Ev.t hcd (c := (2 * s2.2) < s1.1) (s1 := (14, [(0, .ref 216), (1, .int s1.1), (2, .long s2.1), (4, .int s2.2)], [], am_SH, (g, s1.2))) rfl c40 ?_
      refine am_Ev.go hcd 5 (s' := (19, [(0, .ref 216), (1, .int s1.1), (2, .long s2.1), (4, .int s2.2)], [.int s2.2, .ref 232, .long ((1 : Int32).toInt64), .long s2.1], am_SH, (g, s1.2))) rfl ?_
      obtain ⟨c43, h⟩ := am_grd h
      refine am_Ev.t hcd (c := am_in s2.2 41 = true) (s1 := (20, [(0, .ref 216), (1, .int s1.1), (2, .long s2.1), (4, .int s2.2)], [.int (s1.2 232 s2.2.toNatClampNeg), .long ((1 : Int32).toInt64), .long s2.1], am_SH, (g, s1.2))) rfl c43 ?_
      refine am_Ev.go hcd 5 (s' := (25, [(0, .ref 216), (1, .int s1.1), (2, .long s2.1), (4, .int s2.2)], [.int (s1.1 - s2.2), .ref 232, .int (s1.2 232 s2.2.toNatClampNeg), .long ((1 : Int32).toInt64), .long s2.1], am_SH, (g, s1.2))) rfl ?_
      obtain ⟨c46, h⟩ := am_grd h
      refine am_Ev.t hcd (c := am_in (s1.1 - s2.2) 41 = true) (s1 := (26, [(0, .ref 216), (1, .int s1.1), (2, .long s2.1), (4, .int s2.2)], [.int (s1.2 232 (s1.1 - s2.2).toNatClampNeg), .int (s1.2 232 s2.2.toNatClampNeg), .long ((1 : Int32).toInt64), .long s2.1], am_SH, (g, s1.2))) rfl c46 ?_
      obtain ⟨t3, Et3, h⟩ := am_let_eq h
      refine am_Ev.go hcd 5 (s' := (31, [(0, .ref 216), (1, .int s1.1), (2, .long (s2.1 ||| (((1 : Int32).toInt64) <<< (((s1.2 232 s2.2.toNatClampNeg) ^^^ (s1.2 232 (s1.1 - s2.2).toNatClampNeg)).toInt64 &&& 63)))), (4, .int t3)], [], am_SH, (g, s1.2))) (by subst Et3; exact rfl) ?_
      refine am_Ev.go hcd 1 (s' := (9, [(0, .ref 216), (1, .int s1.1), (2, .long (s2.1 ||| (((1 : Int32).toInt64) <<< (((s1.2 232 s2.2.toNatClampNeg) ^^^ (s1.2 232 (s1.1 - s2.2).toNatClampNeg)).toInt64 &&& 63)))), (4, .int t3)], [], am_SH, (g, s1.2))) rfl ?_
      exact am_Ev.weak' (hI2 ((s2.1 ||| (((1 : Int32).toInt64) <<< (((s1.2 232 s2.2.toNatClampNeg) ^^^ (s1.2 232 (s1.1 - s2.2).toNatClampNeg)).toInt64 &&& 63))), t3) (Option.some.inj h).symm) (am_sub_cons rfl (am_sub_cons rfl (am_sub_cons rfl (am_sub_cons rfl am_sub_nil)))) rfl
    · refine am_Ev.f hcd (c := (2 * s2.2) < s1.1) (s1 := (32, [(0, .ref 216), (1, .int s1.1), (2, .long s2.1), (4, .int s2.2)], [], am_SH, (g, s1.2))) rfl c40 ?_
      exact am_Ev.weak' (hZ2 s2.1 (Option.some.inj h).symm) (am_sub_cons rfl (am_sub_cons rfl (am_sub_cons rfl am_sub_nil))) rfl
  · refine am_Ev.f hcd (c := s1.1 < 41) (s1 := (51, [(0, .ref 216), (1, .int s1.1)], [], am_SH, (g, s1.2))) rfl c6 ?_
    exact am_Ev.cast (a := (none, am_SH, (g, s1.2))) (hZ1 _ (Option.some.inj h).symm) (am_Ev.ret hcd rfl)
def m_coals (a0 : Int32) (f : (Nat → Nat → Int32)) : Option (Int32 × (Nat → Nat → Int32)) :=
  if (m_isIn a0 0 1) = true then (
    (m_layWorth  f).bind fun p2 =>
    (am_loop (fun (s3 : Int32 × Int32) => ((
      if s3.2 < p2 217 459 then (
        if am_in (460 + s3.2) 2008 = true then (
        if am_in (p2 217 (460 + s3.2).toNatClampNeg) 41 = true then (
        am_let (s3.2 + 1 : Int32) fun t4 =>
        some (.inl ((s3.1 ^^^ (p2 232 (p2 217 (460 + s3.2).toNatClampNeg).toNatClampNeg)), t4))) else none) else none)
      else (
        some (.inr s3.1))) : Option ((Int32 × Int32) ⊕ (Int32)))) am_F (0, 0)).bind fun e5 =>
    (am_loop (fun (s6 : Int32) => ((
      if s6 < p2 217 459 then (
        if am_in (460 + s6) 2008 = true then (
        am_let (p2 217 (460 + s6).toNatClampNeg : Int32) fun t7 =>
        (am_loop (fun (s8 : Int32) => ((
          if (2 * s8) < t7 then (
            if am_in t7 41 = true then (
            if am_in s8 41 = true then (
            if am_in (t7 - s8) 41 = true then (
            if (((e5 ^^^ (p2 232 t7.toNatClampNeg)) ^^^ (p2 232 s8.toNatClampNeg)) ^^^ (p2 232 (t7 - s8).toNatClampNeg)) = 0 then (
              am_let ((if a0 = 0 then (
                  s6)
                else (
                  s8)) : Int32) fun t9 =>
              some (.inr (.inl (t9, p2))))
            else (
              am_let (s8 + 1 : Int32) fun t10 =>
              some (.inl t10))) else none) else none) else none)
          else (
            some (.inr (.inr ())))) : Option ((Int32) ⊕ ((Int32 × (Nat → Nat → Int32)) ⊕ (Unit))))) am_F 1).bind fun e11 =>
        e11.elim (fun v => some (.inr (.inl v))) fun e12 =>
        am_let (s6 + 1 : Int32) fun t13 =>
        some (.inl t13)) else none)
      else (
        some (.inr (.inr ())))) : Option ((Int32) ⊕ ((Int32 × (Nat → Nat → Int32)) ⊕ (Unit))))) am_F 0).bind fun e14 =>
    e14.elim (fun v => some v) fun e15 =>
    some ((-1), p2))
  else (
    some ((-1), f))
set_option maxRecDepth 100000 in
set_option maxHeartbeats 4000000 in
theorem m_coals_ok {sc : Nat × (Nat → Int32)} (d : Nat) (a0 : Int32) (f g : (Nat → Nat → Int32)) (r : Int32 × (Nat → Nat → Int32)) (h : m_coals a0 f = some r) : am_Ev sc (d + 1) 283 (0, [(0, .ref 216), (1, .int a0)], [], am_SH, (g, f)) ((some (.int r.1)), am_SH, (g, r.2)) := by
  have hcd : am_code 283 = am_c283 := rfl
  unfold m_coals at h
  refine am_Ev.go hcd 3 (s' := (3, [(0, .ref 216), (1, .int a0)], [.int 1, .int 0, .int a0], am_SH, (g, f))) rfl ?_
  refine am_Ev.call hcd (a := 176) (s0 := (0, [(0, .int a0), (1, .int 0), (2, .int 1)], [], am_SH, (g, f))) (q := ((some (.int (am_b (m_isIn a0 0 1)))), am_SH, (g, f))) (s1 := (4, [(0, .ref 216), (1, .int a0)], [.int (am_b (m_isIn a0 0 1))], am_SH, (g, f))) rfl rfl (m_isIn_ok (d) a0 0 1 (g, f)) ?_
  rcases am_ite h with ⟨c4, h⟩ | ⟨c4, h⟩
  · refine am_Ev.f hcd (c := am_b (m_isIn a0 0 1) = 0) (s1 := (7, [(0, .ref 216), (1, .int a0)], [], am_SH, (g, f))) rfl (am_b_t c4) ?_
    refine am_Ev.go hcd 1 (s' := (8, [(0, .ref 216), (1, .int a0)], [.ref 216], am_SH, (g, f))) rfl ?_
    obtain ⟨p2, hp2, h⟩ := am_bind_some h
    refine am_Ev.call hcd (a := 282) (s0 := (0, [(0, .ref 216)], [], am_SH, (g, f))) (q := (none, am_SH, (g, p2))) (s1 := (9, [(0, .ref 216), (1, .int a0)], [], am_SH, (g, p2))) rfl rfl (m_layWorth_ok (d)  f g p2 hp2) ?_
    refine am_Ev.go hcd 4 (s' := (13, [(0, .ref 216), (1, .int a0), (2, .int 0), (3, .int 0)], [], am_SH, (g, p2))) rfl ?_
    obtain ⟨e5, he5, h⟩ := am_bind_some h
    have hK3 : (fun (e5 : Int32) => am_Ev sc (d + 1) 283 (33, [(0, .ref 216), (1, .int a0), (2, .int e5)], [], am_SH, (g, p2)) ((some (.int r.1)), am_SH, (g, r.2))) e5 := by
      show am_Ev sc (d + 1) 283 (33, [(0, .ref 216), (1, .int a0), (2, .int e5)], [], am_SH, (g, p2)) ((some (.int r.1)), am_SH, (g, r.2))
      refine am_Ev.go hcd 2 (s' := (35, [(0, .ref 216), (1, .int a0), (2, .int e5), (3, .int 0)], [], am_SH, (g, p2))) rfl ?_
      obtain ⟨e14, he14, h⟩ := am_bind_some h
      have hK6 : (fun (v : (Int32 × (Nat → Nat → Int32)) ⊕ (Unit)) => v.elim (fun (v : Int32 × (Nat → Nat → Int32)) => (((some (.int v.1)), am_SH, (g, v.2)) : am_R) = ((some (.int r.1)), am_SH, (g, r.2))) (fun (e15 : Unit) => am_Ev sc (d + 1) 283 (84, [], [], am_SH, (g, p2)) ((some (.int r.1)), am_SH, (g, r.2)))) e14 := by
        cases e14 with
        | inl v => exact (by cases h; rfl)
        | inr e15 =>
          show am_Ev sc (d + 1) 283 (84, [], [], am_SH, (g, p2)) ((some (.int r.1)), am_SH, (g, r.2))
          refine am_Ev.go hcd 1 (s' := (85, [], [.int (-1)], am_SH, (g, p2))) rfl ?_
          exact am_Ev.cast (a := ((some (.int ((-1), p2).1)), am_SH, (g, ((-1), p2).2))) (by cases h; rfl) (am_Ev.ret hcd rfl)
      refine am_Ev.weak' (am_loop_ok (G := fun (s6 : Int32) => am_Ev sc (d + 1) 283 (35, [(0, .ref 216), (1, .int a0), (2, .int e5), (3, .int s6)], [], am_SH, (g, p2)) ((some (.int r.1)), am_SH, (g, r.2))) (Z := fun (v : (Int32 × (Nat → Nat → Int32)) ⊕ (Unit)) => v.elim (fun (v : Int32 × (Nat → Nat → Int32)) => (((some (.int v.1)), am_SH, (g, v.2)) : am_R) = ((some (.int r.1)), am_SH, (g, r.2))) (fun (e15 : Unit) => am_Ev sc (d + 1) 283 (84, [], [], am_SH, (g, p2)) ((some (.int r.1)), am_SH, (g, r.2)))) ?_ am_F 0 e14 he14 hK6) (am_sub_cons rfl (am_sub_cons rfl (am_sub_cons rfl (am_sub_cons rfl am_sub_nil)))) rfl
      intro s6 q6 h hI6 hZ6
      show am_Ev sc (d + 1) 283 (35, [(0, .ref 216), (1, .int a0), (2, .int e5), (3, .int s6)], [], am_SH, (g, p2)) ((some (.int r.1)), am_SH, (g, r.2))
      refine am_Ev.go hcd 5 (s' := (40, [(0, .ref 216), (1, .int a0), (2, .int e5), (3, .int s6)], [.int (p2 217 459), .int s6], am_SH, (g, p2))) rfl ?_
      rcases am_ite h with ⟨c25, h⟩ | ⟨c25, h⟩
      · refine am_Ev.t hcd (c := s6 < p2 217 459) (s1 := (41, [(0, .ref 216), (1, .int a0), (2, .int e5), (3, .int s6)], [], am_SH, (g, p2))) rfl c25 ?_
        refine am_Ev.go hcd 5 (s' := (46, [(0, .ref 216), (1, .int a0), (2, .int e5), (3, .int s6)], [.int (460 + s6), .ref 217], am_SH, (g, p2))) rfl ?_
        obtain ⟨c28, h⟩ := am_grd h
        refine am_Ev.t hcd (c := am_in (460 + s6) 2008 = true) (s1 := (47, [(0, .ref 216), (1, .int a0), (2, .int e5), (3, .int s6)], [.int (p2 217 (460 + s6).toNatClampNeg)], am_SH, (g, p2))) rfl c28 ?_
        obtain ⟨t7, Et7, h⟩ := am_let_eq h
        refine am_Ev.go hcd 1 (s' := (48, [(0, .ref 216), (1, .int a0), (2, .int e5), (3, .int s6), (4, .int t7)], [], am_SH, (g, p2))) (by subst Et7; exact rfl) ?_
        refine am_Ev.go hcd 2 (s' := (50, [(0, .ref 216), (1, .int a0), (2, .int e5), (3, .int s6), (4, .int t7), (5, .int 1)], [], am_SH, (g, p2))) rfl ?_
        obtain ⟨e11, he11, h⟩ := am_bind_some h
        have hK8 : (fun (v : (Int32 × (Nat → Nat → Int32)) ⊕ (Unit)) => v.elim (fun (v : Int32 × (Nat → Nat → Int32)) => (((some (.int v.1)), am_SH, (g, v.2)) : am_R) = ((some (.int r.1)), am_SH, (g, r.2))) (fun (e12 : Unit) => am_Ev sc (d + 1) 283 (82, [(0, .ref 216), (1, .int a0), (2, .int e5), (3, .int s6)], [], am_SH, (g, p2)) ((some (.int r.1)), am_SH, (g, r.2)))) e11 := by
          cases e11 with
          | inl v => exact (hZ6 _ (Option.some.inj h).symm)
          | inr e12 =>
            show am_Ev sc (d + 1) 283 (82, [(0, .ref 216), (1, .int a0), (2, .int e5), (3, .int s6)], [], am_SH, (g, p2)) ((some (.int r.1)), am_SH, (g, r.2))
            obtain ⟨t13, Et13, h⟩ := am_let_eq h
            refine am_Ev.go hcd 1 (s' := (83, [(0, .ref 216), (1, .int a0), (2, .int e5), (3, .int t13)], [], am_SH, (g, p2))) (by subst Et13; exact rfl) ?_
            refine am_Ev.go hcd 1 (s' := (35, [(0, .ref 216), (1, .int a0), (2, .int e5), (3, .int t13)], [], am_SH, (g, p2))) rfl ?_
            exact am_Ev.weak' (hI6 t13 (Option.some.inj h).symm) (am_sub_cons rfl (am_sub_cons rfl (am_sub_cons rfl (am_sub_cons rfl am_sub_nil)))) rfl
        refine am_Ev.weak' (am_loop_ok (G := fun (s8 : Int32) => am_Ev sc (d + 1) 283 (50, [(0, .ref 216), (1, .int a0), (2, .int e5), (3, .int s6), (4, .int t7), (5, .int s8)], [], am_SH, (g, p2)) ((some (.int r.1)), am_SH, (g, r.2))) (Z := fun (v : (Int32 × (Nat → Nat → Int32)) ⊕ (Unit)) => v.elim (fun (v : Int32 × (Nat → Nat → Int32)) => (((some (.int v.1)), am_SH, (g, v.2)) : am_R) = ((some (.int r.1)), am_SH, (g, r.2))) (fun (e12 : Unit) => am_Ev sc (d + 1) 283 (82, [(0, .ref 216), (1, .int a0), (2, .int e5), (3, .int s6)], [], am_SH, (g, p2)) ((some (.int r.1)), am_SH, (g, r.2)))) ?_ am_F 1 e11 he11 hK8) (am_sub_cons rfl (am_sub_cons rfl (am_sub_cons rfl (am_sub_cons rfl (am_sub_cons rfl (am_sub_cons rfl am_sub_nil)))))) rfl
        intro s8 q8 h hI8 hZ8
        show am_Ev sc (d + 1) 283 (50, [(0, .ref 216), (1, .int a0), (2, .int e5), (3, .int s6), (4, .int t7), (5, .int s8)], [], am_SH, (g, p2)) ((some (.int r.1)), am_SH, (g, r.2))
        refine am_Ev.go hcd 4 (s' := (54, [(0, .ref 216), (1, .int a0), (2, .int e5), (3, .int s6), (4, .int t7), (5, .int s8)], [.int t7, .int (2 * s8)], am_SH, (g, p2))) rfl ?_
        rcases am_ite h with ⟨c47, h⟩ | ⟨c47, h⟩
        · refine am_Ev.t hcd (c := (2 * s8) < t7) (s1 := (55, [(0, .ref 216), (1, .int a0), (2, .int e5), (3, .int s6), (4, .int t7), (5, .int s8)], [], am_SH, (g, p2))) rfl c47 ?_
          refine am_Ev.go hcd 4 (s' := (59, [(0, .ref 216), (1, .int a0), (2, .int e5), (3, .int s6), (4, .int t7), (5, .int s8)], [.int t7, .ref 232, .int e5], am_SH, (g, p2))) rfl ?_
          obtain ⟨c50, h⟩ := am_grd h
          refine am_Ev.t hcd (c := am_in t7 41 = true) (s1 := (60, [(0, .ref 216), (1, .int a0), (2, .int e5), (3, .int s6), (4, .int t7), (5, .int s8)], [.int (p2 232 t7.toNatClampNeg), .int e5], am_SH, (g, p2))) rfl c50 ?_
          refine am_Ev.go hcd 4 (s' := (64, [(0, .ref 216), (1, .int a0), (2, .int e5), (3, .int s6), (4, .int t7), (5, .int s8)], [.int s8, .ref 232, .int (e5 ^^^ (p2 232 t7.toNatClampNeg))], am_SH, (g, p2))) rfl ?_
          obtain ⟨c53, h⟩ := am_grd h
          refine am_Ev.t hcd (c := am_in s8 41 = true) (s1 := (65, [(0, .ref 216), (1, .int a0), (2, .int e5), (3, .int s6), (4, .int t7), (5, .int s8)], [.int (p2 232 s8.toNatClampNeg), .int (e5 ^^^ (p2 232 t7.toNatClampNeg))], am_SH, (g, p2))) rfl c53 ?_
          refine am_Ev.go hcd 6 (s' := (71, [(0, .ref 216), (1, .int a0), (2, .int e5), (3, .int s6), (4, .int t7), (5, .int s8)], [.int (t7 - s8), .ref 232, .int ((e5 ^^^ (p2 232 t7.toNatClampNeg)) ^^^ (p2 232 s8.toNatClampNeg))], am_SH, (g, p2))) rfl ?_
          obtain ⟨c56, h⟩ := am_grd h
          refine am_Ev.t hcd (c := am_in (t7 - s8) 41 = true) (s1 := (72, [(0, .ref 216), (1, .int a0), (2, .int e5), (3, .int s6), (4, .int t7), (5, .int s8)], [.int (p2 232 (t7 - s8).toNatClampNeg), .int ((e5 ^^^ (p2 232 t7.toNatClampNeg)) ^^^ (p2 232 s8.toNatClampNeg))], am_SH, (g, p2))) rfl c56 ?_
          refine am_Ev.go hcd 1 (s' := (73, [(0, .ref 216), (1, .int a0), (2, .int e5), (3, .int s6), (4, .int t7), (5, .int s8)], [.int (((e5 ^^^ (p2 232 t7.toNatClampNeg)) ^^^ (p2 232 s8.toNatClampNeg)) ^^^ (p2 232 (t7 - s8).toNatClampNeg))], am_SH, (g, p2))) rfl ?_
          rcases am_ite h with ⟨c59, h⟩ | ⟨c59, h⟩
          · refine am_Ev.t hcd (c := (((e5 ^^^ (p2 232 t7.toNatClampNeg)) ^^^ (p2 232 s8.toNatClampNeg)) ^^^ (p2 232 (t7 - s8).toNatClampNeg)) = 0) (s1 := (74, [(0, .ref 216), (1, .int a0), (2, .int e5), (3, .int s6), (4, .int t7), (5, .int s8)], [], am_SH, (g, p2))) rfl c59 ?_
            obtain ⟨t9, ht9, kt9⟩ := am_let_eq h
            have hKt9 : am_Ev sc (d + 1) 283 (79, [], [.int t9], am_SH, (g, p2)) ((some (.int r.1)), am_SH, (g, r.2)) := by
              have h := kt9
              exact am_Ev.cast (a := ((some (.int (t9, p2).1)), am_SH, (g, (t9, p2).2))) (hZ8 _ (Option.some.inj h).symm) (am_Ev.ret hcd rfl)
            have hLt9 : ∀ tt, tt = t9 → am_Ev sc (d + 1) 283 (79, [], [.int tt], am_SH, (g, p2)) ((some (.int r.1)), am_SH, (g, r.2)) := fun tt htt => by subst htt; exact hKt9
            have h := ht9
            refine am_Ev.go hcd 1 (s' := (75, [(0, .ref 216), (1, .int a0), (2, .int e5), (3, .int s6), (4, .int t7), (5, .int s8)], [.int a0], am_SH, (g, p2))) rfl ?_
            rcases am_itv h with ⟨c68, h⟩ | ⟨c68, h⟩
            · refine am_Ev.t hcd (c := a0 = 0) (s1 := (76, [(0, .ref 216), (1, .int a0), (2, .int e5), (3, .int s6), (4, .int t7), (5, .int s8)], [], am_SH, (g, p2))) rfl c68 ?_
              refine am_Ev.go hcd 2 (s' := (79, [(0, .ref 216), (1, .int a0), (2, .int e5), (3, .int s6), (4, .int t7), (5, .int s8)], [.int s6], am_SH, (g, p2))) rfl ?_
              exact am_Ev.weak' (hLt9 s6 h.symm) am_sub_nil rfl
            · refine am_Ev.f hcd (c := a0 = 0) (s1 := (78, [(0, .ref 216), (1, .int a0), (2, .int e5), (3, .int s6), (4, .int t7), (5, .int s8)], [], am_SH, (g, p2))) rfl c68 ?_
              refine am_Ev.go hcd 1 (s' := (79, [(0, .ref 216), (1, .int a0), (2, .int e5), (3, .int s6), (4, .int t7), (5, .int s8)], [.int s8], am_SH, (g, p2))) rfl ?_
              exact am_Ev.weak' (hLt9 s8 h.symm) am_sub_nil rfl
          · refine am_Ev.f hcd (c := (((e5 ^^^ (p2 232 t7.toNatClampNeg)) ^^^ (p2 232 s8.toNatClampNeg)) ^^^ (p2 232 (t7 - s8).toNatClampNeg)) = 0) (s1 := (80, [(0, .ref 216), (1, .int a0), (2, .int e5), (3, .int s6), (4, .int t7), (5, .int s8)], [], am_SH, (g, p2))) rfl c59 ?_
            obtain ⟨t10, Et10, h⟩ := am_let_eq h
            refine am_Ev.go hcd 1 (s' := (81, [(0, .ref 216), (1, .int a0), (2, .int e5), (3, .int s6), (4, .int t7), (5, .int t10)], [], am_SH, (g, p2))) (by subst Et10; exact rfl) ?_
            refine am_Ev.go hcd 1 (s' := (50, [(0, .ref 216), (1, .int a0), (2, .int e5), (3, .int s6), (4, .int t7), (5, .int t10)], [], am_SH, (g, p2))) rfl ?_
            exact am_Ev.weak' (hI8 t10 (Option.some.inj h).symm) (am_sub_cons rfl (am_sub_cons rfl (am_sub_cons rfl (am_sub_cons rfl (am_sub_cons rfl (am_sub_cons rfl am_sub_nil)))))) rfl
        · refine am_Ev.f hcd (c := (2 * s8) < t7) (s1 := (82, [(0, .ref 216), (1, .int a0), (2, .int e5), (3, .int s6), (4, .int t7), (5, .int s8)], [], am_SH, (g, p2))) rfl c47 ?_
          exact am_Ev.weak' (hZ8 (.inr ()) (Option.some.inj h).symm) (am_sub_cons rfl (am_sub_cons rfl (am_sub_cons rfl (am_sub_cons rfl am_sub_nil)))) rfl
      · refine am_Ev.f hcd (c := s6 < p2 217 459) (s1 := (84, [(0, .ref 216), (1, .int a0), (2, .int e5), (3, .int s6)], [], am_SH, (g, p2))) rfl c25 ?_
        exact am_Ev.weak' (hZ6 (.inr ()) (Option.some.inj h).symm) am_sub_nil rfl
    refine am_Ev.weak' (am_loop_ok (G := fun (s3 : Int32 × Int32) => am_Ev sc (d + 1) 283 (13, [(0, .ref 216), (1, .int a0), (2, .int s3.1), (3, .int s3.2)], [], am_SH, (g, p2)) ((some (.int r.1)), am_SH, (g, r.2))) (Z := fun (e5 : Int32) => am_Ev sc (d + 1) 283 (33, [(0, .ref 216), (1, .int a0), (2, .int e5)], [], am_SH, (g, p2)) ((some (.int r.1)), am_SH, (g, r.2))) ?_ am_F (0, 0) e5 he5 hK3) (am_sub_cons rfl (am_sub_cons rfl (am_sub_cons rfl (am_sub_cons rfl am_sub_nil)))) rfl
    intro s3 q3 h hI3 hZ3
    show am_Ev sc (d + 1) 283 (13, [(0, .ref 216), (1, .int a0), (2, .int s3.1), (3, .int s3.2)], [], am_SH, (g, p2)) ((some (.int r.1)), am_SH, (g, r.2))
    refine am_Ev.go hcd 5 (s' := (18, [(0, .ref 216), (1, .int a0), (2, .int s3.1), (3, .int s3.2)], [.int (p2 217 459), .int s3.2], am_SH, (g, p2))) rfl ?_
    rcases am_ite h with ⟨c88, h⟩ | ⟨c88, h⟩
    · refine am_Ev.t hcd (c := s3.2 < p2 217 459) (s1 := (19, [(0, .ref 216), (1, .int a0), (2, .int s3.1), (3, .int s3.2)], [], am_SH, (g, p2))) rfl c88 ?_
      refine am_Ev.go hcd 8 (s' := (27, [(0, .ref 216), (1, .int a0), (2, .int s3.1), (3, .int s3.2)], [.int (460 + s3.2), .ref 217, .ref 232, .int s3.1], am_SH, (g, p2))) rfl ?_
      obtain ⟨c91, h⟩ := am_grd h
      refine am_Ev.t hcd (c := am_in (460 + s3.2) 2008 = true) (s1 := (28, [(0, .ref 216), (1, .int a0), (2, .int s3.1), (3, .int s3.2)], [.int (p2 217 (460 + s3.2).toNatClampNeg), .ref 232, .int s3.1], am_SH, (g, p2))) rfl c91 ?_
      obtain ⟨c94, h⟩ := am_grd h
      refine am_Ev.t hcd (c := am_in (p2 217 (460 + s3.2).toNatClampNeg) 41 = true) (s1 := (29, [(0, .ref 216), (1, .int a0), (2, .int s3.1), (3, .int s3.2)], [.int (p2 232 (p2 217 (460 + s3.2).toNatClampNeg).toNatClampNeg), .int s3.1], am_SH, (g, p2))) rfl c94 ?_
      obtain ⟨t4, Et4, h⟩ := am_let_eq h
      refine am_Ev.go hcd 3 (s' := (32, [(0, .ref 216), (1, .int a0), (2, .int (s3.1 ^^^ (p2 232 (p2 217 (460 + s3.2).toNatClampNeg).toNatClampNeg))), (3, .int t4)], [], am_SH, (g, p2))) (by subst Et4; exact rfl) ?_
      refine am_Ev.go hcd 1 (s' := (13, [(0, .ref 216), (1, .int a0), (2, .int (s3.1 ^^^ (p2 232 (p2 217 (460 + s3.2).toNatClampNeg).toNatClampNeg))), (3, .int t4)], [], am_SH, (g, p2))) rfl ?_
      exact am_Ev.weak' (hI3 ((s3.1 ^^^ (p2 232 (p2 217 (460 + s3.2).toNatClampNeg).toNatClampNeg)), t4) (Option.some.inj h).symm) (am_sub_cons rfl (am_sub_cons rfl (am_sub_cons rfl (am_sub_cons rfl am_sub_nil)))) rfl
    · refine am_Ev.f hcd (c := s3.2 < p2 217 459) (s1 := (33, [(0, .ref 216), (1, .int a0), (2, .int s3.1), (3, .int s3.2)], [], am_SH, (g, p2))) rfl c88 ?_
      exact am_Ev.weak' (hZ3 s3.1 (Option.some.inj h).symm) (am_sub_cons rfl (am_sub_cons rfl (am_sub_cons rfl am_sub_nil))) rfl
  · refine am_Ev.t hcd (c := am_b (m_isIn a0 0 1) = 0) (s1 := (5, [(0, .ref 216), (1, .int a0)], [], am_SH, (g, f))) rfl (am_b_f c4) ?_
    refine am_Ev.go hcd 1 (s' := (6, [(0, .ref 216), (1, .int a0)], [.int (-1)], am_SH, (g, f))) rfl ?_
    exact am_Ev.cast (a := ((some (.int ((-1), f).1)), am_SH, (g, ((-1), f).2))) (by cases h; rfl) (am_Ev.ret hcd rfl)
def m_shown (a0 : Int32) (f : (Nat → Nat → Int32)) : Option (Int32 × (Nat → Nat → Int32)) :=
  if a0 = (-1) then (
    (m_endsRow 464 f).bind fun p1 =>
    some (p1.1, p1.2))
  else (
    if (m_isIn a0 0 65535) = true then (
      (m_tellsOne 464 8 a0 f).bind fun p3 =>
      some (p3.1, p3.2))
    else (
      some ((-1), f)))
set_option maxRecDepth 100000 in
set_option maxHeartbeats 4000000 in
theorem m_shown_ok {sc : Nat × (Nat → Int32)} (d : Nat) (a0 : Int32) (f g : (Nat → Nat → Int32)) (r : Int32 × (Nat → Nat → Int32)) (h : m_shown a0 f = some r) : am_Ev sc (d + 1) 284 (0, [(0, .ref 216), (1, .int a0)], [], am_SH, (g, f)) ((some (.int r.1)), am_SH, (g, r.2)) := by
  have hcd : am_code 284 = am_c284 := rfl
  unfold m_shown at h
  refine am_Ev.go hcd 2 (s' := (2, [(0, .ref 216), (1, .int a0)], [.int (-1), .int a0], am_SH, (g, f))) rfl ?_
  rcases am_ite h with ⟨c2, h⟩ | ⟨c2, h⟩
  · refine am_Ev.t hcd (c := a0 = (-1)) (s1 := (3, [(0, .ref 216), (1, .int a0)], [], am_SH, (g, f))) rfl c2 ?_
    refine am_Ev.go hcd 2 (s' := (5, [(0, .ref 216), (1, .int a0)], [.int 464, .ref 216], am_SH, (g, f))) rfl ?_
    obtain ⟨p1, hp1, h⟩ := am_bind_some h
    refine am_Ev.call hcd (a := 262) (s0 := (0, [(0, .ref 216), (1, .int 464)], [], am_SH, (g, f))) (q := ((some (.int p1.1)), am_SH, (g, p1.2))) (s1 := (6, [(0, .ref 216), (1, .int a0)], [.int p1.1], am_SH, (g, p1.2))) rfl rfl (m_endsRow_ok (d) 464 f g p1 hp1) ?_
    refine am_Ev.go hcd 1 (s' := (19, [(0, .ref 216), (1, .int a0)], [.int p1.1], am_SH, (g, p1.2))) rfl ?_
    exact am_Ev.cast (a := ((some (.int (p1.1, p1.2).1)), am_SH, (g, (p1.1, p1.2).2))) (by cases h; rfl) (am_Ev.ret hcd rfl)
  · refine am_Ev.f hcd (c := a0 = (-1)) (s1 := (7, [(0, .ref 216), (1, .int a0)], [], am_SH, (g, f))) rfl c2 ?_
    refine am_Ev.go hcd 3 (s' := (10, [(0, .ref 216), (1, .int a0)], [.int 65535, .int 0, .int a0], am_SH, (g, f))) rfl ?_
    refine am_Ev.call hcd (a := 176) (s0 := (0, [(0, .int a0), (1, .int 0), (2, .int 65535)], [], am_SH, (g, f))) (q := ((some (.int (am_b (m_isIn a0 0 65535)))), am_SH, (g, f))) (s1 := (11, [(0, .ref 216), (1, .int a0)], [.int (am_b (m_isIn a0 0 65535))], am_SH, (g, f))) rfl rfl (m_isIn_ok (d) a0 0 65535 (g, f)) ?_
    rcases am_ite h with ⟨c13, h⟩ | ⟨c13, h⟩
    · refine am_Ev.f hcd (c := am_b (m_isIn a0 0 65535) = 0) (s1 := (12, [(0, .ref 216), (1, .int a0)], [], am_SH, (g, f))) rfl (am_b_t c13) ?_
      refine am_Ev.go hcd 4 (s' := (16, [(0, .ref 216), (1, .int a0)], [.int a0, .int 8, .int 464, .ref 216], am_SH, (g, f))) rfl ?_
      obtain ⟨p3, hp3, h⟩ := am_bind_some h
      refine am_Ev.call hcd (a := 260) (s0 := (0, [(0, .ref 216), (1, .int 464), (2, .int 8), (3, .int a0)], [], am_SH, (g, f))) (q := ((some (.int p3.1)), am_SH, (g, p3.2))) (s1 := (17, [(0, .ref 216), (1, .int a0)], [.int p3.1], am_SH, (g, p3.2))) rfl rfl (m_tellsOne_ok (d) 464 8 a0 f g p3 hp3) ?_
      refine am_Ev.go hcd 1 (s' := (19, [(0, .ref 216), (1, .int a0)], [.int p3.1], am_SH, (g, p3.2))) rfl ?_
      exact am_Ev.cast (a := ((some (.int (p3.1, p3.2).1)), am_SH, (g, (p3.1, p3.2).2))) (by cases h; rfl) (am_Ev.ret hcd rfl)
    · refine am_Ev.t hcd (c := am_b (m_isIn a0 0 65535) = 0) (s1 := (18, [(0, .ref 216), (1, .int a0)], [], am_SH, (g, f))) rfl (am_b_f c13) ?_
      refine am_Ev.go hcd 1 (s' := (19, [(0, .ref 216), (1, .int a0)], [.int (-1)], am_SH, (g, f))) rfl ?_
      exact am_Ev.cast (a := ((some (.int ((-1), f).1)), am_SH, (g, ((-1), f).2))) (by cases h; rfl) (am_Ev.ret hcd rfl)
def m_laidOn (a0 : Int32) (f : (Nat → Nat → Int32)) : Option (Int32) :=
  am_loop (fun (s1 : Int32 × Int32) => ((
    if s1.2 < f 217 464 then (
      ((if ((a0 >>> (s1.2 &&& 31)) &&& 1) = 1 then (
          if am_in (465 + s1.2) 2008 = true then (
          some (f 217 (465 + s1.2).toNatClampNeg)) else none)
        else (
          some 0)) : Option (Int32)).bind fun t2 =>
      am_let (s1.2 + 1 : Int32) fun t3 =>
      some (.inl ((s1.1 ^^^ t2), t3)))
    else (
      some (.inr s1.1))) : Option ((Int32 × Int32) ⊕ (Int32)))) am_F (0, 0)
set_option maxRecDepth 100000 in
set_option maxHeartbeats 4000000 in
theorem m_laidOn_ok {sc : Nat × (Nat → Int32)} (d : Nat) (a0 : Int32) (f g : (Nat → Nat → Int32)) (r : Int32) (h : m_laidOn a0 f = some r) : am_Ev sc (d) 285 (0, [(0, .ref 216), (1, .int a0)], [], am_SH, (g, f)) ((some (.int r)), am_SH, (g, f)) := by
  have hcd : am_code 285 = am_c285 := rfl
  unfold m_laidOn at h
  refine am_Ev.go hcd 4 (s' := (4, [(0, .ref 216), (1, .int a0), (2, .int 0), (3, .int 0)], [], am_SH, (g, f))) rfl ?_
  refine am_Ev.weak' (am_loop_ok (G := fun (s1 : Int32 × Int32) => am_Ev sc (d) 285 (4, [(0, .ref 216), (1, .int a0), (2, .int s1.1), (3, .int s1.2)], [], am_SH, (g, f)) ((some (.int r)), am_SH, (g, f))) (Z := fun (v : Int32) => (((some (.int v)), am_SH, (g, f)) : am_R) = ((some (.int r)), am_SH, (g, f))) ?_ am_F (0, 0) r h rfl) (am_sub_cons rfl (am_sub_cons rfl (am_sub_cons rfl (am_sub_cons rfl am_sub_nil)))) rfl
  intro s1 q1 h hI1 hZ1
  show am_Ev sc (d) 285 (4, [(0, .ref 216), (1, .int a0), (2, .int s1.1), (3, .int s1.2)], [], am_SH, (g, f)) ((some (.int r)), am_SH, (g, f))
  refine am_Ev.go hcd 5 (s' := (9, [(0, .ref 216), (1, .int a0), (2, .int s1.1), (3, .int s1.2)], [.int (f 217 464), .int s1.2], am_SH, (g, f))) rfl ?_
  rcases am_ite h with ⟨c6, h⟩ | ⟨c6, h⟩
  · refine am_Ev.t hcd (c := s1.2 < f 217 464) (s1 := (10, [(0, .ref 216), (1, .int a0), (2, .int s1.1), (3, .int s1.2)], [], am_SH, (g, f))) rfl c6 ?_
    obtain ⟨t2, ht2, kt2⟩ := am_bind_some h
    have hKt2 : am_Ev sc (d) 285 (26, [(0, .ref 216), (1, .int a0), (3, .int s1.2)], [.int t2, .int s1.1], am_SH, (g, f)) ((some (.int r)), am_SH, (g, f)) := by
      have h := kt2
      obtain ⟨t3, Et3, h⟩ := am_let_eq h
      refine am_Ev.go hcd 3 (s' := (29, [(0, .ref 216), (1, .int a0), (2, .int (s1.1 ^^^ t2)), (3, .int t3)], [], am_SH, (g, f))) (by subst Et3; exact rfl) ?_
      refine am_Ev.go hcd 1 (s' := (4, [(0, .ref 216), (1, .int a0), (2, .int (s1.1 ^^^ t2)), (3, .int t3)], [], am_SH, (g, f))) rfl ?_
      exact am_Ev.weak' (hI1 ((s1.1 ^^^ t2), t3) (Option.some.inj h).symm) (am_sub_cons rfl (am_sub_cons rfl (am_sub_cons rfl (am_sub_cons rfl am_sub_nil)))) rfl
    have hLt2 : ∀ tt, tt = t2 → am_Ev sc (d) 285 (26, [(0, .ref 216), (1, .int a0), (3, .int s1.2)], [.int tt, .int s1.1], am_SH, (g, f)) ((some (.int r)), am_SH, (g, f)) := fun tt htt => by subst htt; exact hKt2
    have h := ht2
    refine am_Ev.go hcd 7 (s' := (17, [(0, .ref 216), (1, .int a0), (2, .int s1.1), (3, .int s1.2)], [.int 1, .int ((a0 >>> (s1.2 &&& 31)) &&& 1), .int s1.1], am_SH, (g, f))) rfl ?_
    rcases am_ite h with ⟨c18, h⟩ | ⟨c18, h⟩
    · refine am_Ev.t hcd (c := ((a0 >>> (s1.2 &&& 31)) &&& 1) = 1) (s1 := (18, [(0, .ref 216), (1, .int a0), (2, .int s1.1), (3, .int s1.2)], [.int s1.1], am_SH, (g, f))) rfl c18 ?_
      refine am_Ev.go hcd 5 (s' := (23, [(0, .ref 216), (1, .int a0), (2, .int s1.1), (3, .int s1.2)], [.int (465 + s1.2), .ref 217, .int s1.1], am_SH, (g, f))) rfl ?_
      obtain ⟨c21, h⟩ := am_grd h
      refine am_Ev.t hcd (c := am_in (465 + s1.2) 2008 = true) (s1 := (24, [(0, .ref 216), (1, .int a0), (2, .int s1.1), (3, .int s1.2)], [.int (f 217 (465 + s1.2).toNatClampNeg), .int s1.1], am_SH, (g, f))) rfl c21 ?_
      refine am_Ev.go hcd 1 (s' := (26, [(0, .ref 216), (1, .int a0), (2, .int s1.1), (3, .int s1.2)], [.int (f 217 (465 + s1.2).toNatClampNeg), .int s1.1], am_SH, (g, f))) rfl ?_
      exact am_Ev.weak' (hLt2 (f 217 (465 + s1.2).toNatClampNeg) (Option.some.inj h)) (am_sub_cons rfl (am_sub_cons rfl (am_sub_cons rfl am_sub_nil))) rfl
    · refine am_Ev.f hcd (c := ((a0 >>> (s1.2 &&& 31)) &&& 1) = 1) (s1 := (25, [(0, .ref 216), (1, .int a0), (2, .int s1.1), (3, .int s1.2)], [.int s1.1], am_SH, (g, f))) rfl c18 ?_
      refine am_Ev.go hcd 1 (s' := (26, [(0, .ref 216), (1, .int a0), (2, .int s1.1), (3, .int s1.2)], [.int 0, .int s1.1], am_SH, (g, f))) rfl ?_
      exact am_Ev.weak' (hLt2 0 (Option.some.inj h)) (am_sub_cons rfl (am_sub_cons rfl (am_sub_cons rfl am_sub_nil))) rfl
  · refine am_Ev.f hcd (c := s1.2 < f 217 464) (s1 := (30, [(0, .ref 216), (1, .int a0), (2, .int s1.1), (3, .int s1.2)], [], am_SH, (g, f))) rfl c6 ?_
    refine am_Ev.go hcd 1 (s' := (31, [(0, .ref 216), (1, .int a0), (2, .int s1.1), (3, .int s1.2)], [.int s1.1], am_SH, (g, f))) rfl ?_
    exact am_Ev.cast (a := ((some (.int s1.1)), am_SH, (g, f))) (hZ1 _ (Option.some.inj h).symm) (am_Ev.ret hcd rfl)
def m_rank (f : (Nat → Nat → Int32)) : Option (Int32) :=
  (am_loop (fun (s1 : Int32 × Int32) => ((
    if s1.2 < (1 <<< ((f 217 464) &&& 31)) then (
      (m_laidOn s1.2 f).bind fun p2 =>
      am_let ((if p2 = 0 then (
          true)
        else (
          false)) : Bool) fun t3 =>
      am_let (s1.2 + 1 : Int32) fun t4 =>
      some (.inl ((s1.1 + (am_b t3)), t4)))
    else (
      some (.inr s1.1))) : Option ((Int32 × Int32) ⊕ (Int32)))) am_F (0, 0)).bind fun e5 =>
  am_let (f 217 464 : Int32) fun t6 =>
  am_loop (fun (s7 : Int32 × Int32) => ((
    if 1 < s7.1 then (
      am_let (s7.2 + (-1) : Int32) fun t8 =>
      some (.inl ((s7.1 / 2), t8)))
    else (
      some (.inr s7.2))) : Option ((Int32 × Int32) ⊕ (Int32)))) am_F (e5, t6)
set_option maxRecDepth 100000 in
set_option maxHeartbeats 4000000 in
theorem m_rank_ok {sc : Nat × (Nat → Int32)} (d : Nat)  (f g : (Nat → Nat → Int32)) (r : Int32) (h : m_rank  f = some r) : am_Ev sc (d + 1) 287 (0, [(0, .ref 216)], [], am_SH, (g, f)) ((some (.int r)), am_SH, (g, f)) := by
  have hcd : am_code 287 = am_c287 := rfl
  unfold m_rank at h
  refine am_Ev.go hcd 4 (s' := (4, [(0, .ref 216), (1, .int 0), (2, .int 0)], [], am_SH, (g, f))) rfl ?_
  obtain ⟨e5, he5, h⟩ := am_bind_some h
  have hK1 : (fun (e5 : Int32) => am_Ev sc (d + 1) 287 (24, [(0, .ref 216), (1, .int e5)], [], am_SH, (g, f)) ((some (.int r)), am_SH, (g, f))) e5 := by
    show am_Ev sc (d + 1) 287 (24, [(0, .ref 216), (1, .int e5)], [], am_SH, (g, f)) ((some (.int r)), am_SH, (g, f))
    obtain ⟨t6, Et6, h⟩ := am_let_eq h
    refine am_Ev.go hcd 5 (s' := (29, [(0, .ref 216), (1, .int e5), (2, .int t6)], [], am_SH, (g, f))) (by subst Et6; exact rfl) ?_
    refine am_Ev.weak' (am_loop_ok (G := fun (s7 : Int32 × Int32) => am_Ev sc (d + 1) 287 (29, [(1, .int s7.1), (2, .int s7.2)], [], am_SH, (g, f)) ((some (.int r)), am_SH, (g, f))) (Z := fun (v : Int32) => (((some (.int v)), am_SH, (g, f)) : am_R) = ((some (.int r)), am_SH, (g, f))) ?_ am_F (e5, t6) r h rfl) (am_sub_cons rfl (am_sub_cons rfl am_sub_nil)) rfl
    intro s7 q7 h hI7 hZ7
    show am_Ev sc (d + 1) 287 (29, [(1, .int s7.1), (2, .int s7.2)], [], am_SH, (g, f)) ((some (.int r)), am_SH, (g, f))
    refine am_Ev.go hcd 2 (s' := (31, [(1, .int s7.1), (2, .int s7.2)], [.int 1, .int s7.1], am_SH, (g, f))) rfl ?_
    rcases am_ite h with ⟨c11, h⟩ | ⟨c11, h⟩
    · refine am_Ev.t hcd (c := 1 < s7.1) (s1 := (32, [(1, .int s7.1), (2, .int s7.2)], [], am_SH, (g, f))) rfl c11 ?_
      obtain ⟨t8, Et8, h⟩ := am_let_eq h
      refine am_Ev.go hcd 5 (s' := (37, [(1, .int (s7.1 / 2)), (2, .int t8)], [], am_SH, (g, f))) (by subst Et8; exact rfl) ?_
      refine am_Ev.go hcd 1 (s' := (29, [(1, .int (s7.1 / 2)), (2, .int t8)], [], am_SH, (g, f))) rfl ?_
      exact am_Ev.weak' (hI7 ((s7.1 / 2), t8) (Option.some.inj h).symm) (am_sub_cons rfl (am_sub_cons rfl am_sub_nil)) rfl
    · refine am_Ev.f hcd (c := 1 < s7.1) (s1 := (38, [(1, .int s7.1), (2, .int s7.2)], [], am_SH, (g, f))) rfl c11 ?_
      refine am_Ev.go hcd 1 (s' := (39, [(1, .int s7.1), (2, .int s7.2)], [.int s7.2], am_SH, (g, f))) rfl ?_
      exact am_Ev.cast (a := ((some (.int s7.2)), am_SH, (g, f))) (hZ7 _ (Option.some.inj h).symm) (am_Ev.ret hcd rfl)
  refine am_Ev.weak' (am_loop_ok (G := fun (s1 : Int32 × Int32) => am_Ev sc (d + 1) 287 (4, [(0, .ref 216), (1, .int s1.1), (2, .int s1.2)], [], am_SH, (g, f)) ((some (.int r)), am_SH, (g, f))) (Z := fun (e5 : Int32) => am_Ev sc (d + 1) 287 (24, [(0, .ref 216), (1, .int e5)], [], am_SH, (g, f)) ((some (.int r)), am_SH, (g, f))) ?_ am_F (0, 0) e5 he5 hK1) (am_sub_cons rfl (am_sub_cons rfl (am_sub_cons rfl am_sub_nil))) rfl
  intro s1 q1 h hI1 hZ1
  show am_Ev sc (d + 1) 287 (4, [(0, .ref 216), (1, .int s1.1), (2, .int s1.2)], [], am_SH, (g, f)) ((some (.int r)), am_SH, (g, f))
  refine am_Ev.go hcd 7 (s' := (11, [(0, .ref 216), (1, .int s1.1), (2, .int s1.2)], [.int (1 <<< ((f 217 464) &&& 31)), .int s1.2], am_SH, (g, f))) rfl ?_
  rcases am_ite h with ⟨c24, h⟩ | ⟨c24, h⟩
  · refine am_Ev.t hcd (c := s1.2 < (1 <<< ((f 217 464) &&& 31))) (s1 := (12, [(0, .ref 216), (1, .int s1.1), (2, .int s1.2)], [], am_SH, (g, f))) rfl c24 ?_
    refine am_Ev.go hcd 3 (s' := (15, [(0, .ref 216), (1, .int s1.1), (2, .int s1.2)], [.int s1.2, .ref 216, .int s1.1], am_SH, (g, f))) rfl ?_
    obtain ⟨p2, hp2, h⟩ := am_bind_some h
    refine am_Ev.call hcd (a := 285) (s0 := (0, [(0, .ref 216), (1, .int s1.2)], [], am_SH, (g, f))) (q := ((some (.int p2)), am_SH, (g, f))) (s1 := (16, [(0, .ref 216), (1, .int s1.1), (2, .int s1.2)], [.int p2, .int s1.1], am_SH, (g, f))) rfl rfl (m_laidOn_ok (d) s1.2 f g p2 hp2) ?_
    obtain ⟨t3, ht3, kt3⟩ := am_let_eq h
    have hKt3 : am_Ev sc (d + 1) 287 (20, [(0, .ref 216), (2, .int s1.2)], [.int (am_b t3), .int s1.1], am_SH, (g, f)) ((some (.int r)), am_SH, (g, f)) := by
      have h := kt3
      obtain ⟨t4, Et4, h⟩ := am_let_eq h
      refine am_Ev.go hcd 3 (s' := (23, [(0, .ref 216), (1, .int (s1.1 + (am_b t3))), (2, .int t4)], [], am_SH, (g, f))) (by subst Et4; exact rfl) ?_
      refine am_Ev.go hcd 1 (s' := (4, [(0, .ref 216), (1, .int (s1.1 + (am_b t3))), (2, .int t4)], [], am_SH, (g, f))) rfl ?_
      exact am_Ev.weak' (hI1 ((s1.1 + (am_b t3)), t4) (Option.some.inj h).symm) (am_sub_cons rfl (am_sub_cons rfl (am_sub_cons rfl am_sub_nil))) rfl
    have hLt3 : ∀ tt, tt = t3 → am_Ev sc (d + 1) 287 (20, [(0, .ref 216), (2, .int s1.2)], [.int (am_b tt), .int s1.1], am_SH, (g, f)) ((some (.int r)), am_SH, (g, f)) := fun tt htt => by subst htt; exact hKt3
    have h := ht3
    rcases am_itv h with ⟨c39, h⟩ | ⟨c39, h⟩
    · refine am_Ev.t hcd (c := p2 = 0) (s1 := (17, [(0, .ref 216), (1, .int s1.1), (2, .int s1.2)], [.int s1.1], am_SH, (g, f))) rfl c39 ?_
      refine am_Ev.go hcd 2 (s' := (20, [(0, .ref 216), (1, .int s1.1), (2, .int s1.2)], [.int 1, .int s1.1], am_SH, (g, f))) rfl ?_
      exact am_Ev.weak' (hLt3 true h.symm) (am_sub_cons rfl (am_sub_cons rfl am_sub_nil)) rfl
    · refine am_Ev.f hcd (c := p2 = 0) (s1 := (19, [(0, .ref 216), (1, .int s1.1), (2, .int s1.2)], [.int s1.1], am_SH, (g, f))) rfl c39 ?_
      refine am_Ev.go hcd 1 (s' := (20, [(0, .ref 216), (1, .int s1.1), (2, .int s1.2)], [.int 0, .int s1.1], am_SH, (g, f))) rfl ?_
      exact am_Ev.weak' (hLt3 false h.symm) (am_sub_cons rfl (am_sub_cons rfl am_sub_nil)) rfl
  · refine am_Ev.f hcd (c := s1.2 < (1 <<< ((f 217 464) &&& 31))) (s1 := (24, [(0, .ref 216), (1, .int s1.1), (2, .int s1.2)], [], am_SH, (g, f))) rfl c24 ?_
    exact am_Ev.weak' (hZ1 s1.1 (Option.some.inj h).symm) (am_sub_cons rfl (am_sub_cons rfl am_sub_nil)) rfl
def m_fewestFor (a0 : Int32) (f : (Nat → Nat → Int32)) : Option (Int32) :=
  am_loop (fun (s1 : Int32 × Int32) => ((
    if s1.2 < (1 <<< ((f 217 464) &&& 31)) then (
      (m_laidOn s1.2 f).bind fun p2 =>
      ((if p2 = a0 then (
          if s1.1 = (-1) then (
            (m_bitsOf s1.2).bind fun p3 =>
            some p3)
          else (
            (m_bitsOf s1.2).bind fun p4 =>
            if p4 < s1.1 then (
              (m_bitsOf s1.2).bind fun p5 =>
              some p5)
            else (
              some s1.1)))
        else (
          some s1.1)) : Option (Int32)).bind fun t6 =>
      am_let (s1.2 + 1 : Int32) fun t7 =>
      some (.inl (t6, t7)))
    else (
      some (.inr s1.1))) : Option ((Int32 × Int32) ⊕ (Int32)))) am_F ((-1), 0)
set_option maxRecDepth 100000 in
set_option maxHeartbeats 4000000 in
theorem m_fewestFor_ok {sc : Nat × (Nat → Int32)} (d : Nat) (a0 : Int32) (f g : (Nat → Nat → Int32)) (r : Int32) (h : m_fewestFor a0 f = some r) : am_Ev sc (d + 1) 286 (0, [(0, .ref 216), (1, .int a0)], [], am_SH, (g, f)) ((some (.int r)), am_SH, (g, f)) := by
  have hcd : am_code 286 = am_c286 := rfl
  unfold m_fewestFor at h
  refine am_Ev.go hcd 4 (s' := (4, [(0, .ref 216), (1, .int a0), (2, .int (-1)), (3, .int 0)], [], am_SH, (g, f))) rfl ?_
  refine am_Ev.weak' (am_loop_ok (G := fun (s1 : Int32 × Int32) => am_Ev sc (d + 1) 286 (4, [(0, .ref 216), (1, .int a0), (2, .int s1.1), (3, .int s1.2)], [], am_SH, (g, f)) ((some (.int r)), am_SH, (g, f))) (Z := fun (v : Int32) => (((some (.int v)), am_SH, (g, f)) : am_R) = ((some (.int r)), am_SH, (g, f))) ?_ am_F ((-1), 0) r h rfl) (am_sub_cons rfl (am_sub_cons rfl (am_sub_cons rfl (am_sub_cons rfl am_sub_nil)))) rfl
  intro s1 q1 h hI1 hZ1
  show am_Ev sc (d + 1) 286 (4, [(0, .ref 216), (1, .int a0), (2, .int s1.1), (3, .int s1.2)], [], am_SH, (g, f)) ((some (.int r)), am_SH, (g, f))
  refine am_Ev.go hcd 7 (s' := (11, [(0, .ref 216), (1, .int a0), (2, .int s1.1), (3, .int s1.2)], [.int (1 <<< ((f 217 464) &&& 31)), .int s1.2], am_SH, (g, f))) rfl ?_
  rcases am_ite h with ⟨c6, h⟩ | ⟨c6, h⟩
  · refine am_Ev.t hcd (c := s1.2 < (1 <<< ((f 217 464) &&& 31))) (s1 := (12, [(0, .ref 216), (1, .int a0), (2, .int s1.1), (3, .int s1.2)], [], am_SH, (g, f))) rfl c6 ?_
    refine am_Ev.go hcd 2 (s' := (14, [(0, .ref 216), (1, .int a0), (2, .int s1.1), (3, .int s1.2)], [.int s1.2, .ref 216], am_SH, (g, f))) rfl ?_
    obtain ⟨p2, hp2, h⟩ := am_bind_some h
    refine am_Ev.call hcd (a := 285) (s0 := (0, [(0, .ref 216), (1, .int s1.2)], [], am_SH, (g, f))) (q := ((some (.int p2)), am_SH, (g, f))) (s1 := (15, [(0, .ref 216), (1, .int a0), (2, .int s1.1), (3, .int s1.2)], [.int p2], am_SH, (g, f))) rfl rfl (m_laidOn_ok (d) s1.2 f g p2 hp2) ?_
    obtain ⟨t6, ht6, kt6⟩ := am_bind_some h
    have hKt6 : am_Ev sc (d + 1) 286 (27, [(0, .ref 216), (1, .int a0), (2, .int t6), (3, .int s1.2)], [], am_SH, (g, f)) ((some (.int r)), am_SH, (g, f)) := by
      have h := kt6
      obtain ⟨t7, Et7, h⟩ := am_let_eq h
      refine am_Ev.go hcd 1 (s' := (28, [(0, .ref 216), (1, .int a0), (2, .int t6), (3, .int t7)], [], am_SH, (g, f))) (by subst Et7; exact rfl) ?_
      refine am_Ev.go hcd 1 (s' := (4, [(0, .ref 216), (1, .int a0), (2, .int t6), (3, .int t7)], [], am_SH, (g, f))) rfl ?_
      exact am_Ev.weak' (hI1 (t6, t7) (Option.some.inj h).symm) (am_sub_cons rfl (am_sub_cons rfl (am_sub_cons rfl (am_sub_cons rfl am_sub_nil)))) rfl
    have hLt6 : ∀ tt, tt = t6 → am_Ev sc (d + 1) 286 (27, [(0, .ref 216), (1, .int a0), (2, .int tt), (3, .int s1.2)], [], am_SH, (g, f)) ((some (.int r)), am_SH, (g, f)) := fun tt htt => by subst htt; exact hKt6
    have h := ht6
    refine am_Ev.go hcd 1 (s' := (16, [(0, .ref 216), (1, .int a0), (2, .int s1.1), (3, .int s1.2)], [.int a0, .int p2], am_SH, (g, f))) rfl ?_
    rcases am_ite h with ⟨c21, h⟩ | ⟨c21, h⟩
    · refine am_Ev.t hcd (c := p2 = a0) (s1 := (17, [(0, .ref 216), (1, .int a0), (2, .int s1.1), (3, .int s1.2)], [], am_SH, (g, f))) rfl c21 ?_
      refine am_Ev.go hcd 2 (s' := (19, [(0, .ref 216), (1, .int a0), (2, .int s1.1), (3, .int s1.2)], [.int (-1), .int s1.1], am_SH, (g, f))) rfl ?_
      rcases am_ite h with ⟨c24, h⟩ | ⟨c24, h⟩
      · refine am_Ev.t hcd (c := s1.1 = (-1)) (s1 := (24, [(0, .ref 216), (1, .int a0), (2, .int s1.1), (3, .int s1.2)], [], am_SH, (g, f))) rfl c24 ?_
        refine am_Ev.go hcd 1 (s' := (25, [(0, .ref 216), (1, .int a0), (2, .int s1.1), (3, .int s1.2)], [.int s1.2], am_SH, (g, f))) rfl ?_
        obtain ⟨p3, hp3, h⟩ := am_bind_some h
        refine am_Ev.call hcd (a := 179) (s0 := (0, [(0, .int s1.2)], [], am_SH, (g, f))) (q := ((some (.int p3)), am_SH, (g, f))) (s1 := (26, [(0, .ref 216), (1, .int a0), (2, .int s1.1), (3, .int s1.2)], [.int p3], am_SH, (g, f))) rfl rfl (m_bitsOf_ok (d) s1.2 (g, f) p3 hp3) ?_
        refine am_Ev.go hcd 1 (s' := (27, [(0, .ref 216), (1, .int a0), (2, .int p3), (3, .int s1.2)], [], am_SH, (g, f))) rfl ?_
        exact am_Ev.weak' (hLt6 p3 (Option.some.inj h)) (am_sub_cons rfl (am_sub_cons rfl (am_sub_cons rfl (am_sub_cons rfl am_sub_nil)))) rfl
      · refine am_Ev.f hcd (c := s1.1 = (-1)) (s1 := (20, [(0, .ref 216), (1, .int a0), (2, .int s1.1), (3, .int s1.2)], [], am_SH, (g, f))) rfl c24 ?_
        refine am_Ev.go hcd 1 (s' := (21, [(0, .ref 216), (1, .int a0), (2, .int s1.1), (3, .int s1.2)], [.int s1.2], am_SH, (g, f))) rfl ?_
        obtain ⟨p4, hp4, h⟩ := am_bind_some h
        refine am_Ev.call hcd (a := 179) (s0 := (0, [(0, .int s1.2)], [], am_SH, (g, f))) (q := ((some (.int p4)), am_SH, (g, f))) (s1 := (22, [(0, .ref 216), (1, .int a0), (2, .int s1.1), (3, .int s1.2)], [.int p4], am_SH, (g, f))) rfl rfl (m_bitsOf_ok (d) s1.2 (g, f) p4 hp4) ?_
        refine am_Ev.go hcd 1 (s' := (23, [(0, .ref 216), (1, .int a0), (2, .int s1.1), (3, .int s1.2)], [.int s1.1, .int p4], am_SH, (g, f))) rfl ?_
        rcases am_ite h with ⟨c36, h⟩ | ⟨c36, h⟩
        · refine am_Ev.t hcd (c := p4 < s1.1) (s1 := (24, [(0, .ref 216), (1, .int a0), (2, .int s1.1), (3, .int s1.2)], [], am_SH, (g, f))) rfl c36 ?_
          refine am_Ev.go hcd 1 (s' := (25, [(0, .ref 216), (1, .int a0), (2, .int s1.1), (3, .int s1.2)], [.int s1.2], am_SH, (g, f))) rfl ?_
          obtain ⟨p5, hp5, h⟩ := am_bind_some h
          refine am_Ev.call hcd (a := 179) (s0 := (0, [(0, .int s1.2)], [], am_SH, (g, f))) (q := ((some (.int p5)), am_SH, (g, f))) (s1 := (26, [(0, .ref 216), (1, .int a0), (2, .int s1.1), (3, .int s1.2)], [.int p5], am_SH, (g, f))) rfl rfl (m_bitsOf_ok (d) s1.2 (g, f) p5 hp5) ?_
          refine am_Ev.go hcd 1 (s' := (27, [(0, .ref 216), (1, .int a0), (2, .int p5), (3, .int s1.2)], [], am_SH, (g, f))) rfl ?_
          exact am_Ev.weak' (hLt6 p5 (Option.some.inj h)) (am_sub_cons rfl (am_sub_cons rfl (am_sub_cons rfl (am_sub_cons rfl am_sub_nil)))) rfl
        · refine am_Ev.f hcd (c := p4 < s1.1) (s1 := (27, [(0, .ref 216), (1, .int a0), (2, .int s1.1), (3, .int s1.2)], [], am_SH, (g, f))) rfl c36 ?_
          exact am_Ev.weak' (hLt6 s1.1 (Option.some.inj h)) (am_sub_cons rfl (am_sub_cons rfl (am_sub_cons rfl (am_sub_cons rfl am_sub_nil)))) rfl
    · refine am_Ev.f hcd (c := p2 = a0) (s1 := (27, [(0, .ref 216), (1, .int a0), (2, .int s1.1), (3, .int s1.2)], [], am_SH, (g, f))) rfl c21 ?_
      exact am_Ev.weak' (hLt6 s1.1 (Option.some.inj h)) (am_sub_cons rfl (am_sub_cons rfl (am_sub_cons rfl (am_sub_cons rfl am_sub_nil)))) rfl
  · refine am_Ev.f hcd (c := s1.2 < (1 <<< ((f 217 464) &&& 31))) (s1 := (29, [(0, .ref 216), (1, .int a0), (2, .int s1.1), (3, .int s1.2)], [], am_SH, (g, f))) rfl c6 ?_
    refine am_Ev.go hcd 1 (s' := (30, [(0, .ref 216), (1, .int a0), (2, .int s1.1), (3, .int s1.2)], [.int s1.1], am_SH, (g, f))) rfl ?_
    exact am_Ev.cast (a := ((some (.int s1.1)), am_SH, (g, f))) (hZ1 _ (Option.some.inj h).symm) (am_Ev.ret hcd rfl)
