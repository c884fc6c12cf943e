def m_world (a0 : Int32) (a1 : Int32) (f : (Nat → Nat → Int32)) : Option (Int32 × (Nat → Nat → Int32)) :=
  if a0 = (-1) then (
    (m_endsRow 424 f).bind fun p1 =>
    some (p1.1, p1.2))
  else (
    if (m_isIn a0 1 9) = true then (
      if (m_isIn a1 0 255) = true then (
        (m_tellsTwo 424 6 a0 a1 f).bind fun p4 =>
        some (p4.1, p4.2))
      else (
        some ((-1), f)))
    else (
      some ((-1), f)))
set_option maxRecDepth 100000 in
set_option maxHeartbeats 4000000 in
theorem m_world_ok {sc : Nat × (Nat → Int32)} (d : Nat) (a0 : Int32) (a1 : Int32) (f g : (Nat → Nat → Int32)) (r : Int32 × (Nat → Nat → Int32)) (h : m_world a0 a1 f = some r) : am_Ev sc (d + 1) 269 (0, [(0, .ref 216), (1, .int a0), (2, .int a1)], [], am_SH, (g, f)) ((some (.int r.1)), am_SH, (g, r.2)) := by
  have hcd : am_code 269 = am_c269 := rfl
  unfold m_world at h
  refine am_Ev.go hcd 2 (s' := (2, [(0, .ref 216), (1, .int a0), (2, .int a1)], [.int (-1), .int a0], am_SH, (g, f))) rfl ?_
  rcases am_ite h with ⟨c2, h⟩ | ⟨c2, h⟩
  · refine am_Ev.t hcd (c := a0 = (-1)) (s1 := (3, [(0, .ref 216), (1, .int a0), (2, .int a1)], [], am_SH, (g, f))) rfl c2 ?_
    refine am_Ev.go hcd 2 (s' := (5, [(0, .ref 216), (1, .int a0), (2, .int a1)], [.int 424, .ref 216], am_SH, (g, f))) rfl ?_
    obtain ⟨p1, hp1, h⟩ := am_bind_some h
    refine am_Ev.call hcd (a := 262) (s0 := (0, [(0, .ref 216), (1, .int 424)], [], am_SH, (g, f))) (q := ((some (.int p1.1)), am_SH, (g, p1.2))) (s1 := (6, [(0, .ref 216), (1, .int a0), (2, .int a1)], [.int p1.1], am_SH, (g, p1.2))) rfl rfl (m_endsRow_ok (d) 424 f g p1 hp1) ?_
    refine am_Ev.go hcd 1 (s' := (25, [(0, .ref 216), (1, .int a0), (2, .int a1)], [.int p1.1], am_SH, (g, p1.2))) rfl ?_
    exact am_Ev.cast (a := ((some (.int (p1.1, p1.2).1)), am_SH, (g, (p1.1, p1.2).2))) (by cases h; rfl) (am_Ev.ret hcd rfl)
  · refine am_Ev.f hcd (c := a0 = (-1)) (s1 := (7, [(0, .ref 216), (1, .int a0), (2, .int a1)], [], am_SH, (g, f))) rfl c2 ?_
    refine am_Ev.go hcd 3 (s' := (10, [(0, .ref 216), (1, .int a0), (2, .int a1)], [.int 9, .int 1, .int a0], am_SH, (g, f))) rfl ?_
    refine am_Ev.call hcd (a := 176) (s0 := (0, [(0, .int a0), (1, .int 1), (2, .int 9)], [], am_SH, (g, f))) (q := ((some (.int (am_b (m_isIn a0 1 9)))), am_SH, (g, f))) (s1 := (11, [(0, .ref 216), (1, .int a0), (2, .int a1)], [.int (am_b (m_isIn a0 1 9))], am_SH, (g, f))) rfl rfl (m_isIn_ok (d) a0 1 9 (g, f)) ?_
    rcases am_ite h with ⟨c13, h⟩ | ⟨c13, h⟩
    · refine am_Ev.f hcd (c := am_b (m_isIn a0 1 9) = 0) (s1 := (12, [(0, .ref 216), (1, .int a0), (2, .int a1)], [], am_SH, (g, f))) rfl (am_b_t c13) ?_
      refine am_Ev.go hcd 3 (s' := (15, [(0, .ref 216), (1, .int a0), (2, .int a1)], [.int 255, .int 0, .int a1], am_SH, (g, f))) rfl ?_
      refine am_Ev.call hcd (a := 176) (s0 := (0, [(0, .int a1), (1, .int 0), (2, .int 255)], [], am_SH, (g, f))) (q := ((some (.int (am_b (m_isIn a1 0 255)))), am_SH, (g, f))) (s1 := (16, [(0, .ref 216), (1, .int a0), (2, .int a1)], [.int (am_b (m_isIn a1 0 255))], am_SH, (g, f))) rfl rfl (m_isIn_ok (d) a1 0 255 (g, f)) ?_
      rcases am_ite h with ⟨c17, h⟩ | ⟨c17, h⟩
      · refine am_Ev.f hcd (c := am_b (m_isIn a1 0 255) = 0) (s1 := (17, [(0, .ref 216), (1, .int a0), (2, .int a1)], [], am_SH, (g, f))) rfl (am_b_t c17) ?_
        refine am_Ev.go hcd 5 (s' := (22, [(0, .ref 216), (1, .int a0), (2, .int a1)], [.int a1, .int a0, .int 6, .int 424, .ref 216], am_SH, (g, f))) rfl ?_
        obtain ⟨p4, hp4, h⟩ := am_bind_some h
        refine am_Ev.call hcd (a := 261) (s0 := (0, [(0, .ref 216), (1, .int 424), (2, .int 6), (3, .int a0), (4, .int a1)], [], am_SH, (g, f))) (q := ((some (.int p4.1)), am_SH, (g, p4.2))) (s1 := (23, [(0, .ref 216), (1, .int a0), (2, .int a1)], [.int p4.1], am_SH, (g, p4.2))) rfl rfl (m_tellsTwo_ok (d) 424 6 a0 a1 f g p4 hp4) ?_
        refine am_Ev.go hcd 1 (s' := (25, [(0, .ref 216), (1, .int a0), (2, .int a1)], [.int p4.1], am_SH, (g, p4.2))) rfl ?_
        exact am_Ev.cast (a := ((some (.int (p4.1, p4.2).1)), am_SH, (g, (p4.1, p4.2).2))) (by cases h; rfl) (am_Ev.ret hcd rfl)
      · refine am_Ev.t hcd (c := am_b (m_isIn a1 0 255) = 0) (s1 := (24, [(0, .ref 216), (1, .int a0), (2, .int a1)], [], am_SH, (g, f))) rfl (am_b_f c17) ?_
        refine am_Ev.go hcd 1 (s' := (25, [(0, .ref 216), (1, .int a0), (2, .int a1)], [.int (-1)], am_SH, (g, f))) rfl ?_
        exact am_Ev.cast (a := ((some (.int ((-1), f).1)), am_SH, (g, ((-1), f).2))) (by cases h; rfl) (am_Ev.ret hcd rfl)
    · refine am_Ev.t hcd (c := am_b (m_isIn a0 1 9) = 0) (s1 := (24, [(0, .ref 216), (1, .int a0), (2, .int a1)], [], am_SH, (g, f))) rfl (am_b_f c13) ?_
      refine am_Ev.go hcd 1 (s' := (25, [(0, .ref 216), (1, .int a0), (2, .int a1)], [.int (-1)], am_SH, (g, f))) rfl ?_
      exact am_Ev.cast (a := ((some (.int ((-1), f).1)), am_SH, (g, ((-1), f).2))) (by cases h; rfl) (am_Ev.ret hcd rfl)
def m_likely (a0 : Int32) (a1 : Int32) (a2 : Int32) (f : (Nat → Nat → Int32)) : Option (Int32) :=
  if am_in (425 + (2 * a0)) 2008 = true then (
  am_let (f 217 (425 + (2 * a0)).toNatClampNeg : Int32) fun t1 =>
  if am_in (426 + (2 * a0)) 2008 = true then (
  am_loop (fun (s2 : Int32 × Int32) => ((
    if s2.2 < 8 then (
      am_let ((if ((((f 217 (426 + (2 * a0)).toNatClampNeg) ^^^ a2) >>> (s2.2 &&& 31)) &&& 1) = 1 then (
          1)
        else (
          (a1 - 1))) : Int32) fun t3 =>
      am_let (s2.2 + 1 : Int32) fun t4 =>
      some (.inl ((s2.1 * t3), t4)))
    else (
      some (.inr s2.1))) : Option ((Int32 × Int32) ⊕ (Int32)))) am_F (t1, 0)) else none) else none
set_option maxRecDepth 100000 in
set_option maxHeartbeats 4000000 in
theorem m_likely_ok {sc : Nat × (Nat → Int32)} (d : Nat) (a0 : Int32) (a1 : Int32) (a2 : Int32) (f g : (Nat → Nat → Int32)) (r : Int32) (h : m_likely a0 a1 a2 f = some r) : am_Ev sc (d) 270 (0, [(0, .ref 216), (1, .int a0), (2, .int a1), (3, .int a2)], [], am_SH, (g, f)) ((some (.int r)), am_SH, (g, f)) := by
  have hcd : am_code 270 = am_c270 := rfl
  unfold m_likely at h
  refine am_Ev.go hcd 7 (s' := (7, [(0, .ref 216), (1, .int a0), (2, .int a1), (3, .int a2)], [.int (425 + (2 * a0)), .ref 217], am_SH, (g, f))) rfl ?_
  obtain ⟨c2, h⟩ := am_grd h
  refine am_Ev.t hcd (c := am_in (425 + (2 * a0)) 2008 = true) (s1 := (8, [(0, .ref 216), (1, .int a0), (2, .int a1), (3, .int a2)], [.int (f 217 (425 + (2 * a0)).toNatClampNeg)], am_SH, (g, f))) rfl c2 ?_
  obtain ⟨t1, Et1, h⟩ := am_let_eq h
  refine am_Ev.go hcd 1 (s' := (9, [(0, .ref 216), (1, .int a0), (2, .int a1), (3, .int a2), (4, .int t1)], [], am_SH, (g, f))) (by subst Et1; exact rfl) ?_
  refine am_Ev.go hcd 7 (s' := (16, [(0, .ref 216), (1, .int a0), (2, .int a1), (3, .int a2), (4, .int t1)], [.int (426 + (2 * a0)), .ref 217], am_SH, (g, f))) rfl ?_
  obtain ⟨c7, h⟩ := am_grd h
  refine am_Ev.t hcd (c := am_in (426 + (2 * a0)) 2008 = true) (s1 := (17, [(0, .ref 216), (1, .int a0), (2, .int a1), (3, .int a2), (4, .int t1)], [.int (f 217 (426 + (2 * a0)).toNatClampNeg)], am_SH, (g, f))) rfl c7 ?_
  refine am_Ev.go hcd 5 (s' := (22, [(0, .ref 216), (1, .int a0), (2, .int a1), (3, .int a2), (4, .int t1), (5, .int ((f 217 (426 + (2 * a0)).toNatClampNeg) ^^^ a2)), (6, .int 0)], [], am_SH, (g, f))) rfl ?_
  refine am_Ev.weak' (am_loop_ok (G := fun (s2 : Int32 × Int32) => am_Ev sc (d) 270 (22, [(2, .int a1), (4, .int s2.1), (5, .int ((f 217 (426 + (2 * a0)).toNatClampNeg) ^^^ a2)), (6, .int s2.2)], [], am_SH, (g, f)) ((some (.int r)), am_SH, (g, f))) (Z := fun (v : Int32) => (((some (.int v)), am_SH, (g, f)) : am_R) = ((some (.int r)), am_SH, (g, f))) ?_ am_F (t1, 0) r h rfl) (am_sub_cons rfl (am_sub_cons rfl (am_sub_cons rfl (am_sub_cons rfl am_sub_nil)))) rfl
  intro s2 q2 h hI2 hZ2
  show am_Ev sc (d) 270 (22, [(2, .int a1), (4, .int s2.1), (5, .int ((f 217 (426 + (2 * a0)).toNatClampNeg) ^^^ a2)), (6, .int s2.2)], [], am_SH, (g, f)) ((some (.int r)), am_SH, (g, f))
  refine am_Ev.go hcd 2 (s' := (24, [(2, .int a1), (4, .int s2.1), (5, .int ((f 217 (426 + (2 * a0)).toNatClampNeg) ^^^ a2)), (6, .int s2.2)], [.int 8, .int s2.2], am_SH, (g, f))) rfl ?_
  rcases am_ite h with ⟨c14, h⟩ | ⟨c14, h⟩
  · refine am_Ev.t hcd (c := s2.2 < 8) (s1 := (25, [(2, .int a1), (4, .int s2.1), (5, .int ((f 217 (426 + (2 * a0)).toNatClampNeg) ^^^ a2)), (6, .int s2.2)], [], am_SH, (g, f))) rfl c14 ?_
    obtain ⟨t3, ht3, kt3⟩ := am_let_eq h
    have hKt3 : am_Ev sc (d) 270 (38, [(2, .int a1), (5, .int ((f 217 (426 + (2 * a0)).toNatClampNeg) ^^^ a2)), (6, .int s2.2)], [.int t3, .int s2.1], am_SH, (g, f)) ((some (.int r)), am_SH, (g, f)) := by
      have h := kt3
      obtain ⟨t4, Et4, h⟩ := am_let_eq h
      refine am_Ev.go hcd 3 (s' := (41, [(2, .int a1), (4, .int (s2.1 * t3)), (5, .int ((f 217 (426 + (2 * a0)).toNatClampNeg) ^^^ a2)), (6, .int t4)], [], am_SH, (g, f))) (by subst Et4; exact rfl) ?_
      refine am_Ev.go hcd 1 (s' := (22, [(2, .int a1), (4, .int (s2.1 * t3)), (5, .int ((f 217 (426 + (2 * a0)).toNatClampNeg) ^^^ a2)), (6, .int t4)], [], am_SH, (g, f))) rfl ?_
      exact am_Ev.weak' (hI2 ((s2.1 * t3), t4) (Option.some.inj h).symm) (am_sub_cons rfl (am_sub_cons rfl (am_sub_cons rfl (am_sub_cons rfl am_sub_nil)))) rfl
    have hLt3 : ∀ tt, tt = t3 → am_Ev sc (d) 270 (38, [(2, .int a1), (5, .int ((f 217 (426 + (2 * a0)).toNatClampNeg) ^^^ a2)), (6, .int s2.2)], [.int tt, .int s2.1], am_SH, (g, f)) ((some (.int r)), am_SH, (g, f)) := fun tt htt => by subst htt; exact hKt3
    have h := ht3
    refine am_Ev.go hcd 7 (s' := (32, [(2, .int a1), (4, .int s2.1), (5, .int ((f 217 (426 + (2 * a0)).toNatClampNeg) ^^^ a2)), (6, .int s2.2)], [.int 1, .int ((((f 217 (426 + (2 * a0)).toNatClampNeg) ^^^ a2) >>> (s2.2 &&& 31)) &&& 1), .int s2.1], am_SH, (g, f))) rfl ?_
    rcases am_itv h with ⟨c26, h⟩ | ⟨c26, h⟩
    · refine am_Ev.t hcd (c := ((((f 217 (426 + (2 * a0)).toNatClampNeg) ^^^ a2) >>> (s2.2 &&& 31)) &&& 1) = 1) (s1 := (33, [(2, .int a1), (4, .int s2.1), (5, .int ((f 217 (426 + (2 * a0)).toNatClampNeg) ^^^ a2)), (6, .int s2.2)], [.int s2.1], am_SH, (g, f))) rfl c26 ?_
      refine am_Ev.go hcd 2 (s' := (38, [(2, .int a1), (4, .int s2.1), (5, .int ((f 217 (426 + (2 * a0)).toNatClampNeg) ^^^ a2)), (6, .int s2.2)], [.int 1, .int s2.1], am_SH, (g, f))) rfl ?_
      exact am_Ev.weak' (hLt3 1 h.symm) (am_sub_cons rfl (am_sub_cons rfl (am_sub_cons rfl am_sub_nil))) rfl
    · refine am_Ev.f hcd (c := ((((f 217 (426 + (2 * a0)).toNatClampNeg) ^^^ a2) >>> (s2.2 &&& 31)) &&& 1) = 1) (s1 := (35, [(2, .int a1), (4, .int s2.1), (5, .int ((f 217 (426 + (2 * a0)).toNatClampNeg) ^^^ a2)), (6, .int s2.2)], [.int s2.1], am_SH, (g, f))) rfl c26 ?_
      refine am_Ev.go hcd 3 (s' := (38, [(2, .int a1), (4, .int s2.1), (5, .int ((f 217 (426 + (2 * a0)).toNatClampNeg) ^^^ a2)), (6, .int s2.2)], [.int (a1 - 1), .int s2.1], am_SH, (g, f))) rfl ?_
      exact am_Ev.weak' (hLt3 (a1 - 1) h.symm) (am_sub_cons rfl (am_sub_cons rfl (am_sub_cons rfl am_sub_nil))) rfl
  · refine am_Ev.f hcd (c := s2.2 < 8) (s1 := (42, [(2, .int a1), (4, .int s2.1), (5, .int ((f 217 (426 + (2 * a0)).toNatClampNeg) ^^^ a2)), (6, .int s2.2)], [], am_SH, (g, f))) rfl c14 ?_
    refine am_Ev.go hcd 1 (s' := (43, [(2, .int a1), (4, .int s2.1), (5, .int ((f 217 (426 + (2 * a0)).toNatClampNeg) ^^^ a2)), (6, .int s2.2)], [.int s2.1], am_SH, (g, f))) rfl ?_
    exact am_Ev.cast (a := ((some (.int s2.1)), am_SH, (g, f))) (hZ2 _ (Option.some.inj h).symm) (am_Ev.ret hcd rfl)
def m_common (a0 : Int32) (a1 : Int32)  : Option (Int32) :=
  am_loop (fun (s1 : Int32 × Int32) => ((
    if s1.2 = 0 then (
      some (.inr s1.1))
    else (
      if s1.2 = 0 then none else
      some (.inl (s1.2, (s1.1 - s1.1 / s1.2 * s1.2))))) : Option ((Int32 × Int32) ⊕ (Int32)))) am_F (a0, a1)
set_option maxRecDepth 100000 in
set_option maxHeartbeats 4000000 in
theorem m_common_ok {sc : Nat × (Nat → Int32)} (d : Nat) (a0 : Int32) (a1 : Int32) (hp : am_H) (r : Int32) (h : m_common a0 a1 = some r) : am_Ev sc (d) 180 (0, [(0, .int a0), (1, .int a1)], [], am_SH, hp) ((some (.int r)), am_SH, hp) := by
  have hcd : am_code 180 = am_c180 := rfl
  unfold m_common at h
  refine am_Ev.go hcd 4 (s' := (4, [(0, .int a0), (1, .int a1), (2, .int a0), (3, .int a1)], [], am_SH, hp)) rfl ?_
  refine am_Ev.weak' (am_loop_ok (G := fun (s1 : Int32 × Int32) => am_Ev sc (d) 180 (4, [(2, .int s1.1), (3, .int s1.2)], [], am_SH, hp) ((some (.int r)), am_SH, hp)) (Z := fun (v : Int32) => (((some (.int v)), am_SH, hp) : am_R) = ((some (.int r)), am_SH, hp)) ?_ am_F (a0, a1) r h rfl) (am_sub_cons rfl (am_sub_cons rfl am_sub_nil)) rfl
  intro s1 q1 h hI1 hZ1
  show am_Ev sc (d) 180 (4, [(2, .int s1.1), (3, .int s1.2)], [], am_SH, hp) ((some (.int r)), am_SH, hp)
  refine am_Ev.go hcd 1 (s' := (5, [(2, .int s1.1), (3, .int s1.2)], [.int s1.2], am_SH, hp)) rfl ?_
  rcases am_ite h with ⟨c6, h⟩ | ⟨c6, h⟩
  · refine am_Ev.t hcd (c := s1.2 = 0) (s1 := (15, [(2, .int s1.1), (3, .int s1.2)], [], am_SH, hp)) rfl c6 ?_
    refine am_Ev.go hcd 1 (s' := (16, [(2, .int s1.1), (3, .int s1.2)], [.int s1.1], am_SH, hp)) rfl ?_
    exact am_Ev.cast (a := ((some (.int s1.1)), am_SH, hp)) (hZ1 _ (Option.some.inj h).symm) (am_Ev.ret hcd rfl)
  · refine am_Ev.f hcd (c := s1.2 = 0) (s1 := (6, [(2, .int s1.1), (3, .int s1.2)], [], am_SH, hp)) rfl c6 ?_
    refine am_Ev.go hcd 2 (s' := (8, [(2, .int s1.1), (3, .int s1.2)], [.int s1.2, .int s1.1], am_SH, hp)) rfl ?_
    rcases am_ite h with ⟨c12, h⟩ | ⟨c12, h⟩
    · exact absurd h (by simp)
    · refine am_Ev.f hcd (c := s1.2 = 0) (s1 := (9, [(2, .int s1.1), (3, .int s1.2)], [.int (s1.1 - s1.1 / s1.2 * s1.2)], am_SH, hp)) rfl c12 ?_
      refine am_Ev.go hcd 6 (s' := (4, [(2, .int s1.2), (3, .int (s1.1 - s1.1 / s1.2 * s1.2)), (4, .int (s1.1 - s1.1 / s1.2 * s1.2))], [], am_SH, hp)) rfl ?_
      exact am_Ev.weak' (hI1 (s1.2, (s1.1 - s1.1 / s1.2 * s1.2)) (Option.some.inj h).symm) (am_sub_cons rfl (am_sub_cons rfl am_sub_nil)) rfl
def m_sure (a0 : Int32) (a1 : Int32) (a2 : Int32) (f : (Nat → Nat → Int32)) : Option (Int32) :=
  if (m_isIn a0 0 ((f 217 424) - 1)) = true then (
    if a1 < 0 then (
      some (-1))
    else (
      if (m_isIn (a1 / 256) 2 8) = true then (
        if (m_isIn a2 0 1) = true then (
          (am_loop (fun (s4 : Int32 × Int32) => ((
            if s4.2 < f 217 424 then (
              (m_likely s4.2 (a1 / 256) (a1 - a1 / 256 * 256) f).bind fun p5 =>
              am_let (s4.2 + 1 : Int32) fun t6 =>
              some (.inl ((s4.1 + p5), t6)))
            else (
              some (.inr s4.1))) : Option ((Int32 × Int32) ⊕ (Int32)))) am_F (0, 0)).bind fun e7 =>
          (m_likely a0 (a1 / 256) (a1 - a1 / 256 * 256) f).bind fun p8 =>
          (m_common p8 e7).bind fun p9 =>
          if a2 = 0 then (
            if p9 = 0 then none else
            some (p8 / p9))
          else (
            if p9 = 0 then none else
            some (e7 / p9)))
        else (
          some (-1)))
      else (
        some (-1))))
  else (
    some (-1))
set_option maxRecDepth 100000 in
set_option maxHeartbeats 4000000 in
theorem m_sure_ok {sc : Nat × (Nat → Int32)} (d : Nat) (a0 : Int32) (a1 : Int32) (a2 : Int32) (f g : (Nat → Nat → Int32)) (r : Int32) (h : m_sure a0 a1 a2 f = some r) : am_Ev sc (d + 1) 271 (0, [(0, .ref 216), (1, .int a0), (2, .int a1), (3, .int a2)], [], am_SH, (g, f)) ((some (.int r)), am_SH, (g, f)) := by
  have hcd : am_code 271 = am_c271 := rfl
  unfold m_sure at h
  refine am_Ev.go hcd 12 (s' := (12, [(0, .ref 216), (1, .int a0), (2, .int a1), (3, .int a2), (4, .int (a1 / 256))], [.int ((f 217 424) - 1), .int 0, .int a0], am_SH, (g, f))) rfl ?_
  refine am_Ev.call hcd (a := 176) (s0 := (0, [(0, .int a0), (1, .int 0), (2, .int ((f 217 424) - 1))], [], am_SH, (g, f))) (q := ((some (.int (am_b (m_isIn a0 0 ((f 217 424) - 1))))), am_SH, (g, f))) (s1 := (13, [(0, .ref 216), (1, .int a0), (2, .int a1), (3, .int a2), (4, .int (a1 / 256))], [.int (am_b (m_isIn a0 0 ((f 217 424) - 1)))], am_SH, (g, f))) rfl rfl (m_isIn_ok (d) a0 0 ((f 217 424) - 1) (g, f)) ?_
  rcases am_ite h with ⟨c4, h⟩ | ⟨c4, h⟩
  · refine am_Ev.f hcd (c := am_b (m_isIn a0 0 ((f 217 424) - 1)) = 0) (s1 := (14, [(0, .ref 216), (1, .int a0), (2, .int a1), (3, .int a2), (4, .int (a1 / 256))], [], am_SH, (g, f))) rfl (am_b_t c4) ?_
    refine am_Ev.go hcd 1 (s' := (15, [(0, .ref 216), (1, .int a0), (2, .int a1), (3, .int a2), (4, .int (a1 / 256))], [.int a1], am_SH, (g, f))) rfl ?_
    rcases am_ite h with ⟨c6, h⟩ | ⟨c6, h⟩
    · refine am_Ev.t hcd (c := a1 < 0) (s1 := (26, [(0, .ref 216), (1, .int a0), (2, .int a1), (3, .int a2), (4, .int (a1 / 256))], [], am_SH, (g, f))) rfl c6 ?_
      refine am_Ev.go hcd 1 (s' := (27, [(0, .ref 216), (1, .int a0), (2, .int a1), (3, .int a2), (4, .int (a1 / 256))], [.int (-1)], am_SH, (g, f))) rfl ?_
      exact am_Ev.cast (a := ((some (.int (-1))), am_SH, (g, f))) (by cases h; rfl) (am_Ev.ret hcd rfl)
    · refine am_Ev.f hcd (c := a1 < 0) (s1 := (16, [(0, .ref 216), (1, .int a0), (2, .int a1), (3, .int a2), (4, .int (a1 / 256))], [], am_SH, (g, f))) rfl c6 ?_
      refine am_Ev.go hcd 3 (s' := (19, [(0, .ref 216), (1, .int a0), (2, .int a1), (3, .int a2), (4, .int (a1 / 256))], [.int 8, .int 2, .int (a1 / 256)], am_SH, (g, f))) rfl ?_
      refine am_Ev.call hcd (a := 176) (s0 := (0, [(0, .int (a1 / 256)), (1, .int 2), (2, .int 8)], [], am_SH, (g, f))) (q := ((some (.int (am_b (m_isIn (a1 / 256) 2 8)))), am_SH, (g, f))) (s1 := (20, [(0, .ref 216), (1, .int a0), (2, .int a1), (3, .int a2), (4, .int (a1 / 256))], [.int (am_b (m_isIn (a1 / 256) 2 8))], am_SH, (g, f))) rfl rfl (m_isIn_ok (d) (a1 / 256) 2 8 (g, f)) ?_
      rcases am_ite h with ⟨c14, h⟩ | ⟨c14, h⟩
      · refine am_Ev.f hcd (c := am_b (m_isIn (a1 / 256) 2 8) = 0) (s1 := (21, [(0, .ref 216), (1, .int a0), (2, .int a1), (3, .int a2), (4, .int (a1 / 256))], [], am_SH, (g, f))) rfl (am_b_t c14) ?_
        refine am_Ev.go hcd 3 (s' := (24, [(0, .ref 216), (1, .int a0), (2, .int a1), (3, .int a2), (4, .int (a1 / 256))], [.int 1, .int 0, .int a2], am_SH, (g, f))) rfl ?_
        refine am_Ev.call hcd (a := 176) (s0 := (0, [(0, .int a2), (1, .int 0), (2, .int 1)], [], am_SH, (g, f))) (q := ((some (.int (am_b (m_isIn a2 0 1)))), am_SH, (g, f))) (s1 := (25, [(0, .ref 216), (1, .int a0), (2, .int a1), (3, .int a2), (4, .int (a1 / 256))], [.int (am_b (m_isIn a2 0 1))], am_SH, (g, f))) rfl rfl (m_isIn_ok (d) a2 0 1 (g, f)) ?_
        rcases am_ite h with ⟨c18, h⟩ | ⟨c18, h⟩
        · refine am_Ev.f hcd (c := am_b (m_isIn a2 0 1) = 0) (s1 := (28, [(0, .ref 216), (1, .int a0), (2, .int a1), (3, .int a2), (4, .int (a1 / 256))], [], am_SH, (g, f))) rfl (am_b_t c18) ?_
          refine am_Ev.go hcd 4 (s' := (32, [(0, .ref 216), (1, .int a0), (2, .int a1), (3, .int a2), (4, .int (a1 / 256)), (5, .int 0), (6, .int 0)], [], am_SH, (g, f))) rfl ?_
          obtain ⟨e7, he7, h⟩ := am_bind_some h
          have hK4 : (fun (e7 : Int32) => am_Ev sc (d + 1) 271 (50, [(0, .ref 216), (1, .int a0), (2, .int a1), (3, .int a2), (4, .int (a1 / 256)), (5, .int e7)], [], am_SH, (g, f)) ((some (.int r)), am_SH, (g, f))) e7 := by
            show am_Ev sc (d + 1) 271 (50, [(0, .ref 216), (1, .int a0), (2, .int a1), (3, .int a2), (4, .int (a1 / 256)), (5, .int e7)], [], am_SH, (g, f)) ((some (.int r)), am_SH, (g, f))
            refine am_Ev.go hcd 6 (s' := (56, [(0, .ref 216), (1, .int a0), (2, .int a1), (3, .int a2), (4, .int (a1 / 256)), (5, .int e7)], [.int (a1 - a1 / 256 * 256), .int (a1 / 256), .int a0, .ref 216], am_SH, (g, f))) rfl ?_
            obtain ⟨p8, hp8, h⟩ := am_bind_some h
            refine am_Ev.call hcd (a := 270) (s0 := (0, [(0, .ref 216), (1, .int a0), (2, .int (a1 / 256)), (3, .int (a1 - a1 / 256 * 256))], [], am_SH, (g, f))) (q := ((some (.int p8)), am_SH, (g, f))) (s1 := (57, [(0, .ref 216), (1, .int a0), (2, .int a1), (3, .int a2), (4, .int (a1 / 256)), (5, .int e7)], [.int p8], am_SH, (g, f))) rfl rfl (m_likely_ok (d) a0 (a1 / 256) (a1 - a1 / 256 * 256) f g p8 hp8) ?_
            refine am_Ev.go hcd 3 (s' := (60, [(0, .ref 216), (1, .int a0), (2, .int a1), (3, .int a2), (4, .int (a1 / 256)), (5, .int e7), (6, .int p8)], [.int e7, .int p8], am_SH, (g, f))) rfl ?_
            obtain ⟨p9, hp9, h⟩ := am_bind_some h
            refine am_Ev.call hcd (a := 180) (s0 := (0, [(0, .int p8), (1, .int e7)], [], am_SH, (g, f))) (q := ((some (.int p9)), am_SH, (g, f))) (s1 := (61, [(0, .ref 216), (1, .int a0), (2, .int a1), (3, .int a2), (4, .int (a1 / 256)), (5, .int e7), (6, .int p8)], [.int p9], am_SH, (g, f))) rfl rfl (m_common_ok (d) p8 e7 (g, f) p9 hp9) ?_
            refine am_Ev.go hcd 2 (s' := (63, [(0, .ref 216), (1, .int a0), (2, .int a1), (3, .int a2), (4, .int (a1 / 256)), (5, .int e7), (6, .int p8), (7, .int p9)], [.int a2], am_SH, (g, f))) rfl ?_
            rcases am_ite h with ⟨c30, h⟩ | ⟨c30, h⟩
            · refine am_Ev.t hcd (c := a2 = 0) (s1 := (64, [(0, .ref 216), (1, .int a0), (2, .int a1), (3, .int a2), (4, .int (a1 / 256)), (5, .int e7), (6, .int p8), (7, .int p9)], [], am_SH, (g, f))) rfl c30 ?_
              refine am_Ev.go hcd 2 (s' := (66, [(0, .ref 216), (1, .int a0), (2, .int a1), (3, .int a2), (4, .int (a1 / 256)), (5, .int e7), (6, .int p8), (7, .int p9)], [.int p9, .int p8], am_SH, (g, f))) rfl ?_
              rcases am_ite h with ⟨c33, h⟩ | ⟨c33, h⟩
              · exact absurd h (by simp)
              · refine am_Ev.f hcd (c := p9 = 0) (s1 := (67, [(0, .ref 216), (1, .int a0), (2, .int a1), (3, .int a2), (4, .int (a1 / 256)), (5, .int e7), (6, .int p8), (7, .int p9)], [.int (p8 / p9)], am_SH, (g, f))) rfl c33 ?_
                refine am_Ev.go hcd 1 (s' := (71, [(0, .ref 216), (1, .int a0), (2, .int a1), (3, .int a2), (4, .int (a1 / 256)), (5, .int e7), (6, .int p8), (7, .int p9)], [.int (p8 / p9)], am_SH, (g, f))) rfl ?_
                exact am_Ev.cast (a := ((some (.int (p8 / p9))), am_SH, (g, f))) (by cases h; rfl) (am_Ev.ret hcd rfl)
            · refine am_Ev.f hcd (c := a2 = 0) (s1 := (68, [(0, .ref 216), (1, .int a0), (2, .int a1), (3, .int a2), (4, .int (a1 / 256)), (5, .int e7), (6, .int p8), (7, .int p9)], [], am_SH, (g, f))) rfl c30 ?_
              refine am_Ev.go hcd 2 (s' := (70, [(0, .ref 216), (1, .int a0), (2, .int a1), (3, .int a2), (4, .int (a1 / 256)), (5, .int e7), (6, .int p8), (7, .int p9)], [.int p9, .int e7], am_SH, (g, f))) rfl ?_
              rcases am_ite h with ⟨c40, h⟩ | ⟨c40, h⟩
              · exact absurd h (by simp)
              · refine am_Ev.f hcd (c := p9 = 0) (s1 := (71, [(0, .ref 216), (1, .int a0), (2, .int a1), (3, .int a2), (4, .int (a1 / 256)), (5, .int e7), (6, .int p8), (7, .int p9)], [.int (e7 / p9)], am_SH, (g, f))) rfl c40 ?_
                exact am_Ev.cast (a := ((some (.int (e7 / p9))), am_SH, (g, f))) (by cases h; rfl) (am_Ev.ret hcd rfl)
          refine am_Ev.weak' (am_loop_ok (G := fun (s4 : Int32 × Int32) => am_Ev sc (d + 1) 271 (32, [(0, .ref 216), (1, .int a0), (2, .int a1), (3, .int a2), (4, .int (a1 / 256)), (5, .int s4.1), (6, .int s4.2)], [], am_SH, (g, f)) ((some (.int r)), am_SH, (g, f))) (Z := fun (e7 : Int32) => am_Ev sc (d + 1) 271 (50, [(0, .ref 216), (1, .int a0), (2, .int a1), (3, .int a2), (4, .int (a1 / 256)), (5, .int e7)], [], am_SH, (g, f)) ((some (.int r)), am_SH, (g, f))) ?_ am_F (0, 0) e7 he7 hK4) (am_sub_cons rfl (am_sub_cons rfl (am_sub_cons rfl (am_sub_cons rfl (am_sub_cons rfl (am_sub_cons rfl (am_sub_cons rfl am_sub_nil))))))) rfl
          intro s4 q4 h hI4 hZ4
          show am_Ev sc (d + 1) 271 (32, [(0, .ref 216), (1, .int a0), (2, .int a1), (3, .int a2), (4, .int (a1 / 256)), (5, .int s4.1), (6, .int s4.2)], [], am_SH, (g, f)) ((some (.int r)), am_SH, (g, f))
          refine am_Ev.go hcd 5 (s' := (37, [(0, .ref 216), (1, .int a0), (2, .int a1), (3, .int a2), (4, .int (a1 / 256)), (5, .int s4.1), (6, .int s4.2)], [.int (f 217 424), .int s4.2], am_SH, (g, f))) rfl ?_
          rcases am_ite h with ⟨c48, h⟩ | ⟨c48, h⟩
          · refine am_Ev.t hcd (c := s4.2 < f 217 424) (s1 := (38, [(0, .ref 216), (1, .int a0), (2, .int a1), (3, .int a2), (4, .int (a1 / 256)), (5, .int s4.1), (6, .int s4.2)], [], am_SH, (g, f))) rfl c48 ?_
            refine am_Ev.go hcd 7 (s' := (45, [(0, .ref 216), (1, .int a0), (2, .int a1), (3, .int a2), (4, .int (a1 / 256)), (5, .int s4.1), (6, .int s4.2)], [.int (a1 - a1 / 256 * 256), .int (a1 / 256), .int s4.2, .ref 216, .int s4.1], am_SH, (g, f))) rfl ?_
            obtain ⟨p5, hp5, h⟩ := am_bind_some h
            refine am_Ev.call hcd (a := 270) (s0 := (0, [(0, .ref 216), (1, .int s4.2), (2, .int (a1 / 256)), (3, .int (a1 - a1 / 256 * 256))], [], am_SH, (g, f))) (q := ((some (.int p5)), am_SH, (g, f))) (s1 := (46, [(0, .ref 216), (1, .int a0), (2, .int a1), (3, .int a2), (4, .int (a1 / 256)), (5, .int s4.1), (6, .int s4.2)], [.int p5, .int s4.1], am_SH, (g, f))) rfl rfl (m_likely_ok (d) s4.2 (a1 / 256) (a1 - a1 / 256 * 256) f g p5 hp5) ?_
            obtain ⟨t6, Et6, h⟩ := am_let_eq h
            refine am_Ev.go hcd 3 (s' := (49, [(0, .ref 216), (1, .int a0), (2, .int a1), (3, .int a2), (4, .int (a1 / 256)), (5, .int (s4.1 + p5)), (6, .int t6)], [], am_SH, (g, f))) (by subst Et6; exact rfl) ?_
            refine am_Ev.go hcd 1 (s' := (32, [(0, .ref 216), (1, .int a0), (2, .int a1), (3, .int a2), (4, .int (a1 / 256)), (5, .int (s4.1 + p5)), (6, .int t6)], [], am_SH, (g, f))) rfl ?_
            exact am_Ev.weak' (hI4 ((s4.1 + p5), t6) (Option.some.inj h).symm) (am_sub_cons rfl (am_sub_cons rfl (am_sub_cons rfl (am_sub_cons rfl (am_sub_cons rfl (am_sub_cons rfl (am_sub_cons rfl am_sub_nil))))))) rfl
          · refine am_Ev.f hcd (c := s4.2 < f 217 424) (s1 := (50, [(0, .ref 216), (1, .int a0), (2, .int a1), (3, .int a2), (4, .int (a1 / 256)), (5, .int s4.1), (6, .int s4.2)], [], am_SH, (g, f))) rfl c48 ?_
            exact am_Ev.weak' (hZ4 s4.1 (Option.some.inj h).symm) (am_sub_cons rfl (am_sub_cons rfl (am_sub_cons rfl (am_sub_cons rfl (am_sub_cons rfl (am_sub_cons rfl am_sub_nil)))))) rfl
        · refine am_Ev.t hcd (c := am_b (m_isIn a2 0 1) = 0) (s1 := (26, [(0, .ref 216), (1, .int a0), (2, .int a1), (3, .int a2), (4, .int (a1 / 256))], [], am_SH, (g, f))) rfl (am_b_f c18) ?_
          refine am_Ev.go hcd 1 (s' := (27, [(0, .ref 216), (1, .int a0), (2, .int a1), (3, .int a2), (4, .int (a1 / 256))], [.int (-1)], am_SH, (g, f))) rfl ?_
          exact am_Ev.cast (a := ((some (.int (-1))), am_SH, (g, f))) (by cases h; rfl) (am_Ev.ret hcd rfl)
      · refine am_Ev.t hcd (c := am_b (m_isIn (a1 / 256) 2 8) = 0) (s1 := (26, [(0, .ref 216), (1, .int a0), (2, .int a1), (3, .int a2), (4, .int (a1 / 256))], [], am_SH, (g, f))) rfl (am_b_f c14) ?_
        refine am_Ev.go hcd 1 (s' := (27, [(0, .ref 216), (1, .int a0), (2, .int a1), (3, .int a2), (4, .int (a1 / 256))], [.int (-1)], am_SH, (g, f))) rfl ?_
        exact am_Ev.cast (a := ((some (.int (-1))), am_SH, (g, f))) (by cases h; rfl) (am_Ev.ret hcd rfl)
  · refine am_Ev.t hcd (c := am_b (m_isIn a0 0 ((f 217 424) - 1)) = 0) (s1 := (26, [(0, .ref 216), (1, .int a0), (2, .int a1), (3, .int a2), (4, .int (a1 / 256))], [], am_SH, (g, f))) rfl (am_b_f c4) ?_
    refine am_Ev.go hcd 1 (s' := (27, [(0, .ref 216), (1, .int a0), (2, .int a1), (3, .int a2), (4, .int (a1 / 256))], [.int (-1)], am_SH, (g, f))) rfl ?_
    exact am_Ev.cast (a := ((some (.int (-1))), am_SH, (g, f))) (by cases h; rfl) (am_Ev.ret hcd rfl)
def m_point (a0 : Int32) (a1 : Int32) (f : (Nat → Nat → Int32)) : Option (Int32 × (Nat → Nat → Int32)) :=
  if a0 = (-1) then (
    (m_endsRow 437 f).bind fun p1 =>
    some (p1.1, p1.2))
  else (
    if (m_isIn a0 0 9) = true then (
      if (m_isIn a1 (-99) 99) = true then (
        (m_tellsTwo 437 4 a0 a1 f).bind fun p4 =>
        some (p4.1, p4.2))
      else (
        some ((-1), f)))
    else (
      some ((-1), f)))
set_option maxRecDepth 100000 in
set_option maxHeartbeats 4000000 in
theorem m_point_ok {sc : Nat × (Nat → Int32)} (d : Nat) (a0 : Int32) (a1 : Int32) (f g : (Nat → Nat → Int32)) (r : Int32 × (Nat → Nat → Int32)) (h : m_point a0 a1 f = some r) : am_Ev sc (d + 1) 272 (0, [(0, .ref 216), (1, .int a0), (2, .int a1)], [], am_SH, (g, f)) ((some (.int r.1)), am_SH, (g, r.2)) := by
  have hcd : am_code 272 = am_c272 := rfl
  unfold m_point at h
  refine am_Ev.go hcd 2 (s' := (2, [(0, .ref 216), (1, .int a0), (2, .int a1)], [.int (-1), .int a0], am_SH, (g, f))) rfl ?_
  rcases am_ite h with ⟨c2, h⟩ | ⟨c2, h⟩
  · refine am_Ev.t hcd (c := a0 = (-1)) (s1 := (3, [(0, .ref 216), (1, .int a0), (2, .int a1)], [], am_SH, (g, f))) rfl c2 ?_
    refine am_Ev.go hcd 2 (s' := (5, [(0, .ref 216), (1, .int a0), (2, .int a1)], [.int 437, .ref 216], am_SH, (g, f))) rfl ?_
    obtain ⟨p1, hp1, h⟩ := am_bind_some h
    refine am_Ev.call hcd (a := 262) (s0 := (0, [(0, .ref 216), (1, .int 437)], [], am_SH, (g, f))) (q := ((some (.int p1.1)), am_SH, (g, p1.2))) (s1 := (6, [(0, .ref 216), (1, .int a0), (2, .int a1)], [.int p1.1], am_SH, (g, p1.2))) rfl rfl (m_endsRow_ok (d) 437 f g p1 hp1) ?_
    refine am_Ev.go hcd 1 (s' := (25, [(0, .ref 216), (1, .int a0), (2, .int a1)], [.int p1.1], am_SH, (g, p1.2))) rfl ?_
    exact am_Ev.cast (a := ((some (.int (p1.1, p1.2).1)), am_SH, (g, (p1.1, p1.2).2))) (by cases h; rfl) (am_Ev.ret hcd rfl)
  · refine am_Ev.f hcd (c := a0 = (-1)) (s1 := (7, [(0, .ref 216), (1, .int a0), (2, .int a1)], [], am_SH, (g, f))) rfl c2 ?_
    refine am_Ev.go hcd 3 (s' := (10, [(0, .ref 216), (1, .int a0), (2, .int a1)], [.int 9, .int 0, .int a0], am_SH, (g, f))) rfl ?_
    refine am_Ev.call hcd (a := 176) (s0 := (0, [(0, .int a0), (1, .int 0), (2, .int 9)], [], am_SH, (g, f))) (q := ((some (.int (am_b (m_isIn a0 0 9)))), am_SH, (g, f))) (s1 := (11, [(0, .ref 216), (1, .int a0), (2, .int a1)], [.int (am_b (m_isIn a0 0 9))], am_SH, (g, f))) rfl rfl (m_isIn_ok (d) a0 0 9 (g, f)) ?_
    rcases am_ite h with ⟨c13, h⟩ | ⟨c13, h⟩
    · refine am_Ev.f hcd (c := am_b (m_isIn a0 0 9) = 0) (s1 := (12, [(0, .ref 216), (1, .int a0), (2, .int a1)], [], am_SH, (g, f))) rfl (am_b_t c13) ?_
      refine am_Ev.go hcd 3 (s' := (15, [(0, .ref 216), (1, .int a0), (2, .int a1)], [.int 99, .int (-99), .int a1], am_SH, (g, f))) rfl ?_
      refine am_Ev.call hcd (a := 176) (s0 := (0, [(0, .int a1), (1, .int (-99)), (2, .int 99)], [], am_SH, (g, f))) (q := ((some (.int (am_b (m_isIn a1 (-99) 99)))), am_SH, (g, f))) (s1 := (16, [(0, .ref 216), (1, .int a0), (2, .int a1)], [.int (am_b (m_isIn a1 (-99) 99))], am_SH, (g, f))) rfl rfl (m_isIn_ok (d) a1 (-99) 99 (g, f)) ?_
      rcases am_ite h with ⟨c17, h⟩ | ⟨c17, h⟩
      · refine am_Ev.f hcd (c := am_b (m_isIn a1 (-99) 99) = 0) (s1 := (17, [(0, .ref 216), (1, .int a0), (2, .int a1)], [], am_SH, (g, f))) rfl (am_b_t c17) ?_
        refine am_Ev.go hcd 5 (s' := (22, [(0, .ref 216), (1, .int a0), (2, .int a1)], [.int a1, .int a0, .int 4, .int 437, .ref 216], am_SH, (g, f))) rfl ?_
        obtain ⟨p4, hp4, h⟩ := am_bind_some h
        refine am_Ev.call hcd (a := 261) (s0 := (0, [(0, .ref 216), (1, .int 437), (2, .int 4), (3, .int a0), (4, .int a1)], [], am_SH, (g, f))) (q := ((some (.int p4.1)), am_SH, (g, p4.2))) (s1 := (23, [(0, .ref 216), (1, .int a0), (2, .int a1)], [.int p4.1], am_SH, (g, p4.2))) rfl rfl (m_tellsTwo_ok (d) 437 4 a0 a1 f g p4 hp4) ?_
        refine am_Ev.go hcd 1 (s' := (25, [(0, .ref 216), (1, .int a0), (2, .int a1)], [.int p4.1], am_SH, (g, p4.2))) rfl ?_
        exact am_Ev.cast (a := ((some (.int (p4.1, p4.2).1)), am_SH, (g, (p4.1, p4.2).2))) (by cases h; rfl) (am_Ev.ret hcd rfl)
      · refine am_Ev.t hcd (c := am_b (m_isIn a1 (-99) 99) = 0) (s1 := (24, [(0, .ref 216), (1, .int a0), (2, .int a1)], [], am_SH, (g, f))) rfl (am_b_f c17) ?_
        refine am_Ev.go hcd 1 (s' := (25, [(0, .ref 216), (1, .int a0), (2, .int a1)], [.int (-1)], am_SH, (g, f))) rfl ?_
        exact am_Ev.cast (a := ((some (.int ((-1), f).1)), am_SH, (g, ((-1), f).2))) (by cases h; rfl) (am_Ev.ret hcd rfl)
    · refine am_Ev.t hcd (c := am_b (m_isIn a0 0 9) = 0) (s1 := (24, [(0, .ref 216), (1, .int a0), (2, .int a1)], [], am_SH, (g, f))) rfl (am_b_f c13) ?_
      refine am_Ev.go hcd 1 (s' := (25, [(0, .ref 216), (1, .int a0), (2, .int a1)], [.int (-1)], am_SH, (g, f))) rfl ?_
      exact am_Ev.cast (a := ((some (.int ((-1), f).1)), am_SH, (g, ((-1), f).2))) (by cases h; rfl) (am_Ev.ret hcd rfl)
def m_unitAt (a0 : Int32) (a1 : Int32) (f : (Nat → Nat → Int32)) : Option (Int32) :=
  if a0 = 0 then (
    if am_in (438 + (2 * a1)) 2008 = true then (
    some (f 217 (438 + (2 * a1)).toNatClampNeg)) else none)
  else (
    some a0)
set_option maxRecDepth 100000 in
set_option maxHeartbeats 4000000 in
theorem m_unitAt_ok {sc : Nat × (Nat → Int32)} (d : Nat) (a0 : Int32) (a1 : Int32) (f g : (Nat → Nat → Int32)) (r : Int32) (h : m_unitAt a0 a1 f = some r) : am_Ev sc (d) 274 (0, [(0, .ref 216), (1, .int a0), (2, .int a1)], [], am_SH, (g, f)) ((some (.int r)), am_SH, (g, f)) := by
  have hcd : am_code 274 = am_c274 := rfl
  unfold m_unitAt at h
  refine am_Ev.go hcd 1 (s' := (1, [(0, .ref 216), (1, .int a0), (2, .int a1)], [.int a0], am_SH, (g, f))) rfl ?_
  rcases am_ite h with ⟨c2, h⟩ | ⟨c2, h⟩
  · refine am_Ev.t hcd (c := a0 = 0) (s1 := (2, [(0, .ref 216), (1, .int a0), (2, .int a1)], [], am_SH, (g, f))) rfl c2 ?_
    refine am_Ev.go hcd 7 (s' := (9, [(0, .ref 216), (1, .int a0), (2, .int a1)], [.int (438 + (2 * a1)), .ref 217], am_SH, (g, f))) rfl ?_
    obtain ⟨c5, h⟩ := am_grd h
    refine am_Ev.t hcd (c := am_in (438 + (2 * a1)) 2008 = true) (s1 := (10, [(0, .ref 216), (1, .int a0), (2, .int a1)], [.int (f 217 (438 + (2 * a1)).toNatClampNeg)], am_SH, (g, f))) rfl c5 ?_
    refine am_Ev.go hcd 1 (s' := (12, [(0, .ref 216), (1, .int a0), (2, .int a1)], [.int (f 217 (438 + (2 * a1)).toNatClampNeg)], am_SH, (g, f))) rfl ?_
    exact am_Ev.cast (a := ((some (.int (f 217 (438 + (2 * a1)).toNatClampNeg : Int32))), am_SH, (g, f))) (by cases h; rfl) (am_Ev.ret hcd rfl)
  · refine am_Ev.f hcd (c := a0 = 0) (s1 := (11, [(0, .ref 216), (1, .int a0), (2, .int a1)], [], am_SH, (g, f))) rfl c2 ?_
    refine am_Ev.go hcd 1 (s' := (12, [(0, .ref 216), (1, .int a0), (2, .int a1)], [.int a0], am_SH, (g, f))) rfl ?_
    exact am_Ev.cast (a := ((some (.int a0)), am_SH, (g, f))) (by cases h; rfl) (am_Ev.ret hcd rfl)
def m_joined (a0 : Int32) (a1 : Int32) (a2 : Int32)  : Int32 :=
  if a1 = 0 then (
    (a0 + a2))
  else (
    if a1 = 1 then (
      (a0 - a2))
    else (
      (a0 * a2)))
set_option maxRecDepth 100000 in
set_option maxHeartbeats 4000000 in
theorem m_joined_ok {sc : Nat × (Nat → Int32)} (d : Nat) (a0 : Int32) (a1 : Int32) (a2 : Int32) (hp : am_H) : am_Ev sc (d) 273 (0, [(0, .int a0), (1, .int a1), (2, .int a2)], [], am_SH, hp) ((some (.int (m_joined a0 a1 a2))), am_SH, hp) := by
  have hcd : am_code 273 = am_c273 := rfl
  obtain ⟨r, h⟩ : ∃ r, r = m_joined a0 a1 a2 := ⟨_, rfl⟩
  rw [← h]
  unfold m_joined at h
  refine am_Ev.go hcd 1 (s' := (1, [(0, .int a0), (1, .int a1), (2, .int a2)], [.int a1], am_SH, hp)) rfl ?_
  rcases am_itv h with ⟨c4, h⟩ | ⟨c4, h⟩
  · refine am_Ev.t hcd (c := a1 = 0) (s1 := (2, [(0, .int a0), (1, .int a1), (2, .int a2)], [], am_SH, hp)) rfl c4 ?_
    refine am_Ev.go hcd 4 (s' := (16, [(0, .int a0), (1, .int a1), (2, .int a2)], [.int (a0 + a2)], am_SH, hp)) rfl ?_
    exact am_Ev.cast (a := ((some (.int (a0 + a2))), am_SH, hp)) (by subst h; rfl) (am_Ev.ret hcd rfl)
  · refine am_Ev.f hcd (c := a1 = 0) (s1 := (6, [(0, .int a0), (1, .int a1), (2, .int a2)], [], am_SH, hp)) rfl c4 ?_
    refine am_Ev.go hcd 2 (s' := (8, [(0, .int a0), (1, .int a1), (2, .int a2)], [.int 1, .int a1], am_SH, hp)) rfl ?_
    rcases am_itv h with ⟨c10, h⟩ | ⟨c10, h⟩
    · refine am_Ev.t hcd (c := a1 = 1) (s1 := (9, [(0, .int a0), (1, .int a1), (2, .int a2)], [], am_SH, hp)) rfl c10 ?_
      refine am_Ev.go hcd 4 (s' := (16, [(0, .int a0), (1, .int a1), (2, .int a2)], [.int (a0 - a2)], am_SH, hp)) rfl ?_
      exact am_Ev.cast (a := ((some (.int (a0 - a2))), am_SH, hp)) (by subst h; rfl) (am_Ev.ret hcd rfl)
    · refine am_Ev.f hcd (c := a1 = 1) (s1 := (13, [(0, .int a0), (1, .int a1), (2, .int a2)], [], am_SH, hp)) rfl c10 ?_
      refine am_Ev.go hcd 3 (s' := (16, [(0, .int a0), (1, .int a1), (2, .int a2)], [.int (a0 * a2)], am_SH, hp)) rfl ?_
      exact am_Ev.cast (a := ((some (.int (a0 * a2))), am_SH, hp)) (by subst h; rfl) (am_Ev.ret hcd rfl)
def m_makes (a0 : Int32) (a1 : Int32) (a2 : Int32) (a3 : Int32) (f : (Nat → Nat → Int32)) : Option (Bool) :=
  am_loop (fun (s1 : Bool × Int32) => ((
    if s1.2 < f 217 437 then (
      if s1.1 = true then (
        (m_unitAt (a1 / 100) s1.2 f).bind fun p2 =>
        (m_unitAt ((a1 / 10) - (a1 / 10) / 10 * 10) s1.2 f).bind fun p3 =>
        (m_unitAt (a1 - a1 / 10 * 10) s1.2 f).bind fun p4 =>
        am_let ((if a0 = 2 then (
            (m_joined p2 (a2 - a2 / 3 * 3) p3))
          else (
            p2)) : Int32) fun t6 =>
        am_let ((if a0 = 3 then (
            am_let ((if a3 = 0 then (
                (m_joined (m_joined p2 (a2 - a2 / 3 * 3) p3) (a2 / 3) p4))
              else (
                (m_joined p2 (a2 - a2 / 3 * 3) (m_joined p3 (a2 / 3) p4)))) : Int32) fun t11 =>
            t11)
          else (
            t6)) : Int32) fun t12 =>
        if am_in (439 + (2 * s1.2)) 2008 = true then (
        am_let ((if t12 = f 217 (439 + (2 * s1.2)).toNatClampNeg then (
            true)
          else (
            false)) : Bool) fun t13 =>
        am_let (s1.2 + 1 : Int32) fun t14 =>
        some (.inl (t13, t14))) else none)
      else (
        some (.inr s1.1)))
    else (
      some (.inr s1.1))) : Option ((Bool × Int32) ⊕ (Bool)))) am_F (true, 0)
set_option maxRecDepth 100000 in
set_option maxHeartbeats 4000000 in
theorem m_makes_ok {sc : Nat × (Nat → Int32)} (d : Nat) (a0 : Int32) (a1 : Int32) (a2 : Int32) (a3 : Int32) (f g : (Nat → Nat → Int32)) (r : Bool) (h : m_makes a0 a1 a2 a3 f = some r) : am_Ev sc (d + 1) 275 (0, [(0, .ref 216), (1, .int a0), (2, .int a1), (3, .int a2), (4, .int a3)], [], am_SH, (g, f)) ((some (.int (am_b r))), am_SH, (g, f)) := by
  have hcd : am_code 275 = am_c275 := rfl
  unfold m_makes at h
  refine am_Ev.go hcd 4 (s' := (4, [(0, .ref 216), (1, .int a0), (2, .int a1), (3, .int a2), (4, .int a3), (5, .int 1), (6, .int 0)], [], am_SH, (g, f))) rfl ?_
  refine am_Ev.weak' (am_loop_ok (G := fun (s1 : Bool × Int32) => am_Ev sc (d + 1) 275 (4, [(0, .ref 216), (1, .int a0), (2, .int a1), (3, .int a2), (4, .int a3), (5, .int (am_b s1.1)), (6, .int s1.2)], [], am_SH, (g, f)) ((some (.int (am_b r))), am_SH, (g, f))) (Z := fun (v : Bool) => (((some (.int (am_b v))), am_SH, (g, f)) : am_R) = ((some (.int (am_b r))), am_SH, (g, f))) ?_ am_F (true, 0) r h rfl) (am_sub_cons rfl (am_sub_cons rfl (am_sub_cons rfl (am_sub_cons rfl (am_sub_cons rfl (am_sub_cons rfl (am_sub_cons rfl am_sub_nil))))))) rfl
  intro s1 q1 h hI1 hZ1
  show am_Ev sc (d + 1) 275 (4, [(0, .ref 216), (1, .int a0), (2, .int a1), (3, .int a2), (4, .int a3), (5, .int (am_b s1.1)), (6, .int s1.2)], [], am_SH, (g, f)) ((some (.int (am_b r))), am_SH, (g, f))
  refine am_Ev.go hcd 5 (s' := (9, [(0, .ref 216), (1, .int a0), (2, .int a1), (3, .int a2), (4, .int a3), (5, .int (am_b s1.1)), (6, .int s1.2)], [.int (f 217 437), .int s1.2], am_SH, (g, f))) rfl ?_
  rcases am_ite h with ⟨c6, h⟩ | ⟨c6, h⟩
  · refine am_Ev.t hcd (c := s1.2 < f 217 437) (s1 := (10, [(0, .ref 216), (1, .int a0), (2, .int a1), (3, .int a2), (4, .int a3), (5, .int (am_b s1.1)), (6, .int s1.2)], [], am_SH, (g, f))) rfl c6 ?_
    refine am_Ev.go hcd 1 (s' := (11, [(0, .ref 216), (1, .int a0), (2, .int a1), (3, .int a2), (4, .int a3), (5, .int (am_b s1.1)), (6, .int s1.2)], [.int (am_b s1.1)], am_SH, (g, f))) rfl ?_
    rcases am_ite h with ⟨c9, h⟩ | ⟨c9, h⟩
    · refine am_Ev.f hcd (c := am_b s1.1 = 0) (s1 := (12, [(0, .ref 216), (1, .int a0), (2, .int a1), (3, .int a2), (4, .int a3), (5, .int (am_b s1.1)), (6, .int s1.2)], [], am_SH, (g, f))) rfl (am_b_t c9) ?_
      refine am_Ev.go hcd 5 (s' := (17, [(0, .ref 216), (1, .int a0), (2, .int a1), (3, .int a2), (4, .int a3), (5, .int (am_b s1.1)), (6, .int s1.2)], [.int s1.2, .int (a1 / 100), .ref 216], am_SH, (g, f))) rfl ?_
      obtain ⟨p2, hp2, h⟩ := am_bind_some h
      refine am_Ev.call hcd (a := 274) (s0 := (0, [(0, .ref 216), (1, .int (a1 / 100)), (2, .int s1.2)], [], am_SH, (g, f))) (q := ((some (.int p2)), am_SH, (g, f))) (s1 := (18, [(0, .ref 216), (1, .int a0), (2, .int a1), (3, .int a2), (4, .int a3), (5, .int (am_b s1.1)), (6, .int s1.2)], [.int p2], am_SH, (g, f))) rfl rfl (m_unitAt_ok (d) (a1 / 100) s1.2 f g p2 hp2) ?_
      refine am_Ev.go hcd 8 (s' := (26, [(0, .ref 216), (1, .int a0), (2, .int a1), (3, .int a2), (4, .int a3), (5, .int (am_b s1.1)), (6, .int s1.2), (7, .int p2)], [.int s1.2, .int ((a1 / 10) - (a1 / 10) / 10 * 10), .ref 216], am_SH, (g, f))) rfl ?_
      obtain ⟨p3, hp3, h⟩ := am_bind_some h
      refine am_Ev.call hcd (a := 274) (s0 := (0, [(0, .ref 216), (1, .int ((a1 / 10) - (a1 / 10) / 10 * 10)), (2, .int s1.2)], [], am_SH, (g, f))) (q := ((some (.int p3)), am_SH, (g, f))) (s1 := (27, [(0, .ref 216), (1, .int a0), (2, .int a1), (3, .int a2), (4, .int a3), (5, .int (am_b s1.1)), (6, .int s1.2), (7, .int p2)], [.int p3], am_SH, (g, f))) rfl rfl (m_unitAt_ok (d) ((a1 / 10) - (a1 / 10) / 10 * 10) s1.2 f g p3 hp3) ?_
      refine am_Ev.go hcd 6 (s' := (33, [(0, .ref 216), (1, .int a0), (2, .int a1), (3, .int a2), (4, .int a3), (5, .int (am_b s1.1)), (6, .int s1.2), (7, .int p2), (8, .int p3)], [.int s1.2, .int (a1 - a1 / 10 * 10), .ref 216], am_SH, (g, f))) rfl ?_
      obtain ⟨p4, hp4, h⟩ := am_bind_some h
      refine am_Ev.call hcd (a := 274) (s0 := (0, [(0, .ref 216), (1, .int (a1 - a1 / 10 * 10)), (2, .int s1.2)], [], am_SH, (g, f))) (q := ((some (.int p4)), am_SH, (g, f))) (s1 := (34, [(0, .ref 216), (1, .int a0), (2, .int a1), (3, .int a2), (4, .int a3), (5, .int (am_b s1.1)), (6, .int s1.2), (7, .int p2), (8, .int p3)], [.int p4], am_SH, (g, f))) rfl rfl (m_unitAt_ok (d) (a1 - a1 / 10 * 10) s1.2 f g p4 hp4) ?_
      obtain ⟨t6, ht6, kt6⟩ := am_let_eq h
      have hKt6 : am_Ev sc (d + 1) 275 (47, [(0, .ref 216), (1, .int a0), (2, .int a1), (3, .int a2), (4, .int a3), (6, .int s1.2), (7, .int p2), (8, .int p3), (9, .int p4), (10, .int t6)], [], am_SH, (g, f)) ((some (.int (am_b r))), am_SH, (g, f)) := by
        have h := kt6
        obtain ⟨t12, ht12, kt12⟩ := am_let_eq h
        have hKt12 : am_Ev sc (d + 1) 275 (76, [(0, .ref 216), (1, .int a0), (2, .int a1), (3, .int a2), (4, .int a3), (6, .int s1.2), (10, .int t12)], [], am_SH, (g, f)) ((some (.int (am_b r))), am_SH, (g, f)) := by
          have h := kt12
          refine am_Ev.go hcd 8 (s' := (84, [(0, .ref 216), (1, .int a0), (2, .int a1), (3, .int a2), (4, .int a3), (6, .int s1.2), (10, .int t12)], [.int (439 + (2 * s1.2)), .ref 217, .int t12], am_SH, (g, f))) rfl ?_
          obtain ⟨c27, h⟩ := am_grd h
          refine am_Ev.t hcd (c := am_in (439 + (2 * s1.2)) 2008 = true) (s1 := (85, [(0, .ref 216), (1, .int a0), (2, .int a1), (3, .int a2), (4, .int a3), (6, .int s1.2), (10, .int t12)], [.int (f 217 (439 + (2 * s1.2)).toNatClampNeg), .int t12], am_SH, (g, f))) rfl c27 ?_
          obtain ⟨t13, ht13, kt13⟩ := am_let_eq h
          have hKt13 : am_Ev sc (d + 1) 275 (89, [(0, .ref 216), (1, .int a0), (2, .int a1), (3, .int a2), (4, .int a3), (6, .int s1.2)], [.int (am_b t13)], am_SH, (g, f)) ((some (.int (am_b r))), am_SH, (g, f)) := by
            have h := kt13
            obtain ⟨t14, Et14, h⟩ := am_let_eq h
            refine am_Ev.go hcd 2 (s' := (91, [(0, .ref 216), (1, .int a0), (2, .int a1), (3, .int a2), (4, .int a3), (5, .int (am_b t13)), (6, .int t14)], [], am_SH, (g, f))) (by subst Et14; exact rfl) ?_
            refine am_Ev.go hcd 1 (s' := (4, [(0, .ref 216), (1, .int a0), (2, .int a1), (3, .int a2), (4, .int a3), (5, .int (am_b t13)), (6, .int t14)], [], am_SH, (g, f))) rfl ?_
            exact am_Ev.weak' (hI1 (t13, t14) (Option.some.inj h).symm) (am_sub_cons rfl (am_sub_cons rfl (am_sub_cons rfl (am_sub_cons rfl (am_sub_cons rfl (am_sub_cons rfl (am_sub_cons rfl am_sub_nil))))))) rfl
          have hLt13 : ∀ tt, tt = t13 → am_Ev sc (d + 1) 275 (89, [(0, .ref 216), (1, .int a0), (2, .int a1), (3, .int a2), (4, .int a3), (6, .int s1.2)], [.int (am_b tt)], am_SH, (g, f)) ((some (.int (am_b r))), am_SH, (g, f)) := fun tt htt => by subst htt; exact hKt13
          have h := ht13
          rcases am_itv h with ⟨c39, h⟩ | ⟨c39, h⟩
          · refine am_Ev.t hcd (c := t12 = f 217 (439 + (2 * s1.2)).toNatClampNeg) (s1 := (86, [(0, .ref 216), (1, .int a0), (2, .int a1), (3, .int a2), (4, .int a3), (6, .int s1.2), (10, .int t12)], [], am_SH, (g, f))) rfl c39 ?_
            refine am_Ev.go hcd 2 (s' := (89, [(0, .ref 216), (1, .int a0), (2, .int a1), (3, .int a2), (4, .int a3), (6, .int s1.2), (10, .int t12)], [.int 1], am_SH, (g, f))) rfl ?_
            exact am_Ev.weak' (hLt13 true h.symm) (am_sub_cons rfl (am_sub_cons rfl (am_sub_cons rfl (am_sub_cons rfl (am_sub_cons rfl (am_sub_cons rfl am_sub_nil)))))) rfl
          · refine am_Ev.f hcd (c := t12 = f 217 (439 + (2 * s1.2)).toNatClampNeg) (s1 := (88, [(0, .ref 216), (1, .int a0), (2, .int a1), (3, .int a2), (4, .int a3), (6, .int s1.2), (10, .int t12)], [], am_SH, (g, f))) rfl c39 ?_
            refine am_Ev.go hcd 1 (s' := (89, [(0, .ref 216), (1, .int a0), (2, .int a1), (3, .int a2), (4, .int a3), (6, .int s1.2), (10, .int t12)], [.int 0], am_SH, (g, f))) rfl ?_
            exact am_Ev.weak' (hLt13 false h.symm) (am_sub_cons rfl (am_sub_cons rfl (am_sub_cons rfl (am_sub_cons rfl (am_sub_cons rfl (am_sub_cons rfl am_sub_nil)))))) rfl
        have hLt12 : ∀ tt, tt = t12 → am_Ev sc (d + 1) 275 (76, [(0, .ref 216), (1, .int a0), (2, .int a1), (3, .int a2), (4, .int a3), (6, .int s1.2), (10, .int tt)], [], am_SH, (g, f)) ((some (.int (am_b r))), am_SH, (g, f)) := fun tt htt => by subst htt; exact hKt12
        have h := ht12
        refine am_Ev.go hcd 2 (s' := (49, [(0, .ref 216), (1, .int a0), (2, .int a1), (3, .int a2), (4, .int a3), (6, .int s1.2), (7, .int p2), (8, .int p3), (9, .int p4), (10, .int t6)], [.int 3, .int a0], am_SH, (g, f))) rfl ?_
        rcases am_itv h with ⟨c48, h⟩ | ⟨c48, h⟩
        · refine am_Ev.t hcd (c := a0 = 3) (s1 := (50, [(0, .ref 216), (1, .int a0), (2, .int a1), (3, .int a2), (4, .int a3), (6, .int s1.2), (7, .int p2), (8, .int p3), (9, .int p4), (10, .int t6)], [], am_SH, (g, f))) rfl c48 ?_
          obtain ⟨t11, ht11, kt11⟩ := am_let_eq' h
          have hKt11 : am_Ev sc (d + 1) 275 (75, [(0, .ref 216), (1, .int a0), (2, .int a1), (3, .int a2), (4, .int a3), (6, .int s1.2)], [.int t11], am_SH, (g, f)) ((some (.int (am_b r))), am_SH, (g, f)) := by
            have h := kt11
            refine am_Ev.go hcd 1 (s' := (76, [(0, .ref 216), (1, .int a0), (2, .int a1), (3, .int a2), (4, .int a3), (6, .int s1.2), (10, .int t11)], [], am_SH, (g, f))) rfl ?_
            exact am_Ev.weak' (hLt12 t11 h.symm) (am_sub_cons rfl (am_sub_cons rfl (am_sub_cons rfl (am_sub_cons rfl (am_sub_cons rfl (am_sub_cons rfl (am_sub_cons rfl am_sub_nil))))))) rfl
          have hLt11 : ∀ tt, tt = t11 → am_Ev sc (d + 1) 275 (75, [(0, .ref 216), (1, .int a0), (2, .int a1), (3, .int a2), (4, .int a3), (6, .int s1.2)], [.int tt], am_SH, (g, f)) ((some (.int (am_b r))), am_SH, (g, f)) := fun tt htt => by subst htt; exact hKt11
          have h := ht11
          refine am_Ev.go hcd 1 (s' := (51, [(0, .ref 216), (1, .int a0), (2, .int a1), (3, .int a2), (4, .int a3), (6, .int s1.2), (7, .int p2), (8, .int p3), (9, .int p4), (10, .int t6)], [.int a3], am_SH, (g, f))) rfl ?_
          rcases am_itv h with ⟨c58, h⟩ | ⟨c58, h⟩
          · refine am_Ev.t hcd (c := a3 = 0) (s1 := (52, [(0, .ref 216), (1, .int a0), (2, .int a1), (3, .int a2), (4, .int a3), (6, .int s1.2), (7, .int p2), (8, .int p3), (9, .int p4), (10, .int t6)], [], am_SH, (g, f))) rfl c58 ?_
            refine am_Ev.go hcd 5 (s' := (57, [(0, .ref 216), (1, .int a0), (2, .int a1), (3, .int a2), (4, .int a3), (6, .int s1.2), (7, .int p2), (8, .int p3), (9, .int p4), (10, .int t6)], [.int p3, .int (a2 - a2 / 3 * 3), .int p2], am_SH, (g, f))) rfl ?_
            refine am_Ev.call hcd (a := 273) (s0 := (0, [(0, .int p2), (1, .int (a2 - a2 / 3 * 3)), (2, .int p3)], [], am_SH, (g, f))) (q := ((some (.int (m_joined p2 (a2 - a2 / 3 * 3) p3))), am_SH, (g, f))) (s1 := (58, [(0, .ref 216), (1, .int a0), (2, .int a1), (3, .int a2), (4, .int a3), (6, .int s1.2), (7, .int p2), (8, .int p3), (9, .int p4), (10, .int t6)], [.int (m_joined p2 (a2 - a2 / 3 * 3) p3)], am_SH, (g, f))) rfl rfl (m_joined_ok (d) p2 (a2 - a2 / 3 * 3) p3 (g, f)) ?_
            refine am_Ev.go hcd 4 (s' := (62, [(0, .ref 216), (1, .int a0), (2, .int a1), (3, .int a2), (4, .int a3), (6, .int s1.2), (7, .int p2), (8, .int p3), (9, .int p4), (10, .int t6)], [.int p4, .int (a2 / 3), .int (m_joined p2 (a2 - a2 / 3 * 3) p3)], am_SH, (g, f))) rfl ?_
            refine am_Ev.call hcd (a := 273) (s0 := (0, [(0, .int (m_joined p2 (a2 - a2 / 3 * 3) p3)), (1, .int (a2 / 3)), (2, .int p4)], [], am_SH, (g, f))) (q := ((some (.int (m_joined (m_joined p2 (a2 - a2 / 3 * 3) p3) (a2 / 3) p4))), am_SH, (g, f))) (s1 := (63, [(0, .ref 216), (1, .int a0), (2, .int a1), (3, .int a2), (4, .int a3), (6, .int s1.2), (7, .int p2), (8, .int p3), (9, .int p4), (10, .int t6)], [.int (m_joined (m_joined p2 (a2 - a2 / 3 * 3) p3) (a2 / 3) p4)], am_SH, (g, f))) rfl rfl (m_joined_ok (d) (m_joined p2 (a2 - a2 / 3 * 3) p3) (a2 / 3) p4 (g, f)) ?_
            refine am_Ev.go hcd 1 (s' := (75, [(0, .ref 216), (1, .int a0), (2, .int a1), (3, .int a2), (4, .int a3), (6, .int s1.2), (7, .int p2), (8, .int p3), (9, .int p4), (10, .int t6)], [.int (m_joined (m_joined p2 (a2 - a2 / 3 * 3) p3) (a2 / 3) p4)], am_SH, (g, f))) rfl ?_
            exact am_Ev.weak' (hLt11 (m_joined (m_joined p2 (a2 - a2 / 3 * 3) p3) (a2 / 3) p4) h.symm) (am_sub_cons rfl (am_sub_cons rfl (am_sub_cons rfl (am_sub_cons rfl (am_sub_cons rfl (am_sub_cons rfl am_sub_nil)))))) rfl
          · refine am_Ev.f hcd (c := a3 = 0) (s1 := (64, [(0, .ref 216), (1, .int a0), (2, .int a1), (3, .int a2), (4, .int a3), (6, .int s1.2), (7, .int p2), (8, .int p3), (9, .int p4), (10, .int t6)], [], am_SH, (g, f))) rfl c58 ?_
            refine am_Ev.go hcd 9 (s' := (73, [(0, .ref 216), (1, .int a0), (2, .int a1), (3, .int a2), (4, .int a3), (6, .int s1.2), (7, .int p2), (8, .int p3), (9, .int p4), (10, .int t6)], [.int p4, .int (a2 / 3), .int p3, .int (a2 - a2 / 3 * 3), .int p2], am_SH, (g, f))) rfl ?_
            refine am_Ev.call hcd (a := 273) (s0 := (0, [(0, .int p3), (1, .int (a2 / 3)), (2, .int p4)], [], am_SH, (g, f))) (q := ((some (.int (m_joined p3 (a2 / 3) p4))), am_SH, (g, f))) (s1 := (74, [(0, .ref 216), (1, .int a0), (2, .int a1), (3, .int a2), (4, .int a3), (6, .int s1.2), (7, .int p2), (8, .int p3), (9, .int p4), (10, .int t6)], [.int (m_joined p3 (a2 / 3) p4), .int (a2 - a2 / 3 * 3), .int p2], am_SH, (g, f))) rfl rfl (m_joined_ok (d) p3 (a2 / 3) p4 (g, f)) ?_
            refine am_Ev.call hcd (a := 273) (s0 := (0, [(0, .int p2), (1, .int (a2 - a2 / 3 * 3)), (2, .int (m_joined p3 (a2 / 3) p4))], [], am_SH, (g, f))) (q := ((some (.int (m_joined p2 (a2 - a2 / 3 * 3) (m_joined p3 (a2 / 3) p4)))), am_SH, (g, f))) (s1 := (75, [(0, .ref 216), (1, .int a0), (2, .int a1), (3, .int a2), (4, .int a3), (6, .int s1.2), (7, .int p2), (8, .int p3), (9, .int p4), (10, .int t6)], [.int (m_joined p2 (a2 - a2 / 3 * 3) (m_joined p3 (a2 / 3) p4))], am_SH, (g, f))) rfl rfl (m_joined_ok (d) p2 (a2 - a2 / 3 * 3) (m_joined p3 (a2 / 3) p4) (g, f)) ?_
            exact am_Ev.weak' (hLt11 (m_joined p2 (a2 - a2 / 3 * 3) (m_joined p3 (a2 / 3) p4)) h.symm) (am_sub_cons rfl (am_sub_cons rfl (am_sub_cons rfl (am_sub_cons rfl (am_sub_cons rfl (am_sub_cons rfl am_sub_nil)))))) rfl
        · refine am_Ev.f hcd (c := a0 = 3) (s1 := (76, [(0, .ref 216), (1, .int a0), (2, .int a1), (3, .int a2), (4, .int a3), (6, .int s1.2), (7, .int p2), (8, .int p3), (9, .int p4), (10, .int t6)], [], am_SH, (g, f))) rfl c48 ?_
          exact am_Ev.weak' (hLt12 t6 h.symm) (am_sub_cons rfl (am_sub_cons rfl (am_sub_cons rfl (am_sub_cons rfl (am_sub_cons rfl (am_sub_cons rfl (am_sub_cons rfl am_sub_nil))))))) rfl
      have hLt6 : ∀ tt, tt = t6 → am_Ev sc (d + 1) 275 (47, [(0, .ref 216), (1, .int a0), (2, .int a1), (3, .int a2), (4, .int a3), (6, .int s1.2), (7, .int p2), (8, .int p3), (9, .int p4), (10, .int tt)], [], am_SH, (g, f)) ((some (.int (am_b r))), am_SH, (g, f)) := fun tt htt => by subst htt; exact hKt6
      have h := ht6
      refine am_Ev.go hcd 5 (s' := (39, [(0, .ref 216), (1, .int a0), (2, .int a1), (3, .int a2), (4, .int a3), (5, .int (am_b s1.1)), (6, .int s1.2), (7, .int p2), (8, .int p3), (9, .int p4), (10, .int p2)], [.int 2, .int a0], am_SH, (g, f))) rfl ?_
      rcases am_itv h with ⟨c76, h⟩ | ⟨c76, h⟩
      · refine am_Ev.t hcd (c := a0 = 2) (s1 := (40, [(0, .ref 216), (1, .int a0), (2, .int a1), (3, .int a2), (4, .int a3), (5, .int (am_b s1.1)), (6, .int s1.2), (7, .int p2), (8, .int p3), (9, .int p4), (10, .int p2)], [], am_SH, (g, f))) rfl c76 ?_
        refine am_Ev.go hcd 5 (s' := (45, [(0, .ref 216), (1, .int a0), (2, .int a1), (3, .int a2), (4, .int a3), (5, .int (am_b s1.1)), (6, .int s1.2), (7, .int p2), (8, .int p3), (9, .int p4), (10, .int p2)], [.int p3, .int (a2 - a2 / 3 * 3), .int p2], am_SH, (g, f))) rfl ?_
        refine am_Ev.call hcd (a := 273) (s0 := (0, [(0, .int p2), (1, .int (a2 - a2 / 3 * 3)), (2, .int p3)], [], am_SH, (g, f))) (q := ((some (.int (m_joined p2 (a2 - a2 / 3 * 3) p3))), am_SH, (g, f))) (s1 := (46, [(0, .ref 216), (1, .int a0), (2, .int a1), (3, .int a2), (4, .int a3), (5, .int (am_b s1.1)), (6, .int s1.2), (7, .int p2), (8, .int p3), (9, .int p4), (10, .int p2)], [.int (m_joined p2 (a2 - a2 / 3 * 3) p3)], am_SH, (g, f))) rfl rfl (m_joined_ok (d) p2 (a2 - a2 / 3 * 3) p3 (g, f)) ?_
        refine am_Ev.go hcd 1 (s' := (47, [(0, .ref 216), (1, .int a0), (2, .int a1), (3, .int a2), (4, .int a3), (5, .int (am_b s1.1)), (6, .int s1.2), (7, .int p2), (8, .int p3), (9, .int p4), (10, .int (m_joined p2 (a2 - a2 / 3 * 3) p3))], [], am_SH, (g, f))) rfl ?_
        exact am_Ev.weak' (hLt6 (m_joined p2 (a2 - a2 / 3 * 3) p3) h.symm) (am_sub_cons rfl (am_sub_cons rfl (am_sub_cons rfl (am_sub_cons rfl (am_sub_cons rfl (am_sub_cons rfl (am_sub_cons rfl (am_sub_cons rfl (am_sub_cons rfl (am_sub_cons rfl am_sub_nil)))))))))) rfl
      · refine am_Ev.f hcd (c := a0 = 2) (s1 := (47, [(0, .ref 216), (1, .int a0), (2, .int a1), (3, .int a2), (4, .int a3), (5, .int (am_b s1.1)), (6, .int s1.2), (7, .int p2), (8, .int p3), (9, .int p4), (10, .int p2)], [], am_SH, (g, f))) rfl c76 ?_
        exact am_Ev.weak' (hLt6 p2 h.symm) (am_sub_cons rfl (am_sub_cons rfl (am_sub_cons rfl (am_sub_cons rfl (am_sub_cons rfl (am_sub_cons rfl (am_sub_cons rfl (am_sub_cons rfl (am_sub_cons rfl (am_sub_cons rfl am_sub_nil)))))))))) rfl
    · refine am_Ev.t hcd (c := am_b s1.1 = 0) (s1 := (92, [(0, .ref 216), (1, .int a0), (2, .int a1), (3, .int a2), (4, .int a3), (5, .int (am_b s1.1)), (6, .int s1.2)], [], am_SH, (g, f))) rfl (am_b_f c9) ?_
      refine am_Ev.go hcd 1 (s' := (93, [(0, .ref 216), (1, .int a0), (2, .int a1), (3, .int a2), (4, .int a3), (5, .int (am_b s1.1)), (6, .int s1.2)], [.int (am_b s1.1)], am_SH, (g, f))) rfl ?_
      exact am_Ev.cast (a := ((some (.int (am_b s1.1))), am_SH, (g, f))) (hZ1 _ (Option.some.inj h).symm) (am_Ev.retb hcd rfl)
  · refine am_Ev.f hcd (c := s1.2 < f 217 437) (s1 := (92, [(0, .ref 216), (1, .int a0), (2, .int a1), (3, .int a2), (4, .int a3), (5, .int (am_b s1.1)), (6, .int s1.2)], [], am_SH, (g, f))) rfl c6 ?_
    refine am_Ev.go hcd 1 (s' := (93, [(0, .ref 216), (1, .int a0), (2, .int a1), (3, .int a2), (4, .int a3), (5, .int (am_b s1.1)), (6, .int s1.2)], [.int (am_b s1.1)], am_SH, (g, f))) rfl ?_
    exact am_Ev.cast (a := ((some (.int (am_b s1.1))), am_SH, (g, f))) (hZ1 _ (Option.some.inj h).symm) (am_Ev.retb hcd rfl)
