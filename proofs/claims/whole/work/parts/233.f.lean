def m_aWalk (f : (Nat → Nat → Int32)) : Option (Bool × (Nat → Nat → Int32)) :=
  (m_told (4 * (f 216 15)) 7 0 999 f).bind fun p1 =>
  if p1.1 = true then (
    (m_told ((4 * (f 216 15)) + 1) 8 0 ((p1.2 217 69) - 1) p1.2).bind fun p2 =>
    if p2.1 = true then (
      am_let (p2.2 216 18 : Int32) fun t3 =>
      if (m_isIn t3 9 14) = true then (
        if am_in ((4 * (f 216 15)) + 2) 264 = true then (
        am_let (am_up p2.2 223 ((4 * (f 216 15)) + 2).toNatClampNeg t3 : Nat → Nat → Int32) fun f5 =>
        (m_next0  f5).bind fun p6 =>
        if t3 = 9 then (
          (m_number ((4 * (f 216 15)) + 3) 0 15 p6).bind fun p7 =>
          some (p7.1, p7.2))
        else (
          if t3 = 13 then (
            (m_number ((4 * (f 216 15)) + 3) 0 ((p6 217 70) - 1) p6).bind fun p8 =>
            if p8.1 = true then (
              some (true, p8.2))
            else (
              some (false, p8.2)))
          else (
            some (true, p6)))) else none)
      else (
        am_let (m_bad 1 p2.2) fun p9 =>
        some (p9.1, p9.2)))
    else (
      some (false, p2.2)))
  else (
    some (false, p1.2))
set_option maxRecDepth 100000 in
set_option maxHeartbeats 4000000 in
theorem m_aWalk_ok {sc : Nat × (Nat → Int32)} (d : Nat)  (f g : (Nat → Nat → Int32)) (r : Bool × (Nat → Nat → Int32)) (h : m_aWalk  f = some r) : am_Ev sc (d + 8) 215 (0, [(0, .ref 216)], [], am_SH, (g, f)) ((some (.int (am_b r.1))), am_SH, (g, r.2)) := by
  have hcd : am_code 215 = am_c215 := rfl
  unfold m_aWalk at h
  refine am_Ev.go hcd 10 (s' := (10, [(0, .ref 216), (1, .int (4 * (f 216 15)))], [.int 999, .int 0, .int 7, .int (4 * (f 216 15)), .ref 216], am_SH, (g, f))) rfl ?_
  obtain ⟨p1, hp1, h⟩ := am_bind_some h
  refine am_Ev.call hcd (a := 214) (s0 := (0, [(0, .ref 216), (1, .int (4 * (f 216 15))), (2, .int 7), (3, .int 0), (4, .int 999)], [], am_SH, (g, f))) (q := ((some (.int (am_b p1.1))), am_SH, (g, p1.2))) (s1 := (11, [(0, .ref 216), (1, .int (4 * (f 216 15)))], [.int (am_b p1.1)], am_SH, (g, p1.2))) rfl rfl (m_told_ok (d) (4 * (f 216 15)) 7 0 999 f g p1 hp1) ?_
  rcases am_ite h with ⟨c5, h⟩ | ⟨c5, h⟩
  · refine am_Ev.f hcd (c := am_b p1.1 = 0) (s1 := (12, [(0, .ref 216), (1, .int (4 * (f 216 15)))], [], am_SH, (g, p1.2))) rfl (am_b_t c5) ?_
    refine am_Ev.go hcd 12 (s' := (24, [(0, .ref 216), (1, .int (4 * (f 216 15)))], [.int ((p1.2 217 69) - 1), .int 0, .int 8, .int ((4 * (f 216 15)) + 1), .ref 216], am_SH, (g, p1.2))) rfl ?_
    obtain ⟨p2, hp2, h⟩ := am_bind_some h
    refine am_Ev.call hcd (a := 214) (s0 := (0, [(0, .ref 216), (1, .int ((4 * (f 216 15)) + 1)), (2, .int 8), (3, .int 0), (4, .int ((p1.2 217 69) - 1))], [], am_SH, (g, p1.2))) (q := ((some (.int (am_b p2.1))), am_SH, (g, p2.2))) (s1 := (25, [(0, .ref 216), (1, .int (4 * (f 216 15)))], [.int (am_b p2.1)], am_SH, (g, p2.2))) rfl rfl (m_told_ok (d) ((4 * (f 216 15)) + 1) 8 0 ((p1.2 217 69) - 1) p1.2 g p2 hp2) ?_
    rcases am_ite h with ⟨c10, h⟩ | ⟨c10, h⟩
    · refine am_Ev.f hcd (c := am_b p2.1 = 0) (s1 := (28, [(0, .ref 216), (1, .int (4 * (f 216 15)))], [], am_SH, (g, p2.2))) rfl (am_b_t c10) ?_
      obtain ⟨t3, Et3, h⟩ := am_let_eq h
      refine am_Ev.go hcd 3 (s' := (31, [(0, .ref 216), (1, .int (4 * (f 216 15))), (2, .int t3)], [], am_SH, (g, p2.2))) (by subst Et3; exact rfl) ?_
      refine am_Ev.go hcd 3 (s' := (34, [(0, .ref 216), (1, .int (4 * (f 216 15))), (2, .int t3)], [.int 14, .int 9, .int t3], am_SH, (g, p2.2))) rfl ?_
      refine am_Ev.call hcd (a := 176) (s0 := (0, [(0, .int t3), (1, .int 9), (2, .int 14)], [], am_SH, (g, p2.2))) (q := ((some (.int (am_b (m_isIn t3 9 14)))), am_SH, (g, p2.2))) (s1 := (35, [(0, .ref 216), (1, .int (4 * (f 216 15))), (2, .int t3)], [.int (am_b (m_isIn t3 9 14))], am_SH, (g, p2.2))) rfl rfl (m_isIn_ok (d + 7) t3 9 14 (g, p2.2)) ?_
      rcases am_ite h with ⟨c16, h⟩ | ⟨c16, h⟩
      · refine am_Ev.f hcd (c := am_b (m_isIn t3 9 14) = 0) (s1 := (40, [(0, .ref 216), (1, .int (4 * (f 216 15))), (2, .int t3)], [], am_SH, (g, p2.2))) rfl (am_b_t c16) ?_
        refine am_Ev.go hcd 6 (s' := (46, [(0, .ref 216), (1, .int (4 * (f 216 15))), (2, .int t3)], [.int t3, .int ((4 * (f 216 15)) + 2), .ref 223], am_SH, (g, p2.2))) rfl ?_
        obtain ⟨c18, h⟩ := am_grd h
        obtain ⟨f5, Ef5, h⟩ := am_let_eq h
        refine am_Ev.t hcd (c := am_in ((4 * (f 216 15)) + 2) 264 = true) (s1 := (47, [(0, .ref 216), (1, .int (4 * (f 216 15))), (2, .int t3)], [], am_SH, (g, f5))) (by subst Ef5; exact rfl) c18 ?_
        refine am_Ev.go hcd 1 (s' := (48, [(0, .ref 216), (1, .int (4 * (f 216 15))), (2, .int t3)], [.ref 216], am_SH, (g, f5))) rfl ?_
        obtain ⟨p6, hp6, h⟩ := am_bind_some h
        refine am_Ev.call hcd (a := 200) (s0 := (0, [(0, .ref 216)], [], am_SH, (g, f5))) (q := (none, am_SH, (g, p6))) (s1 := (49, [(0, .ref 216), (1, .int (4 * (f 216 15))), (2, .int t3)], [], am_SH, (g, p6))) rfl rfl (m_next0_ok (d + 2)  f5 g p6 hp6) ?_
        refine am_Ev.go hcd 2 (s' := (51, [(0, .ref 216), (1, .int (4 * (f 216 15))), (2, .int t3)], [.int 9, .int t3], am_SH, (g, p6))) rfl ?_
        rcases am_ite h with ⟨c25, h⟩ | ⟨c25, h⟩
        · refine am_Ev.t hcd (c := t3 = 9) (s1 := (52, [(0, .ref 216), (1, .int (4 * (f 216 15))), (2, .int t3)], [], am_SH, (g, p6))) rfl c25 ?_
          refine am_Ev.go hcd 6 (s' := (58, [(0, .ref 216), (1, .int (4 * (f 216 15))), (2, .int t3)], [.int 15, .int 0, .int ((4 * (f 216 15)) + 3), .ref 216], am_SH, (g, p6))) rfl ?_
          obtain ⟨p7, hp7, h⟩ := am_bind_some h
          refine am_Ev.call hcd (a := 213) (s0 := (0, [(0, .ref 216), (1, .int ((4 * (f 216 15)) + 3)), (2, .int 0), (3, .int 15)], [], am_SH, (g, p6))) (q := ((some (.int (am_b p7.1))), am_SH, (g, p7.2))) (s1 := (59, [(0, .ref 216), (1, .int (4 * (f 216 15))), (2, .int t3)], [.int (am_b p7.1)], am_SH, (g, p7.2))) rfl rfl (m_number_ok (d + 1) ((4 * (f 216 15)) + 3) 0 15 p6 g p7 hp7) ?_
          refine am_Ev.go hcd 1 (s' := (79, [(0, .ref 216), (1, .int (4 * (f 216 15))), (2, .int t3)], [.int (am_b p7.1)], am_SH, (g, p7.2))) rfl ?_
          exact am_Ev.cast (a := ((some (.int (am_b (p7.1, p7.2).1))), am_SH, (g, (p7.1, p7.2).2))) (by cases h; rfl) (am_Ev.retb hcd rfl)
        · refine am_Ev.f hcd (c := t3 = 9) (s1 := (60, [(0, .ref 216), (1, .int (4 * (f 216 15))), (2, .int t3)], [], am_SH, (g, p6))) rfl c25 ?_
          refine am_Ev.go hcd 2 (s' := (62, [(0, .ref 216), (1, .int (4 * (f 216 15))), (2, .int t3)], [.int 13, .int t3], am_SH, (g, p6))) rfl ?_
          rcases am_ite h with ⟨c34, h⟩ | ⟨c34, h⟩
          · refine am_Ev.t hcd (c := t3 = 13) (s1 := (63, [(0, .ref 216), (1, .int (4 * (f 216 15))), (2, .int t3)], [], am_SH, (g, p6))) rfl c34 ?_
            refine am_Ev.go hcd 11 (s' := (74, [(0, .ref 216), (1, .int (4 * (f 216 15))), (2, .int t3)], [.int ((p6 217 70) - 1), .int 0, .int ((4 * (f 216 15)) + 3), .ref 216], am_SH, (g, p6))) rfl ?_
            obtain ⟨p8, hp8, h⟩ := am_bind_some h
            refine am_Ev.call hcd (a := 213) (s0 := (0, [(0, .ref 216), (1, .int ((4 * (f 216 15)) + 3)), (2, .int 0), (3, .int ((p6 217 70) - 1))], [], am_SH, (g, p6))) (q := ((some (.int (am_b p8.1))), am_SH, (g, p8.2))) (s1 := (75, [(0, .ref 216), (1, .int (4 * (f 216 15))), (2, .int t3)], [.int (am_b p8.1)], am_SH, (g, p8.2))) rfl rfl (m_number_ok (d + 1) ((4 * (f 216 15)) + 3) 0 ((p6 217 70) - 1) p6 g p8 hp8) ?_
            rcases am_ite h with ⟨c40, h⟩ | ⟨c40, h⟩
            · refine am_Ev.f hcd (c := am_b p8.1 = 0) (s1 := (76, [(0, .ref 216), (1, .int (4 * (f 216 15))), (2, .int t3)], [], am_SH, (g, p8.2))) rfl (am_b_t c40) ?_
              refine am_Ev.go hcd 2 (s' := (79, [(0, .ref 216), (1, .int (4 * (f 216 15))), (2, .int t3)], [.int 1], am_SH, (g, p8.2))) rfl ?_
              exact am_Ev.cast (a := ((some (.int (am_b (true, p8.2).1))), am_SH, (g, (true, p8.2).2))) (by cases h; rfl) (am_Ev.ret hcd rfl)
            · refine am_Ev.t hcd (c := am_b p8.1 = 0) (s1 := (78, [(0, .ref 216), (1, .int (4 * (f 216 15))), (2, .int t3)], [], am_SH, (g, p8.2))) rfl (am_b_f c40) ?_
              refine am_Ev.go hcd 1 (s' := (79, [(0, .ref 216), (1, .int (4 * (f 216 15))), (2, .int t3)], [.int 0], am_SH, (g, p8.2))) rfl ?_
              exact am_Ev.cast (a := ((some (.int (am_b (false, p8.2).1))), am_SH, (g, (false, p8.2).2))) (by cases h; rfl) (am_Ev.ret hcd rfl)
          · refine am_Ev.f hcd (c := t3 = 13) (s1 := (76, [(0, .ref 216), (1, .int (4 * (f 216 15))), (2, .int t3)], [], am_SH, (g, p6))) rfl c34 ?_
            refine am_Ev.go hcd 2 (s' := (79, [(0, .ref 216), (1, .int (4 * (f 216 15))), (2, .int t3)], [.int 1], am_SH, (g, p6))) rfl ?_
            exact am_Ev.cast (a := ((some (.int (am_b (true, p6).1))), am_SH, (g, (true, p6).2))) (by cases h; rfl) (am_Ev.ret hcd rfl)
      · refine am_Ev.t hcd (c := am_b (m_isIn t3 9 14) = 0) (s1 := (36, [(0, .ref 216), (1, .int (4 * (f 216 15))), (2, .int t3)], [], am_SH, (g, p2.2))) rfl (am_b_f c16) ?_
        refine am_Ev.go hcd 2 (s' := (38, [(0, .ref 216), (1, .int (4 * (f 216 15))), (2, .int t3)], [.int 1, .ref 216], am_SH, (g, p2.2))) rfl ?_
        obtain ⟨p9, Ep9, h⟩ := am_let_eq h
        refine am_Ev.call hcd (a := 201) (s0 := (0, [(0, .ref 216), (1, .int 1)], [], am_SH, (g, p2.2))) (q := ((some (.int (am_b p9.1))), am_SH, (g, p9.2))) (s1 := (39, [(0, .ref 216), (1, .int (4 * (f 216 15))), (2, .int t3)], [.int (am_b p9.1)], am_SH, (g, p9.2))) rfl rfl (by subst Ep9; exact m_bad_ok (d + 7) 1 p2.2 g) ?_
        exact am_Ev.cast (a := ((some (.int (am_b (p9.1, p9.2).1))), am_SH, (g, (p9.1, p9.2).2))) (by cases h; rfl) (am_Ev.retb hcd rfl)
    · refine am_Ev.t hcd (c := am_b p2.1 = 0) (s1 := (26, [(0, .ref 216), (1, .int (4 * (f 216 15)))], [], am_SH, (g, p2.2))) rfl (am_b_f c10) ?_
      refine am_Ev.go hcd 1 (s' := (27, [(0, .ref 216), (1, .int (4 * (f 216 15)))], [.int 0], am_SH, (g, p2.2))) rfl ?_
      exact am_Ev.cast (a := ((some (.int (am_b (false, p2.2).1))), am_SH, (g, (false, p2.2).2))) (by cases h; rfl) (am_Ev.ret hcd rfl)
  · refine am_Ev.t hcd (c := am_b p1.1 = 0) (s1 := (26, [(0, .ref 216), (1, .int (4 * (f 216 15)))], [], am_SH, (g, p1.2))) rfl (am_b_f c5) ?_
    refine am_Ev.go hcd 1 (s' := (27, [(0, .ref 216), (1, .int (4 * (f 216 15)))], [.int 0], am_SH, (g, p1.2))) rfl ?_
    exact am_Ev.cast (a := ((some (.int (am_b (false, p1.2).1))), am_SH, (g, (false, p1.2).2))) (by cases h; rfl) (am_Ev.ret hcd rfl)
def m_aNearness (f : (Nat → Nat → Int32)) : Option (Bool × (Nat → Nat → Int32)) :=
  (m_told 260 15 0 15 f).bind fun p1 =>
  if p1.1 = true then (
    (m_need 16 p1.2).bind fun p2 =>
    if p2.1 = true then (
      if p2.2 216 18 = 2 then (
        if p2.2 216 20 = p2.2 223 260 then (
          am_let (m_bad 2 p2.2) fun p3 =>
          some (p3.1, p3.2))
        else (
          (m_number 261 0 15 p2.2).bind fun p4 =>
          if p4.1 = true then (
            (m_number 262 1 9 p4.2).bind fun p5 =>
            if p5.1 = true then (
              am_let (p5.2 223 260 : Int32) fun t6 =>
              am_let (p5.2 223 261 : Int32) fun t7 =>
              if am_in ((16 * t6) + t7) 264 = true then (
              if am_in ((16 * t6) + t7) 264 = true then (
              am_let (am_up p5.2 223 ((16 * t6) + t7).toNatClampNeg (m_greater (p5.2 223 ((16 * t6) + t7).toNatClampNeg) (p5.2 223 262)) : Nat → Nat → Int32) fun f9 =>
              if am_in ((16 * t6) + t7) 264 = true then (
              if am_in ((16 * t7) + t6) 264 = true then (
              am_let (am_up f9 223 ((16 * t7) + t6).toNatClampNeg (f9 223 ((16 * t6) + t7).toNatClampNeg) : Nat → Nat → Int32) fun f10 =>
              some (true, f10)) else none) else none) else none) else none)
            else (
              some (false, p5.2)))
          else (
            some (false, p4.2))))
      else (
        (m_number 261 0 15 p2.2).bind fun p11 =>
        if p11.1 = true then (
          (m_number 262 1 9 p11.2).bind fun p12 =>
          if p12.1 = true then (
            am_let (p12.2 223 260 : Int32) fun t13 =>
            am_let (p12.2 223 261 : Int32) fun t14 =>
            if am_in ((16 * t13) + t14) 264 = true then (
            if am_in ((16 * t13) + t14) 264 = true then (
            am_let (am_up p12.2 223 ((16 * t13) + t14).toNatClampNeg (m_greater (p12.2 223 ((16 * t13) + t14).toNatClampNeg) (p12.2 223 262)) : Nat → Nat → Int32) fun f16 =>
            if am_in ((16 * t13) + t14) 264 = true then (
            if am_in ((16 * t14) + t13) 264 = true then (
            am_let (am_up f16 223 ((16 * t14) + t13).toNatClampNeg (f16 223 ((16 * t13) + t14).toNatClampNeg) : Nat → Nat → Int32) fun f17 =>
            some (true, f17)) else none) else none) else none) else none)
          else (
            some (false, p12.2)))
        else (
          some (false, p11.2))))
    else (
      some (false, p2.2)))
  else (
    some (false, p1.2))
set_option maxRecDepth 100000 in
set_option maxHeartbeats 4000000 in
theorem m_aNearness_ok {sc : Nat × (Nat → Int32)} (d : Nat)  (f g : (Nat → Nat → Int32)) (r : Bool × (Nat → Nat → Int32)) (h : m_aNearness  f = some r) : am_Ev sc (d + 8) 216 (0, [(0, .ref 216)], [], am_SH, (g, f)) ((some (.int (am_b r.1))), am_SH, (g, r.2)) := by
  have hcd : am_code 216 = am_c216 := rfl
  unfold m_aNearness at h
  refine am_Ev.go hcd 5 (s' := (5, [(0, .ref 216)], [.int 15, .int 0, .int 15, .int 260, .ref 216], am_SH, (g, f))) rfl ?_
  obtain ⟨p1, hp1, h⟩ := am_bind_some h
  refine am_Ev.call hcd (a := 214) (s0 := (0, [(0, .ref 216), (1, .int 260), (2, .int 15), (3, .int 0), (4, .int 15)], [], am_SH, (g, f))) (q := ((some (.int (am_b p1.1))), am_SH, (g, p1.2))) (s1 := (6, [(0, .ref 216)], [.int (am_b p1.1)], am_SH, (g, p1.2))) rfl rfl (m_told_ok (d) 260 15 0 15 f g p1 hp1) ?_
  rcases am_ite h with ⟨c5, h⟩ | ⟨c5, h⟩
  · refine am_Ev.f hcd (c := am_b p1.1 = 0) (s1 := (7, [(0, .ref 216)], [], am_SH, (g, p1.2))) rfl (am_b_t c5) ?_
    refine am_Ev.go hcd 2 (s' := (9, [(0, .ref 216)], [.int 16, .ref 216], am_SH, (g, p1.2))) rfl ?_
    obtain ⟨p2, hp2, h⟩ := am_bind_some h
    refine am_Ev.call hcd (a := 202) (s0 := (0, [(0, .ref 216), (1, .int 16)], [], am_SH, (g, p1.2))) (q := ((some (.int (am_b p2.1))), am_SH, (g, p2.2))) (s1 := (10, [(0, .ref 216)], [.int (am_b p2.1)], am_SH, (g, p2.2))) rfl rfl (m_need_ok (d + 1) 16 p1.2 g p2 hp2) ?_
    rcases am_ite h with ⟨c10, h⟩ | ⟨c10, h⟩
    · refine am_Ev.f hcd (c := am_b p2.1 = 0) (s1 := (13, [(0, .ref 216)], [], am_SH, (g, p2.2))) rfl (am_b_t c10) ?_
      refine am_Ev.go hcd 3 (s' := (16, [(0, .ref 216)], [.int 2, .int (p2.2 216 18)], am_SH, (g, p2.2))) rfl ?_
      rcases am_ite h with ⟨c12, h⟩ | ⟨c12, h⟩
      · refine am_Ev.t hcd (c := p2.2 216 18 = 2) (s1 := (17, [(0, .ref 216)], [], am_SH, (g, p2.2))) rfl c12 ?_
        refine am_Ev.go hcd 6 (s' := (23, [(0, .ref 216)], [.int (p2.2 223 260), .int (p2.2 216 20)], am_SH, (g, p2.2))) rfl ?_
        rcases am_ite h with ⟨c15, h⟩ | ⟨c15, h⟩
        · refine am_Ev.t hcd (c := p2.2 216 20 = p2.2 223 260) (s1 := (24, [(0, .ref 216)], [], am_SH, (g, p2.2))) rfl c15 ?_
          refine am_Ev.go hcd 2 (s' := (26, [(0, .ref 216)], [.int 2, .ref 216], am_SH, (g, p2.2))) rfl ?_
          obtain ⟨p3, Ep3, h⟩ := am_let_eq h
          refine am_Ev.call hcd (a := 201) (s0 := (0, [(0, .ref 216), (1, .int 2)], [], am_SH, (g, p2.2))) (q := ((some (.int (am_b p3.1))), am_SH, (g, p3.2))) (s1 := (27, [(0, .ref 216)], [.int (am_b p3.1)], am_SH, (g, p3.2))) rfl rfl (by subst Ep3; exact m_bad_ok (d + 7) 2 p2.2 g) ?_
          exact am_Ev.cast (a := ((some (.int (am_b (p3.1, p3.2).1))), am_SH, (g, (p3.1, p3.2).2))) (by cases h; rfl) (am_Ev.retb hcd rfl)
        · refine am_Ev.f hcd (c := p2.2 216 20 = p2.2 223 260) (s1 := (28, [(0, .ref 216)], [], am_SH, (g, p2.2))) rfl c15 ?_
          refine am_Ev.go hcd 4 (s' := (32, [(0, .ref 216)], [.int 15, .int 0, .int 261, .ref 216], am_SH, (g, p2.2))) rfl ?_
          obtain ⟨p4, hp4, h⟩ := am_bind_some h
          refine am_Ev.call hcd (a := 213) (s0 := (0, [(0, .ref 216), (1, .int 261), (2, .int 0), (3, .int 15)], [], am_SH, (g, p2.2))) (q := ((some (.int (am_b p4.1))), am_SH, (g, p4.2))) (s1 := (33, [(0, .ref 216)], [.int (am_b p4.1)], am_SH, (g, p4.2))) rfl rfl (m_number_ok (d + 1) 261 0 15 p2.2 g p4 hp4) ?_
          rcases am_ite h with ⟨c26, h⟩ | ⟨c26, h⟩
          · refine am_Ev.f hcd (c := am_b p4.1 = 0) (s1 := (34, [(0, .ref 216)], [], am_SH, (g, p4.2))) rfl (am_b_t c26) ?_
            refine am_Ev.go hcd 4 (s' := (38, [(0, .ref 216)], [.int 9, .int 1, .int 262, .ref 216], am_SH, (g, p4.2))) rfl ?_
            obtain ⟨p5, hp5, h⟩ := am_bind_some h
            refine am_Ev.call hcd (a := 213) (s0 := (0, [(0, .ref 216), (1, .int 262), (2, .int 1), (3, .int 9)], [], am_SH, (g, p4.2))) (q := ((some (.int (am_b p5.1))), am_SH, (g, p5.2))) (s1 := (39, [(0, .ref 216)], [.int (am_b p5.1)], am_SH, (g, p5.2))) rfl rfl (m_number_ok (d + 1) 262 1 9 p4.2 g p5 hp5) ?_
            rcases am_ite h with ⟨c31, h⟩ | ⟨c31, h⟩
            · refine am_Ev.f hcd (c := am_b p5.1 = 0) (s1 := (42, [(0, .ref 216)], [], am_SH, (g, p5.2))) rfl (am_b_t c31) ?_
              obtain ⟨t6, Et6, h⟩ := am_let_eq h
              refine am_Ev.go hcd 5 (s' := (47, [(0, .ref 216), (1, .int t6)], [], am_SH, (g, p5.2))) (by subst Et6; exact rfl) ?_
              obtain ⟨t7, Et7, h⟩ := am_let_eq h
              refine am_Ev.go hcd 5 (s' := (52, [(0, .ref 216), (1, .int t6), (2, .int t7)], [], am_SH, (g, p5.2))) (by subst Et7; exact rfl) ?_
              refine am_Ev.go hcd 14 (s' := (66, [(0, .ref 216), (1, .int t6), (2, .int t7)], [.int ((16 * t6) + t7), .ref 223, .int ((16 * t6) + t7), .ref 223], am_SH, (g, p5.2))) rfl ?_
              obtain ⟨c37, h⟩ := am_grd h
              refine am_Ev.t hcd (c := am_in ((16 * t6) + t7) 264 = true) (s1 := (67, [(0, .ref 216), (1, .int t6), (2, .int t7)], [.int (p5.2 223 ((16 * t6) + t7).toNatClampNeg), .int ((16 * t6) + t7), .ref 223], am_SH, (g, p5.2))) rfl c37 ?_
              refine am_Ev.go hcd 4 (s' := (71, [(0, .ref 216), (1, .int t6), (2, .int t7)], [.int (p5.2 223 262), .int (p5.2 223 ((16 * t6) + t7).toNatClampNeg), .int ((16 * t6) + t7), .ref 223], am_SH, (g, p5.2))) rfl ?_
              refine am_Ev.call hcd (a := 178) (s0 := (0, [(0, .int (p5.2 223 ((16 * t6) + t7).toNatClampNeg)), (1, .int (p5.2 223 262))], [], am_SH, (g, p5.2))) (q := ((some (.int (m_greater (p5.2 223 ((16 * t6) + t7).toNatClampNeg) (p5.2 223 262)))), am_SH, (g, p5.2))) (s1 := (72, [(0, .ref 216), (1, .int t6), (2, .int t7)], [.int (m_greater (p5.2 223 ((16 * t6) + t7).toNatClampNeg) (p5.2 223 262)), .int ((16 * t6) + t7), .ref 223], am_SH, (g, p5.2))) rfl rfl (m_greater_ok (d + 7) (p5.2 223 ((16 * t6) + t7).toNatClampNeg) (p5.2 223 262) (g, p5.2)) ?_
              obtain ⟨c42, h⟩ := am_grd h
              obtain ⟨f9, Ef9, h⟩ := am_let_eq h
              refine am_Ev.t hcd (c := am_in ((16 * t6) + t7) 264 = true) (s1 := (73, [(0, .ref 216), (1, .int t6), (2, .int t7)], [], am_SH, (g, f9))) (by subst Ef9; exact rfl) c42 ?_
              refine am_Ev.go hcd 14 (s' := (87, [(0, .ref 216), (1, .int t6), (2, .int t7)], [.int ((16 * t6) + t7), .ref 223, .int ((16 * t7) + t6), .ref 223], am_SH, (g, f9))) rfl ?_
              obtain ⟨c45, h⟩ := am_grd h
              refine am_Ev.t hcd (c := am_in ((16 * t6) + t7) 264 = true) (s1 := (88, [(0, .ref 216), (1, .int t6), (2, .int t7)], [.int (f9 223 ((16 * t6) + t7).toNatClampNeg), .int ((16 * t7) + t6), .ref 223], am_SH, (g, f9))) rfl c45 ?_
              obtain ⟨c48, h⟩ := am_grd h
              obtain ⟨f10, Ef10, h⟩ := am_let_eq h
              refine am_Ev.t hcd (c := am_in ((16 * t7) + t6) 264 = true) (s1 := (89, [(0, .ref 216), (1, .int t6), (2, .int t7)], [], am_SH, (g, f10))) (by subst Ef10; exact rfl) c48 ?_
              refine am_Ev.go hcd 1 (s' := (90, [(0, .ref 216), (1, .int t6), (2, .int t7)], [.int 1], am_SH, (g, f10))) rfl ?_
              exact am_Ev.cast (a := ((some (.int (am_b (true, f10).1))), am_SH, (g, (true, f10).2))) (by cases h; rfl) (am_Ev.ret hcd rfl)
            · refine am_Ev.t hcd (c := am_b p5.1 = 0) (s1 := (40, [(0, .ref 216)], [], am_SH, (g, p5.2))) rfl (am_b_f c31) ?_
              refine am_Ev.go hcd 1 (s' := (41, [(0, .ref 216)], [.int 0], am_SH, (g, p5.2))) rfl ?_
              exact am_Ev.cast (a := ((some (.int (am_b (false, p5.2).1))), am_SH, (g, (false, p5.2).2))) (by cases h; rfl) (am_Ev.ret hcd rfl)
          · refine am_Ev.t hcd (c := am_b p4.1 = 0) (s1 := (40, [(0, .ref 216)], [], am_SH, (g, p4.2))) rfl (am_b_f c26) ?_
            refine am_Ev.go hcd 1 (s' := (41, [(0, .ref 216)], [.int 0], am_SH, (g, p4.2))) rfl ?_
            exact am_Ev.cast (a := ((some (.int (am_b (false, p4.2).1))), am_SH, (g, (false, p4.2).2))) (by cases h; rfl) (am_Ev.ret hcd rfl)
      · refine am_Ev.f hcd (c := p2.2 216 18 = 2) (s1 := (28, [(0, .ref 216)], [], am_SH, (g, p2.2))) rfl c12 ?_
        refine am_Ev.go hcd 4 (s' := (32, [(0, .ref 216)], [.int 15, .int 0, .int 261, .ref 216], am_SH, (g, p2.2))) rfl ?_
        obtain ⟨p11, hp11, h⟩ := am_bind_some h
        refine am_Ev.call hcd (a := 213) (s0 := (0, [(0, .ref 216), (1, .int 261), (2, .int 0), (3, .int 15)], [], am_SH, (g, p2.2))) (q := ((some (.int (am_b p11.1))), am_SH, (g, p11.2))) (s1 := (33, [(0, .ref 216)], [.int (am_b p11.1)], am_SH, (g, p11.2))) rfl rfl (m_number_ok (d + 1) 261 0 15 p2.2 g p11 hp11) ?_
        rcases am_ite h with ⟨c63, h⟩ | ⟨c63, h⟩
        · refine am_Ev.f hcd (c := am_b p11.1 = 0) (s1 := (34, [(0, .ref 216)], [], am_SH, (g, p11.2))) rfl (am_b_t c63) ?_
          refine am_Ev.go hcd 4 (s' := (38, [(0, .ref 216)], [.int 9, .int 1, .int 262, .ref 216], am_SH, (g, p11.2))) rfl ?_
          obtain ⟨p12, hp12, h⟩ := am_bind_some h
          refine am_Ev.call hcd (a := 213) (s0 := (0, [(0, .ref 216), (1, .int 262), (2, .int 1), (3, .int 9)], [], am_SH, (g, p11.2))) (q := ((some (.int (am_b p12.1))), am_SH, (g, p12.2))) (s1 := (39, [(0, .ref 216)], [.int (am_b p12.1)], am_SH, (g, p12.2))) rfl rfl (m_number_ok (d + 1) 262 1 9 p11.2 g p12 hp12) ?_
          rcases am_ite h with ⟨c68, h⟩ | ⟨c68, h⟩
          · refine am_Ev.f hcd (c := am_b p12.1 = 0) (s1 := (42, [(0, .ref 216)], [], am_SH, (g, p12.2))) rfl (am_b_t c68) ?_
            obtain ⟨t13, Et13, h⟩ := am_let_eq h
            refine am_Ev.go hcd 5 (s' := (47, [(0, .ref 216), (1, .int t13)], [], am_SH, (g, p12.2))) (by subst Et13; exact rfl) ?_
            obtain ⟨t14, Et14, h⟩ := am_let_eq h
            refine am_Ev.go hcd 5 (s' := (52, [(0, .ref 216), (1, .int t13), (2, .int t14)], [], am_SH, (g, p12.2))) (by subst Et14; exact rfl) ?_
            refine am_Ev.go hcd 14 (s' := (66, [(0, .ref 216), (1, .int t13), (2, .int t14)], [.int ((16 * t13) + t14), .ref 223, .int ((16 * t13) + t14), .ref 223], am_SH, (g, p12.2))) rfl ?_
            obtain ⟨c74, h⟩ := am_grd h
            refine am_Ev.t hcd (c := am_in ((16 * t13) + t14) 264 = true) (s1 := (67, [(0, .ref 216), (1, .int t13), (2, .int t14)], [.int (p12.2 223 ((16 * t13) + t14).toNatClampNeg), .int ((16 * t13) + t14), .ref 223], am_SH, (g, p12.2))) rfl c74 ?_
            refine am_Ev.go hcd 4 (s' := (71, [(0, .ref 216), (1, .int t13), (2, .int t14)], [.int (p12.2 223 262), .int (p12.2 223 ((16 * t13) + t14).toNatClampNeg), .int ((16 * t13) + t14), .ref 223], am_SH, (g, p12.2))) rfl ?_
            refine am_Ev.call hcd (a := 178) (s0 := (0, [(0, .int (p12.2 223 ((16 * t13) + t14).toNatClampNeg)), (1, .int (p12.2 223 262))], [], am_SH, (g, p12.2))) (q := ((some (.int (m_greater (p12.2 223 ((16 * t13) + t14).toNatClampNeg) (p12.2 223 262)))), am_SH, (g, p12.2))) (s1 := (72, [(0, .ref 216), (1, .int t13), (2, .int t14)], [.int (m_greater (p12.2 223 ((16 * t13) + t14).toNatClampNeg) (p12.2 223 262)), .int ((16 * t13) + t14), .ref 223], am_SH, (g, p12.2))) rfl rfl (m_greater_ok (d + 7) (p12.2 223 ((16 * t13) + t14).toNatClampNeg) (p12.2 223 262) (g, p12.2)) ?_
            obtain ⟨c79, h⟩ := am_grd h
            obtain ⟨f16, Ef16, h⟩ := am_let_eq h
            refine am_Ev.t hcd (c := am_in ((16 * t13) + t14) 264 = true) (s1 := (73, [(0, .ref 216), (1, .int t13), (2, .int t14)], [], am_SH, (g, f16))) (by subst Ef16; exact rfl) c79 ?_
            refine am_Ev.go hcd 14 (s' := (87, [(0, .ref 216), (1, .int t13), (2, .int t14)], [.int ((16 * t13) + t14), .ref 223, .int ((16 * t14) + t13), .ref 223], am_SH, (g, f16))) rfl ?_
            obtain ⟨c82, h⟩ := am_grd h
            refine am_Ev.t hcd (c := am_in ((16 * t13) + t14) 264 = true) (s1 := (88, [(0, .ref 216), (1, .int t13), (2, .int t14)], [.int (f16 223 ((16 * t13) + t14).toNatClampNeg), .int ((16 * t14) + t13), .ref 223], am_SH, (g, f16))) rfl c82 ?_
            obtain ⟨c85, h⟩ := am_grd h
            obtain ⟨f17, Ef17, h⟩ := am_let_eq h
            refine am_Ev.t hcd (c := am_in ((16 * t14) + t13) 264 = true) (s1 := (89, [(0, .ref 216), (1, .int t13), (2, .int t14)], [], am_SH, (g, f17))) (by subst Ef17; exact rfl) c85 ?_
            refine am_Ev.go hcd 1 (s' := (90, [(0, .ref 216), (1, .int t13), (2, .int t14)], [.int 1], am_SH, (g, f17))) rfl ?_
            exact am_Ev.cast (a := ((some (.int (am_b (true, f17).1))), am_SH, (g, (true, f17).2))) (by cases h; rfl) (am_Ev.ret hcd rfl)
          · refine am_Ev.t hcd (c := am_b p12.1 = 0) (s1 := (40, [(0, .ref 216)], [], am_SH, (g, p12.2))) rfl (am_b_f c68) ?_
            refine am_Ev.go hcd 1 (s' := (41, [(0, .ref 216)], [.int 0], am_SH, (g, p12.2))) rfl ?_
            exact am_Ev.cast (a := ((some (.int (am_b (false, p12.2).1))), am_SH, (g, (false, p12.2).2))) (by cases h; rfl) (am_Ev.ret hcd rfl)
        · refine am_Ev.t hcd (c := am_b p11.1 = 0) (s1 := (40, [(0, .ref 216)], [], am_SH, (g, p11.2))) rfl (am_b_f c63) ?_
          refine am_Ev.go hcd 1 (s' := (41, [(0, .ref 216)], [.int 0], am_SH, (g, p11.2))) rfl ?_
          exact am_Ev.cast (a := ((some (.int (am_b (false, p11.2).1))), am_SH, (g, (false, p11.2).2))) (by cases h; rfl) (am_Ev.ret hcd rfl)
    · refine am_Ev.t hcd (c := am_b p2.1 = 0) (s1 := (11, [(0, .ref 216)], [], am_SH, (g, p2.2))) rfl (am_b_f c10) ?_
      refine am_Ev.go hcd 1 (s' := (12, [(0, .ref 216)], [.int 0], am_SH, (g, p2.2))) rfl ?_
      exact am_Ev.cast (a := ((some (.int (am_b (false, p2.2).1))), am_SH, (g, (false, p2.2).2))) (by cases h; rfl) (am_Ev.ret hcd rfl)
  · refine am_Ev.t hcd (c := am_b p1.1 = 0) (s1 := (11, [(0, .ref 216)], [], am_SH, (g, p1.2))) rfl (am_b_f c5) ?_
    refine am_Ev.go hcd 1 (s' := (12, [(0, .ref 216)], [.int 0], am_SH, (g, p1.2))) rfl ?_
    exact am_Ev.cast (a := ((some (.int (am_b (false, p1.2).1))), am_SH, (g, (false, p1.2).2))) (by cases h; rfl) (am_Ev.ret hcd rfl)
def m_aSecret (f : (Nat → Nat → Int32)) : Option (Bool × (Nat → Nat → Int32)) :=
  (m_told 260 17 0 ((f 217 70) - 1) f).bind fun p1 =>
  if p1.1 = true then (
    (m_told 261 18 0 15 p1.2).bind fun p2 =>
    if p2.1 = true then (
      (am_loop (fun (s3 : Int32 × Int32 × (Nat → Nat → Int32)) => ((
        if s3.2.2 216 18 = 2 then (
          if (m_isIn (s3.2.2 216 20) 0 15) = true then (
            if s3.2.1 = 6 then (
              am_let (m_bad 3 s3.2.2) fun p5 =>
              some (.inr (.inl (p5.1, p5.2))))
            else (
              am_let (s3.2.1 + 1 : Int32) fun t6 =>
              (m_next0  s3.2.2).bind fun p7 =>
              some (.inl ((s3.1 ||| (1 <<< ((s3.2.2 216 20) &&& 31))), t6, p7))))
          else (
            am_let (m_bad 2 s3.2.2) fun p8 =>
            some (.inr (.inl (p8.1, p8.2)))))
        else (
          some (.inr (.inr (s3.1, s3.2.2))))) : Option ((Int32 × Int32 × (Nat → Nat → Int32)) ⊕ ((Bool × (Nat → Nat → Int32)) ⊕ (Int32 × (Nat → Nat → Int32)))))) am_F ((1 <<< ((p2.2 223 261) &&& 31)), 1, p2.2)).bind fun e9 =>
      e9.elim (fun v => some v) fun e10 =>
      if am_in (e10.2 223 260) 264 = true then (
      am_let (am_up e10.2 223 (e10.2 223 260).toNatClampNeg e10.1 : Nat → Nat → Int32) fun f11 =>
      some (true, f11)) else none)
    else (
      some (false, p2.2)))
  else (
    some (false, p1.2))
set_option maxRecDepth 100000 in
set_option maxHeartbeats 4000000 in
theorem m_aSecret_ok {sc : Nat × (Nat → Int32)} (d : Nat)  (f g : (Nat → Nat → Int32)) (r : Bool × (Nat → Nat → Int32)) (h : m_aSecret  f = some r) : am_Ev sc (d + 8) 217 (0, [(0, .ref 216)], [], am_SH, (g, f)) ((some (.int (am_b r.1))), am_SH, (g, r.2)) := by
  have hcd : am_code 217 = am_c217 := rfl
  unfold m_aSecret at h
  refine am_Ev.go hcd 10 (s' := (10, [(0, .ref 216)], [.int ((f 217 70) - 1), .int 0, .int 17, .int 260, .ref 216], am_SH, (g, f))) rfl ?_
  obtain ⟨p1, hp1, h⟩ := am_bind_some h
  refine am_Ev.call hcd (a := 214) (s0 := (0, [(0, .ref 216), (1, .int 260), (2, .int 17), (3, .int 0), (4, .int ((f 217 70) - 1))], [], am_SH, (g, f))) (q := ((some (.int (am_b p1.1))), am_SH, (g, p1.2))) (s1 := (11, [(0, .ref 216)], [.int (am_b p1.1)], am_SH, (g, p1.2))) rfl rfl (m_told_ok (d) 260 17 0 ((f 217 70) - 1) f g p1 hp1) ?_
  rcases am_ite h with ⟨c5, h⟩ | ⟨c5, h⟩
  · refine am_Ev.f hcd (c := am_b p1.1 = 0) (s1 := (12, [(0, .ref 216)], [], am_SH, (g, p1.2))) rfl (am_b_t c5) ?_
    refine am_Ev.go hcd 5 (s' := (17, [(0, .ref 216)], [.int 15, .int 0, .int 18, .int 261, .ref 216], am_SH, (g, p1.2))) rfl ?_
    obtain ⟨p2, hp2, h⟩ := am_bind_some h
    refine am_Ev.call hcd (a := 214) (s0 := (0, [(0, .ref 216), (1, .int 261), (2, .int 18), (3, .int 0), (4, .int 15)], [], am_SH, (g, p1.2))) (q := ((some (.int (am_b p2.1))), am_SH, (g, p2.2))) (s1 := (18, [(0, .ref 216)], [.int (am_b p2.1)], am_SH, (g, p2.2))) rfl rfl (m_told_ok (d) 261 18 0 15 p1.2 g p2 hp2) ?_
    rcases am_ite h with ⟨c10, h⟩ | ⟨c10, h⟩
    · refine am_Ev.f hcd (c := am_b p2.1 = 0) (s1 := (21, [(0, .ref 216)], [], am_SH, (g, p2.2))) rfl (am_b_t c10) ?_
      refine am_Ev.go hcd 9 (s' := (30, [(0, .ref 216), (1, .int (1 <<< ((p2.2 223 261) &&& 31))), (2, .int 1)], [], am_SH, (g, p2.2))) rfl ?_
      obtain ⟨e9, he9, h⟩ := am_bind_some h
      have hK3 : (fun (v : (Bool × (Nat → Nat → Int32)) ⊕ (Int32 × (Nat → Nat → Int32))) => v.elim (fun (v : Bool × (Nat → Nat → Int32)) => (((some (.int (am_b v.1))), am_SH, (g, v.2)) : am_R) = ((some (.int (am_b r.1))), am_SH, (g, r.2))) (fun (e10 : Int32 × (Nat → Nat → Int32)) => am_Ev sc (d + 8) 217 (62, [(0, .ref 216), (1, .int e10.1)], [], am_SH, (g, e10.2)) ((some (.int (am_b r.1))), am_SH, (g, r.2)))) e9 := by
        cases e9 with
        | inl v => exact (by cases h; rfl)
        | inr e10 =>
          show am_Ev sc (d + 8) 217 (62, [(0, .ref 216), (1, .int e10.1)], [], am_SH, (g, e10.2)) ((some (.int (am_b r.1))), am_SH, (g, r.2))
          refine am_Ev.go hcd 7 (s' := (69, [(0, .ref 216), (1, .int e10.1)], [.int e10.1, .int (e10.2 223 260), .ref 223], am_SH, (g, e10.2))) rfl ?_
          obtain ⟨c19, h⟩ := am_grd h
          obtain ⟨f11, Ef11, h⟩ := am_let_eq h
          refine am_Ev.t hcd (c := am_in (e10.2 223 260) 264 = true) (s1 := (70, [(0, .ref 216), (1, .int e10.1)], [], am_SH, (g, f11))) (by subst Ef11; exact rfl) c19 ?_
          refine am_Ev.go hcd 1 (s' := (71, [(0, .ref 216), (1, .int e10.1)], [.int 1], am_SH, (g, f11))) rfl ?_
          exact am_Ev.cast (a := ((some (.int (am_b (true, f11).1))), am_SH, (g, (true, f11).2))) (by cases h; rfl) (am_Ev.ret hcd rfl)
      refine am_Ev.weak' (am_loop_ok (G := fun (s3 : Int32 × Int32 × (Nat → Nat → Int32)) => am_Ev sc (d + 8) 217 (30, [(0, .ref 216), (1, .int s3.1), (2, .int s3.2.1)], [], am_SH, (g, s3.2.2)) ((some (.int (am_b r.1))), am_SH, (g, r.2))) (Z := fun (v : (Bool × (Nat → Nat → Int32)) ⊕ (Int32 × (Nat → Nat → Int32))) => v.elim (fun (v : Bool × (Nat → Nat → Int32)) => (((some (.int (am_b v.1))), am_SH, (g, v.2)) : am_R) = ((some (.int (am_b r.1))), am_SH, (g, r.2))) (fun (e10 : Int32 × (Nat → Nat → Int32)) => am_Ev sc (d + 8) 217 (62, [(0, .ref 216), (1, .int e10.1)], [], am_SH, (g, e10.2)) ((some (.int (am_b r.1))), am_SH, (g, r.2)))) ?_ am_F ((1 <<< ((p2.2 223 261) &&& 31)), 1, p2.2) e9 he9 hK3) (am_sub_cons rfl (am_sub_cons rfl (am_sub_cons rfl am_sub_nil))) rfl
      intro s3 q3 h hI3 hZ3
      show am_Ev sc (d + 8) 217 (30, [(0, .ref 216), (1, .int s3.1), (2, .int s3.2.1)], [], am_SH, (g, s3.2.2)) ((some (.int (am_b r.1))), am_SH, (g, r.2))
      refine am_Ev.go hcd 3 (s' := (33, [(0, .ref 216), (1, .int s3.1), (2, .int s3.2.1)], [.int 2, .int (s3.2.2 216 18)], am_SH, (g, s3.2.2))) rfl ?_
      rcases am_ite h with ⟨c28, h⟩ | ⟨c28, h⟩
      · refine am_Ev.t hcd (c := s3.2.2 216 18 = 2) (s1 := (34, [(0, .ref 216), (1, .int s3.1), (2, .int s3.2.1)], [], am_SH, (g, s3.2.2))) rfl c28 ?_
        refine am_Ev.go hcd 4 (s' := (38, [(0, .ref 216), (1, .int s3.1), (2, .int s3.2.1)], [.int 15, .int 0, .int (s3.2.2 216 20)], am_SH, (g, s3.2.2))) rfl ?_
        refine am_Ev.call hcd (a := 176) (s0 := (0, [(0, .int (s3.2.2 216 20)), (1, .int 0), (2, .int 15)], [], am_SH, (g, s3.2.2))) (q := ((some (.int (am_b (m_isIn (s3.2.2 216 20) 0 15)))), am_SH, (g, s3.2.2))) (s1 := (39, [(0, .ref 216), (1, .int s3.1), (2, .int s3.2.1)], [.int (am_b (m_isIn (s3.2.2 216 20) 0 15))], am_SH, (g, s3.2.2))) rfl rfl (m_isIn_ok (d + 7) (s3.2.2 216 20) 0 15 (g, s3.2.2)) ?_
        rcases am_ite h with ⟨c33, h⟩ | ⟨c33, h⟩
        · refine am_Ev.f hcd (c := am_b (m_isIn (s3.2.2 216 20) 0 15) = 0) (s1 := (44, [(0, .ref 216), (1, .int s3.1), (2, .int s3.2.1)], [], am_SH, (g, s3.2.2))) rfl (am_b_t c33) ?_
          refine am_Ev.go hcd 2 (s' := (46, [(0, .ref 216), (1, .int s3.1), (2, .int s3.2.1)], [.int 6, .int s3.2.1], am_SH, (g, s3.2.2))) rfl ?_
          rcases am_ite h with ⟨c35, h⟩ | ⟨c35, h⟩
          · refine am_Ev.t hcd (c := s3.2.1 = 6) (s1 := (47, [(0, .ref 216), (1, .int s3.1), (2, .int s3.2.1)], [], am_SH, (g, s3.2.2))) rfl c35 ?_
            refine am_Ev.go hcd 2 (s' := (49, [(0, .ref 216), (1, .int s3.1), (2, .int s3.2.1)], [.int 3, .ref 216], am_SH, (g, s3.2.2))) rfl ?_
            obtain ⟨p5, Ep5, h⟩ := am_let_eq h
            refine am_Ev.call hcd (a := 201) (s0 := (0, [(0, .ref 216), (1, .int 3)], [], am_SH, (g, s3.2.2))) (q := ((some (.int (am_b p5.1))), am_SH, (g, p5.2))) (s1 := (50, [(0, .ref 216), (1, .int s3.1), (2, .int s3.2.1)], [.int (am_b p5.1)], am_SH, (g, p5.2))) rfl rfl (by subst Ep5; exact m_bad_ok (d + 7) 3 s3.2.2 g) ?_
            exact am_Ev.cast (a := ((some (.int (am_b (p5.1, p5.2).1))), am_SH, (g, (p5.1, p5.2).2))) (hZ3 _ (Option.some.inj h).symm) (am_Ev.retb hcd rfl)
          · refine am_Ev.f hcd (c := s3.2.1 = 6) (s1 := (51, [(0, .ref 216), (1, .int s3.1), (2, .int s3.2.1)], [], am_SH, (g, s3.2.2))) rfl c35 ?_
            obtain ⟨t6, Et6, h⟩ := am_let_eq h
            refine am_Ev.go hcd 1 (s' := (52, [(0, .ref 216), (1, .int s3.1), (2, .int t6)], [], am_SH, (g, s3.2.2))) (by subst Et6; exact rfl) ?_
            refine am_Ev.go hcd 8 (s' := (60, [(0, .ref 216), (1, .int (s3.1 ||| (1 <<< ((s3.2.2 216 20) &&& 31)))), (2, .int t6)], [.ref 216], am_SH, (g, s3.2.2))) rfl ?_
            obtain ⟨p7, hp7, h⟩ := am_bind_some h
            refine am_Ev.call hcd (a := 200) (s0 := (0, [(0, .ref 216)], [], am_SH, (g, s3.2.2))) (q := (none, am_SH, (g, p7))) (s1 := (61, [(0, .ref 216), (1, .int (s3.1 ||| (1 <<< ((s3.2.2 216 20) &&& 31)))), (2, .int t6)], [], am_SH, (g, p7))) rfl rfl (m_next0_ok (d + 2)  s3.2.2 g p7 hp7) ?_
            refine am_Ev.go hcd 1 (s' := (30, [(0, .ref 216), (1, .int (s3.1 ||| (1 <<< ((s3.2.2 216 20) &&& 31)))), (2, .int t6)], [], am_SH, (g, p7))) rfl ?_
            exact am_Ev.weak' (hI3 ((s3.1 ||| (1 <<< ((s3.2.2 216 20) &&& 31))), t6, p7) (Option.some.inj h).symm) (am_sub_cons rfl (am_sub_cons rfl (am_sub_cons rfl am_sub_nil))) rfl
        · refine am_Ev.t hcd (c := am_b (m_isIn (s3.2.2 216 20) 0 15) = 0) (s1 := (40, [(0, .ref 216), (1, .int s3.1), (2, .int s3.2.1)], [], am_SH, (g, s3.2.2))) rfl (am_b_f c33) ?_
          refine am_Ev.go hcd 2 (s' := (42, [(0, .ref 216), (1, .int s3.1), (2, .int s3.2.1)], [.int 2, .ref 216], am_SH, (g, s3.2.2))) rfl ?_
          obtain ⟨p8, Ep8, h⟩ := am_let_eq h
          refine am_Ev.call hcd (a := 201) (s0 := (0, [(0, .ref 216), (1, .int 2)], [], am_SH, (g, s3.2.2))) (q := ((some (.int (am_b p8.1))), am_SH, (g, p8.2))) (s1 := (43, [(0, .ref 216), (1, .int s3.1), (2, .int s3.2.1)], [.int (am_b p8.1)], am_SH, (g, p8.2))) rfl rfl (by subst Ep8; exact m_bad_ok (d + 7) 2 s3.2.2 g) ?_
          exact am_Ev.cast (a := ((some (.int (am_b (p8.1, p8.2).1))), am_SH, (g, (p8.1, p8.2).2))) (hZ3 _ (Option.some.inj h).symm) (am_Ev.retb hcd rfl)
      · refine am_Ev.f hcd (c := s3.2.2 216 18 = 2) (s1 := (62, [(0, .ref 216), (1, .int s3.1), (2, .int s3.2.1)], [], am_SH, (g, s3.2.2))) rfl c28 ?_
        exact am_Ev.weak' (hZ3 (.inr (s3.1, s3.2.2)) (Option.some.inj h).symm) (am_sub_cons rfl (am_sub_cons rfl am_sub_nil)) rfl
    · refine am_Ev.t hcd (c := am_b p2.1 = 0) (s1 := (19, [(0, .ref 216)], [], am_SH, (g, p2.2))) rfl (am_b_f c10) ?_
      refine am_Ev.go hcd 1 (s' := (20, [(0, .ref 216)], [.int 0], am_SH, (g, p2.2))) rfl ?_
      exact am_Ev.cast (a := ((some (.int (am_b (false, p2.2).1))), am_SH, (g, (false, p2.2).2))) (by cases h; rfl) (am_Ev.ret hcd rfl)
  · refine am_Ev.t hcd (c := am_b p1.1 = 0) (s1 := (19, [(0, .ref 216)], [], am_SH, (g, p1.2))) rfl (am_b_f c5) ?_
    refine am_Ev.go hcd 1 (s' := (20, [(0, .ref 216)], [.int 0], am_SH, (g, p1.2))) rfl ?_
    exact am_Ev.cast (a := ((some (.int (am_b (false, p1.2).1))), am_SH, (g, (false, p1.2).2))) (by cases h; rfl) (am_Ev.ret hcd rfl)
def m_aRow (f : (Nat → Nat → Int32)) : Option (Bool × (Nat → Nat → Int32)) :=
  if f 216 12 = 1 then (
    (m_aWalk  f).bind fun p1 =>
    if p1.1 = true then (
      (m_need 159 p1.2).bind fun p2 =>
      if p2.1 = true then (
        some (true, p2.2))
      else (
        some (false, p2.2)))
    else (
      some (false, p1.2)))
  else (
    if f 216 12 = 2 then (
      (m_aNearness  f).bind fun p3 =>
      if p3.1 = true then (
        (m_need 159 p3.2).bind fun p4 =>
        if p4.1 = true then (
          some (true, p4.2))
        else (
          some (false, p4.2)))
      else (
        some (false, p3.2)))
    else (
      (m_aSecret  f).bind fun p5 =>
      if p5.1 = true then (
        (m_need 159 p5.2).bind fun p6 =>
        if p6.1 = true then (
          some (true, p6.2))
        else (
          some (false, p6.2)))
      else (
        some (false, p5.2))))
set_option maxRecDepth 100000 in
set_option maxHeartbeats 4000000 in
theorem m_aRow_ok {sc : Nat × (Nat → Int32)} (d : Nat)  (f g : (Nat → Nat → Int32)) (r : Bool × (Nat → Nat → Int32)) (h : m_aRow  f = some r) : am_Ev sc (d + 9) 218 (0, [(0, .ref 216)], [], am_SH, (g, f)) ((some (.int (am_b r.1))), am_SH, (g, r.2)) := by
  have hcd : am_code 218 = am_c218 := rfl
  unfold m_aRow at h
  refine am_Ev.go hcd 3 (s' := (3, [(0, .ref 216)], [.int 1, .int (f 216 12)], am_SH, (g, f))) rfl ?_
  rcases am_ite h with ⟨c2, h⟩ | ⟨c2, h⟩
  · refine am_Ev.t hcd (c := f 216 12 = 1) (s1 := (4, [(0, .ref 216)], [], am_SH, (g, f))) rfl c2 ?_
    refine am_Ev.go hcd 1 (s' := (5, [(0, .ref 216)], [.ref 216], am_SH, (g, f))) rfl ?_
    obtain ⟨p1, hp1, h⟩ := am_bind_some h
    refine am_Ev.call hcd (a := 215) (s0 := (0, [(0, .ref 216)], [], am_SH, (g, f))) (q := ((some (.int (am_b p1.1))), am_SH, (g, p1.2))) (s1 := (6, [(0, .ref 216)], [.int (am_b p1.1)], am_SH, (g, p1.2))) rfl rfl (m_aWalk_ok (d)  f g p1 hp1) ?_
    rcases am_ite h with ⟨c8, h⟩ | ⟨c8, h⟩
    · refine am_Ev.f hcd (c := am_b p1.1 = 0) (s1 := (7, [(0, .ref 216)], [], am_SH, (g, p1.2))) rfl (am_b_t c8) ?_
      refine am_Ev.go hcd 3 (s' := (21, [(0, .ref 216)], [.int 159, .ref 216], am_SH, (g, p1.2))) rfl ?_
      obtain ⟨p2, hp2, h⟩ := am_bind_some h
      refine am_Ev.call hcd (a := 202) (s0 := (0, [(0, .ref 216), (1, .int 159)], [], am_SH, (g, p1.2))) (q := ((some (.int (am_b p2.1))), am_SH, (g, p2.2))) (s1 := (22, [(0, .ref 216)], [.int (am_b p2.1)], am_SH, (g, p2.2))) rfl rfl (m_need_ok (d + 2) 159 p1.2 g p2 hp2) ?_
      rcases am_ite h with ⟨c13, h⟩ | ⟨c13, h⟩
      · refine am_Ev.f hcd (c := am_b p2.1 = 0) (s1 := (23, [(0, .ref 216)], [], am_SH, (g, p2.2))) rfl (am_b_t c13) ?_
        refine am_Ev.go hcd 2 (s' := (26, [(0, .ref 216)], [.int 1], am_SH, (g, p2.2))) rfl ?_
        exact am_Ev.cast (a := ((some (.int (am_b (true, p2.2).1))), am_SH, (g, (true, p2.2).2))) (by cases h; rfl) (am_Ev.ret hcd rfl)
      · refine am_Ev.t hcd (c := am_b p2.1 = 0) (s1 := (25, [(0, .ref 216)], [], am_SH, (g, p2.2))) rfl (am_b_f c13) ?_
        refine am_Ev.go hcd 1 (s' := (26, [(0, .ref 216)], [.int 0], am_SH, (g, p2.2))) rfl ?_
        exact am_Ev.cast (a := ((some (.int (am_b (false, p2.2).1))), am_SH, (g, (false, p2.2).2))) (by cases h; rfl) (am_Ev.ret hcd rfl)
    · refine am_Ev.t hcd (c := am_b p1.1 = 0) (s1 := (25, [(0, .ref 216)], [], am_SH, (g, p1.2))) rfl (am_b_f c8) ?_
      refine am_Ev.go hcd 1 (s' := (26, [(0, .ref 216)], [.int 0], am_SH, (g, p1.2))) rfl ?_
      exact am_Ev.cast (a := ((some (.int (am_b (false, p1.2).1))), am_SH, (g, (false, p1.2).2))) (by cases h; rfl) (am_Ev.ret hcd rfl)
  · refine am_Ev.f hcd (c := f 216 12 = 1) (s1 := (8, [(0, .ref 216)], [], am_SH, (g, f))) rfl c2 ?_
    refine am_Ev.go hcd 3 (s' := (11, [(0, .ref 216)], [.int 2, .int (f 216 12)], am_SH, (g, f))) rfl ?_
    rcases am_ite h with ⟨c24, h⟩ | ⟨c24, h⟩
    · refine am_Ev.t hcd (c := f 216 12 = 2) (s1 := (12, [(0, .ref 216)], [], am_SH, (g, f))) rfl c24 ?_
      refine am_Ev.go hcd 1 (s' := (13, [(0, .ref 216)], [.ref 216], am_SH, (g, f))) rfl ?_
      obtain ⟨p3, hp3, h⟩ := am_bind_some h
      refine am_Ev.call hcd (a := 216) (s0 := (0, [(0, .ref 216)], [], am_SH, (g, f))) (q := ((some (.int (am_b p3.1))), am_SH, (g, p3.2))) (s1 := (14, [(0, .ref 216)], [.int (am_b p3.1)], am_SH, (g, p3.2))) rfl rfl (m_aNearness_ok (d)  f g p3 hp3) ?_
      rcases am_ite h with ⟨c30, h⟩ | ⟨c30, h⟩
      · refine am_Ev.f hcd (c := am_b p3.1 = 0) (s1 := (15, [(0, .ref 216)], [], am_SH, (g, p3.2))) rfl (am_b_t c30) ?_
        refine am_Ev.go hcd 3 (s' := (21, [(0, .ref 216)], [.int 159, .ref 216], am_SH, (g, p3.2))) rfl ?_
        obtain ⟨p4, hp4, h⟩ := am_bind_some h
        refine am_Ev.call hcd (a := 202) (s0 := (0, [(0, .ref 216), (1, .int 159)], [], am_SH, (g, p3.2))) (q := ((some (.int (am_b p4.1))), am_SH, (g, p4.2))) (s1 := (22, [(0, .ref 216)], [.int (am_b p4.1)], am_SH, (g, p4.2))) rfl rfl (m_need_ok (d + 2) 159 p3.2 g p4 hp4) ?_
        rcases am_ite h with ⟨c35, h⟩ | ⟨c35, h⟩
        · refine am_Ev.f hcd (c := am_b p4.1 = 0) (s1 := (23, [(0, .ref 216)], [], am_SH, (g, p4.2))) rfl (am_b_t c35) ?_
          refine am_Ev.go hcd 2 (s' := (26, [(0, .ref 216)], [.int 1], am_SH, (g, p4.2))) rfl ?_
          exact am_Ev.cast (a := ((some (.int (am_b (true, p4.2).1))), am_SH, (g, (true, p4.2).2))) (by cases h; rfl) (am_Ev.ret hcd rfl)
        · refine am_Ev.t hcd (c := am_b p4.1 = 0) (s1 := (25, [(0, .ref 216)], [], am_SH, (g, p4.2))) rfl (am_b_f c35) ?_
          refine am_Ev.go hcd 1 (s' := (26, [(0, .ref 216)], [.int 0], am_SH, (g, p4.2))) rfl ?_
          exact am_Ev.cast (a := ((some (.int (am_b (false, p4.2).1))), am_SH, (g, (false, p4.2).2))) (by cases h; rfl) (am_Ev.ret hcd rfl)
      · refine am_Ev.t hcd (c := am_b p3.1 = 0) (s1 := (25, [(0, .ref 216)], [], am_SH, (g, p3.2))) rfl (am_b_f c30) ?_
        refine am_Ev.go hcd 1 (s' := (26, [(0, .ref 216)], [.int 0], am_SH, (g, p3.2))) rfl ?_
        exact am_Ev.cast (a := ((some (.int (am_b (false, p3.2).1))), am_SH, (g, (false, p3.2).2))) (by cases h; rfl) (am_Ev.ret hcd rfl)
    · refine am_Ev.f hcd (c := f 216 12 = 2) (s1 := (16, [(0, .ref 216)], [], am_SH, (g, f))) rfl c24 ?_
      refine am_Ev.go hcd 1 (s' := (17, [(0, .ref 216)], [.ref 216], am_SH, (g, f))) rfl ?_
      obtain ⟨p5, hp5, h⟩ := am_bind_some h
      refine am_Ev.call hcd (a := 217) (s0 := (0, [(0, .ref 216)], [], am_SH, (g, f))) (q := ((some (.int (am_b p5.1))), am_SH, (g, p5.2))) (s1 := (18, [(0, .ref 216)], [.int (am_b p5.1)], am_SH, (g, p5.2))) rfl rfl (m_aSecret_ok (d)  f g p5 hp5) ?_
      rcases am_ite h with ⟨c49, h⟩ | ⟨c49, h⟩
      · refine am_Ev.f hcd (c := am_b p5.1 = 0) (s1 := (19, [(0, .ref 216)], [], am_SH, (g, p5.2))) rfl (am_b_t c49) ?_
        refine am_Ev.go hcd 2 (s' := (21, [(0, .ref 216)], [.int 159, .ref 216], am_SH, (g, p5.2))) rfl ?_
        obtain ⟨p6, hp6, h⟩ := am_bind_some h
        refine am_Ev.call hcd (a := 202) (s0 := (0, [(0, .ref 216), (1, .int 159)], [], am_SH, (g, p5.2))) (q := ((some (.int (am_b p6.1))), am_SH, (g, p6.2))) (s1 := (22, [(0, .ref 216)], [.int (am_b p6.1)], am_SH, (g, p6.2))) rfl rfl (m_need_ok (d + 2) 159 p5.2 g p6 hp6) ?_
        rcases am_ite h with ⟨c54, h⟩ | ⟨c54, h⟩
        · refine am_Ev.f hcd (c := am_b p6.1 = 0) (s1 := (23, [(0, .ref 216)], [], am_SH, (g, p6.2))) rfl (am_b_t c54) ?_
          refine am_Ev.go hcd 2 (s' := (26, [(0, .ref 216)], [.int 1], am_SH, (g, p6.2))) rfl ?_
          exact am_Ev.cast (a := ((some (.int (am_b (true, p6.2).1))), am_SH, (g, (true, p6.2).2))) (by cases h; rfl) (am_Ev.ret hcd rfl)
        · refine am_Ev.t hcd (c := am_b p6.1 = 0) (s1 := (25, [(0, .ref 216)], [], am_SH, (g, p6.2))) rfl (am_b_f c54) ?_
          refine am_Ev.go hcd 1 (s' := (26, [(0, .ref 216)], [.int 0], am_SH, (g, p6.2))) rfl ?_
          exact am_Ev.cast (a := ((some (.int (am_b (false, p6.2).1))), am_SH, (g, (false, p6.2).2))) (by cases h; rfl) (am_Ev.ret hcd rfl)
      · refine am_Ev.t hcd (c := am_b p5.1 = 0) (s1 := (25, [(0, .ref 216)], [], am_SH, (g, p5.2))) rfl (am_b_f c49) ?_
        refine am_Ev.go hcd 1 (s' := (26, [(0, .ref 216)], [.int 0], am_SH, (g, p5.2))) rfl ?_
        exact am_Ev.cast (a := ((some (.int (am_b (false, p5.2).1))), am_SH, (g, (false, p5.2).2))) (by cases h; rfl) (am_Ev.ret hcd rfl)
def m_readsRows (f : (Nat → Nat → Int32)) : Option (Bool × (Nat → Nat → Int32)) :=
  am_let (am_up f 216 15 0 : Nat → Nat → Int32) fun f1 =>
  (am_loop (fun (s2 : Int32 × (Nat → Nat → Int32)) => ((
    if s2.1 < 256 then (
      if am_in s2.1 264 = true then (
      am_let (am_up s2.2 223 s2.1.toNatClampNeg 0 : Nat → Nat → Int32) fun f3 =>
      am_let (s2.1 + 1 : Int32) fun t4 =>
      some (.inl (t4, f3))) else none)
    else (
      some (.inr s2.2))) : Option ((Int32 × (Nat → Nat → Int32)) ⊕ ((Nat → Nat → Int32))))) am_F (0, f1)).bind fun e5 =>
  am_let ((if e5 216 12 = 1 then (
      7)
    else (
      if e5 216 12 = 2 then (
        15)
      else (
        17))) : Int32) fun t6 =>
  (am_loop (fun (s7 : Bool × (Nat → Nat → Int32)) => ((
    if s7.1 = true then (
      if s7.2 216 18 = 0 then (
        some (.inr (.inr (s7.1, s7.2))))
      else (
        if s7.2 216 18 = t6 then (
          if s7.2 216 15 = 16 then (
            am_let (m_bad 3 s7.2) fun p8 =>
            some (.inr (.inl (p8.1, p8.2))))
          else (
            (m_aRow  s7.2).bind fun p9 =>
            am_let ((if p9.1 = true then (
                true)
              else (
                false)) : Bool) fun t10 =>
            am_let (am_up p9.2 216 15 ((p9.2 216 15) + (am_b t10)) : Nat → Nat → Int32) fun f11 =>
            some (.inl (p9.1, f11))))
        else (
          am_let (m_bad 1 s7.2) fun p12 =>
          some (.inr (.inl (p12.1, p12.2))))))
    else (
      some (.inr (.inr (s7.1, s7.2))))) : Option ((Bool × (Nat → Nat → Int32)) ⊕ ((Bool × (Nat → Nat → Int32)) ⊕ (Bool × (Nat → Nat → Int32)))))) am_F (true, e5)).bind fun e13 =>
  e13.elim (fun v => some v) fun e14 =>
  some (e14.1, e14.2)
set_option maxRecDepth 100000 in
set_option maxHeartbeats 4000000 in
theorem m_readsRows_ok {sc : Nat × (Nat → Int32)} (d : Nat)  (f g : (Nat → Nat → Int32)) (r : Bool × (Nat → Nat → Int32)) (h : m_readsRows  f = some r) : am_Ev sc (d + 10) 219 (0, [(0, .ref 216)], [], am_SH, (g, f)) ((some (.int (am_b r.1))), am_SH, (g, r.2)) := by
  have hcd : am_code 219 = am_c219 := rfl
  unfold m_readsRows at h
  obtain ⟨f1, Ef1, h⟩ := am_let_eq h
  refine am_Ev.go hcd 3 (s' := (3, [(0, .ref 216)], [], am_SH, (g, f1))) (by subst Ef1; exact rfl) ?_
  refine am_Ev.go hcd 2 (s' := (5, [(0, .ref 216), (1, .int 0)], [], am_SH, (g, f1))) rfl ?_
  obtain ⟨e5, he5, h⟩ := am_bind_some h
  have hK2 : (fun (e5 : (Nat → Nat → Int32)) => am_Ev sc (d + 10) 219 (15, [(0, .ref 216)], [], am_SH, (g, e5)) ((some (.int (am_b r.1))), am_SH, (g, r.2))) e5 := by
    show am_Ev sc (d + 10) 219 (15, [(0, .ref 216)], [], am_SH, (g, e5)) ((some (.int (am_b r.1))), am_SH, (g, r.2))
    obtain ⟨t6, ht6, kt6⟩ := am_let_eq h
    have hKt6 : am_Ev sc (d + 10) 219 (28, [(0, .ref 216)], [.int t6], am_SH, (g, e5)) ((some (.int (am_b r.1))), am_SH, (g, r.2)) := by
      have h := kt6
      refine am_Ev.go hcd 3 (s' := (31, [(0, .ref 216), (1, .int t6), (2, .int 1)], [], am_SH, (g, e5))) rfl ?_
      obtain ⟨e13, he13, h⟩ := am_bind_some h
      have hK7 : (fun (v : (Bool × (Nat → Nat → Int32)) ⊕ (Bool × (Nat → Nat → Int32))) => v.elim (fun (v : Bool × (Nat → Nat → Int32)) => (((some (.int (am_b v.1))), am_SH, (g, v.2)) : am_R) = ((some (.int (am_b r.1))), am_SH, (g, r.2))) (fun (e14 : Bool × (Nat → Nat → Int32)) => am_Ev sc (d + 10) 219 (66, [(2, .int (am_b e14.1))], [], am_SH, (g, e14.2)) ((some (.int (am_b r.1))), am_SH, (g, r.2)))) e13 := by
        cases e13 with
        | inl v => exact (by cases h; rfl)
        | inr e14 =>
          show am_Ev sc (d + 10) 219 (66, [(2, .int (am_b e14.1))], [], am_SH, (g, e14.2)) ((some (.int (am_b r.1))), am_SH, (g, r.2))
          refine am_Ev.go hcd 1 (s' := (67, [(2, .int (am_b e14.1))], [.int (am_b e14.1)], am_SH, (g, e14.2))) rfl ?_
          exact am_Ev.cast (a := ((some (.int (am_b (e14.1, e14.2).1))), am_SH, (g, (e14.1, e14.2).2))) (by cases h; rfl) (am_Ev.retb hcd rfl)
      refine am_Ev.weak' (am_loop_ok (G := fun (s7 : Bool × (Nat → Nat → Int32)) => am_Ev sc (d + 10) 219 (31, [(0, .ref 216), (1, .int t6), (2, .int (am_b s7.1))], [], am_SH, (g, s7.2)) ((some (.int (am_b r.1))), am_SH, (g, r.2))) (Z := fun (v : (Bool × (Nat → Nat → Int32)) ⊕ (Bool × (Nat → Nat → Int32))) => v.elim (fun (v : Bool × (Nat → Nat → Int32)) => (((some (.int (am_b v.1))), am_SH, (g, v.2)) : am_R) = ((some (.int (am_b r.1))), am_SH, (g, r.2))) (fun (e14 : Bool × (Nat → Nat → Int32)) => am_Ev sc (d + 10) 219 (66, [(2, .int (am_b e14.1))], [], am_SH, (g, e14.2)) ((some (.int (am_b r.1))), am_SH, (g, r.2)))) ?_ am_F (true, e5) e13 he13 hK7) (am_sub_cons rfl (am_sub_cons rfl (am_sub_cons rfl am_sub_nil))) rfl
      intro s7 q7 h hI7 hZ7
      show am_Ev sc (d + 10) 219 (31, [(0, .ref 216), (1, .int t6), (2, .int (am_b s7.1))], [], am_SH, (g, s7.2)) ((some (.int (am_b r.1))), am_SH, (g, r.2))
      refine am_Ev.go hcd 1 (s' := (32, [(0, .ref 216), (1, .int t6), (2, .int (am_b s7.1))], [.int (am_b s7.1)], am_SH, (g, s7.2))) rfl ?_
      rcases am_ite h with ⟨c23, h⟩ | ⟨c23, h⟩
      · refine am_Ev.f hcd (c := am_b s7.1 = 0) (s1 := (33, [(0, .ref 216), (1, .int t6), (2, .int (am_b s7.1))], [], am_SH, (g, s7.2))) rfl (am_b_t c23) ?_
        refine am_Ev.go hcd 2 (s' := (35, [(0, .ref 216), (1, .int t6), (2, .int (am_b s7.1))], [.int (s7.2 216 18)], am_SH, (g, s7.2))) rfl ?_
        rcases am_ite h with ⟨c26, h⟩ | ⟨c26, h⟩
        · refine am_Ev.t hcd (c := s7.2 216 18 = 0) (s1 := (66, [(0, .ref 216), (1, .int t6), (2, .int (am_b s7.1))], [], am_SH, (g, s7.2))) rfl c26 ?_
          exact am_Ev.weak' (hZ7 (.inr (s7.1, s7.2)) (Option.some.inj h).symm) (am_sub_cons rfl am_sub_nil) rfl
        · refine am_Ev.f hcd (c := s7.2 216 18 = 0) (s1 := (36, [(0, .ref 216), (1, .int t6), (2, .int (am_b s7.1))], [], am_SH, (g, s7.2))) rfl c26 ?_
          refine am_Ev.go hcd 3 (s' := (39, [(0, .ref 216), (1, .int t6), (2, .int (am_b s7.1))], [.int t6, .int (s7.2 216 18)], am_SH, (g, s7.2))) rfl ?_
          rcases am_ite h with ⟨c31, h⟩ | ⟨c31, h⟩
          · refine am_Ev.t hcd (c := s7.2 216 18 = t6) (s1 := (44, [(0, .ref 216), (1, .int t6), (2, .int (am_b s7.1))], [], am_SH, (g, s7.2))) rfl c31 ?_
            refine am_Ev.go hcd 3 (s' := (47, [(0, .ref 216), (1, .int t6), (2, .int (am_b s7.1))], [.int 16, .int (s7.2 216 15)], am_SH, (g, s7.2))) rfl ?_
            rcases am_ite h with ⟨c34, h⟩ | ⟨c34, h⟩
            · refine am_Ev.t hcd (c := s7.2 216 15 = 16) (s1 := (48, [(0, .ref 216), (1, .int t6), (2, .int (am_b s7.1))], [], am_SH, (g, s7.2))) rfl c34 ?_
              refine am_Ev.go hcd 2 (s' := (50, [(0, .ref 216), (1, .int t6), (2, .int (am_b s7.1))], [.int 3, .ref 216], am_SH, (g, s7.2))) rfl ?_
              obtain ⟨p8, Ep8, h⟩ := am_let_eq h
              refine am_Ev.call hcd (a := 201) (s0 := (0, [(0, .ref 216), (1, .int 3)], [], am_SH, (g, s7.2))) (q := ((some (.int (am_b p8.1))), am_SH, (g, p8.2))) (s1 := (51, [(0, .ref 216), (1, .int t6), (2, .int (am_b s7.1))], [.int (am_b p8.1)], am_SH, (g, p8.2))) rfl rfl (by subst Ep8; exact m_bad_ok (d + 9) 3 s7.2 g) ?_
              exact am_Ev.cast (a := ((some (.int (am_b (p8.1, p8.2).1))), am_SH, (g, (p8.1, p8.2).2))) (hZ7 _ (Option.some.inj h).symm) (am_Ev.retb hcd rfl)
            · refine am_Ev.f hcd (c := s7.2 216 15 = 16) (s1 := (52, [(0, .ref 216), (1, .int t6), (2, .int (am_b s7.1))], [], am_SH, (g, s7.2))) rfl c34 ?_
              refine am_Ev.go hcd 1 (s' := (53, [(0, .ref 216), (1, .int t6), (2, .int (am_b s7.1))], [.ref 216], am_SH, (g, s7.2))) rfl ?_
              obtain ⟨p9, hp9, h⟩ := am_bind_some h
              refine am_Ev.call hcd (a := 218) (s0 := (0, [(0, .ref 216)], [], am_SH, (g, s7.2))) (q := ((some (.int (am_b p9.1))), am_SH, (g, p9.2))) (s1 := (54, [(0, .ref 216), (1, .int t6), (2, .int (am_b s7.1))], [.int (am_b p9.1)], am_SH, (g, p9.2))) rfl rfl (m_aRow_ok (d)  s7.2 g p9 hp9) ?_
              obtain ⟨t10, ht10, kt10⟩ := am_let_eq h
              have hKt10 : am_Ev sc (d + 10) 219 (63, [(0, .ref 216), (1, .int t6), (2, .int (am_b p9.1))], [.int (am_b t10), .int (p9.2 216 15), .ref 216], am_SH, (g, p9.2)) ((some (.int (am_b r.1))), am_SH, (g, r.2)) := by
                have h := kt10
                obtain ⟨f11, Ef11, h⟩ := am_let_eq h
                refine am_Ev.go hcd 2 (s' := (65, [(0, .ref 216), (1, .int t6), (2, .int (am_b p9.1))], [], am_SH, (g, f11))) (by subst Ef11; exact rfl) ?_
                refine am_Ev.go hcd 1 (s' := (31, [(0, .ref 216), (1, .int t6), (2, .int (am_b p9.1))], [], am_SH, (g, f11))) rfl ?_
                exact am_Ev.weak' (hI7 (p9.1, f11) (Option.some.inj h).symm) (am_sub_cons rfl (am_sub_cons rfl (am_sub_cons rfl am_sub_nil))) rfl
              have hLt10 : ∀ tt, tt = t10 → am_Ev sc (d + 10) 219 (63, [(0, .ref 216), (1, .int t6), (2, .int (am_b p9.1))], [.int (am_b tt), .int (p9.2 216 15), .ref 216], am_SH, (g, p9.2)) ((some (.int (am_b r.1))), am_SH, (g, r.2)) := fun tt htt => by subst htt; exact hKt10
              have h := ht10
              refine am_Ev.go hcd 5 (s' := (59, [(0, .ref 216), (1, .int t6), (2, .int (am_b p9.1))], [.int (am_b p9.1), .int (p9.2 216 15), .ref 216], am_SH, (g, p9.2))) rfl ?_
              rcases am_itv h with ⟨c54, h⟩ | ⟨c54, h⟩
              · refine am_Ev.f hcd (c := am_b p9.1 = 0) (s1 := (60, [(0, .ref 216), (1, .int t6), (2, .int (am_b p9.1))], [.int (p9.2 216 15), .ref 216], am_SH, (g, p9.2))) rfl (am_b_t c54) ?_
                refine am_Ev.go hcd 2 (s' := (63, [(0, .ref 216), (1, .int t6), (2, .int (am_b p9.1))], [.int 1, .int (p9.2 216 15), .ref 216], am_SH, (g, p9.2))) rfl ?_
                exact am_Ev.weak' (hLt10 true h.symm) (am_sub_cons rfl (am_sub_cons rfl (am_sub_cons rfl am_sub_nil))) rfl
              · refine am_Ev.t hcd (c := am_b p9.1 = 0) (s1 := (62, [(0, .ref 216), (1, .int t6), (2, .int (am_b p9.1))], [.int (p9.2 216 15), .ref 216], am_SH, (g, p9.2))) rfl (am_b_f c54) ?_
                refine am_Ev.go hcd 1 (s' := (63, [(0, .ref 216), (1, .int t6), (2, .int (am_b p9.1))], [.int 0, .int (p9.2 216 15), .ref 216], am_SH, (g, p9.2))) rfl ?_
                exact am_Ev.weak' (hLt10 false h.symm) (am_sub_cons rfl (am_sub_cons rfl (am_sub_cons rfl am_sub_nil))) rfl
          · refine am_Ev.f hcd (c := s7.2 216 18 = t6) (s1 := (40, [(0, .ref 216), (1, .int t6), (2, .int (am_b s7.1))], [], am_SH, (g, s7.2))) rfl c31 ?_
            refine am_Ev.go hcd 2 (s' := (42, [(0, .ref 216), (1, .int t6), (2, .int (am_b s7.1))], [.int 1, .ref 216], am_SH, (g, s7.2))) rfl ?_
            obtain ⟨p12, Ep12, h⟩ := am_let_eq h
            refine am_Ev.call hcd (a := 201) (s0 := (0, [(0, .ref 216), (1, .int 1)], [], am_SH, (g, s7.2))) (q := ((some (.int (am_b p12.1))), am_SH, (g, p12.2))) (s1 := (43, [(0, .ref 216), (1, .int t6), (2, .int (am_b s7.1))], [.int (am_b p12.1)], am_SH, (g, p12.2))) rfl rfl (by subst Ep12; exact m_bad_ok (d + 9) 1 s7.2 g) ?_
            exact am_Ev.cast (a := ((some (.int (am_b (p12.1, p12.2).1))), am_SH, (g, (p12.1, p12.2).2))) (hZ7 _ (Option.some.inj h).symm) (am_Ev.retb hcd rfl)
      · refine am_Ev.t hcd (c := am_b s7.1 = 0) (s1 := (66, [(0, .ref 216), (1, .int t6), (2, .int (am_b s7.1))], [], am_SH, (g, s7.2))) rfl (am_b_f c23) ?_
        exact am_Ev.weak' (hZ7 (.inr (s7.1, s7.2)) (Option.some.inj h).symm) (am_sub_cons rfl am_sub_nil) rfl
    have hLt6 : ∀ tt, tt = t6 → am_Ev sc (d + 10) 219 (28, [(0, .ref 216)], [.int tt], am_SH, (g, e5)) ((some (.int (am_b r.1))), am_SH, (g, r.2)) := fun tt htt => by subst htt; exact hKt6
    have h := ht6
    refine am_Ev.go hcd 3 (s' := (18, [(0, .ref 216)], [.int 1, .int (e5 216 12)], am_SH, (g, e5))) rfl ?_
    rcases am_itv h with ⟨c71, h⟩ | ⟨c71, h⟩
    · refine am_Ev.t hcd (c := e5 216 12 = 1) (s1 := (19, [(0, .ref 216)], [], am_SH, (g, e5))) rfl c71 ?_
      refine am_Ev.go hcd 2 (s' := (28, [(0, .ref 216)], [.int 7], am_SH, (g, e5))) rfl ?_
      exact am_Ev.weak' (hLt6 7 h.symm) (am_sub_cons rfl am_sub_nil) rfl
    · refine am_Ev.f hcd (c := e5 216 12 = 1) (s1 := (21, [(0, .ref 216)], [], am_SH, (g, e5))) rfl c71 ?_
      refine am_Ev.go hcd 3 (s' := (24, [(0, .ref 216)], [.int 2, .int (e5 216 12)], am_SH, (g, e5))) rfl ?_
      rcases am_itv h with ⟨c77, h⟩ | ⟨c77, h⟩
      · refine am_Ev.t hcd (c := e5 216 12 = 2) (s1 := (25, [(0, .ref 216)], [], am_SH, (g, e5))) rfl c77 ?_
        refine am_Ev.go hcd 2 (s' := (28, [(0, .ref 216)], [.int 15], am_SH, (g, e5))) rfl ?_
        exact am_Ev.weak' (hLt6 15 h.symm) (am_sub_cons rfl am_sub_nil) rfl
      · refine am_Ev.f hcd (c := e5 216 12 = 2) (s1 := (27, [(0, .ref 216)], [], am_SH, (g, e5))) rfl c77 ?_
        refine am_Ev.go hcd 1 (s' := (28, [(0, .ref 216)], [.int 17], am_SH, (g, e5))) rfl ?_
        exact am_Ev.weak' (hLt6 17 h.symm) (am_sub_cons rfl am_sub_nil) rfl
  refine am_Ev.weak' (am_loop_ok (G := fun (s2 : Int32 × (Nat → Nat → Int32)) => am_Ev sc (d + 10) 219 (5, [(0, .ref 216), (1, .int s2.1)], [], am_SH, (g, s2.2)) ((some (.int (am_b r.1))), am_SH, (g, r.2))) (Z := fun (e5 : (Nat → Nat → Int32)) => am_Ev sc (d + 10) 219 (15, [(0, .ref 216)], [], am_SH, (g, e5)) ((some (.int (am_b r.1))), am_SH, (g, r.2))) ?_ am_F (0, f1) e5 he5 hK2) (am_sub_cons rfl (am_sub_cons rfl am_sub_nil)) rfl
  intro s2 q2 h hI2 hZ2
  show am_Ev sc (d + 10) 219 (5, [(0, .ref 216), (1, .int s2.1)], [], am_SH, (g, s2.2)) ((some (.int (am_b r.1))), am_SH, (g, r.2))
  refine am_Ev.go hcd 2 (s' := (7, [(0, .ref 216), (1, .int s2.1)], [.int 256, .int s2.1], am_SH, (g, s2.2))) rfl ?_
  rcases am_ite h with ⟨c88, h⟩ | ⟨c88, h⟩
  · refine am_Ev.t hcd (c := s2.1 < 256) (s1 := (8, [(0, .ref 216), (1, .int s2.1)], [], am_SH, (g, s2.2))) rfl c88 ?_
    refine am_Ev.go hcd 4 (s' := (12, [(0, .ref 216), (1, .int s2.1)], [.int 0, .int s2.1, .ref 223], am_SH, (g, s2.2))) rfl ?_
    obtain ⟨c91, h⟩ := am_grd h
    obtain ⟨f3, Ef3, h⟩ := am_let_eq h
    refine am_Ev.t hcd (c := am_in s2.1 264 = true) (s1 := (13, [(0, .ref 216), (1, .int s2.1)], [], am_SH, (g, f3))) (by subst Ef3; exact rfl) c91 ?_
    obtain ⟨t4, Et4, h⟩ := am_let_eq h
    refine am_Ev.go hcd 1 (s' := (14, [(0, .ref 216), (1, .int t4)], [], am_SH, (g, f3))) (by subst Et4; exact rfl) ?_
    refine am_Ev.go hcd 1 (s' := (5, [(0, .ref 216), (1, .int t4)], [], am_SH, (g, f3))) rfl ?_
    exact am_Ev.weak' (hI2 (t4, f3) (Option.some.inj h).symm) (am_sub_cons rfl (am_sub_cons rfl am_sub_nil)) rfl
  · refine am_Ev.f hcd (c := s2.1 < 256) (s1 := (15, [(0, .ref 216), (1, .int s2.1)], [], am_SH, (g, s2.2))) rfl c88 ?_
    exact am_Ev.weak' (hZ2 s2.2 (Option.some.inj h).symm) (am_sub_cons rfl am_sub_nil) rfl
