def m_show (a0 : Int32) (a1 : Int32) (f : (Nat → Nat → Int32)) : Option (Int32) :=
  if (m_isIn a1 0 2) = true then (
    if 0 < a1 then (
      if (m_isIn a0 0 65535) = true then (
        if a1 = 0 then (
          (m_rank  f).bind fun p3 =>
          some p3)
        else (
          if a1 = 2 then (
            (m_fewestFor a0 f).bind fun p4 =>
            some p4)
          else (
            (m_fewestFor a0 f).bind fun p5 =>
            if p5 = (-1) then (
              some 0)
            else (
              some 1))))
      else (
        some (-1)))
    else (
      if a1 = 0 then (
        (m_rank  f).bind fun p6 =>
        some p6)
      else (
        if a1 = 2 then (
          (m_fewestFor a0 f).bind fun p7 =>
          some p7)
        else (
          (m_fewestFor a0 f).bind fun p8 =>
          if p8 = (-1) then (
            some 0)
          else (
            some 1)))))
  else (
    some (-1))
set_option maxRecDepth 100000 in
set_option maxHeartbeats 4000000 in
theorem m_show_ok {sc : Nat × (Nat → Int32)} (d : Nat) (a0 : Int32) (a1 : Int32) (f g : (Nat → Nat → Int32)) (r : Int32) (h : m_show a0 a1 f = some r) : am_Ev sc (d + 2) 288 (0, [(0, .ref 216), (1, .int a0), (2, .int a1)], [], am_SH, (g, f)) ((some (.int r)), am_SH, (g, f)) := by
  have hcd : am_code 288 = am_c288 := rfl
  unfold m_show at h
  refine am_Ev.go hcd 3 (s' := (3, [(0, .ref 216), (1, .int a0), (2, .int a1)], [.int 2, .int 0, .int a1], am_SH, (g, f))) rfl ?_
  refine am_Ev.call hcd (a := 176) (s0 := (0, [(0, .int a1), (1, .int 0), (2, .int 2)], [], am_SH, (g, f))) (q := ((some (.int (am_b (m_isIn a1 0 2)))), am_SH, (g, f))) (s1 := (4, [(0, .ref 216), (1, .int a0), (2, .int a1)], [.int (am_b (m_isIn a1 0 2))], am_SH, (g, f))) rfl rfl (m_isIn_ok (d + 1) a1 0 2 (g, f)) ?_
  rcases am_ite h with ⟨c4, h⟩ | ⟨c4, h⟩
  · refine am_Ev.f hcd (c := am_b (m_isIn a1 0 2) = 0) (s1 := (5, [(0, .ref 216), (1, .int a0), (2, .int a1)], [], am_SH, (g, f))) rfl (am_b_t c4) ?_
    refine am_Ev.go hcd 1 (s' := (6, [(0, .ref 216), (1, .int a0), (2, .int a1)], [.int a1], am_SH, (g, f))) rfl ?_
    rcases am_ite h with ⟨c6, h⟩ | ⟨c6, h⟩
    · refine am_Ev.t hcd (c := 0 < a1) (s1 := (7, [(0, .ref 216), (1, .int a0), (2, .int a1)], [], am_SH, (g, f))) rfl c6 ?_
      refine am_Ev.go hcd 3 (s' := (10, [(0, .ref 216), (1, .int a0), (2, .int a1)], [.int 65535, .int 0, .int a0], am_SH, (g, f))) rfl ?_
      refine am_Ev.call hcd (a := 176) (s0 := (0, [(0, .int a0), (1, .int 0), (2, .int 65535)], [], am_SH, (g, f))) (q := ((some (.int (am_b (m_isIn a0 0 65535)))), am_SH, (g, f))) (s1 := (11, [(0, .ref 216), (1, .int a0), (2, .int a1)], [.int (am_b (m_isIn a0 0 65535))], am_SH, (g, f))) rfl rfl (m_isIn_ok (d + 1) a0 0 65535 (g, f)) ?_
      rcases am_ite h with ⟨c11, h⟩ | ⟨c11, h⟩
      · refine am_Ev.f hcd (c := am_b (m_isIn a0 0 65535) = 0) (s1 := (14, [(0, .ref 216), (1, .int a0), (2, .int a1)], [], am_SH, (g, f))) rfl (am_b_t c11) ?_
        refine am_Ev.go hcd 1 (s' := (15, [(0, .ref 216), (1, .int a0), (2, .int a1)], [.int a1], am_SH, (g, f))) rfl ?_
        rcases am_ite h with ⟨c13, h⟩ | ⟨c13, h⟩
        · refine am_Ev.t hcd (c := a1 = 0) (s1 := (16, [(0, .ref 216), (1, .int a0), (2, .int a1)], [], am_SH, (g, f))) rfl c13 ?_
          refine am_Ev.go hcd 1 (s' := (17, [(0, .ref 216), (1, .int a0), (2, .int a1)], [.ref 216], am_SH, (g, f))) rfl ?_
          obtain ⟨p3, hp3, h⟩ := am_bind_some h
          refine am_Ev.call hcd (a := 287) (s0 := (0, [(0, .ref 216)], [], am_SH, (g, f))) (q := ((some (.int p3)), am_SH, (g, f))) (s1 := (18, [(0, .ref 216), (1, .int a0), (2, .int a1)], [.int p3], am_SH, (g, f))) rfl rfl (m_rank_ok (d)  f g p3 hp3) ?_
          refine am_Ev.go hcd 1 (s' := (34, [(0, .ref 216), (1, .int a0), (2, .int a1)], [.int p3], am_SH, (g, f))) rfl ?_
          exact am_Ev.cast (a := ((some (.int p3)), am_SH, (g, f))) (by cases h; rfl) (am_Ev.ret hcd rfl)
        · refine am_Ev.f hcd (c := a1 = 0) (s1 := (19, [(0, .ref 216), (1, .int a0), (2, .int a1)], [], am_SH, (g, f))) rfl c13 ?_
          refine am_Ev.go hcd 2 (s' := (21, [(0, .ref 216), (1, .int a0), (2, .int a1)], [.int 2, .int a1], am_SH, (g, f))) rfl ?_
          rcases am_ite h with ⟨c22, h⟩ | ⟨c22, h⟩
          · refine am_Ev.t hcd (c := a1 = 2) (s1 := (22, [(0, .ref 216), (1, .int a0), (2, .int a1)], [], am_SH, (g, f))) rfl c22 ?_
            refine am_Ev.go hcd 2 (s' := (24, [(0, .ref 216), (1, .int a0), (2, .int a1)], [.int a0, .ref 216], am_SH, (g, f))) rfl ?_
            obtain ⟨p4, hp4, h⟩ := am_bind_some h
            refine am_Ev.call hcd (a := 286) (s0 := (0, [(0, .ref 216), (1, .int a0)], [], am_SH, (g, f))) (q := ((some (.int p4)), am_SH, (g, f))) (s1 := (25, [(0, .ref 216), (1, .int a0), (2, .int a1)], [.int p4], am_SH, (g, f))) rfl rfl (m_fewestFor_ok (d) a0 f g p4 hp4) ?_
            refine am_Ev.go hcd 1 (s' := (34, [(0, .ref 216), (1, .int a0), (2, .int a1)], [.int p4], am_SH, (g, f))) rfl ?_
            exact am_Ev.cast (a := ((some (.int p4)), am_SH, (g, f))) (by cases h; rfl) (am_Ev.ret hcd rfl)
          · refine am_Ev.f hcd (c := a1 = 2) (s1 := (26, [(0, .ref 216), (1, .int a0), (2, .int a1)], [], am_SH, (g, f))) rfl c22 ?_
            refine am_Ev.go hcd 2 (s' := (28, [(0, .ref 216), (1, .int a0), (2, .int a1)], [.int a0, .ref 216], am_SH, (g, f))) rfl ?_
            obtain ⟨p5, hp5, h⟩ := am_bind_some h
            refine am_Ev.call hcd (a := 286) (s0 := (0, [(0, .ref 216), (1, .int a0)], [], am_SH, (g, f))) (q := ((some (.int p5)), am_SH, (g, f))) (s1 := (29, [(0, .ref 216), (1, .int a0), (2, .int a1)], [.int p5], am_SH, (g, f))) rfl rfl (m_fewestFor_ok (d) a0 f g p5 hp5) ?_
            refine am_Ev.go hcd 1 (s' := (30, [(0, .ref 216), (1, .int a0), (2, .int a1)], [.int (-1), .int p5], am_SH, (g, f))) rfl ?_
            rcases am_ite h with ⟨c34, h⟩ | ⟨c34, h⟩
            · refine am_Ev.t hcd (c := p5 = (-1)) (s1 := (31, [(0, .ref 216), (1, .int a0), (2, .int a1)], [], am_SH, (g, f))) rfl c34 ?_
              refine am_Ev.go hcd 2 (s' := (34, [(0, .ref 216), (1, .int a0), (2, .int a1)], [.int 0], am_SH, (g, f))) rfl ?_
              exact am_Ev.cast (a := ((some (.int 0)), am_SH, (g, f))) (by cases h; rfl) (am_Ev.ret hcd rfl)
            · refine am_Ev.f hcd (c := p5 = (-1)) (s1 := (33, [(0, .ref 216), (1, .int a0), (2, .int a1)], [], am_SH, (g, f))) rfl c34 ?_
              refine am_Ev.go hcd 1 (s' := (34, [(0, .ref 216), (1, .int a0), (2, .int a1)], [.int 1], am_SH, (g, f))) rfl ?_
              exact am_Ev.cast (a := ((some (.int 1)), am_SH, (g, f))) (by cases h; rfl) (am_Ev.ret hcd rfl)
      · refine am_Ev.t hcd (c := am_b (m_isIn a0 0 65535) = 0) (s1 := (12, [(0, .ref 216), (1, .int a0), (2, .int a1)], [], am_SH, (g, f))) rfl (am_b_f c11) ?_
        refine am_Ev.go hcd 1 (s' := (13, [(0, .ref 216), (1, .int a0), (2, .int a1)], [.int (-1)], am_SH, (g, f))) rfl ?_
        exact am_Ev.cast (a := ((some (.int (-1))), am_SH, (g, f))) (by cases h; rfl) (am_Ev.ret hcd rfl)
    · refine am_Ev.f hcd (c := 0 < a1) (s1 := (14, [(0, .ref 216), (1, .int a0), (2, .int a1)], [], am_SH, (g, f))) rfl c6 ?_
      refine am_Ev.go hcd 1 (s' := (15, [(0, .ref 216), (1, .int a0), (2, .int a1)], [.int a1], am_SH, (g, f))) rfl ?_
      rcases am_ite h with ⟨c46, h⟩ | ⟨c46, h⟩
      · refine am_Ev.t hcd (c := a1 = 0) (s1 := (16, [(0, .ref 216), (1, .int a0), (2, .int a1)], [], am_SH, (g, f))) rfl c46 ?_
        refine am_Ev.go hcd 1 (s' := (17, [(0, .ref 216), (1, .int a0), (2, .int a1)], [.ref 216], am_SH, (g, f))) rfl ?_
        obtain ⟨p6, hp6, h⟩ := am_bind_some h
        refine am_Ev.call hcd (a := 287) (s0 := (0, [(0, .ref 216)], [], am_SH, (g, f))) (q := ((some (.int p6)), am_SH, (g, f))) (s1 := (18, [(0, .ref 216), (1, .int a0), (2, .int a1)], [.int p6], am_SH, (g, f))) rfl rfl (m_rank_ok (d)  f g p6 hp6) ?_
        refine am_Ev.go hcd 1 (s' := (34, [(0, .ref 216), (1, .int a0), (2, .int a1)], [.int p6], am_SH, (g, f))) rfl ?_
        exact am_Ev.cast (a := ((some (.int p6)), am_SH, (g, f))) (by cases h; rfl) (am_Ev.ret hcd rfl)
      · refine am_Ev.f hcd (c := a1 = 0) (s1 := (19, [(0, .ref 216), (1, .int a0), (2, .int a1)], [], am_SH, (g, f))) rfl c46 ?_
        refine am_Ev.go hcd 2 (s' := (21, [(0, .ref 216), (1, .int a0), (2, .int a1)], [.int 2, .int a1], am_SH, (g, f))) rfl ?_
        rcases am_ite h with ⟨c55, h⟩ | ⟨c55, h⟩
        · refine am_Ev.t hcd (c := a1 = 2) (s1 := (22, [(0, .ref 216), (1, .int a0), (2, .int a1)], [], am_SH, (g, f))) rfl c55 ?_
          refine am_Ev.go hcd 2 (s' := (24, [(0, .ref 216), (1, .int a0), (2, .int a1)], [.int a0, .ref 216], am_SH, (g, f))) rfl ?_
          obtain ⟨p7, hp7, h⟩ := am_bind_some h
          refine am_Ev.call hcd (a := 286) (s0 := (0, [(0, .ref 216), (1, .int a0)], [], am_SH, (g, f))) (q := ((some (.int p7)), am_SH, (g, f))) (s1 := (25, [(0, .ref 216), (1, .int a0), (2, .int a1)], [.int p7], am_SH, (g, f))) rfl rfl (m_fewestFor_ok (d) a0 f g p7 hp7) ?_
          refine am_Ev.go hcd 1 (s' := (34, [(0, .ref 216), (1, .int a0), (2, .int a1)], [.int p7], am_SH, (g, f))) rfl ?_
          exact am_Ev.cast (a := ((some (.int p7)), am_SH, (g, f))) (by cases h; rfl) (am_Ev.ret hcd rfl)
        · refine am_Ev.f hcd (c := a1 = 2) (s1 := (26, [(0, .ref 216), (1, .int a0), (2, .int a1)], [], am_SH, (g, f))) rfl c55 ?_
          refine am_Ev.go hcd 2 (s' := (28, [(0, .ref 216), (1, .int a0), (2, .int a1)], [.int a0, .ref 216], am_SH, (g, f))) rfl ?_
          obtain ⟨p8, hp8, h⟩ := am_bind_some h
          refine am_Ev.call hcd (a := 286) (s0 := (0, [(0, .ref 216), (1, .int a0)], [], am_SH, (g, f))) (q := ((some (.int p8)), am_SH, (g, f))) (s1 := (29, [(0, .ref 216), (1, .int a0), (2, .int a1)], [.int p8], am_SH, (g, f))) rfl rfl (m_fewestFor_ok (d) a0 f g p8 hp8) ?_
          refine am_Ev.go hcd 1 (s' := (30, [(0, .ref 216), (1, .int a0), (2, .int a1)], [.int (-1), .int p8], am_SH, (g, f))) rfl ?_
          rcases am_ite h with ⟨c67, h⟩ | ⟨c67, h⟩
          · refine am_Ev.t hcd (c := p8 = (-1)) (s1 := (31, [(0, .ref 216), (1, .int a0), (2, .int a1)], [], am_SH, (g, f))) rfl c67 ?_
            refine am_Ev.go hcd 2 (s' := (34, [(0, .ref 216), (1, .int a0), (2, .int a1)], [.int 0], am_SH, (g, f))) rfl ?_
            exact am_Ev.cast (a := ((some (.int 0)), am_SH, (g, f))) (by cases h; rfl) (am_Ev.ret hcd rfl)
          · refine am_Ev.f hcd (c := p8 = (-1)) (s1 := (33, [(0, .ref 216), (1, .int a0), (2, .int a1)], [], am_SH, (g, f))) rfl c67 ?_
            refine am_Ev.go hcd 1 (s' := (34, [(0, .ref 216), (1, .int a0), (2, .int a1)], [.int 1], am_SH, (g, f))) rfl ?_
            exact am_Ev.cast (a := ((some (.int 1)), am_SH, (g, f))) (by cases h; rfl) (am_Ev.ret hcd rfl)
  · refine am_Ev.t hcd (c := am_b (m_isIn a1 0 2) = 0) (s1 := (12, [(0, .ref 216), (1, .int a0), (2, .int a1)], [], am_SH, (g, f))) rfl (am_b_f c4) ?_
    refine am_Ev.go hcd 1 (s' := (13, [(0, .ref 216), (1, .int a0), (2, .int a1)], [.int (-1)], am_SH, (g, f))) rfl ?_
    exact am_Ev.cast (a := ((some (.int (-1))), am_SH, (g, f))) (by cases h; rfl) (am_Ev.ret hcd rfl)
def m_cost (a0 : Int32) (a1 : Int32) (f : (Nat → Nat → Int32)) : Option (Bool × (Nat → Nat → Int32)) :=
  if (m_isIn a0 0 7) = true then (
    if (m_isIn a1 0 99) = true then (
      if am_in (473 + a0) 2008 = true then (
      am_let (am_up f 217 (473 + a0).toNatClampNeg a1 : Nat → Nat → Int32) fun f3 =>
      some (true, f3)) else none)
    else (
      some (false, f)))
  else (
    some (false, f))
set_option maxRecDepth 100000 in
set_option maxHeartbeats 4000000 in
theorem m_cost_ok {sc : Nat × (Nat → Int32)} (d : Nat) (a0 : Int32) (a1 : Int32) (f g : (Nat → Nat → Int32)) (r : Bool × (Nat → Nat → Int32)) (h : m_cost a0 a1 f = some r) : am_Ev sc (d + 1) 289 (0, [(0, .ref 216), (1, .int a0), (2, .int a1)], [], am_SH, (g, f)) ((some (.int (am_b r.1))), am_SH, (g, r.2)) := by
  have hcd : am_code 289 = am_c289 := rfl
  unfold m_cost at h
  refine am_Ev.go hcd 3 (s' := (3, [(0, .ref 216), (1, .int a0), (2, .int a1)], [.int 7, .int 0, .int a0], am_SH, (g, f))) rfl ?_
  refine am_Ev.call hcd (a := 176) (s0 := (0, [(0, .int a0), (1, .int 0), (2, .int 7)], [], am_SH, (g, f))) (q := ((some (.int (am_b (m_isIn a0 0 7)))), am_SH, (g, f))) (s1 := (4, [(0, .ref 216), (1, .int a0), (2, .int a1)], [.int (am_b (m_isIn a0 0 7))], am_SH, (g, f))) rfl rfl (m_isIn_ok (d) a0 0 7 (g, f)) ?_
  rcases am_ite h with ⟨c4, h⟩ | ⟨c4, h⟩
  · refine am_Ev.f hcd (c := am_b (m_isIn a0 0 7) = 0) (s1 := (5, [(0, .ref 216), (1, .int a0), (2, .int a1)], [], am_SH, (g, f))) rfl (am_b_t c4) ?_
    refine am_Ev.go hcd 3 (s' := (8, [(0, .ref 216), (1, .int a0), (2, .int a1)], [.int 99, .int 0, .int a1], am_SH, (g, f))) rfl ?_
    refine am_Ev.call hcd (a := 176) (s0 := (0, [(0, .int a1), (1, .int 0), (2, .int 99)], [], am_SH, (g, f))) (q := ((some (.int (am_b (m_isIn a1 0 99)))), am_SH, (g, f))) (s1 := (9, [(0, .ref 216), (1, .int a0), (2, .int a1)], [.int (am_b (m_isIn a1 0 99))], am_SH, (g, f))) rfl rfl (m_isIn_ok (d) a1 0 99 (g, f)) ?_
    rcases am_ite h with ⟨c8, h⟩ | ⟨c8, h⟩
    · refine am_Ev.f hcd (c := am_b (m_isIn a1 0 99) = 0) (s1 := (12, [(0, .ref 216), (1, .int a0), (2, .int a1)], [], am_SH, (g, f))) rfl (am_b_t c8) ?_
      refine am_Ev.go hcd 6 (s' := (18, [(0, .ref 216), (1, .int a0), (2, .int a1)], [.int a1, .int (473 + a0), .ref 217], am_SH, (g, f))) rfl ?_
      obtain ⟨c10, h⟩ := am_grd h
      obtain ⟨f3, Ef3, h⟩ := am_let_eq h
      refine am_Ev.t hcd (c := am_in (473 + a0) 2008 = true) (s1 := (19, [(0, .ref 216), (1, .int a0), (2, .int a1)], [], am_SH, (g, f3))) (by subst Ef3; exact rfl) c10 ?_
      refine am_Ev.go hcd 1 (s' := (20, [(0, .ref 216), (1, .int a0), (2, .int a1)], [.int 1], am_SH, (g, f3))) rfl ?_
      exact am_Ev.cast (a := ((some (.int (am_b (true, f3).1))), am_SH, (g, (true, f3).2))) (by cases h; rfl) (am_Ev.ret hcd rfl)
    · refine am_Ev.t hcd (c := am_b (m_isIn a1 0 99) = 0) (s1 := (10, [(0, .ref 216), (1, .int a0), (2, .int a1)], [], am_SH, (g, f))) rfl (am_b_f c8) ?_
      refine am_Ev.go hcd 1 (s' := (11, [(0, .ref 216), (1, .int a0), (2, .int a1)], [.int 0], am_SH, (g, f))) rfl ?_
      exact am_Ev.cast (a := ((some (.int (am_b (false, f).1))), am_SH, (g, (false, f).2))) (by cases h; rfl) (am_Ev.ret hcd rfl)
  · refine am_Ev.t hcd (c := am_b (m_isIn a0 0 7) = 0) (s1 := (10, [(0, .ref 216), (1, .int a0), (2, .int a1)], [], am_SH, (g, f))) rfl (am_b_f c4) ?_
    refine am_Ev.go hcd 1 (s' := (11, [(0, .ref 216), (1, .int a0), (2, .int a1)], [.int 0], am_SH, (g, f))) rfl ?_
    exact am_Ev.cast (a := ((some (.int (am_b (false, f).1))), am_SH, (g, (false, f).2))) (by cases h; rfl) (am_Ev.ret hcd rfl)
def m_keptFor (a0 : Int32) (a1 : Int32) (f : (Nat → Nat → Int32)) : Option (Int32) :=
  am_loop (fun (s1 : Int32 × Int32) => ((
    if s1.2 < a0 then (
      if am_in (473 + s1.2) 2008 = true then (
      am_let (s1.2 + 1 : Int32) fun t2 =>
      some (.inl ((s1.1 + (f 217 (473 + s1.2).toNatClampNeg)), t2))) else none)
    else (
      some (.inr s1.1))) : Option ((Int32 × Int32) ⊕ (Int32)))) am_F (a1, 0)
set_option maxRecDepth 100000 in
set_option maxHeartbeats 4000000 in
theorem m_keptFor_ok {sc : Nat × (Nat → Int32)} (d : Nat) (a0 : Int32) (a1 : Int32) (f g : (Nat → Nat → Int32)) (r : Int32) (h : m_keptFor a0 a1 f = some r) : am_Ev sc (d) 290 (0, [(0, .ref 216), (1, .int a0), (2, .int a1)], [], am_SH, (g, f)) ((some (.int r)), am_SH, (g, f)) := by
  have hcd : am_code 290 = am_c290 := rfl
  unfold m_keptFor at h
  refine am_Ev.go hcd 4 (s' := (4, [(0, .ref 216), (1, .int a0), (2, .int a1), (3, .int a1), (4, .int 0)], [], am_SH, (g, f))) rfl ?_
  refine am_Ev.weak' (am_loop_ok (G := fun (s1 : Int32 × Int32) => am_Ev sc (d) 290 (4, [(0, .ref 216), (1, .int a0), (3, .int s1.1), (4, .int s1.2)], [], am_SH, (g, f)) ((some (.int r)), am_SH, (g, f))) (Z := fun (v : Int32) => (((some (.int v)), am_SH, (g, f)) : am_R) = ((some (.int r)), am_SH, (g, f))) ?_ am_F (a1, 0) r h rfl) (am_sub_cons rfl (am_sub_cons rfl (am_sub_cons rfl (am_sub_cons rfl am_sub_nil)))) rfl
  intro s1 q1 h hI1 hZ1
  show am_Ev sc (d) 290 (4, [(0, .ref 216), (1, .int a0), (3, .int s1.1), (4, .int s1.2)], [], am_SH, (g, f)) ((some (.int r)), am_SH, (g, f))
  refine am_Ev.go hcd 2 (s' := (6, [(0, .ref 216), (1, .int a0), (3, .int s1.1), (4, .int s1.2)], [.int a0, .int s1.2], am_SH, (g, f))) rfl ?_
  rcases am_ite h with ⟨c6, h⟩ | ⟨c6, h⟩
  · refine am_Ev.t hcd (c := s1.2 < a0) (s1 := (7, [(0, .ref 216), (1, .int a0), (3, .int s1.1), (4, .int s1.2)], [], am_SH, (g, f))) rfl c6 ?_
    refine am_Ev.go hcd 6 (s' := (13, [(0, .ref 216), (1, .int a0), (3, .int s1.1), (4, .int s1.2)], [.int (473 + s1.2), .ref 217, .int s1.1], am_SH, (g, f))) rfl ?_
    obtain ⟨c9, h⟩ := am_grd h
    refine am_Ev.t hcd (c := am_in (473 + s1.2) 2008 = true) (s1 := (14, [(0, .ref 216), (1, .int a0), (3, .int s1.1), (4, .int s1.2)], [.int (f 217 (473 + s1.2).toNatClampNeg), .int s1.1], am_SH, (g, f))) rfl c9 ?_
    obtain ⟨t2, Et2, h⟩ := am_let_eq h
    refine am_Ev.go hcd 3 (s' := (17, [(0, .ref 216), (1, .int a0), (3, .int (s1.1 + (f 217 (473 + s1.2).toNatClampNeg))), (4, .int t2)], [], am_SH, (g, f))) (by subst Et2; exact rfl) ?_
    refine am_Ev.go hcd 1 (s' := (4, [(0, .ref 216), (1, .int a0), (3, .int (s1.1 + (f 217 (473 + s1.2).toNatClampNeg))), (4, .int t2)], [], am_SH, (g, f))) rfl ?_
    exact am_Ev.weak' (hI1 ((s1.1 + (f 217 (473 + s1.2).toNatClampNeg)), t2) (Option.some.inj h).symm) (am_sub_cons rfl (am_sub_cons rfl (am_sub_cons rfl (am_sub_cons rfl am_sub_nil)))) rfl
  · refine am_Ev.f hcd (c := s1.2 < a0) (s1 := (18, [(0, .ref 216), (1, .int a0), (3, .int s1.1), (4, .int s1.2)], [], am_SH, (g, f))) rfl c6 ?_
    refine am_Ev.go hcd 1 (s' := (19, [(0, .ref 216), (1, .int a0), (3, .int s1.1), (4, .int s1.2)], [.int s1.1], am_SH, (g, f))) rfl ?_
    exact am_Ev.cast (a := ((some (.int s1.1)), am_SH, (g, f))) (hZ1 _ (Option.some.inj h).symm) (am_Ev.ret hcd rfl)
def m_change (a0 : Int32) (a1 : Int32) (a2 : Int32) (f : (Nat → Nat → Int32)) : Option (Int32 × (Nat → Nat → Int32)) :=
  if (m_isIn a0 1 40) = true then (
    if (m_isIn a1 0 99) = true then (
      if (m_isIn a2 0 1) = true then (
        am_let (am_up f 233 0 0 : Nat → Nat → Int32) fun f4 =>
        (am_loop (fun (s5 : Int32 × Int32 × (Nat → Nat → Int32)) => ((
          if a0 < s5.2.1 then (
            some (.inr (s5.1, s5.2.2)))
          else (
            if am_in s5.2.1 41 = true then (
            am_let (am_up s5.2.2 233 s5.2.1.toNatClampNeg 100000000 : Nat → Nat → Int32) fun f6 =>
            (am_loop (fun (s7 : Int32 × Int32 × (Nat → Nat → Int32)) => ((
              if (m_lesser 8 s5.2.1) < s7.2.1 then (
                some (.inr (s7.1, s7.2.2)))
              else (
                (m_keptFor s7.2.1 a1 s7.2.2).bind fun p9 =>
                if am_in (s5.2.1 - s7.2.1) 41 = true then (
                if am_in s5.2.1 41 = true then (
                ((if (p9 + (s7.2.2 233 (s5.2.1 - s7.2.1).toNatClampNeg)) < s7.2.2 233 s5.2.1.toNatClampNeg then (
                    if am_in s5.2.1 41 = true then (
                    am_let (am_up s7.2.2 233 s5.2.1.toNatClampNeg (p9 + (s7.2.2 233 (s5.2.1 - s7.2.1).toNatClampNeg)) : Nat → Nat → Int32) fun f10 =>
                    some (s7.2.1, f10)) else none)
                  else (
                    some (s7.1, s7.2.2))) : Option (Int32 × (Nat → Nat → Int32))).bind fun t11 =>
                am_let (s7.2.1 + 1 : Int32) fun t12 =>
                some (.inl (t11.1, t12, t11.2))) else none) else none)) : Option ((Int32 × Int32 × (Nat → Nat → Int32)) ⊕ (Int32 × (Nat → Nat → Int32))))) am_F (s5.1, 1, f6)).bind fun e13 =>
            am_let (s5.2.1 + 1 : Int32) fun t14 =>
            some (.inl (e13.1, t14, e13.2))) else none)) : Option ((Int32 × Int32 × (Nat → Nat → Int32)) ⊕ (Int32 × (Nat → Nat → Int32))))) am_F (0, 1, f4)).bind fun e15 =>
        if a2 = 0 then (
          if am_in a0 41 = true then (
          some (e15.2 233 a0.toNatClampNeg, e15.2)) else none)
        else (
          some (e15.1, e15.2)))
      else (
        some ((-1), f)))
    else (
      some ((-1), f)))
  else (
    some ((-1), f))
set_option maxRecDepth 100000 in
set_option maxHeartbeats 4000000 in
theorem m_change_ok {sc : Nat × (Nat → Int32)} (d : Nat) (a0 : Int32) (a1 : Int32) (a2 : Int32) (f g : (Nat → Nat → Int32)) (r : Int32 × (Nat → Nat → Int32)) (h : m_change a0 a1 a2 f = some r) : am_Ev sc (d + 1) 291 (0, [(0, .ref 216), (1, .int a0), (2, .int a1), (3, .int a2)], [], am_SH, (g, f)) ((some (.int r.1)), am_SH, (g, r.2)) := by
  have hcd : am_code 291 = am_c291 := rfl
  unfold m_change at h
  refine am_Ev.go hcd 3 (s' := (3, [(0, .ref 216), (1, .int a0), (2, .int a1), (3, .int a2)], [.int 40, .int 1, .int a0], am_SH, (g, f))) rfl ?_
  refine am_Ev.call hcd (a := 176) (s0 := (0, [(0, .int a0), (1, .int 1), (2, .int 40)], [], am_SH, (g, f))) (q := ((some (.int (am_b (m_isIn a0 1 40)))), am_SH, (g, f))) (s1 := (4, [(0, .ref 216), (1, .int a0), (2, .int a1), (3, .int a2)], [.int (am_b (m_isIn a0 1 40))], am_SH, (g, f))) rfl rfl (m_isIn_ok (d) a0 1 40 (g, f)) ?_
  rcases am_ite h with ⟨c4, h⟩ | ⟨c4, h⟩
  · refine am_Ev.f hcd (c := am_b (m_isIn a0 1 40) = 0) (s1 := (5, [(0, .ref 216), (1, .int a0), (2, .int a1), (3, .int a2)], [], am_SH, (g, f))) rfl (am_b_t c4) ?_
    refine am_Ev.go hcd 3 (s' := (8, [(0, .ref 216), (1, .int a0), (2, .int a1), (3, .int a2)], [.int 99, .int 0, .int a1], am_SH, (g, f))) rfl ?_
    refine am_Ev.call hcd (a := 176) (s0 := (0, [(0, .int a1), (1, .int 0), (2, .int 99)], [], am_SH, (g, f))) (q := ((some (.int (am_b (m_isIn a1 0 99)))), am_SH, (g, f))) (s1 := (9, [(0, .ref 216), (1, .int a0), (2, .int a1), (3, .int a2)], [.int (am_b (m_isIn a1 0 99))], am_SH, (g, f))) rfl rfl (m_isIn_ok (d) a1 0 99 (g, f)) ?_
    rcases am_ite h with ⟨c8, h⟩ | ⟨c8, h⟩
    · refine am_Ev.f hcd (c := am_b (m_isIn a1 0 99) = 0) (s1 := (10, [(0, .ref 216), (1, .int a0), (2, .int a1), (3, .int a2)], [], am_SH, (g, f))) rfl (am_b_t c8) ?_
      refine am_Ev.go hcd 3 (s' := (13, [(0, .ref 216), (1, .int a0), (2, .int a1), (3, .int a2)], [.int 1, .int 0, .int a2], am_SH, (g, f))) rfl ?_
      refine am_Ev.call hcd (a := 176) (s0 := (0, [(0, .int a2), (1, .int 0), (2, .int 1)], [], am_SH, (g, f))) (q := ((some (.int (am_b (m_isIn a2 0 1)))), am_SH, (g, f))) (s1 := (14, [(0, .ref 216), (1, .int a0), (2, .int a1), (3, .int a2)], [.int (am_b (m_isIn a2 0 1))], am_SH, (g, f))) rfl rfl (m_isIn_ok (d) a2 0 1 (g, f)) ?_
      rcases am_ite h with ⟨c12, h⟩ | ⟨c12, h⟩
      · refine am_Ev.f hcd (c := am_b (m_isIn a2 0 1) = 0) (s1 := (17, [(0, .ref 216), (1, .int a0), (2, .int a1), (3, .int a2)], [], am_SH, (g, f))) rfl (am_b_t c12) ?_
        obtain ⟨f4, Ef4, h⟩ := am_let_eq h
        refine am_Ev.go hcd 5 (s' := (22, [(0, .ref 216), (1, .int a0), (2, .int a1), (3, .int a2)], [], am_SH, (g, f4))) (by subst Ef4; exact rfl) ?_
        refine am_Ev.go hcd 4 (s' := (26, [(0, .ref 216), (1, .int a0), (2, .int a1), (3, .int a2), (4, .int 0), (5, .int 1)], [], am_SH, (g, f4))) rfl ?_
        obtain ⟨e15, he15, h⟩ := am_bind_some h
        have hK5 : (fun (e15 : Int32 × (Nat → Nat → Int32)) => am_Ev sc (d + 1) 291 (71, [(0, .ref 216), (1, .int a0), (3, .int a2), (4, .int e15.1)], [], am_SH, (g, e15.2)) ((some (.int r.1)), am_SH, (g, r.2))) e15 := by
          show am_Ev sc (d + 1) 291 (71, [(0, .ref 216), (1, .int a0), (3, .int a2), (4, .int e15.1)], [], am_SH, (g, e15.2)) ((some (.int r.1)), am_SH, (g, r.2))
          refine am_Ev.go hcd 1 (s' := (72, [(0, .ref 216), (1, .int a0), (3, .int a2), (4, .int e15.1)], [.int a2], am_SH, (g, e15.2))) rfl ?_
          rcases am_ite h with ⟨c20, h⟩ | ⟨c20, h⟩
          · refine am_Ev.t hcd (c := a2 = 0) (s1 := (73, [(0, .ref 216), (1, .int a0), (3, .int a2), (4, .int e15.1)], [], am_SH, (g, e15.2))) rfl c20 ?_
            refine am_Ev.go hcd 3 (s' := (76, [(0, .ref 216), (1, .int a0), (3, .int a2), (4, .int e15.1)], [.int a0, .ref 233], am_SH, (g, e15.2))) rfl ?_
            obtain ⟨c23, h⟩ := am_grd h
            refine am_Ev.t hcd (c := am_in a0 41 = true) (s1 := (77, [(0, .ref 216), (1, .int a0), (3, .int a2), (4, .int e15.1)], [.int (e15.2 233 a0.toNatClampNeg)], am_SH, (g, e15.2))) rfl c23 ?_
            refine am_Ev.go hcd 1 (s' := (79, [(0, .ref 216), (1, .int a0), (3, .int a2), (4, .int e15.1)], [.int (e15.2 233 a0.toNatClampNeg)], am_SH, (g, e15.2))) rfl ?_
            exact am_Ev.cast (a := ((some (.int (e15.2 233 a0.toNatClampNeg, e15.2).1)), am_SH, (g, (e15.2 233 a0.toNatClampNeg, e15.2).2))) (by cases h; rfl) (am_Ev.ret hcd rfl)
          · refine am_Ev.f hcd (c := a2 = 0) (s1 := (78, [(0, .ref 216), (1, .int a0), (3, .int a2), (4, .int e15.1)], [], am_SH, (g, e15.2))) rfl c20 ?_
            refine am_Ev.go hcd 1 (s' := (79, [(0, .ref 216), (1, .int a0), (3, .int a2), (4, .int e15.1)], [.int e15.1], am_SH, (g, e15.2))) rfl ?_
            exact am_Ev.cast (a := ((some (.int (e15.1, e15.2).1)), am_SH, (g, (e15.1, e15.2).2))) (by cases h; rfl) (am_Ev.ret hcd rfl)
        refine am_Ev.weak' (am_loop_ok (G := fun (s5 : Int32 × Int32 × (Nat → Nat → Int32)) => am_Ev sc (d + 1) 291 (26, [(0, .ref 216), (1, .int a0), (2, .int a1), (3, .int a2), (4, .int s5.1), (5, .int s5.2.1)], [], am_SH, (g, s5.2.2)) ((some (.int r.1)), am_SH, (g, r.2))) (Z := fun (e15 : Int32 × (Nat → Nat → Int32)) => am_Ev sc (d + 1) 291 (71, [(0, .ref 216), (1, .int a0), (3, .int a2), (4, .int e15.1)], [], am_SH, (g, e15.2)) ((some (.int r.1)), am_SH, (g, r.2))) ?_ am_F (0, 1, f4) e15 he15 hK5) (am_sub_cons rfl (am_sub_cons rfl (am_sub_cons rfl (am_sub_cons rfl (am_sub_cons rfl (am_sub_cons rfl am_sub_nil)))))) rfl
        intro s5 q5 h hI5 hZ5
        show am_Ev sc (d + 1) 291 (26, [(0, .ref 216), (1, .int a0), (2, .int a1), (3, .int a2), (4, .int s5.1), (5, .int s5.2.1)], [], am_SH, (g, s5.2.2)) ((some (.int r.1)), am_SH, (g, r.2))
        refine am_Ev.go hcd 2 (s' := (28, [(0, .ref 216), (1, .int a0), (2, .int a1), (3, .int a2), (4, .int s5.1), (5, .int s5.2.1)], [.int a0, .int s5.2.1], am_SH, (g, s5.2.2))) rfl ?_
        rcases am_ite h with ⟨c34, h⟩ | ⟨c34, h⟩
        · refine am_Ev.t hcd (c := a0 < s5.2.1) (s1 := (71, [(0, .ref 216), (1, .int a0), (2, .int a1), (3, .int a2), (4, .int s5.1), (5, .int s5.2.1)], [], am_SH, (g, s5.2.2))) rfl c34 ?_
          exact am_Ev.weak' (hZ5 (s5.1, s5.2.2) (Option.some.inj h).symm) (am_sub_cons rfl (am_sub_cons rfl (am_sub_cons rfl (am_sub_cons rfl am_sub_nil)))) rfl
        · refine am_Ev.f hcd (c := a0 < s5.2.1) (s1 := (29, [(0, .ref 216), (1, .int a0), (2, .int a1), (3, .int a2), (4, .int s5.1), (5, .int s5.2.1)], [], am_SH, (g, s5.2.2))) rfl c34 ?_
          refine am_Ev.go hcd 4 (s' := (33, [(0, .ref 216), (1, .int a0), (2, .int a1), (3, .int a2), (4, .int s5.1), (5, .int s5.2.1)], [.int 100000000, .int s5.2.1, .ref 233], am_SH, (g, s5.2.2))) rfl ?_
          obtain ⟨c39, h⟩ := am_grd h
          obtain ⟨f6, Ef6, h⟩ := am_let_eq h
          refine am_Ev.t hcd (c := am_in s5.2.1 41 = true) (s1 := (34, [(0, .ref 216), (1, .int a0), (2, .int a1), (3, .int a2), (4, .int s5.1), (5, .int s5.2.1)], [], am_SH, (g, f6))) (by subst Ef6; exact rfl) c39 ?_
          refine am_Ev.go hcd 2 (s' := (36, [(0, .ref 216), (1, .int a0), (2, .int a1), (3, .int a2), (4, .int s5.1), (5, .int s5.2.1), (6, .int 1)], [], am_SH, (g, f6))) rfl ?_
          obtain ⟨e13, he13, h⟩ := am_bind_some h
          have hK7 : (fun (e13 : Int32 × (Nat → Nat → Int32)) => am_Ev sc (d + 1) 291 (69, [(0, .ref 216), (1, .int a0), (2, .int a1), (3, .int a2), (4, .int e13.1), (5, .int s5.2.1)], [], am_SH, (g, e13.2)) ((some (.int r.1)), am_SH, (g, r.2))) e13 := by
            show am_Ev sc (d + 1) 291 (69, [(0, .ref 216), (1, .int a0), (2, .int a1), (3, .int a2), (4, .int e13.1), (5, .int s5.2.1)], [], am_SH, (g, e13.2)) ((some (.int r.1)), am_SH, (g, r.2))
            obtain ⟨t14, Et14, h⟩ := am_let_eq h
            refine am_Ev.go hcd 1 (s' := (70, [(0, .ref 216), (1, .int a0), (2, .int a1), (3, .int a2), (4, .int e13.1), (5, .int t14)], [], am_SH, (g, e13.2))) (by subst Et14; exact rfl) ?_
            refine am_Ev.go hcd 1 (s' := (26, [(0, .ref 216), (1, .int a0), (2, .int a1), (3, .int a2), (4, .int e13.1), (5, .int t14)], [], am_SH, (g, e13.2))) rfl ?_
            exact am_Ev.weak' (hI5 (e13.1, t14, e13.2) (Option.some.inj h).symm) (am_sub_cons rfl (am_sub_cons rfl (am_sub_cons rfl (am_sub_cons rfl (am_sub_cons rfl (am_sub_cons rfl am_sub_nil)))))) rfl
          refine am_Ev.weak' (am_loop_ok (G := fun (s7 : Int32 × Int32 × (Nat → Nat → Int32)) => am_Ev sc (d + 1) 291 (36, [(0, .ref 216), (1, .int a0), (2, .int a1), (3, .int a2), (4, .int s7.1), (5, .int s5.2.1), (6, .int s7.2.1)], [], am_SH, (g, s7.2.2)) ((some (.int r.1)), am_SH, (g, r.2))) (Z := fun (e13 : Int32 × (Nat → Nat → Int32)) => am_Ev sc (d + 1) 291 (69, [(0, .ref 216), (1, .int a0), (2, .int a1), (3, .int a2), (4, .int e13.1), (5, .int s5.2.1)], [], am_SH, (g, e13.2)) ((some (.int r.1)), am_SH, (g, r.2))) ?_ am_F (s5.1, 1, f6) e13 he13 hK7) (am_sub_cons rfl (am_sub_cons rfl (am_sub_cons rfl (am_sub_cons rfl (am_sub_cons rfl (am_sub_cons rfl (am_sub_cons rfl am_sub_nil))))))) rfl
          intro s7 q7 h hI7 hZ7
          show am_Ev sc (d + 1) 291 (36, [(0, .ref 216), (1, .int a0), (2, .int a1), (3, .int a2), (4, .int s7.1), (5, .int s5.2.1), (6, .int s7.2.1)], [], am_SH, (g, s7.2.2)) ((some (.int r.1)), am_SH, (g, r.2))
          refine am_Ev.go hcd 3 (s' := (39, [(0, .ref 216), (1, .int a0), (2, .int a1), (3, .int a2), (4, .int s7.1), (5, .int s5.2.1), (6, .int s7.2.1)], [.int s5.2.1, .int 8, .int s7.2.1], am_SH, (g, s7.2.2))) rfl ?_
          refine am_Ev.call hcd (a := 177) (s0 := (0, [(0, .int 8), (1, .int s5.2.1)], [], am_SH, (g, s7.2.2))) (q := ((some (.int (m_lesser 8 s5.2.1))), am_SH, (g, s7.2.2))) (s1 := (40, [(0, .ref 216), (1, .int a0), (2, .int a1), (3, .int a2), (4, .int s7.1), (5, .int s5.2.1), (6, .int s7.2.1)], [.int (m_lesser 8 s5.2.1), .int s7.2.1], am_SH, (g, s7.2.2))) rfl rfl (m_lesser_ok (d) 8 s5.2.1 (g, s7.2.2)) ?_
          rcases am_ite h with ⟨c56, h⟩ | ⟨c56, h⟩
          · refine am_Ev.t hcd (c := (m_lesser 8 s5.2.1) < s7.2.1) (s1 := (69, [(0, .ref 216), (1, .int a0), (2, .int a1), (3, .int a2), (4, .int s7.1), (5, .int s5.2.1), (6, .int s7.2.1)], [], am_SH, (g, s7.2.2))) rfl c56 ?_
            exact am_Ev.weak' (hZ7 (s7.1, s7.2.2) (Option.some.inj h).symm) (am_sub_cons rfl (am_sub_cons rfl (am_sub_cons rfl (am_sub_cons rfl (am_sub_cons rfl (am_sub_cons rfl am_sub_nil)))))) rfl
          · refine am_Ev.f hcd (c := (m_lesser 8 s5.2.1) < s7.2.1) (s1 := (41, [(0, .ref 216), (1, .int a0), (2, .int a1), (3, .int a2), (4, .int s7.1), (5, .int s5.2.1), (6, .int s7.2.1)], [], am_SH, (g, s7.2.2))) rfl c56 ?_
            refine am_Ev.go hcd 3 (s' := (44, [(0, .ref 216), (1, .int a0), (2, .int a1), (3, .int a2), (4, .int s7.1), (5, .int s5.2.1), (6, .int s7.2.1)], [.int a1, .int s7.2.1, .ref 216], am_SH, (g, s7.2.2))) rfl ?_
            obtain ⟨p9, hp9, h⟩ := am_bind_some h
            refine am_Ev.call hcd (a := 290) (s0 := (0, [(0, .ref 216), (1, .int s7.2.1), (2, .int a1)], [], am_SH, (g, s7.2.2))) (q := ((some (.int p9)), am_SH, (g, s7.2.2))) (s1 := (45, [(0, .ref 216), (1, .int a0), (2, .int a1), (3, .int a2), (4, .int s7.1), (5, .int s5.2.1), (6, .int s7.2.1)], [.int p9], am_SH, (g, s7.2.2))) rfl rfl (m_keptFor_ok (d) s7.2.1 a1 s7.2.2 g p9 hp9) ?_
            refine am_Ev.go hcd 5 (s' := (50, [(0, .ref 216), (1, .int a0), (2, .int a1), (3, .int a2), (4, .int s7.1), (5, .int s5.2.1), (6, .int s7.2.1)], [.int (s5.2.1 - s7.2.1), .ref 233, .int p9], am_SH, (g, s7.2.2))) rfl ?_
            obtain ⟨c63, h⟩ := am_grd h
            refine am_Ev.t hcd (c := am_in (s5.2.1 - s7.2.1) 41 = true) (s1 := (51, [(0, .ref 216), (1, .int a0), (2, .int a1), (3, .int a2), (4, .int s7.1), (5, .int s5.2.1), (6, .int s7.2.1)], [.int (s7.2.2 233 (s5.2.1 - s7.2.1).toNatClampNeg), .int p9], am_SH, (g, s7.2.2))) rfl c63 ?_
            refine am_Ev.go hcd 6 (s' := (57, [(0, .ref 216), (1, .int a0), (2, .int a1), (3, .int a2), (4, .int s7.1), (5, .int s5.2.1), (6, .int s7.2.1), (7, .int (p9 + (s7.2.2 233 (s5.2.1 - s7.2.1).toNatClampNeg)))], [.int s5.2.1, .ref 233, .int (p9 + (s7.2.2 233 (s5.2.1 - s7.2.1).toNatClampNeg))], am_SH, (g, s7.2.2))) rfl ?_
            obtain ⟨c66, h⟩ := am_grd h
            refine am_Ev.t hcd (c := am_in s5.2.1 41 = true) (s1 := (58, [(0, .ref 216), (1, .int a0), (2, .int a1), (3, .int a2), (4, .int s7.1), (5, .int s5.2.1), (6, .int s7.2.1), (7, .int (p9 + (s7.2.2 233 (s5.2.1 - s7.2.1).toNatClampNeg)))], [.int (s7.2.2 233 s5.2.1.toNatClampNeg), .int (p9 + (s7.2.2 233 (s5.2.1 - s7.2.1).toNatClampNeg))], am_SH, (g, s7.2.2))) rfl c66 ?_
            obtain ⟨t11, ht11, kt11⟩ := am_bind_some h
            have hKt11 : am_Ev sc (d + 1) 291 (67, [(0, .ref 216), (1, .int a0), (2, .int a1), (3, .int a2), (4, .int t11.1), (5, .int s5.2.1), (6, .int s7.2.1)], [], am_SH, (g, t11.2)) ((some (.int r.1)), am_SH, (g, r.2)) := by
              have h := kt11
              obtain ⟨t12, Et12, h⟩ := am_let_eq h
              refine am_Ev.go hcd 1 (s' := (68, [(0, .ref 216), (1, .int a0), (2, .int a1), (3, .int a2), (4, .int t11.1), (5, .int s5.2.1), (6, .int t12)], [], am_SH, (g, t11.2))) (by subst Et12; exact rfl) ?_
              refine am_Ev.go hcd 1 (s' := (36, [(0, .ref 216), (1, .int a0), (2, .int a1), (3, .int a2), (4, .int t11.1), (5, .int s5.2.1), (6, .int t12)], [], am_SH, (g, t11.2))) rfl ?_
              exact am_Ev.weak' (hI7 (t11.1, t12, t11.2) (Option.some.inj h).symm) (am_sub_cons rfl (am_sub_cons rfl (am_sub_cons rfl (am_sub_cons rfl (am_sub_cons rfl (am_sub_cons rfl (am_sub_cons rfl am_sub_nil))))))) rfl
            have hLt11 : ∀ tt, tt = t11 → am_Ev sc (d + 1) 291 (67, [(0, .ref 216), (1, .int a0), (2, .int a1), (3, .int a2), (4, .int tt.1), (5, .int s5.2.1), (6, .int s7.2.1)], [], am_SH, (g, tt.2)) ((some (.int r.1)), am_SH, (g, r.2)) := fun tt htt => by subst htt; exact hKt11
            have h := ht11
            rcases am_ite h with ⟨c78, h⟩ | ⟨c78, h⟩
            · refine am_Ev.t hcd (c := (p9 + (s7.2.2 233 (s5.2.1 - s7.2.1).toNatClampNeg)) < s7.2.2 233 s5.2.1.toNatClampNeg) (s1 := (60, [(0, .ref 216), (1, .int a0), (2, .int a1), (3, .int a2), (4, .int s7.1), (5, .int s5.2.1), (6, .int s7.2.1), (7, .int (p9 + (s7.2.2 233 (s5.2.1 - s7.2.1).toNatClampNeg)))], [], am_SH, (g, s7.2.2))) rfl c78 ?_
              refine am_Ev.go hcd 4 (s' := (64, [(0, .ref 216), (1, .int a0), (2, .int a1), (3, .int a2), (4, .int s7.1), (5, .int s5.2.1), (6, .int s7.2.1), (7, .int (p9 + (s7.2.2 233 (s5.2.1 - s7.2.1).toNatClampNeg)))], [.int (p9 + (s7.2.2 233 (s5.2.1 - s7.2.1).toNatClampNeg)), .int s5.2.1, .ref 233], am_SH, (g, s7.2.2))) rfl ?_
              obtain ⟨c80, h⟩ := am_grd h
              obtain ⟨f10, Ef10, h⟩ := am_let_eq h
              refine am_Ev.t hcd (c := am_in s5.2.1 41 = true) (s1 := (65, [(0, .ref 216), (1, .int a0), (2, .int a1), (3, .int a2), (4, .int s7.1), (5, .int s5.2.1), (6, .int s7.2.1), (7, .int (p9 + (s7.2.2 233 (s5.2.1 - s7.2.1).toNatClampNeg)))], [], am_SH, (g, f10))) (by subst Ef10; exact rfl) c80 ?_
              refine am_Ev.go hcd 2 (s' := (67, [(0, .ref 216), (1, .int a0), (2, .int a1), (3, .int a2), (4, .int s7.2.1), (5, .int s5.2.1), (6, .int s7.2.1), (7, .int (p9 + (s7.2.2 233 (s5.2.1 - s7.2.1).toNatClampNeg)))], [], am_SH, (g, f10))) rfl ?_
              exact am_Ev.weak' (hLt11 (s7.2.1, f10) (Option.some.inj h)) (am_sub_cons rfl (am_sub_cons rfl (am_sub_cons rfl (am_sub_cons rfl (am_sub_cons rfl (am_sub_cons rfl (am_sub_cons rfl am_sub_nil))))))) rfl
            · refine am_Ev.f hcd (c := (p9 + (s7.2.2 233 (s5.2.1 - s7.2.1).toNatClampNeg)) < s7.2.2 233 s5.2.1.toNatClampNeg) (s1 := (59, [(0, .ref 216), (1, .int a0), (2, .int a1), (3, .int a2), (4, .int s7.1), (5, .int s5.2.1), (6, .int s7.2.1), (7, .int (p9 + (s7.2.2 233 (s5.2.1 - s7.2.1).toNatClampNeg)))], [], am_SH, (g, s7.2.2))) rfl c78 ?_
              refine am_Ev.go hcd 1 (s' := (67, [(0, .ref 216), (1, .int a0), (2, .int a1), (3, .int a2), (4, .int s7.1), (5, .int s5.2.1), (6, .int s7.2.1), (7, .int (p9 + (s7.2.2 233 (s5.2.1 - s7.2.1).toNatClampNeg)))], [], am_SH, (g, s7.2.2))) rfl ?_
              exact am_Ev.weak' (hLt11 (s7.1, s7.2.2) (Option.some.inj h)) (am_sub_cons rfl (am_sub_cons rfl (am_sub_cons rfl (am_sub_cons rfl (am_sub_cons rfl (am_sub_cons rfl (am_sub_cons rfl am_sub_nil))))))) rfl
      · refine am_Ev.t hcd (c := am_b (m_isIn a2 0 1) = 0) (s1 := (15, [(0, .ref 216), (1, .int a0), (2, .int a1), (3, .int a2)], [], am_SH, (g, f))) rfl (am_b_f c12) ?_
        refine am_Ev.go hcd 1 (s' := (16, [(0, .ref 216), (1, .int a0), (2, .int a1), (3, .int a2)], [.int (-1)], am_SH, (g, f))) rfl ?_
        exact am_Ev.cast (a := ((some (.int ((-1), f).1)), am_SH, (g, ((-1), f).2))) (by cases h; rfl) (am_Ev.ret hcd rfl)
    · refine am_Ev.t hcd (c := am_b (m_isIn a1 0 99) = 0) (s1 := (15, [(0, .ref 216), (1, .int a0), (2, .int a1), (3, .int a2)], [], am_SH, (g, f))) rfl (am_b_f c8) ?_
      refine am_Ev.go hcd 1 (s' := (16, [(0, .ref 216), (1, .int a0), (2, .int a1), (3, .int a2)], [.int (-1)], am_SH, (g, f))) rfl ?_
      exact am_Ev.cast (a := ((some (.int ((-1), f).1)), am_SH, (g, ((-1), f).2))) (by cases h; rfl) (am_Ev.ret hcd rfl)
  · refine am_Ev.t hcd (c := am_b (m_isIn a0 1 40) = 0) (s1 := (15, [(0, .ref 216), (1, .int a0), (2, .int a1), (3, .int a2)], [], am_SH, (g, f))) rfl (am_b_f c4) ?_
    refine am_Ev.go hcd 1 (s' := (16, [(0, .ref 216), (1, .int a0), (2, .int a1), (3, .int a2)], [.int (-1)], am_SH, (g, f))) rfl ?_
    exact am_Ev.cast (a := ((some (.int ((-1), f).1)), am_SH, (g, ((-1), f).2))) (by cases h; rfl) (am_Ev.ret hcd rfl)
def m_askedFor (a0 : Int32) (a1 : Int32) (a2 : Int32) (f : (Nat → Nat → Int32)) : Option (Int32) :=
  if am_in (((42 * a0) + a2) - 1) 1764 = true then (
  if am_in ((42 * (a2 + 1)) + a1) 1764 = true then (
  some (a2 + (m_greater (f 234 (((42 * a0) + a2) - 1).toNatClampNeg) (f 234 ((42 * (a2 + 1)) + a1).toNatClampNeg)))) else none) else none
set_option maxRecDepth 100000 in
set_option maxHeartbeats 4000000 in
theorem m_askedFor_ok {sc : Nat × (Nat → Int32)} (d : Nat) (a0 : Int32) (a1 : Int32) (a2 : Int32) (f g : (Nat → Nat → Int32)) (r : Int32) (h : m_askedFor a0 a1 a2 f = some r) : am_Ev sc (d + 1) 292 (0, [(0, .ref 216), (1, .int a0), (2, .int a1), (3, .int a2)], [], am_SH, (g, f)) ((some (.int r)), am_SH, (g, f)) := by
  have hcd : am_code 292 = am_c292 := rfl
  unfold m_askedFor at h
  refine am_Ev.go hcd 10 (s' := (10, [(0, .ref 216), (1, .int a0), (2, .int a1), (3, .int a2)], [.int (((42 * a0) + a2) - 1), .ref 234, .int a2], am_SH, (g, f))) rfl ?_
  obtain ⟨c2, h⟩ := am_grd h
  refine am_Ev.t hcd (c := am_in (((42 * a0) + a2) - 1) 1764 = true) (s1 := (11, [(0, .ref 216), (1, .int a0), (2, .int a1), (3, .int a2)], [.int (f 234 (((42 * a0) + a2) - 1).toNatClampNeg), .int a2], am_SH, (g, f))) rfl c2 ?_
  refine am_Ev.go hcd 9 (s' := (20, [(0, .ref 216), (1, .int a0), (2, .int a1), (3, .int a2)], [.int ((42 * (a2 + 1)) + a1), .ref 234, .int (f 234 (((42 * a0) + a2) - 1).toNatClampNeg), .int a2], am_SH, (g, f))) rfl ?_
  obtain ⟨c5, h⟩ := am_grd h
  refine am_Ev.t hcd (c := am_in ((42 * (a2 + 1)) + a1) 1764 = true) (s1 := (21, [(0, .ref 216), (1, .int a0), (2, .int a1), (3, .int a2)], [.int (f 234 ((42 * (a2 + 1)) + a1).toNatClampNeg), .int (f 234 (((42 * a0) + a2) - 1).toNatClampNeg), .int a2], am_SH, (g, f))) rfl c5 ?_
  refine am_Ev.call hcd (a := 178) (s0 := (0, [(0, .int (f 234 (((42 * a0) + a2) - 1).toNatClampNeg)), (1, .int (f 234 ((42 * (a2 + 1)) + a1).toNatClampNeg))], [], am_SH, (g, f))) (q := ((some (.int (m_greater (f 234 (((42 * a0) + a2) - 1).toNatClampNeg) (f 234 ((42 * (a2 + 1)) + a1).toNatClampNeg)))), am_SH, (g, f))) (s1 := (22, [(0, .ref 216), (1, .int a0), (2, .int a1), (3, .int a2)], [.int (m_greater (f 234 (((42 * a0) + a2) - 1).toNatClampNeg) (f 234 ((42 * (a2 + 1)) + a1).toNatClampNeg)), .int a2], am_SH, (g, f))) rfl rfl (m_greater_ok (d) (f 234 (((42 * a0) + a2) - 1).toNatClampNeg) (f 234 ((42 * (a2 + 1)) + a1).toNatClampNeg) (g, f)) ?_
  refine am_Ev.go hcd 1 (s' := (23, [(0, .ref 216), (1, .int a0), (2, .int a1), (3, .int a2)], [.int (a2 + (m_greater (f 234 (((42 * a0) + a2) - 1).toNatClampNeg) (f 234 ((42 * (a2 + 1)) + a1).toNatClampNeg)))], am_SH, (g, f))) rfl ?_
  exact am_Ev.cast (a := ((some (.int (a2 + (m_greater (f 234 (((42 * a0) + a2) - 1).toNatClampNeg) (f 234 ((42 * (a2 + 1)) + a1).toNatClampNeg))))), am_SH, (g, f))) (by cases h; rfl) (am_Ev.ret hcd rfl)
def m_bestAsked (a0 : Int32) (a1 : Int32) (f : (Nat → Nat → Int32)) : Option (Int32) :=
  am_loop (fun (s1 : Int32 × Int32) => ((
    if a1 < s1.2 then (
      some (.inr s1.1))
    else (
      (m_askedFor a0 a1 s1.2 f).bind fun p2 =>
      (m_askedFor a0 a1 s1.1 f).bind fun p3 =>
      am_let ((if p2 < p3 then (
          s1.2)
        else (
          s1.1)) : Int32) fun t4 =>
      am_let (s1.2 + 1 : Int32) fun t5 =>
      some (.inl (t4, t5)))) : Option ((Int32 × Int32) ⊕ (Int32)))) am_F (a0, (a0 + 1))
set_option maxRecDepth 100000 in
set_option maxHeartbeats 4000000 in
theorem m_bestAsked_ok {sc : Nat × (Nat → Int32)} (d : Nat) (a0 : Int32) (a1 : Int32) (f g : (Nat → Nat → Int32)) (r : Int32) (h : m_bestAsked a0 a1 f = some r) : am_Ev sc (d + 2) 293 (0, [(0, .ref 216), (1, .int a0), (2, .int a1)], [], am_SH, (g, f)) ((some (.int r)), am_SH, (g, f)) := by
  have hcd : am_code 293 = am_c293 := rfl
  unfold m_bestAsked at h
  refine am_Ev.go hcd 6 (s' := (6, [(0, .ref 216), (1, .int a0), (2, .int a1), (3, .int a0), (4, .int (a0 + 1))], [], am_SH, (g, f))) rfl ?_
  refine am_Ev.weak' (am_loop_ok (G := fun (s1 : Int32 × Int32) => am_Ev sc (d + 2) 293 (6, [(0, .ref 216), (1, .int a0), (2, .int a1), (3, .int s1.1), (4, .int s1.2)], [], am_SH, (g, f)) ((some (.int r)), am_SH, (g, f))) (Z := fun (v : Int32) => (((some (.int v)), am_SH, (g, f)) : am_R) = ((some (.int r)), am_SH, (g, f))) ?_ am_F (a0, (a0 + 1)) r h rfl) (am_sub_cons rfl (am_sub_cons rfl (am_sub_cons rfl (am_sub_cons rfl (am_sub_cons rfl am_sub_nil))))) rfl
  intro s1 q1 h hI1 hZ1
  show am_Ev sc (d + 2) 293 (6, [(0, .ref 216), (1, .int a0), (2, .int a1), (3, .int s1.1), (4, .int s1.2)], [], am_SH, (g, f)) ((some (.int r)), am_SH, (g, f))
  refine am_Ev.go hcd 2 (s' := (8, [(0, .ref 216), (1, .int a0), (2, .int a1), (3, .int s1.1), (4, .int s1.2)], [.int a1, .int s1.2], am_SH, (g, f))) rfl ?_
  rcases am_ite h with ⟨c6, h⟩ | ⟨c6, h⟩
  · refine am_Ev.t hcd (c := a1 < s1.2) (s1 := (26, [(0, .ref 216), (1, .int a0), (2, .int a1), (3, .int s1.1), (4, .int s1.2)], [], am_SH, (g, f))) rfl c6 ?_
    refine am_Ev.go hcd 1 (s' := (27, [(0, .ref 216), (1, .int a0), (2, .int a1), (3, .int s1.1), (4, .int s1.2)], [.int s1.1], am_SH, (g, f))) rfl ?_
    exact am_Ev.cast (a := ((some (.int s1.1)), am_SH, (g, f))) (hZ1 _ (Option.some.inj h).symm) (am_Ev.ret hcd rfl)
  · refine am_Ev.f hcd (c := a1 < s1.2) (s1 := (9, [(0, .ref 216), (1, .int a0), (2, .int a1), (3, .int s1.1), (4, .int s1.2)], [], am_SH, (g, f))) rfl c6 ?_
    refine am_Ev.go hcd 4 (s' := (13, [(0, .ref 216), (1, .int a0), (2, .int a1), (3, .int s1.1), (4, .int s1.2)], [.int s1.2, .int a1, .int a0, .ref 216], am_SH, (g, f))) rfl ?_
    obtain ⟨p2, hp2, h⟩ := am_bind_some h
    refine am_Ev.call hcd (a := 292) (s0 := (0, [(0, .ref 216), (1, .int a0), (2, .int a1), (3, .int s1.2)], [], am_SH, (g, f))) (q := ((some (.int p2)), am_SH, (g, f))) (s1 := (14, [(0, .ref 216), (1, .int a0), (2, .int a1), (3, .int s1.1), (4, .int s1.2)], [.int p2], am_SH, (g, f))) rfl rfl (m_askedFor_ok (d) a0 a1 s1.2 f g p2 hp2) ?_
    refine am_Ev.go hcd 4 (s' := (18, [(0, .ref 216), (1, .int a0), (2, .int a1), (3, .int s1.1), (4, .int s1.2)], [.int s1.1, .int a1, .int a0, .ref 216, .int p2], am_SH, (g, f))) rfl ?_
    obtain ⟨p3, hp3, h⟩ := am_bind_some h
    refine am_Ev.call hcd (a := 292) (s0 := (0, [(0, .ref 216), (1, .int a0), (2, .int a1), (3, .int s1.1)], [], am_SH, (g, f))) (q := ((some (.int p3)), am_SH, (g, f))) (s1 := (19, [(0, .ref 216), (1, .int a0), (2, .int a1), (3, .int s1.1), (4, .int s1.2)], [.int p3, .int p2], am_SH, (g, f))) rfl rfl (m_askedFor_ok (d) a0 a1 s1.1 f g p3 hp3) ?_
    obtain ⟨t4, ht4, kt4⟩ := am_let_eq h
    have hKt4 : am_Ev sc (d + 2) 293 (23, [(0, .ref 216), (1, .int a0), (2, .int a1), (4, .int s1.2)], [.int t4], am_SH, (g, f)) ((some (.int r)), am_SH, (g, f)) := by
      have h := kt4
      obtain ⟨t5, Et5, h⟩ := am_let_eq h
      refine am_Ev.go hcd 2 (s' := (25, [(0, .ref 216), (1, .int a0), (2, .int a1), (3, .int t4), (4, .int t5)], [], am_SH, (g, f))) (by subst Et5; exact rfl) ?_
      refine am_Ev.go hcd 1 (s' := (6, [(0, .ref 216), (1, .int a0), (2, .int a1), (3, .int t4), (4, .int t5)], [], am_SH, (g, f))) rfl ?_
      exact am_Ev.weak' (hI1 (t4, t5) (Option.some.inj h).symm) (am_sub_cons rfl (am_sub_cons rfl (am_sub_cons rfl (am_sub_cons rfl (am_sub_cons rfl am_sub_nil))))) rfl
    have hLt4 : ∀ tt, tt = t4 → am_Ev sc (d + 2) 293 (23, [(0, .ref 216), (1, .int a0), (2, .int a1), (4, .int s1.2)], [.int tt], am_SH, (g, f)) ((some (.int r)), am_SH, (g, f)) := fun tt htt => by subst htt; exact hKt4
    have h := ht4
    rcases am_itv h with ⟨c27, h⟩ | ⟨c27, h⟩
    · refine am_Ev.t hcd (c := p2 < p3) (s1 := (20, [(0, .ref 216), (1, .int a0), (2, .int a1), (3, .int s1.1), (4, .int s1.2)], [], am_SH, (g, f))) rfl c27 ?_
      refine am_Ev.go hcd 2 (s' := (23, [(0, .ref 216), (1, .int a0), (2, .int a1), (3, .int s1.1), (4, .int s1.2)], [.int s1.2], am_SH, (g, f))) rfl ?_
      exact am_Ev.weak' (hLt4 s1.2 h.symm) (am_sub_cons rfl (am_sub_cons rfl (am_sub_cons rfl (am_sub_cons rfl am_sub_nil)))) rfl
    · refine am_Ev.f hcd (c := p2 < p3) (s1 := (22, [(0, .ref 216), (1, .int a0), (2, .int a1), (3, .int s1.1), (4, .int s1.2)], [], am_SH, (g, f))) rfl c27 ?_
      refine am_Ev.go hcd 1 (s' := (23, [(0, .ref 216), (1, .int a0), (2, .int a1), (3, .int s1.1), (4, .int s1.2)], [.int s1.1], am_SH, (g, f))) rfl ?_
      exact am_Ev.weak' (hLt4 s1.1 h.symm) (am_sub_cons rfl (am_sub_cons rfl (am_sub_cons rfl (am_sub_cons rfl am_sub_nil)))) rfl
