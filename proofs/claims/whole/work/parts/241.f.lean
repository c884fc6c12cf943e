def m_dear (a0 : Int32) (a1 : Int32) (f : (Nat → Nat → Int32)) : Option (Int32 × (Nat → Nat → Int32)) :=
  if (m_isIn a0 1 40) = true then (
    if (m_isIn a1 0 1) = true then (
      (am_loop (fun (s3 : Int32 × (Nat → Nat → Int32)) => ((
        if s3.1 < 1764 then (
          if am_in s3.1 1764 = true then (
          am_let (am_up s3.2 234 s3.1.toNatClampNeg 0 : Nat → Nat → Int32) fun f4 =>
          am_let (s3.1 + 1 : Int32) fun t5 =>
          some (.inl (t5, f4))) else none)
        else (
          some (.inr s3.2))) : Option ((Int32 × (Nat → Nat → Int32)) ⊕ ((Nat → Nat → Int32))))) am_F (0, f)).bind fun e6 =>
      (am_loop (fun (s7 : Int32 × (Nat → Nat → Int32)) => ((
        if s7.1 < a0 then (
          (am_loop (fun (s8 : Int32 × (Nat → Nat → Int32)) => ((
            if a0 < (s8.1 + s7.1) then (
              some (.inr s8.2))
            else (
              (m_bestAsked s8.1 (s8.1 + s7.1) s8.2).bind fun p9 =>
              (m_askedFor s8.1 (s8.1 + s7.1) p9 s8.2).bind fun p10 =>
              if am_in (((42 * s8.1) + s8.1) + s7.1) 1764 = true then (
              am_let (am_up s8.2 234 (((42 * s8.1) + s8.1) + s7.1).toNatClampNeg p10 : Nat → Nat → Int32) fun f11 =>
              am_let (s8.1 + 1 : Int32) fun t12 =>
              some (.inl (t12, f11))) else none)) : Option ((Int32 × (Nat → Nat → Int32)) ⊕ ((Nat → Nat → Int32))))) am_F (1, s7.2)).bind fun e13 =>
          am_let (s7.1 + 1 : Int32) fun t14 =>
          some (.inl (t14, e13)))
        else (
          some (.inr s7.2))) : Option ((Int32 × (Nat → Nat → Int32)) ⊕ ((Nat → Nat → Int32))))) am_F (1, e6)).bind fun e15 =>
      if a1 = 0 then (
        if am_in (42 + a0) 1764 = true then (
        some (e15 234 (42 + a0).toNatClampNeg, e15)) else none)
      else (
        if a0 = 1 then (
          some ((-1), e15))
        else (
          (m_bestAsked 1 a0 e15).bind fun p16 =>
          some (p16, e15))))
    else (
      some ((-1), f)))
  else (
    some ((-1), f))
set_option maxRecDepth 100000 in
set_option maxHeartbeats 4000000 in
theorem m_dear_ok {sc : Nat × (Nat → Int32)} (d : Nat) (a0 : Int32) (a1 : Int32) (f g : (Nat → Nat → Int32)) (r : Int32 × (Nat → Nat → Int32)) (h : m_dear a0 a1 f = some r) : am_Ev sc (d + 3) 294 (0, [(0, .ref 216), (1, .int a0), (2, .int a1)], [], am_SH, (g, f)) ((some (.int r.1)), am_SH, (g, r.2)) := by
  have hcd : am_code 294 = am_c294 := rfl
  unfold m_dear at h
  refine am_Ev.go hcd 3 (s' := (3, [(0, .ref 216), (1, .int a0), (2, .int a1)], [.int 40, .int 1, .int a0], am_SH, (g, f))) rfl ?_
  refine am_Ev.call hcd (a := 176) (s0 := (0, [(0, .int a0), (1, .int 1), (2, .int 40)], [], am_SH, (g, f))) (q := ((some (.int (am_b (m_isIn a0 1 40)))), am_SH, (g, f))) (s1 := (4, [(0, .ref 216), (1, .int a0), (2, .int a1)], [.int (am_b (m_isIn a0 1 40))], am_SH, (g, f))) rfl rfl (m_isIn_ok (d + 2) a0 1 40 (g, f)) ?_
  rcases am_ite h with ⟨c4, h⟩ | ⟨c4, h⟩
  · refine am_Ev.f hcd (c := am_b (m_isIn a0 1 40) = 0) (s1 := (5, [(0, .ref 216), (1, .int a0), (2, .int a1)], [], am_SH, (g, f))) rfl (am_b_t c4) ?_
    refine am_Ev.go hcd 3 (s' := (8, [(0, .ref 216), (1, .int a0), (2, .int a1)], [.int 1, .int 0, .int a1], am_SH, (g, f))) rfl ?_
    refine am_Ev.call hcd (a := 176) (s0 := (0, [(0, .int a1), (1, .int 0), (2, .int 1)], [], am_SH, (g, f))) (q := ((some (.int (am_b (m_isIn a1 0 1)))), am_SH, (g, f))) (s1 := (9, [(0, .ref 216), (1, .int a0), (2, .int a1)], [.int (am_b (m_isIn a1 0 1))], am_SH, (g, f))) rfl rfl (m_isIn_ok (d + 2) a1 0 1 (g, f)) ?_
    rcases am_ite h with ⟨c8, h⟩ | ⟨c8, h⟩
    · refine am_Ev.f hcd (c := am_b (m_isIn a1 0 1) = 0) (s1 := (12, [(0, .ref 216), (1, .int a0), (2, .int a1)], [], am_SH, (g, f))) rfl (am_b_t c8) ?_
      refine am_Ev.go hcd 2 (s' := (14, [(0, .ref 216), (1, .int a0), (2, .int a1), (3, .int 0)], [], am_SH, (g, f))) rfl ?_
      obtain ⟨e6, he6, h⟩ := am_bind_some h
      have hK3 : (fun (e6 : (Nat → Nat → Int32)) => am_Ev sc (d + 3) 294 (24, [(0, .ref 216), (1, .int a0), (2, .int a1)], [], am_SH, (g, e6)) ((some (.int r.1)), am_SH, (g, r.2))) e6 := by
        show am_Ev sc (d + 3) 294 (24, [(0, .ref 216), (1, .int a0), (2, .int a1)], [], am_SH, (g, e6)) ((some (.int r.1)), am_SH, (g, r.2))
        refine am_Ev.go hcd 2 (s' := (26, [(0, .ref 216), (1, .int a0), (2, .int a1), (3, .int 1)], [], am_SH, (g, e6))) rfl ?_
        obtain ⟨e15, he15, h⟩ := am_bind_some h
        have hK7 : (fun (e15 : (Nat → Nat → Int32)) => am_Ev sc (d + 3) 294 (62, [(0, .ref 216), (1, .int a0), (2, .int a1)], [], am_SH, (g, e15)) ((some (.int r.1)), am_SH, (g, r.2))) e15 := by
          show am_Ev sc (d + 3) 294 (62, [(0, .ref 216), (1, .int a0), (2, .int a1)], [], am_SH, (g, e15)) ((some (.int r.1)), am_SH, (g, r.2))
          refine am_Ev.go hcd 1 (s' := (63, [(0, .ref 216), (1, .int a0), (2, .int a1)], [.int a1], am_SH, (g, e15))) rfl ?_
          rcases am_ite h with ⟨c18, h⟩ | ⟨c18, h⟩
          · refine am_Ev.t hcd (c := a1 = 0) (s1 := (64, [(0, .ref 216), (1, .int a0), (2, .int a1)], [], am_SH, (g, e15))) rfl c18 ?_
            refine am_Ev.go hcd 5 (s' := (69, [(0, .ref 216), (1, .int a0), (2, .int a1)], [.int (42 + a0), .ref 234], am_SH, (g, e15))) rfl ?_
            obtain ⟨c21, h⟩ := am_grd h
            refine am_Ev.t hcd (c := am_in (42 + a0) 1764 = true) (s1 := (70, [(0, .ref 216), (1, .int a0), (2, .int a1)], [.int (e15 234 (42 + a0).toNatClampNeg)], am_SH, (g, e15))) rfl c21 ?_
            refine am_Ev.go hcd 1 (s' := (80, [(0, .ref 216), (1, .int a0), (2, .int a1)], [.int (e15 234 (42 + a0).toNatClampNeg)], am_SH, (g, e15))) rfl ?_
            exact am_Ev.cast (a := ((some (.int (e15 234 (42 + a0).toNatClampNeg, e15).1)), am_SH, (g, (e15 234 (42 + a0).toNatClampNeg, e15).2))) (by cases h; rfl) (am_Ev.ret hcd rfl)
          · refine am_Ev.f hcd (c := a1 = 0) (s1 := (71, [(0, .ref 216), (1, .int a0), (2, .int a1)], [], am_SH, (g, e15))) rfl c18 ?_
            refine am_Ev.go hcd 2 (s' := (73, [(0, .ref 216), (1, .int a0), (2, .int a1)], [.int 1, .int a0], am_SH, (g, e15))) rfl ?_
            rcases am_ite h with ⟨c27, h⟩ | ⟨c27, h⟩
            · refine am_Ev.t hcd (c := a0 = 1) (s1 := (74, [(0, .ref 216), (1, .int a0), (2, .int a1)], [], am_SH, (g, e15))) rfl c27 ?_
              refine am_Ev.go hcd 2 (s' := (80, [(0, .ref 216), (1, .int a0), (2, .int a1)], [.int (-1)], am_SH, (g, e15))) rfl ?_
              exact am_Ev.cast (a := ((some (.int ((-1), e15).1)), am_SH, (g, ((-1), e15).2))) (by cases h; rfl) (am_Ev.ret hcd rfl)
            · refine am_Ev.f hcd (c := a0 = 1) (s1 := (76, [(0, .ref 216), (1, .int a0), (2, .int a1)], [], am_SH, (g, e15))) rfl c27 ?_
              refine am_Ev.go hcd 3 (s' := (79, [(0, .ref 216), (1, .int a0), (2, .int a1)], [.int a0, .int 1, .ref 216], am_SH, (g, e15))) rfl ?_
              obtain ⟨p16, hp16, h⟩ := am_bind_some h
              refine am_Ev.call hcd (a := 293) (s0 := (0, [(0, .ref 216), (1, .int 1), (2, .int a0)], [], am_SH, (g, e15))) (q := ((some (.int p16)), am_SH, (g, e15))) (s1 := (80, [(0, .ref 216), (1, .int a0), (2, .int a1)], [.int p16], am_SH, (g, e15))) rfl rfl (m_bestAsked_ok (d) 1 a0 e15 g p16 hp16) ?_
              exact am_Ev.cast (a := ((some (.int (p16, e15).1)), am_SH, (g, (p16, e15).2))) (by cases h; rfl) (am_Ev.ret hcd rfl)
        refine am_Ev.weak' (am_loop_ok (G := fun (s7 : Int32 × (Nat → Nat → Int32)) => am_Ev sc (d + 3) 294 (26, [(0, .ref 216), (1, .int a0), (2, .int a1), (3, .int s7.1)], [], am_SH, (g, s7.2)) ((some (.int r.1)), am_SH, (g, r.2))) (Z := fun (e15 : (Nat → Nat → Int32)) => am_Ev sc (d + 3) 294 (62, [(0, .ref 216), (1, .int a0), (2, .int a1)], [], am_SH, (g, e15)) ((some (.int r.1)), am_SH, (g, r.2))) ?_ am_F (1, e6) e15 he15 hK7) (am_sub_cons rfl (am_sub_cons rfl (am_sub_cons rfl (am_sub_cons rfl am_sub_nil)))) rfl
        intro s7 q7 h hI7 hZ7
        show am_Ev sc (d + 3) 294 (26, [(0, .ref 216), (1, .int a0), (2, .int a1), (3, .int s7.1)], [], am_SH, (g, s7.2)) ((some (.int r.1)), am_SH, (g, r.2))
        refine am_Ev.go hcd 2 (s' := (28, [(0, .ref 216), (1, .int a0), (2, .int a1), (3, .int s7.1)], [.int a0, .int s7.1], am_SH, (g, s7.2))) rfl ?_
        rcases am_ite h with ⟨c40, h⟩ | ⟨c40, h⟩
        · refine am_Ev.t hcd (c := s7.1 < a0) (s1 := (29, [(0, .ref 216), (1, .int a0), (2, .int a1), (3, .int s7.1)], [], am_SH, (g, s7.2))) rfl c40 ?_
          refine am_Ev.go hcd 2 (s' := (31, [(0, .ref 216), (1, .int a0), (2, .int a1), (3, .int s7.1), (4, .int 1)], [], am_SH, (g, s7.2))) rfl ?_
          obtain ⟨e13, he13, h⟩ := am_bind_some h
          have hK8 : (fun (e13 : (Nat → Nat → Int32)) => am_Ev sc (d + 3) 294 (60, [(0, .ref 216), (1, .int a0), (2, .int a1), (3, .int s7.1)], [], am_SH, (g, e13)) ((some (.int r.1)), am_SH, (g, r.2))) e13 := by
            show am_Ev sc (d + 3) 294 (60, [(0, .ref 216), (1, .int a0), (2, .int a1), (3, .int s7.1)], [], am_SH, (g, e13)) ((some (.int r.1)), am_SH, (g, r.2))
            obtain ⟨t14, Et14, h⟩ := am_let_eq h
            refine am_Ev.go hcd 1 (s' := (61, [(0, .ref 216), (1, .int a0), (2, .int a1), (3, .int t14)], [], am_SH, (g, e13))) (by subst Et14; exact rfl) ?_
            refine am_Ev.go hcd 1 (s' := (26, [(0, .ref 216), (1, .int a0), (2, .int a1), (3, .int t14)], [], am_SH, (g, e13))) rfl ?_
            exact am_Ev.weak' (hI7 (t14, e13) (Option.some.inj h).symm) (am_sub_cons rfl (am_sub_cons rfl (am_sub_cons rfl (am_sub_cons rfl am_sub_nil)))) rfl
          refine am_Ev.weak' (am_loop_ok (G := fun (s8 : Int32 × (Nat → Nat → Int32)) => am_Ev sc (d + 3) 294 (31, [(0, .ref 216), (1, .int a0), (2, .int a1), (3, .int s7.1), (4, .int s8.1)], [], am_SH, (g, s8.2)) ((some (.int r.1)), am_SH, (g, r.2))) (Z := fun (e13 : (Nat → Nat → Int32)) => am_Ev sc (d + 3) 294 (60, [(0, .ref 216), (1, .int a0), (2, .int a1), (3, .int s7.1)], [], am_SH, (g, e13)) ((some (.int r.1)), am_SH, (g, r.2))) ?_ am_F (1, s7.2) e13 he13 hK8) (am_sub_cons rfl (am_sub_cons rfl (am_sub_cons rfl (am_sub_cons rfl (am_sub_cons rfl am_sub_nil))))) rfl
          intro s8 q8 h hI8 hZ8
          show am_Ev sc (d + 3) 294 (31, [(0, .ref 216), (1, .int a0), (2, .int a1), (3, .int s7.1), (4, .int s8.1)], [], am_SH, (g, s8.2)) ((some (.int r.1)), am_SH, (g, r.2))
          refine am_Ev.go hcd 4 (s' := (35, [(0, .ref 216), (1, .int a0), (2, .int a1), (3, .int s7.1), (4, .int s8.1)], [.int a0, .int (s8.1 + s7.1)], am_SH, (g, s8.2))) rfl ?_
          rcases am_ite h with ⟨c54, h⟩ | ⟨c54, h⟩
          · refine am_Ev.t hcd (c := a0 < (s8.1 + s7.1)) (s1 := (60, [(0, .ref 216), (1, .int a0), (2, .int a1), (3, .int s7.1), (4, .int s8.1)], [], am_SH, (g, s8.2))) rfl c54 ?_
            exact am_Ev.weak' (hZ8 s8.2 (Option.some.inj h).symm) (am_sub_cons rfl (am_sub_cons rfl (am_sub_cons rfl (am_sub_cons rfl am_sub_nil)))) rfl
          · refine am_Ev.f hcd (c := a0 < (s8.1 + s7.1)) (s1 := (36, [(0, .ref 216), (1, .int a0), (2, .int a1), (3, .int s7.1), (4, .int s8.1)], [], am_SH, (g, s8.2))) rfl c54 ?_
            refine am_Ev.go hcd 19 (s' := (55, [(0, .ref 216), (1, .int a0), (2, .int a1), (3, .int s7.1), (4, .int s8.1)], [.int (s8.1 + s7.1), .int s8.1, .ref 216, .int (s8.1 + s7.1), .int s8.1, .ref 216, .int (((42 * s8.1) + s8.1) + s7.1), .ref 234], am_SH, (g, s8.2))) rfl ?_
            obtain ⟨p9, hp9, h⟩ := am_bind_some h
            refine am_Ev.call hcd (a := 293) (s0 := (0, [(0, .ref 216), (1, .int s8.1), (2, .int (s8.1 + s7.1))], [], am_SH, (g, s8.2))) (q := ((some (.int p9)), am_SH, (g, s8.2))) (s1 := (56, [(0, .ref 216), (1, .int a0), (2, .int a1), (3, .int s7.1), (4, .int s8.1)], [.int p9, .int (s8.1 + s7.1), .int s8.1, .ref 216, .int (((42 * s8.1) + s8.1) + s7.1), .ref 234], am_SH, (g, s8.2))) rfl rfl (m_bestAsked_ok (d) s8.1 (s8.1 + s7.1) s8.2 g p9 hp9) ?_
            obtain ⟨p10, hp10, h⟩ := am_bind_some h
            refine am_Ev.call hcd (a := 292) (s0 := (0, [(0, .ref 216), (1, .int s8.1), (2, .int (s8.1 + s7.1)), (3, .int p9)], [], am_SH, (g, s8.2))) (q := ((some (.int p10)), am_SH, (g, s8.2))) (s1 := (57, [(0, .ref 216), (1, .int a0), (2, .int a1), (3, .int s7.1), (4, .int s8.1)], [.int p10, .int (((42 * s8.1) + s8.1) + s7.1), .ref 234], am_SH, (g, s8.2))) rfl rfl (m_askedFor_ok (d + 1) s8.1 (s8.1 + s7.1) p9 s8.2 g p10 hp10) ?_
            obtain ⟨c64, h⟩ := am_grd h
            obtain ⟨f11, Ef11, h⟩ := am_let_eq h
            refine am_Ev.t hcd (c := am_in (((42 * s8.1) + s8.1) + s7.1) 1764 = true) (s1 := (58, [(0, .ref 216), (1, .int a0), (2, .int a1), (3, .int s7.1), (4, .int s8.1)], [], am_SH, (g, f11))) (by subst Ef11; exact rfl) c64 ?_
            obtain ⟨t12, Et12, h⟩ := am_let_eq h
            refine am_Ev.go hcd 1 (s' := (59, [(0, .ref 216), (1, .int a0), (2, .int a1), (3, .int s7.1), (4, .int t12)], [], am_SH, (g, f11))) (by subst Et12; exact rfl) ?_
            refine am_Ev.go hcd 1 (s' := (31, [(0, .ref 216), (1, .int a0), (2, .int a1), (3, .int s7.1), (4, .int t12)], [], am_SH, (g, f11))) rfl ?_
            exact am_Ev.weak' (hI8 (t12, f11) (Option.some.inj h).symm) (am_sub_cons rfl (am_sub_cons rfl (am_sub_cons rfl (am_sub_cons rfl (am_sub_cons rfl am_sub_nil))))) rfl
        · refine am_Ev.f hcd (c := s7.1 < a0) (s1 := (62, [(0, .ref 216), (1, .int a0), (2, .int a1), (3, .int s7.1)], [], am_SH, (g, s7.2))) rfl c40 ?_
          exact am_Ev.weak' (hZ7 s7.2 (Option.some.inj h).symm) (am_sub_cons rfl (am_sub_cons rfl (am_sub_cons rfl am_sub_nil))) rfl
      refine am_Ev.weak' (am_loop_ok (G := fun (s3 : Int32 × (Nat → Nat → Int32)) => am_Ev sc (d + 3) 294 (14, [(0, .ref 216), (1, .int a0), (2, .int a1), (3, .int s3.1)], [], am_SH, (g, s3.2)) ((some (.int r.1)), am_SH, (g, r.2))) (Z := fun (e6 : (Nat → Nat → Int32)) => am_Ev sc (d + 3) 294 (24, [(0, .ref 216), (1, .int a0), (2, .int a1)], [], am_SH, (g, e6)) ((some (.int r.1)), am_SH, (g, r.2))) ?_ am_F (0, f) e6 he6 hK3) (am_sub_cons rfl (am_sub_cons rfl (am_sub_cons rfl (am_sub_cons rfl am_sub_nil)))) rfl
      intro s3 q3 h hI3 hZ3
      show am_Ev sc (d + 3) 294 (14, [(0, .ref 216), (1, .int a0), (2, .int a1), (3, .int s3.1)], [], am_SH, (g, s3.2)) ((some (.int r.1)), am_SH, (g, r.2))
      refine am_Ev.go hcd 2 (s' := (16, [(0, .ref 216), (1, .int a0), (2, .int a1), (3, .int s3.1)], [.int 1764, .int s3.1], am_SH, (g, s3.2))) rfl ?_
      rcases am_ite h with ⟨c76, h⟩ | ⟨c76, h⟩
      · refine am_Ev.t hcd (c := s3.1 < 1764) (s1 := (17, [(0, .ref 216), (1, .int a0), (2, .int a1), (3, .int s3.1)], [], am_SH, (g, s3.2))) rfl c76 ?_
        refine am_Ev.go hcd 4 (s' := (21, [(0, .ref 216), (1, .int a0), (2, .int a1), (3, .int s3.1)], [.int 0, .int s3.1, .ref 234], am_SH, (g, s3.2))) rfl ?_
        obtain ⟨c79, h⟩ := am_grd h
        obtain ⟨f4, Ef4, h⟩ := am_let_eq h
        refine am_Ev.t hcd (c := am_in s3.1 1764 = true) (s1 := (22, [(0, .ref 216), (1, .int a0), (2, .int a1), (3, .int s3.1)], [], am_SH, (g, f4))) (by subst Ef4; exact rfl) c79 ?_
        obtain ⟨t5, Et5, h⟩ := am_let_eq h
        refine am_Ev.go hcd 1 (s' := (23, [(0, .ref 216), (1, .int a0), (2, .int a1), (3, .int t5)], [], am_SH, (g, f4))) (by subst Et5; exact rfl) ?_
        refine am_Ev.go hcd 1 (s' := (14, [(0, .ref 216), (1, .int a0), (2, .int a1), (3, .int t5)], [], am_SH, (g, f4))) rfl ?_
        exact am_Ev.weak' (hI3 (t5, f4) (Option.some.inj h).symm) (am_sub_cons rfl (am_sub_cons rfl (am_sub_cons rfl (am_sub_cons rfl am_sub_nil)))) rfl
      · refine am_Ev.f hcd (c := s3.1 < 1764) (s1 := (24, [(0, .ref 216), (1, .int a0), (2, .int a1), (3, .int s3.1)], [], am_SH, (g, s3.2))) rfl c76 ?_
        exact am_Ev.weak' (hZ3 s3.2 (Option.some.inj h).symm) (am_sub_cons rfl (am_sub_cons rfl (am_sub_cons rfl am_sub_nil))) rfl
    · refine am_Ev.t hcd (c := am_b (m_isIn a1 0 1) = 0) (s1 := (10, [(0, .ref 216), (1, .int a0), (2, .int a1)], [], am_SH, (g, f))) rfl (am_b_f c8) ?_
      refine am_Ev.go hcd 1 (s' := (11, [(0, .ref 216), (1, .int a0), (2, .int a1)], [.int (-1)], am_SH, (g, f))) rfl ?_
      exact am_Ev.cast (a := ((some (.int ((-1), f).1)), am_SH, (g, ((-1), f).2))) (by cases h; rfl) (am_Ev.ret hcd rfl)
  · refine am_Ev.t hcd (c := am_b (m_isIn a0 1 40) = 0) (s1 := (10, [(0, .ref 216), (1, .int a0), (2, .int a1)], [], am_SH, (g, f))) rfl (am_b_f c4) ?_
    refine am_Ev.go hcd 1 (s' := (11, [(0, .ref 216), (1, .int a0), (2, .int a1)], [.int (-1)], am_SH, (g, f))) rfl ?_
    exact am_Ev.cast (a := ((some (.int ((-1), f).1)), am_SH, (g, ((-1), f).2))) (by cases h; rfl) (am_Ev.ret hcd rfl)
def m_reading (a0 : Int32) (f : (Nat → Nat → Int32)) : Option (Int32 × (Nat → Nat → Int32)) :=
  if a0 = (-1) then (
    (m_endsRow 481 f).bind fun p1 =>
    some (p1.1, p1.2))
  else (
    if (m_isIn a0 0 99) = true then (
      (m_tellsOne 481 24 a0 f).bind fun p3 =>
      some (p3.1, p3.2))
    else (
      some ((-1), f)))
set_option maxRecDepth 100000 in
set_option maxHeartbeats 4000000 in
theorem m_reading_ok {sc : Nat × (Nat → Int32)} (d : Nat) (a0 : Int32) (f g : (Nat → Nat → Int32)) (r : Int32 × (Nat → Nat → Int32)) (h : m_reading a0 f = some r) : am_Ev sc (d + 1) 295 (0, [(0, .ref 216), (1, .int a0)], [], am_SH, (g, f)) ((some (.int r.1)), am_SH, (g, r.2)) := by
  have hcd : am_code 295 = am_c295 := rfl
  unfold m_reading at h
  refine am_Ev.go hcd 2 (s' := (2, [(0, .ref 216), (1, .int a0)], [.int (-1), .int a0], am_SH, (g, f))) rfl ?_
  rcases am_ite h with ⟨c2, h⟩ | ⟨c2, h⟩
  · refine am_Ev.t hcd (c := a0 = (-1)) (s1 := (3, [(0, .ref 216), (1, .int a0)], [], am_SH, (g, f))) rfl c2 ?_
    refine am_Ev.go hcd 2 (s' := (5, [(0, .ref 216), (1, .int a0)], [.int 481, .ref 216], am_SH, (g, f))) rfl ?_
    obtain ⟨p1, hp1, h⟩ := am_bind_some h
    refine am_Ev.call hcd (a := 262) (s0 := (0, [(0, .ref 216), (1, .int 481)], [], am_SH, (g, f))) (q := ((some (.int p1.1)), am_SH, (g, p1.2))) (s1 := (6, [(0, .ref 216), (1, .int a0)], [.int p1.1], am_SH, (g, p1.2))) rfl rfl (m_endsRow_ok (d) 481 f g p1 hp1) ?_
    refine am_Ev.go hcd 1 (s' := (19, [(0, .ref 216), (1, .int a0)], [.int p1.1], am_SH, (g, p1.2))) rfl ?_
    exact am_Ev.cast (a := ((some (.int (p1.1, p1.2).1)), am_SH, (g, (p1.1, p1.2).2))) (by cases h; rfl) (am_Ev.ret hcd rfl)
  · refine am_Ev.f hcd (c := a0 = (-1)) (s1 := (7, [(0, .ref 216), (1, .int a0)], [], am_SH, (g, f))) rfl c2 ?_
    refine am_Ev.go hcd 3 (s' := (10, [(0, .ref 216), (1, .int a0)], [.int 99, .int 0, .int a0], am_SH, (g, f))) rfl ?_
    refine am_Ev.call hcd (a := 176) (s0 := (0, [(0, .int a0), (1, .int 0), (2, .int 99)], [], am_SH, (g, f))) (q := ((some (.int (am_b (m_isIn a0 0 99)))), am_SH, (g, f))) (s1 := (11, [(0, .ref 216), (1, .int a0)], [.int (am_b (m_isIn a0 0 99))], am_SH, (g, f))) rfl rfl (m_isIn_ok (d) a0 0 99 (g, f)) ?_
    rcases am_ite h with ⟨c13, h⟩ | ⟨c13, h⟩
    · refine am_Ev.f hcd (c := am_b (m_isIn a0 0 99) = 0) (s1 := (12, [(0, .ref 216), (1, .int a0)], [], am_SH, (g, f))) rfl (am_b_t c13) ?_
      refine am_Ev.go hcd 4 (s' := (16, [(0, .ref 216), (1, .int a0)], [.int a0, .int 24, .int 481, .ref 216], am_SH, (g, f))) rfl ?_
      obtain ⟨p3, hp3, h⟩ := am_bind_some h
      refine am_Ev.call hcd (a := 260) (s0 := (0, [(0, .ref 216), (1, .int 481), (2, .int 24), (3, .int a0)], [], am_SH, (g, f))) (q := ((some (.int p3.1)), am_SH, (g, p3.2))) (s1 := (17, [(0, .ref 216), (1, .int a0)], [.int p3.1], am_SH, (g, p3.2))) rfl rfl (m_tellsOne_ok (d) 481 24 a0 f g p3 hp3) ?_
      refine am_Ev.go hcd 1 (s' := (19, [(0, .ref 216), (1, .int a0)], [.int p3.1], am_SH, (g, p3.2))) rfl ?_
      exact am_Ev.cast (a := ((some (.int (p3.1, p3.2).1)), am_SH, (g, (p3.1, p3.2).2))) (by cases h; rfl) (am_Ev.ret hcd rfl)
    · refine am_Ev.t hcd (c := am_b (m_isIn a0 0 99) = 0) (s1 := (18, [(0, .ref 216), (1, .int a0)], [], am_SH, (g, f))) rfl (am_b_f c13) ?_
      refine am_Ev.go hcd 1 (s' := (19, [(0, .ref 216), (1, .int a0)], [.int (-1)], am_SH, (g, f))) rfl ?_
      exact am_Ev.cast (a := ((some (.int ((-1), f).1)), am_SH, (g, ((-1), f).2))) (by cases h; rfl) (am_Ev.ret hcd rfl)
def m_steadyFrom (a0 : Int32) (a1 : Int32) (f : (Nat → Nat → Int32)) : Option (Int32) :=
  if am_in (482 + a0) 2008 = true then (
  am_let (f 217 (482 + a0).toNatClampNeg : Int32) fun t1 =>
  am_loop (fun (s2 : Int32 × Int32 × Int32) => ((
    if (a0 + s2.2.2) < f 217 481 then (
      if am_in ((482 + a0) + s2.2.2) 2008 = true then (
      if am_in ((482 + a0) + s2.2.2) 2008 = true then (
      if a1 < ((m_greater s2.2.1 (f 217 ((482 + a0) + s2.2.2).toNatClampNeg)) - (m_lesser s2.1 (f 217 ((482 + a0) + s2.2.2).toNatClampNeg))) then (
        some (.inr s2.2.2))
      else (
        am_let (s2.2.2 + 1 : Int32) fun t5 =>
        some (.inl ((m_lesser s2.1 (f 217 ((482 + a0) + s2.2.2).toNatClampNeg)), (m_greater s2.2.1 (f 217 ((482 + a0) + s2.2.2).toNatClampNeg)), t5)))) else none) else none)
    else (
      some (.inr s2.2.2))) : Option ((Int32 × Int32 × Int32) ⊕ (Int32)))) am_F (t1, t1, 0)) else none
set_option maxRecDepth 100000 in
set_option maxHeartbeats 4000000 in
theorem m_steadyFrom_ok {sc : Nat × (Nat → Int32)} (d : Nat) (a0 : Int32) (a1 : Int32) (f g : (Nat → Nat → Int32)) (r : Int32) (h : m_steadyFrom a0 a1 f = some r) : am_Ev sc (d + 1) 296 (0, [(0, .ref 216), (1, .int a0), (2, .int a1)], [], am_SH, (g, f)) ((some (.int r)), am_SH, (g, f)) := by
  have hcd : am_code 296 = am_c296 := rfl
  unfold m_steadyFrom at h
  refine am_Ev.go hcd 5 (s' := (5, [(0, .ref 216), (1, .int a0), (2, .int a1)], [.int (482 + a0), .ref 217], am_SH, (g, f))) rfl ?_
  obtain ⟨c2, h⟩ := am_grd h
  refine am_Ev.t hcd (c := am_in (482 + a0) 2008 = true) (s1 := (6, [(0, .ref 216), (1, .int a0), (2, .int a1)], [.int (f 217 (482 + a0).toNatClampNeg)], am_SH, (g, f))) rfl c2 ?_
  obtain ⟨t1, Et1, h⟩ := am_let_eq h
  refine am_Ev.go hcd 1 (s' := (7, [(0, .ref 216), (1, .int a0), (2, .int a1), (3, .int t1)], [], am_SH, (g, f))) (by subst Et1; exact rfl) ?_
  refine am_Ev.go hcd 4 (s' := (11, [(0, .ref 216), (1, .int a0), (2, .int a1), (3, .int t1), (4, .int t1), (5, .int 0)], [], am_SH, (g, f))) rfl ?_
  refine am_Ev.weak' (am_loop_ok (G := fun (s2 : Int32 × Int32 × Int32) => am_Ev sc (d + 1) 296 (11, [(0, .ref 216), (1, .int a0), (2, .int a1), (3, .int s2.1), (4, .int s2.2.1), (5, .int s2.2.2)], [], am_SH, (g, f)) ((some (.int r)), am_SH, (g, f))) (Z := fun (v : Int32) => (((some (.int v)), am_SH, (g, f)) : am_R) = ((some (.int r)), am_SH, (g, f))) ?_ am_F (t1, t1, 0) r h rfl) (am_sub_cons rfl (am_sub_cons rfl (am_sub_cons rfl (am_sub_cons rfl (am_sub_cons rfl (am_sub_cons rfl am_sub_nil)))))) rfl
  intro s2 q2 h hI2 hZ2
  show am_Ev sc (d + 1) 296 (11, [(0, .ref 216), (1, .int a0), (2, .int a1), (3, .int s2.1), (4, .int s2.2.1), (5, .int s2.2.2)], [], am_SH, (g, f)) ((some (.int r)), am_SH, (g, f))
  refine am_Ev.go hcd 7 (s' := (18, [(0, .ref 216), (1, .int a0), (2, .int a1), (3, .int s2.1), (4, .int s2.2.1), (5, .int s2.2.2)], [.int (f 217 481), .int (a0 + s2.2.2)], am_SH, (g, f))) rfl ?_
  rcases am_ite h with ⟨c11, h⟩ | ⟨c11, h⟩
  · refine am_Ev.t hcd (c := (a0 + s2.2.2) < f 217 481) (s1 := (19, [(0, .ref 216), (1, .int a0), (2, .int a1), (3, .int s2.1), (4, .int s2.2.1), (5, .int s2.2.2)], [], am_SH, (g, f))) rfl c11 ?_
    refine am_Ev.go hcd 8 (s' := (27, [(0, .ref 216), (1, .int a0), (2, .int a1), (3, .int s2.1), (4, .int s2.2.1), (5, .int s2.2.2)], [.int ((482 + a0) + s2.2.2), .ref 217, .int s2.1], am_SH, (g, f))) rfl ?_
    obtain ⟨c14, h⟩ := am_grd h
    refine am_Ev.t hcd (c := am_in ((482 + a0) + s2.2.2) 2008 = true) (s1 := (28, [(0, .ref 216), (1, .int a0), (2, .int a1), (3, .int s2.1), (4, .int s2.2.1), (5, .int s2.2.2)], [.int (f 217 ((482 + a0) + s2.2.2).toNatClampNeg), .int s2.1], am_SH, (g, f))) rfl c14 ?_
    refine am_Ev.call hcd (a := 177) (s0 := (0, [(0, .int s2.1), (1, .int (f 217 ((482 + a0) + s2.2.2).toNatClampNeg))], [], am_SH, (g, f))) (q := ((some (.int (m_lesser s2.1 (f 217 ((482 + a0) + s2.2.2).toNatClampNeg)))), am_SH, (g, f))) (s1 := (29, [(0, .ref 216), (1, .int a0), (2, .int a1), (3, .int s2.1), (4, .int s2.2.1), (5, .int s2.2.2)], [.int (m_lesser s2.1 (f 217 ((482 + a0) + s2.2.2).toNatClampNeg))], am_SH, (g, f))) rfl rfl (m_lesser_ok (d) s2.1 (f 217 ((482 + a0) + s2.2.2).toNatClampNeg) (g, f)) ?_
    refine am_Ev.go hcd 9 (s' := (38, [(0, .ref 216), (1, .int a0), (2, .int a1), (3, .int (m_lesser s2.1 (f 217 ((482 + a0) + s2.2.2).toNatClampNeg))), (4, .int s2.2.1), (5, .int s2.2.2)], [.int ((482 + a0) + s2.2.2), .ref 217, .int s2.2.1], am_SH, (g, f))) rfl ?_
    obtain ⟨c18, h⟩ := am_grd h
    refine am_Ev.t hcd (c := am_in ((482 + a0) + s2.2.2) 2008 = true) (s1 := (39, [(0, .ref 216), (1, .int a0), (2, .int a1), (3, .int (m_lesser s2.1 (f 217 ((482 + a0) + s2.2.2).toNatClampNeg))), (4, .int s2.2.1), (5, .int s2.2.2)], [.int (f 217 ((482 + a0) + s2.2.2).toNatClampNeg), .int s2.2.1], am_SH, (g, f))) rfl c18 ?_
    refine am_Ev.call hcd (a := 178) (s0 := (0, [(0, .int s2.2.1), (1, .int (f 217 ((482 + a0) + s2.2.2).toNatClampNeg))], [], am_SH, (g, f))) (q := ((some (.int (m_greater s2.2.1 (f 217 ((482 + a0) + s2.2.2).toNatClampNeg)))), am_SH, (g, f))) (s1 := (40, [(0, .ref 216), (1, .int a0), (2, .int a1), (3, .int (m_lesser s2.1 (f 217 ((482 + a0) + s2.2.2).toNatClampNeg))), (4, .int s2.2.1), (5, .int s2.2.2)], [.int (m_greater s2.2.1 (f 217 ((482 + a0) + s2.2.2).toNatClampNeg))], am_SH, (g, f))) rfl rfl (m_greater_ok (d) s2.2.1 (f 217 ((482 + a0) + s2.2.2).toNatClampNeg) (g, f)) ?_
    refine am_Ev.go hcd 5 (s' := (45, [(0, .ref 216), (1, .int a0), (2, .int a1), (3, .int (m_lesser s2.1 (f 217 ((482 + a0) + s2.2.2).toNatClampNeg))), (4, .int (m_greater s2.2.1 (f 217 ((482 + a0) + s2.2.2).toNatClampNeg))), (5, .int s2.2.2)], [.int a1, .int ((m_greater s2.2.1 (f 217 ((482 + a0) + s2.2.2).toNatClampNeg)) - (m_lesser s2.1 (f 217 ((482 + a0) + s2.2.2).toNatClampNeg)))], am_SH, (g, f))) rfl ?_
    rcases am_ite h with ⟨c22, h⟩ | ⟨c22, h⟩
    · refine am_Ev.t hcd (c := a1 < ((m_greater s2.2.1 (f 217 ((482 + a0) + s2.2.2).toNatClampNeg)) - (m_lesser s2.1 (f 217 ((482 + a0) + s2.2.2).toNatClampNeg)))) (s1 := (46, [(0, .ref 216), (1, .int a0), (2, .int a1), (3, .int (m_lesser s2.1 (f 217 ((482 + a0) + s2.2.2).toNatClampNeg))), (4, .int (m_greater s2.2.1 (f 217 ((482 + a0) + s2.2.2).toNatClampNeg))), (5, .int s2.2.2)], [], am_SH, (g, f))) rfl c22 ?_
      refine am_Ev.go hcd 1 (s' := (47, [(0, .ref 216), (1, .int a0), (2, .int a1), (3, .int (m_lesser s2.1 (f 217 ((482 + a0) + s2.2.2).toNatClampNeg))), (4, .int (m_greater s2.2.1 (f 217 ((482 + a0) + s2.2.2).toNatClampNeg))), (5, .int s2.2.2)], [.int s2.2.2], am_SH, (g, f))) rfl ?_
      exact am_Ev.cast (a := ((some (.int s2.2.2)), am_SH, (g, f))) (hZ2 _ (Option.some.inj h).symm) (am_Ev.ret hcd rfl)
    · refine am_Ev.f hcd (c := a1 < ((m_greater s2.2.1 (f 217 ((482 + a0) + s2.2.2).toNatClampNeg)) - (m_lesser s2.1 (f 217 ((482 + a0) + s2.2.2).toNatClampNeg)))) (s1 := (48, [(0, .ref 216), (1, .int a0), (2, .int a1), (3, .int (m_lesser s2.1 (f 217 ((482 + a0) + s2.2.2).toNatClampNeg))), (4, .int (m_greater s2.2.1 (f 217 ((482 + a0) + s2.2.2).toNatClampNeg))), (5, .int s2.2.2)], [], am_SH, (g, f))) rfl c22 ?_
      obtain ⟨t5, Et5, h⟩ := am_let_eq h
      refine am_Ev.go hcd 1 (s' := (49, [(0, .ref 216), (1, .int a0), (2, .int a1), (3, .int (m_lesser s2.1 (f 217 ((482 + a0) + s2.2.2).toNatClampNeg))), (4, .int (m_greater s2.2.1 (f 217 ((482 + a0) + s2.2.2).toNatClampNeg))), (5, .int t5)], [], am_SH, (g, f))) (by subst Et5; exact rfl) ?_
      refine am_Ev.go hcd 1 (s' := (11, [(0, .ref 216), (1, .int a0), (2, .int a1), (3, .int (m_lesser s2.1 (f 217 ((482 + a0) + s2.2.2).toNatClampNeg))), (4, .int (m_greater s2.2.1 (f 217 ((482 + a0) + s2.2.2).toNatClampNeg))), (5, .int t5)], [], am_SH, (g, f))) rfl ?_
      exact am_Ev.weak' (hI2 ((m_lesser s2.1 (f 217 ((482 + a0) + s2.2.2).toNatClampNeg)), (m_greater s2.2.1 (f 217 ((482 + a0) + s2.2.2).toNatClampNeg)), t5) (Option.some.inj h).symm) (am_sub_cons rfl (am_sub_cons rfl (am_sub_cons rfl (am_sub_cons rfl (am_sub_cons rfl (am_sub_cons rfl am_sub_nil)))))) rfl
  · refine am_Ev.f hcd (c := (a0 + s2.2.2) < f 217 481) (s1 := (50, [(0, .ref 216), (1, .int a0), (2, .int a1), (3, .int s2.1), (4, .int s2.2.1), (5, .int s2.2.2)], [], am_SH, (g, f))) rfl c11 ?_
    refine am_Ev.go hcd 1 (s' := (51, [(0, .ref 216), (1, .int a0), (2, .int a1), (3, .int s2.1), (4, .int s2.2.1), (5, .int s2.2.2)], [.int s2.2.2], am_SH, (g, f))) rfl ?_
    exact am_Ev.cast (a := ((some (.int s2.2.2)), am_SH, (g, f))) (hZ2 _ (Option.some.inj h).symm) (am_Ev.ret hcd rfl)
def m_steady (a0 : Int32) (a1 : Int32) (f : (Nat → Nat → Int32)) : Option (Int32) :=
  if (m_isIn a0 0 99) = true then (
    if (m_isIn a1 0 1) = true then (
      (am_loop (fun (s3 : Int32 × Int32 × Int32) => ((
        if s3.2.2 < f 217 481 then (
          (m_steadyFrom s3.2.2 a0 f).bind fun p4 =>
          ((if s3.1 < p4 then (
              (m_steadyFrom s3.2.2 a0 f).bind fun p5 =>
              some (p5, s3.2.2))
            else (
              some (s3.1, s3.2.1))) : Option (Int32 × Int32)).bind fun t6 =>
          am_let (s3.2.2 + 1 : Int32) fun t7 =>
          some (.inl (t6.1, t6.2, t7)))
        else (
          some (.inr (s3.1, s3.2.1)))) : Option ((Int32 × Int32 × Int32) ⊕ (Int32 × Int32)))) am_F (0, (-1), 0)).bind fun e8 =>
      if a1 = 0 then (
        some e8.1)
      else (
        some e8.2))
    else (
      some (-1)))
  else (
    some (-1))
set_option maxRecDepth 100000 in
set_option maxHeartbeats 4000000 in
theorem m_steady_ok {sc : Nat × (Nat → Int32)} (d : Nat) (a0 : Int32) (a1 : Int32) (f g : (Nat → Nat → Int32)) (r : Int32) (h : m_steady a0 a1 f = some r) : am_Ev sc (d + 2) 297 (0, [(0, .ref 216), (1, .int a0), (2, .int a1)], [], am_SH, (g, f)) ((some (.int r)), am_SH, (g, f)) := by
  have hcd : am_code 297 = am_c297 := rfl
  unfold m_steady at h
  refine am_Ev.go hcd 3 (s' := (3, [(0, .ref 216), (1, .int a0), (2, .int a1)], [.int 99, .int 0, .int a0], am_SH, (g, f))) rfl ?_
  refine am_Ev.call hcd (a := 176) (s0 := (0, [(0, .int a0), (1, .int 0), (2, .int 99)], [], am_SH, (g, f))) (q := ((some (.int (am_b (m_isIn a0 0 99)))), am_SH, (g, f))) (s1 := (4, [(0, .ref 216), (1, .int a0), (2, .int a1)], [.int (am_b (m_isIn a0 0 99))], am_SH, (g, f))) rfl rfl (m_isIn_ok (d + 1) a0 0 99 (g, f)) ?_
  rcases am_ite h with ⟨c4, h⟩ | ⟨c4, h⟩
  · refine am_Ev.f hcd (c := am_b (m_isIn a0 0 99) = 0) (s1 := (5, [(0, .ref 216), (1, .int a0), (2, .int a1)], [], am_SH, (g, f))) rfl (am_b_t c4) ?_
    refine am_Ev.go hcd 3 (s' := (8, [(0, .ref 216), (1, .int a0), (2, .int a1)], [.int 1, .int 0, .int a1], am_SH, (g, f))) rfl ?_
    refine am_Ev.call hcd (a := 176) (s0 := (0, [(0, .int a1), (1, .int 0), (2, .int 1)], [], am_SH, (g, f))) (q := ((some (.int (am_b (m_isIn a1 0 1)))), am_SH, (g, f))) (s1 := (9, [(0, .ref 216), (1, .int a0), (2, .int a1)], [.int (am_b (m_isIn a1 0 1))], am_SH, (g, f))) rfl rfl (m_isIn_ok (d + 1) a1 0 1 (g, f)) ?_
    rcases am_ite h with ⟨c8, h⟩ | ⟨c8, h⟩
    · refine am_Ev.f hcd (c := am_b (m_isIn a1 0 1) = 0) (s1 := (12, [(0, .ref 216), (1, .int a0), (2, .int a1)], [], am_SH, (g, f))) rfl (am_b_t c8) ?_
      refine am_Ev.go hcd 6 (s' := (18, [(0, .ref 216), (1, .int a0), (2, .int a1), (3, .int 0), (4, .int (-1)), (5, .int 0)], [], am_SH, (g, f))) rfl ?_
      obtain ⟨e8, he8, h⟩ := am_bind_some h
      have hK3 : (fun (e8 : Int32 × Int32) => am_Ev sc (d + 2) 297 (40, [(2, .int a1), (3, .int e8.1), (4, .int e8.2)], [], am_SH, (g, f)) ((some (.int r)), am_SH, (g, f))) e8 := by
        show am_Ev sc (d + 2) 297 (40, [(2, .int a1), (3, .int e8.1), (4, .int e8.2)], [], am_SH, (g, f)) ((some (.int r)), am_SH, (g, f))
        refine am_Ev.go hcd 1 (s' := (41, [(2, .int a1), (3, .int e8.1), (4, .int e8.2)], [.int a1], am_SH, (g, f))) rfl ?_
        rcases am_ite h with ⟨c14, h⟩ | ⟨c14, h⟩
        · refine am_Ev.t hcd (c := a1 = 0) (s1 := (42, [(2, .int a1), (3, .int e8.1), (4, .int e8.2)], [], am_SH, (g, f))) rfl c14 ?_
          refine am_Ev.go hcd 2 (s' := (45, [(2, .int a1), (3, .int e8.1), (4, .int e8.2)], [.int e8.1], am_SH, (g, f))) rfl ?_
          exact am_Ev.cast (a := ((some (.int e8.1)), am_SH, (g, f))) (by cases h; rfl) (am_Ev.ret hcd rfl)
        · refine am_Ev.f hcd (c := a1 = 0) (s1 := (44, [(2, .int a1), (3, .int e8.1), (4, .int e8.2)], [], am_SH, (g, f))) rfl c14 ?_
          refine am_Ev.go hcd 1 (s' := (45, [(2, .int a1), (3, .int e8.1), (4, .int e8.2)], [.int e8.2], am_SH, (g, f))) rfl ?_
          exact am_Ev.cast (a := ((some (.int e8.2)), am_SH, (g, f))) (by cases h; rfl) (am_Ev.ret hcd rfl)
      refine am_Ev.weak' (am_loop_ok (G := fun (s3 : Int32 × Int32 × Int32) => am_Ev sc (d + 2) 297 (18, [(0, .ref 216), (1, .int a0), (2, .int a1), (3, .int s3.1), (4, .int s3.2.1), (5, .int s3.2.2)], [], am_SH, (g, f)) ((some (.int r)), am_SH, (g, f))) (Z := fun (e8 : Int32 × Int32) => am_Ev sc (d + 2) 297 (40, [(2, .int a1), (3, .int e8.1), (4, .int e8.2)], [], am_SH, (g, f)) ((some (.int r)), am_SH, (g, f))) ?_ am_F (0, (-1), 0) e8 he8 hK3) (am_sub_cons rfl (am_sub_cons rfl (am_sub_cons rfl (am_sub_cons rfl (am_sub_cons rfl (am_sub_cons rfl am_sub_nil)))))) rfl
      intro s3 q3 h hI3 hZ3
      show am_Ev sc (d + 2) 297 (18, [(0, .ref 216), (1, .int a0), (2, .int a1), (3, .int s3.1), (4, .int s3.2.1), (5, .int s3.2.2)], [], am_SH, (g, f)) ((some (.int r)), am_SH, (g, f))
      refine am_Ev.go hcd 5 (s' := (23, [(0, .ref 216), (1, .int a0), (2, .int a1), (3, .int s3.1), (4, .int s3.2.1), (5, .int s3.2.2)], [.int (f 217 481), .int s3.2.2], am_SH, (g, f))) rfl ?_
      rcases am_ite h with ⟨c25, h⟩ | ⟨c25, h⟩
      · refine am_Ev.t hcd (c := s3.2.2 < f 217 481) (s1 := (24, [(0, .ref 216), (1, .int a0), (2, .int a1), (3, .int s3.1), (4, .int s3.2.1), (5, .int s3.2.2)], [], am_SH, (g, f))) rfl c25 ?_
        refine am_Ev.go hcd 3 (s' := (27, [(0, .ref 216), (1, .int a0), (2, .int a1), (3, .int s3.1), (4, .int s3.2.1), (5, .int s3.2.2)], [.int a0, .int s3.2.2, .ref 216], am_SH, (g, f))) rfl ?_
        obtain ⟨p4, hp4, h⟩ := am_bind_some h
        refine am_Ev.call hcd (a := 296) (s0 := (0, [(0, .ref 216), (1, .int s3.2.2), (2, .int a0)], [], am_SH, (g, f))) (q := ((some (.int p4)), am_SH, (g, f))) (s1 := (28, [(0, .ref 216), (1, .int a0), (2, .int a1), (3, .int s3.1), (4, .int s3.2.1), (5, .int s3.2.2)], [.int p4], am_SH, (g, f))) rfl rfl (m_steadyFrom_ok (d) s3.2.2 a0 f g p4 hp4) ?_
        obtain ⟨t6, ht6, kt6⟩ := am_bind_some h
        have hKt6 : am_Ev sc (d + 2) 297 (38, [(0, .ref 216), (1, .int a0), (2, .int a1), (3, .int t6.1), (4, .int t6.2), (5, .int s3.2.2)], [], am_SH, (g, f)) ((some (.int r)), am_SH, (g, f)) := by
          have h := kt6
          obtain ⟨t7, Et7, h⟩ := am_let_eq h
          refine am_Ev.go hcd 1 (s' := (39, [(0, .ref 216), (1, .int a0), (2, .int a1), (3, .int t6.1), (4, .int t6.2), (5, .int t7)], [], am_SH, (g, f))) (by subst Et7; exact rfl) ?_
          refine am_Ev.go hcd 1 (s' := (18, [(0, .ref 216), (1, .int a0), (2, .int a1), (3, .int t6.1), (4, .int t6.2), (5, .int t7)], [], am_SH, (g, f))) rfl ?_
          exact am_Ev.weak' (hI3 (t6.1, t6.2, t7) (Option.some.inj h).symm) (am_sub_cons rfl (am_sub_cons rfl (am_sub_cons rfl (am_sub_cons rfl (am_sub_cons rfl (am_sub_cons rfl am_sub_nil)))))) rfl
        have hLt6 : ∀ tt, tt = t6 → am_Ev sc (d + 2) 297 (38, [(0, .ref 216), (1, .int a0), (2, .int a1), (3, .int tt.1), (4, .int tt.2), (5, .int s3.2.2)], [], am_SH, (g, f)) ((some (.int r)), am_SH, (g, f)) := fun tt htt => by subst htt; exact hKt6
        have h := ht6
        refine am_Ev.go hcd 1 (s' := (29, [(0, .ref 216), (1, .int a0), (2, .int a1), (3, .int s3.1), (4, .int s3.2.1), (5, .int s3.2.2)], [.int s3.1, .int p4], am_SH, (g, f))) rfl ?_
        rcases am_ite h with ⟨c40, h⟩ | ⟨c40, h⟩
        · refine am_Ev.t hcd (c := s3.1 < p4) (s1 := (31, [(0, .ref 216), (1, .int a0), (2, .int a1), (3, .int s3.1), (4, .int s3.2.1), (5, .int s3.2.2)], [], am_SH, (g, f))) rfl c40 ?_
          refine am_Ev.go hcd 3 (s' := (34, [(0, .ref 216), (1, .int a0), (2, .int a1), (3, .int s3.1), (4, .int s3.2.1), (5, .int s3.2.2)], [.int a0, .int s3.2.2, .ref 216], am_SH, (g, f))) rfl ?_
          obtain ⟨p5, hp5, h⟩ := am_bind_some h
          refine am_Ev.call hcd (a := 296) (s0 := (0, [(0, .ref 216), (1, .int s3.2.2), (2, .int a0)], [], am_SH, (g, f))) (q := ((some (.int p5)), am_SH, (g, f))) (s1 := (35, [(0, .ref 216), (1, .int a0), (2, .int a1), (3, .int s3.1), (4, .int s3.2.1), (5, .int s3.2.2)], [.int p5], am_SH, (g, f))) rfl rfl (m_steadyFrom_ok (d) s3.2.2 a0 f g p5 hp5) ?_
          refine am_Ev.go hcd 3 (s' := (38, [(0, .ref 216), (1, .int a0), (2, .int a1), (3, .int p5), (4, .int s3.2.2), (5, .int s3.2.2)], [], am_SH, (g, f))) rfl ?_
          exact am_Ev.weak' (hLt6 (p5, s3.2.2) (Option.some.inj h)) (am_sub_cons rfl (am_sub_cons rfl (am_sub_cons rfl (am_sub_cons rfl (am_sub_cons rfl (am_sub_cons rfl am_sub_nil)))))) rfl
        · refine am_Ev.f hcd (c := s3.1 < p4) (s1 := (30, [(0, .ref 216), (1, .int a0), (2, .int a1), (3, .int s3.1), (4, .int s3.2.1), (5, .int s3.2.2)], [], am_SH, (g, f))) rfl c40 ?_
          refine am_Ev.go hcd 1 (s' := (38, [(0, .ref 216), (1, .int a0), (2, .int a1), (3, .int s3.1), (4, .int s3.2.1), (5, .int s3.2.2)], [], am_SH, (g, f))) rfl ?_
          exact am_Ev.weak' (hLt6 (s3.1, s3.2.1) (Option.some.inj h)) (am_sub_cons rfl (am_sub_cons rfl (am_sub_cons rfl (am_sub_cons rfl (am_sub_cons rfl (am_sub_cons rfl am_sub_nil)))))) rfl
      · refine am_Ev.f hcd (c := s3.2.2 < f 217 481) (s1 := (40, [(0, .ref 216), (1, .int a0), (2, .int a1), (3, .int s3.1), (4, .int s3.2.1), (5, .int s3.2.2)], [], am_SH, (g, f))) rfl c25 ?_
        exact am_Ev.weak' (hZ3 (s3.1, s3.2.1) (Option.some.inj h).symm) (am_sub_cons rfl (am_sub_cons rfl (am_sub_cons rfl am_sub_nil))) rfl
    · refine am_Ev.t hcd (c := am_b (m_isIn a1 0 1) = 0) (s1 := (10, [(0, .ref 216), (1, .int a0), (2, .int a1)], [], am_SH, (g, f))) rfl (am_b_f c8) ?_
      refine am_Ev.go hcd 1 (s' := (11, [(0, .ref 216), (1, .int a0), (2, .int a1)], [.int (-1)], am_SH, (g, f))) rfl ?_
      exact am_Ev.cast (a := ((some (.int (-1))), am_SH, (g, f))) (by cases h; rfl) (am_Ev.ret hcd rfl)
  · refine am_Ev.t hcd (c := am_b (m_isIn a0 0 99) = 0) (s1 := (10, [(0, .ref 216), (1, .int a0), (2, .int a1)], [], am_SH, (g, f))) rfl (am_b_f c4) ?_
    refine am_Ev.go hcd 1 (s' := (11, [(0, .ref 216), (1, .int a0), (2, .int a1)], [.int (-1)], am_SH, (g, f))) rfl ?_
    exact am_Ev.cast (a := ((some (.int (-1))), am_SH, (g, f))) (by cases h; rfl) (am_Ev.ret hcd rfl)
