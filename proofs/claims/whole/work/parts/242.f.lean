def m_quiet (a0 : Int32) (a1 : Int32) (f : (Nat → Nat → Int32)) : Option (Int32 × (Nat → Nat → Int32)) :=
  if (m_isIn a0 0 60) = true then (
    if (m_isIn a1 1 5) = true then (
      (am_loop (fun (s3 : Int32 × (Nat → Nat → Int32)) => ((
        if s3.1 < 5 then (
          am_let ((if s3.1 = 0 then (
              true)
            else (
              false)) : Bool) fun t4 =>
          if am_in s3.1 5 = true then (
          am_let (am_up s3.2 235 s3.1.toNatClampNeg (am_b t4) : Nat → Nat → Int32) fun f5 =>
          am_let (s3.1 + 1 : Int32) fun t6 =>
          some (.inl (t6, f5))) else none)
        else (
          some (.inr s3.2))) : Option ((Int32 × (Nat → Nat → Int32)) ⊕ ((Nat → Nat → Int32))))) am_F (0, f)).bind fun e7 =>
      (am_loop (fun (s8 : Int32 × (Nat → Nat → Int32)) => ((
        if s8.1 < a0 then (
          (am_loop (fun (s9 : Int32 × Int32) => ((
            if s9.2 < a1 then (
              if am_in s9.2 5 = true then (
              am_let (s9.2 + 1 : Int32) fun t10 =>
              some (.inl (((s9.1 + (s8.2 235 s9.2.toNatClampNeg)) - (s9.1 + (s8.2 235 s9.2.toNatClampNeg)) / 1000000007 * 1000000007), t10))) else none)
            else (
              some (.inr s9.1))) : Option ((Int32 × Int32) ⊕ (Int32)))) am_F (0, 0)).bind fun e11 =>
          (am_loop (fun (s12 : Int32 × (Nat → Nat → Int32)) => ((
            if 0 < s12.1 then (
              if am_in (s12.1 - 1) 5 = true then (
              if am_in s12.1 5 = true then (
              am_let (am_up s12.2 235 s12.1.toNatClampNeg (s12.2 235 (s12.1 - 1).toNatClampNeg) : Nat → Nat → Int32) fun f13 =>
              am_let (s12.1 + (-1) : Int32) fun t14 =>
              some (.inl (t14, f13))) else none) else none)
            else (
              some (.inr s12.2))) : Option ((Int32 × (Nat → Nat → Int32)) ⊕ ((Nat → Nat → Int32))))) am_F ((a1 - 1), s8.2)).bind fun e15 =>
          am_let (am_up e15 235 0 e11 : Nat → Nat → Int32) fun f16 =>
          am_let (s8.1 + 1 : Int32) fun t17 =>
          some (.inl (t17, f16)))
        else (
          some (.inr s8.2))) : Option ((Int32 × (Nat → Nat → Int32)) ⊕ ((Nat → Nat → Int32))))) am_F (0, e7)).bind fun e18 =>
      am_loop (fun (s19 : Int32 × Int32) => ((
        if s19.2 < a1 then (
          if am_in s19.2 5 = true then (
          am_let (s19.2 + 1 : Int32) fun t20 =>
          some (.inl (((s19.1 + (e18 235 s19.2.toNatClampNeg)) - (s19.1 + (e18 235 s19.2.toNatClampNeg)) / 1000000007 * 1000000007), t20))) else none)
        else (
          some (.inr (s19.1, e18)))) : Option ((Int32 × Int32) ⊕ (Int32 × (Nat → Nat → Int32))))) am_F (0, 0))
    else (
      some ((-1), f)))
  else (
    some ((-1), f))
set_option maxRecDepth 100000 in
set_option maxHeartbeats 4000000 in
theorem m_quiet_ok {sc : Nat × (Nat → Int32)} (d : Nat) (a0 : Int32) (a1 : Int32) (f g : (Nat → Nat → Int32)) (r : Int32 × (Nat → Nat → Int32)) (h : m_quiet a0 a1 f = some r) : am_Ev sc (d + 1) 298 (0, [(0, .ref 216), (1, .int a0), (2, .int a1)], [], am_SH, (g, f)) ((some (.int r.1)), am_SH, (g, r.2)) := by
  have hcd : am_code 298 = am_c298 := rfl
  unfold m_quiet at h
  refine am_Ev.go hcd 3 (s' := (3, [(0, .ref 216), (1, .int a0), (2, .int a1)], [.int 60, .int 0, .int a0], am_SH, (g, f))) rfl ?_
  refine am_Ev.call hcd (a := 176) (s0 := (0, [(0, .int a0), (1, .int 0), (2, .int 60)], [], am_SH, (g, f))) (q := ((some (.int (am_b (m_isIn a0 0 60)))), am_SH, (g, f))) (s1 := (4, [(0, .ref 216), (1, .int a0), (2, .int a1)], [.int (am_b (m_isIn a0 0 60))], am_SH, (g, f))) rfl rfl (m_isIn_ok (d) a0 0 60 (g, f)) ?_
  rcases am_ite h with ⟨c4, h⟩ | ⟨c4, h⟩
  · refine am_Ev.f hcd (c := am_b (m_isIn a0 0 60) = 0) (s1 := (5, [(0, .ref 216), (1, .int a0), (2, .int a1)], [], am_SH, (g, f))) rfl (am_b_t c4) ?_
    refine am_Ev.go hcd 3 (s' := (8, [(0, .ref 216), (1, .int a0), (2, .int a1)], [.int 5, .int 1, .int a1], am_SH, (g, f))) rfl ?_
    refine am_Ev.call hcd (a := 176) (s0 := (0, [(0, .int a1), (1, .int 1), (2, .int 5)], [], am_SH, (g, f))) (q := ((some (.int (am_b (m_isIn a1 1 5)))), am_SH, (g, f))) (s1 := (9, [(0, .ref 216), (1, .int a0), (2, .int a1)], [.int (am_b (m_isIn a1 1 5))], am_SH, (g, f))) rfl rfl (m_isIn_ok (d) a1 1 5 (g, f)) ?_
    rcases am_ite h with ⟨c8, h⟩ | ⟨c8, h⟩
    · refine am_Ev.f hcd (c := am_b (m_isIn a1 1 5) = 0) (s1 := (12, [(0, .ref 216), (1, .int a0), (2, .int a1)], [], am_SH, (g, f))) rfl (am_b_t c8) ?_
      refine am_Ev.go hcd 2 (s' := (14, [(0, .ref 216), (1, .int a0), (2, .int a1), (3, .int 0)], [], am_SH, (g, f))) rfl ?_
      obtain ⟨e7, he7, h⟩ := am_bind_some h
      have hK3 : (fun (e7 : (Nat → Nat → Int32)) => am_Ev sc (d + 1) 298 (28, [(0, .ref 216), (1, .int a0), (2, .int a1)], [], am_SH, (g, e7)) ((some (.int r.1)), am_SH, (g, r.2))) e7 := by
        show am_Ev sc (d + 1) 298 (28, [(0, .ref 216), (1, .int a0), (2, .int a1)], [], am_SH, (g, e7)) ((some (.int r.1)), am_SH, (g, r.2))
        refine am_Ev.go hcd 2 (s' := (30, [(0, .ref 216), (1, .int a0), (2, .int a1), (3, .int 0)], [], am_SH, (g, e7))) rfl ?_
        obtain ⟨e18, he18, h⟩ := am_bind_some h
        have hK8 : (fun (e18 : (Nat → Nat → Int32)) => am_Ev sc (d + 1) 298 (76, [(0, .ref 216), (2, .int a1)], [], am_SH, (g, e18)) ((some (.int r.1)), am_SH, (g, r.2))) e18 := by
          show am_Ev sc (d + 1) 298 (76, [(0, .ref 216), (2, .int a1)], [], am_SH, (g, e18)) ((some (.int r.1)), am_SH, (g, r.2))
          refine am_Ev.go hcd 4 (s' := (80, [(0, .ref 216), (2, .int a1), (3, .int 0), (4, .int 0)], [], am_SH, (g, e18))) rfl ?_
          refine am_Ev.weak' (am_loop_ok (G := fun (s19 : Int32 × Int32) => am_Ev sc (d + 1) 298 (80, [(0, .ref 216), (2, .int a1), (3, .int s19.1), (4, .int s19.2)], [], am_SH, (g, e18)) ((some (.int r.1)), am_SH, (g, r.2))) (Z := fun (v : Int32 × (Nat → Nat → Int32)) => (((some (.int v.1)), am_SH, (g, v.2)) : am_R) = ((some (.int r.1)), am_SH, (g, r.2))) ?_ am_F (0, 0) r h rfl) (am_sub_cons rfl (am_sub_cons rfl (am_sub_cons rfl (am_sub_cons rfl am_sub_nil)))) rfl
          intro s19 q19 h hI19 hZ19
          show am_Ev sc (d + 1) 298 (80, [(0, .ref 216), (2, .int a1), (3, .int s19.1), (4, .int s19.2)], [], am_SH, (g, e18)) ((some (.int r.1)), am_SH, (g, r.2))
          refine am_Ev.go hcd 2 (s' := (82, [(0, .ref 216), (2, .int a1), (3, .int s19.1), (4, .int s19.2)], [.int a1, .int s19.2], am_SH, (g, e18))) rfl ?_
          rcases am_ite h with ⟨c22, h⟩ | ⟨c22, h⟩
          · refine am_Ev.t hcd (c := s19.2 < a1) (s1 := (83, [(0, .ref 216), (2, .int a1), (3, .int s19.1), (4, .int s19.2)], [], am_SH, (g, e18))) rfl c22 ?_
            refine am_Ev.go hcd 4 (s' := (87, [(0, .ref 216), (2, .int a1), (3, .int s19.1), (4, .int s19.2)], [.int s19.2, .ref 235, .int s19.1], am_SH, (g, e18))) rfl ?_
            obtain ⟨c25, h⟩ := am_grd h
            refine am_Ev.t hcd (c := am_in s19.2 5 = true) (s1 := (88, [(0, .ref 216), (2, .int a1), (3, .int s19.1), (4, .int s19.2)], [.int (e18 235 s19.2.toNatClampNeg), .int s19.1], am_SH, (g, e18))) rfl c25 ?_
            obtain ⟨t20, Et20, h⟩ := am_let_eq h
            refine am_Ev.go hcd 5 (s' := (93, [(0, .ref 216), (2, .int a1), (3, .int ((s19.1 + (e18 235 s19.2.toNatClampNeg)) - (s19.1 + (e18 235 s19.2.toNatClampNeg)) / 1000000007 * 1000000007)), (4, .int t20)], [], am_SH, (g, e18))) (by subst Et20; exact rfl) ?_
            refine am_Ev.go hcd 1 (s' := (80, [(0, .ref 216), (2, .int a1), (3, .int ((s19.1 + (e18 235 s19.2.toNatClampNeg)) - (s19.1 + (e18 235 s19.2.toNatClampNeg)) / 1000000007 * 1000000007)), (4, .int t20)], [], am_SH, (g, e18))) rfl ?_
            exact am_Ev.weak' (hI19 (((s19.1 + (e18 235 s19.2.toNatClampNeg)) - (s19.1 + (e18 235 s19.2.toNatClampNeg)) / 1000000007 * 1000000007), t20) (Option.some.inj h).symm) (am_sub_cons rfl (am_sub_cons rfl (am_sub_cons rfl (am_sub_cons rfl am_sub_nil)))) rfl
          · refine am_Ev.f hcd (c := s19.2 < a1) (s1 := (94, [(0, .ref 216), (2, .int a1), (3, .int s19.1), (4, .int s19.2)], [], am_SH, (g, e18))) rfl c22 ?_
            refine am_Ev.go hcd 1 (s' := (95, [(0, .ref 216), (2, .int a1), (3, .int s19.1), (4, .int s19.2)], [.int s19.1], am_SH, (g, e18))) rfl ?_
            exact am_Ev.cast (a := ((some (.int (s19.1, e18).1)), am_SH, (g, (s19.1, e18).2))) (hZ19 _ (Option.some.inj h).symm) (am_Ev.ret hcd rfl)
        refine am_Ev.weak' (am_loop_ok (G := fun (s8 : Int32 × (Nat → Nat → Int32)) => am_Ev sc (d + 1) 298 (30, [(0, .ref 216), (1, .int a0), (2, .int a1), (3, .int s8.1)], [], am_SH, (g, s8.2)) ((some (.int r.1)), am_SH, (g, r.2))) (Z := fun (e18 : (Nat → Nat → Int32)) => am_Ev sc (d + 1) 298 (76, [(0, .ref 216), (2, .int a1)], [], am_SH, (g, e18)) ((some (.int r.1)), am_SH, (g, r.2))) ?_ am_F (0, e7) e18 he18 hK8) (am_sub_cons rfl (am_sub_cons rfl (am_sub_cons rfl (am_sub_cons rfl am_sub_nil)))) rfl
        intro s8 q8 h hI8 hZ8
        show am_Ev sc (d + 1) 298 (30, [(0, .ref 216), (1, .int a0), (2, .int a1), (3, .int s8.1)], [], am_SH, (g, s8.2)) ((some (.int r.1)), am_SH, (g, r.2))
        refine am_Ev.go hcd 2 (s' := (32, [(0, .ref 216), (1, .int a0), (2, .int a1), (3, .int s8.1)], [.int a0, .int s8.1], am_SH, (g, s8.2))) rfl ?_
        rcases am_ite h with ⟨c38, h⟩ | ⟨c38, h⟩
        · refine am_Ev.t hcd (c := s8.1 < a0) (s1 := (33, [(0, .ref 216), (1, .int a0), (2, .int a1), (3, .int s8.1)], [], am_SH, (g, s8.2))) rfl c38 ?_
          refine am_Ev.go hcd 4 (s' := (37, [(0, .ref 216), (1, .int a0), (2, .int a1), (3, .int s8.1), (4, .int 0), (5, .int 0)], [], am_SH, (g, s8.2))) rfl ?_
          obtain ⟨e11, he11, h⟩ := am_bind_some h
          have hK9 : (fun (e11 : Int32) => am_Ev sc (d + 1) 298 (51, [(0, .ref 216), (1, .int a0), (2, .int a1), (3, .int s8.1), (4, .int e11)], [], am_SH, (g, s8.2)) ((some (.int r.1)), am_SH, (g, r.2))) e11 := by
            show am_Ev sc (d + 1) 298 (51, [(0, .ref 216), (1, .int a0), (2, .int a1), (3, .int s8.1), (4, .int e11)], [], am_SH, (g, s8.2)) ((some (.int r.1)), am_SH, (g, r.2))
            refine am_Ev.go hcd 4 (s' := (55, [(0, .ref 216), (1, .int a0), (2, .int a1), (3, .int s8.1), (4, .int e11), (5, .int (a1 - 1))], [], am_SH, (g, s8.2))) rfl ?_
            obtain ⟨e15, he15, h⟩ := am_bind_some h
            have hK12 : (fun (e15 : (Nat → Nat → Int32)) => am_Ev sc (d + 1) 298 (69, [(0, .ref 216), (1, .int a0), (2, .int a1), (3, .int s8.1), (4, .int e11)], [], am_SH, (g, e15)) ((some (.int r.1)), am_SH, (g, r.2))) e15 := by
              show am_Ev sc (d + 1) 298 (69, [(0, .ref 216), (1, .int a0), (2, .int a1), (3, .int s8.1), (4, .int e11)], [], am_SH, (g, e15)) ((some (.int r.1)), am_SH, (g, r.2))
              obtain ⟨f16, Ef16, h⟩ := am_let_eq h
              refine am_Ev.go hcd 5 (s' := (74, [(0, .ref 216), (1, .int a0), (2, .int a1), (3, .int s8.1), (4, .int e11)], [], am_SH, (g, f16))) (by subst Ef16; exact rfl) ?_
              obtain ⟨t17, Et17, h⟩ := am_let_eq h
              refine am_Ev.go hcd 1 (s' := (75, [(0, .ref 216), (1, .int a0), (2, .int a1), (3, .int t17), (4, .int e11)], [], am_SH, (g, f16))) (by subst Et17; exact rfl) ?_
              refine am_Ev.go hcd 1 (s' := (30, [(0, .ref 216), (1, .int a0), (2, .int a1), (3, .int t17), (4, .int e11)], [], am_SH, (g, f16))) rfl ?_
              exact am_Ev.weak' (hI8 (t17, f16) (Option.some.inj h).symm) (am_sub_cons rfl (am_sub_cons rfl (am_sub_cons rfl (am_sub_cons rfl am_sub_nil)))) rfl
            refine am_Ev.weak' (am_loop_ok (G := fun (s12 : Int32 × (Nat → Nat → Int32)) => am_Ev sc (d + 1) 298 (55, [(0, .ref 216), (1, .int a0), (2, .int a1), (3, .int s8.1), (4, .int e11), (5, .int s12.1)], [], am_SH, (g, s12.2)) ((some (.int r.1)), am_SH, (g, r.2))) (Z := fun (e15 : (Nat → Nat → Int32)) => am_Ev sc (d + 1) 298 (69, [(0, .ref 216), (1, .int a0), (2, .int a1), (3, .int s8.1), (4, .int e11)], [], am_SH, (g, e15)) ((some (.int r.1)), am_SH, (g, r.2))) ?_ am_F ((a1 - 1), s8.2) e15 he15 hK12) (am_sub_cons rfl (am_sub_cons rfl (am_sub_cons rfl (am_sub_cons rfl (am_sub_cons rfl (am_sub_cons rfl am_sub_nil)))))) rfl
            intro s12 q12 h hI12 hZ12
            show am_Ev sc (d + 1) 298 (55, [(0, .ref 216), (1, .int a0), (2, .int a1), (3, .int s8.1), (4, .int e11), (5, .int s12.1)], [], am_SH, (g, s12.2)) ((some (.int r.1)), am_SH, (g, r.2))
            refine am_Ev.go hcd 1 (s' := (56, [(0, .ref 216), (1, .int a0), (2, .int a1), (3, .int s8.1), (4, .int e11), (5, .int s12.1)], [.int s12.1], am_SH, (g, s12.2))) rfl ?_
            rcases am_ite h with ⟨c58, h⟩ | ⟨c58, h⟩
            · refine am_Ev.t hcd (c := 0 < s12.1) (s1 := (57, [(0, .ref 216), (1, .int a0), (2, .int a1), (3, .int s8.1), (4, .int e11), (5, .int s12.1)], [], am_SH, (g, s12.2))) rfl c58 ?_
              refine am_Ev.go hcd 8 (s' := (65, [(0, .ref 216), (1, .int a0), (2, .int a1), (3, .int s8.1), (4, .int e11), (5, .int s12.1)], [.int (s12.1 - 1), .ref 235, .int s12.1, .ref 235], am_SH, (g, s12.2))) rfl ?_
              obtain ⟨c61, h⟩ := am_grd h
              refine am_Ev.t hcd (c := am_in (s12.1 - 1) 5 = true) (s1 := (66, [(0, .ref 216), (1, .int a0), (2, .int a1), (3, .int s8.1), (4, .int e11), (5, .int s12.1)], [.int (s12.2 235 (s12.1 - 1).toNatClampNeg), .int s12.1, .ref 235], am_SH, (g, s12.2))) rfl c61 ?_
              obtain ⟨c64, h⟩ := am_grd h
              obtain ⟨f13, Ef13, h⟩ := am_let_eq h
              refine am_Ev.t hcd (c := am_in s12.1 5 = true) (s1 := (67, [(0, .ref 216), (1, .int a0), (2, .int a1), (3, .int s8.1), (4, .int e11), (5, .int s12.1)], [], am_SH, (g, f13))) (by subst Ef13; exact rfl) c64 ?_
              obtain ⟨t14, Et14, h⟩ := am_let_eq h
              refine am_Ev.go hcd 1 (s' := (68, [(0, .ref 216), (1, .int a0), (2, .int a1), (3, .int s8.1), (4, .int e11), (5, .int t14)], [], am_SH, (g, f13))) (by subst Et14; exact rfl) ?_
              refine am_Ev.go hcd 1 (s' := (55, [(0, .ref 216), (1, .int a0), (2, .int a1), (3, .int s8.1), (4, .int e11), (5, .int t14)], [], am_SH, (g, f13))) rfl ?_
              exact am_Ev.weak' (hI12 (t14, f13) (Option.some.inj h).symm) (am_sub_cons rfl (am_sub_cons rfl (am_sub_cons rfl (am_sub_cons rfl (am_sub_cons rfl (am_sub_cons rfl am_sub_nil)))))) rfl
            · refine am_Ev.f hcd (c := 0 < s12.1) (s1 := (69, [(0, .ref 216), (1, .int a0), (2, .int a1), (3, .int s8.1), (4, .int e11), (5, .int s12.1)], [], am_SH, (g, s12.2))) rfl c58 ?_
              exact am_Ev.weak' (hZ12 s12.2 (Option.some.inj h).symm) (am_sub_cons rfl (am_sub_cons rfl (am_sub_cons rfl (am_sub_cons rfl (am_sub_cons rfl am_sub_nil))))) rfl
          refine am_Ev.weak' (am_loop_ok (G := fun (s9 : Int32 × Int32) => am_Ev sc (d + 1) 298 (37, [(0, .ref 216), (1, .int a0), (2, .int a1), (3, .int s8.1), (4, .int s9.1), (5, .int s9.2)], [], am_SH, (g, s8.2)) ((some (.int r.1)), am_SH, (g, r.2))) (Z := fun (e11 : Int32) => am_Ev sc (d + 1) 298 (51, [(0, .ref 216), (1, .int a0), (2, .int a1), (3, .int s8.1), (4, .int e11)], [], am_SH, (g, s8.2)) ((some (.int r.1)), am_SH, (g, r.2))) ?_ am_F (0, 0) e11 he11 hK9) (am_sub_cons rfl (am_sub_cons rfl (am_sub_cons rfl (am_sub_cons rfl (am_sub_cons rfl (am_sub_cons rfl am_sub_nil)))))) rfl
          intro s9 q9 h hI9 hZ9
          show am_Ev sc (d + 1) 298 (37, [(0, .ref 216), (1, .int a0), (2, .int a1), (3, .int s8.1), (4, .int s9.1), (5, .int s9.2)], [], am_SH, (g, s8.2)) ((some (.int r.1)), am_SH, (g, r.2))
          refine am_Ev.go hcd 2 (s' := (39, [(0, .ref 216), (1, .int a0), (2, .int a1), (3, .int s8.1), (4, .int s9.1), (5, .int s9.2)], [.int a1, .int s9.2], am_SH, (g, s8.2))) rfl ?_
          rcases am_ite h with ⟨c76, h⟩ | ⟨c76, h⟩
          · refine am_Ev.t hcd (c := s9.2 < a1) (s1 := (40, [(0, .ref 216), (1, .int a0), (2, .int a1), (3, .int s8.1), (4, .int s9.1), (5, .int s9.2)], [], am_SH, (g, s8.2))) rfl c76 ?_
            refine am_Ev.go hcd 4 (s' := (44, [(0, .ref 216), (1, .int a0), (2, .int a1), (3, .int s8.1), (4, .int s9.1), (5, .int s9.2)], [.int s9.2, .ref 235, .int s9.1], am_SH, (g, s8.2))) rfl ?_
            obtain ⟨c79, h⟩ := am_grd h
            refine am_Ev.t hcd (c := am_in s9.2 5 = true) (s1 := (45, [(0, .ref 216), (1, .int a0), (2, .int a1), (3, .int s8.1), (4, .int s9.1), (5, .int s9.2)], [.int (s8.2 235 s9.2.toNatClampNeg), .int s9.1], am_SH, (g, s8.2))) rfl c79 ?_
            obtain ⟨t10, Et10, h⟩ := am_let_eq h
            refine am_Ev.go hcd 5 (s' := (50, [(0, .ref 216), (1, .int a0), (2, .int a1), (3, .int s8.1), (4, .int ((s9.1 + (s8.2 235 s9.2.toNatClampNeg)) - (s9.1 + (s8.2 235 s9.2.toNatClampNeg)) / 1000000007 * 1000000007)), (5, .int t10)], [], am_SH, (g, s8.2))) (by subst Et10; exact rfl) ?_
            refine am_Ev.go hcd 1 (s' := (37, [(0, .ref 216), (1, .int a0), (2, .int a1), (3, .int s8.1), (4, .int ((s9.1 + (s8.2 235 s9.2.toNatClampNeg)) - (s9.1 + (s8.2 235 s9.2.toNatClampNeg)) / 1000000007 * 1000000007)), (5, .int t10)], [], am_SH, (g, s8.2))) rfl ?_
            exact am_Ev.weak' (hI9 (((s9.1 + (s8.2 235 s9.2.toNatClampNeg)) - (s9.1 + (s8.2 235 s9.2.toNatClampNeg)) / 1000000007 * 1000000007), t10) (Option.some.inj h).symm) (am_sub_cons rfl (am_sub_cons rfl (am_sub_cons rfl (am_sub_cons rfl (am_sub_cons rfl (am_sub_cons rfl am_sub_nil)))))) rfl
          · refine am_Ev.f hcd (c := s9.2 < a1) (s1 := (51, [(0, .ref 216), (1, .int a0), (2, .int a1), (3, .int s8.1), (4, .int s9.1), (5, .int s9.2)], [], am_SH, (g, s8.2))) rfl c76 ?_
            exact am_Ev.weak' (hZ9 s9.1 (Option.some.inj h).symm) (am_sub_cons rfl (am_sub_cons rfl (am_sub_cons rfl (am_sub_cons rfl (am_sub_cons rfl am_sub_nil))))) rfl
        · refine am_Ev.f hcd (c := s8.1 < a0) (s1 := (76, [(0, .ref 216), (1, .int a0), (2, .int a1), (3, .int s8.1)], [], am_SH, (g, s8.2))) rfl c38 ?_
          exact am_Ev.weak' (hZ8 s8.2 (Option.some.inj h).symm) (am_sub_cons rfl (am_sub_cons rfl am_sub_nil)) rfl
      refine am_Ev.weak' (am_loop_ok (G := fun (s3 : Int32 × (Nat → Nat → Int32)) => am_Ev sc (d + 1) 298 (14, [(0, .ref 216), (1, .int a0), (2, .int a1), (3, .int s3.1)], [], am_SH, (g, s3.2)) ((some (.int r.1)), am_SH, (g, r.2))) (Z := fun (e7 : (Nat → Nat → Int32)) => am_Ev sc (d + 1) 298 (28, [(0, .ref 216), (1, .int a0), (2, .int a1)], [], am_SH, (g, e7)) ((some (.int r.1)), am_SH, (g, r.2))) ?_ am_F (0, f) e7 he7 hK3) (am_sub_cons rfl (am_sub_cons rfl (am_sub_cons rfl (am_sub_cons rfl am_sub_nil)))) rfl
      intro s3 q3 h hI3 hZ3
      show am_Ev sc (d + 1) 298 (14, [(0, .ref 216), (1, .int a0), (2, .int a1), (3, .int s3.1)], [], am_SH, (g, s3.2)) ((some (.int r.1)), am_SH, (g, r.2))
      refine am_Ev.go hcd 2 (s' := (16, [(0, .ref 216), (1, .int a0), (2, .int a1), (3, .int s3.1)], [.int 5, .int s3.1], am_SH, (g, s3.2))) rfl ?_
      rcases am_ite h with ⟨c93, h⟩ | ⟨c93, h⟩
      · refine am_Ev.t hcd (c := s3.1 < 5) (s1 := (17, [(0, .ref 216), (1, .int a0), (2, .int a1), (3, .int s3.1)], [], am_SH, (g, s3.2))) rfl c93 ?_
        obtain ⟨t4, ht4, kt4⟩ := am_let_eq h
        have hKt4 : am_Ev sc (d + 1) 298 (25, [(0, .ref 216), (1, .int a0), (2, .int a1), (3, .int s3.1)], [.int (am_b t4), .int s3.1, .ref 235], am_SH, (g, s3.2)) ((some (.int r.1)), am_SH, (g, r.2)) := by
          have h := kt4
          obtain ⟨c99, h⟩ := am_grd h
          obtain ⟨f5, Ef5, h⟩ := am_let_eq h
          refine am_Ev.t hcd (c := am_in s3.1 5 = true) (s1 := (26, [(0, .ref 216), (1, .int a0), (2, .int a1), (3, .int s3.1)], [], am_SH, (g, f5))) (by subst Ef5; exact rfl) c99 ?_
          obtain ⟨t6, Et6, h⟩ := am_let_eq h
          refine am_Ev.go hcd 1 (s' := (27, [(0, .ref 216), (1, .int a0), (2, .int a1), (3, .int t6)], [], am_SH, (g, f5))) (by subst Et6; exact rfl) ?_
          refine am_Ev.go hcd 1 (s' := (14, [(0, .ref 216), (1, .int a0), (2, .int a1), (3, .int t6)], [], am_SH, (g, f5))) rfl ?_
          exact am_Ev.weak' (hI3 (t6, f5) (Option.some.inj h).symm) (am_sub_cons rfl (am_sub_cons rfl (am_sub_cons rfl (am_sub_cons rfl am_sub_nil)))) rfl
        have hLt4 : ∀ tt, tt = t4 → am_Ev sc (d + 1) 298 (25, [(0, .ref 216), (1, .int a0), (2, .int a1), (3, .int s3.1)], [.int (am_b tt), .int s3.1, .ref 235], am_SH, (g, s3.2)) ((some (.int r.1)), am_SH, (g, r.2)) := fun tt htt => by subst htt; exact hKt4
        have h := ht4
        refine am_Ev.go hcd 4 (s' := (21, [(0, .ref 216), (1, .int a0), (2, .int a1), (3, .int s3.1)], [.int s3.1, .int s3.1, .ref 235], am_SH, (g, s3.2))) rfl ?_
        rcases am_itv h with ⟨c108, h⟩ | ⟨c108, h⟩
        · refine am_Ev.t hcd (c := s3.1 = 0) (s1 := (22, [(0, .ref 216), (1, .int a0), (2, .int a1), (3, .int s3.1)], [.int s3.1, .ref 235], am_SH, (g, s3.2))) rfl c108 ?_
          refine am_Ev.go hcd 2 (s' := (25, [(0, .ref 216), (1, .int a0), (2, .int a1), (3, .int s3.1)], [.int 1, .int s3.1, .ref 235], am_SH, (g, s3.2))) rfl ?_
          exact am_Ev.weak' (hLt4 true h.symm) (am_sub_cons rfl (am_sub_cons rfl (am_sub_cons rfl (am_sub_cons rfl am_sub_nil)))) rfl
        · refine am_Ev.f hcd (c := s3.1 = 0) (s1 := (24, [(0, .ref 216), (1, .int a0), (2, .int a1), (3, .int s3.1)], [.int s3.1, .ref 235], am_SH, (g, s3.2))) rfl c108 ?_
          refine am_Ev.go hcd 1 (s' := (25, [(0, .ref 216), (1, .int a0), (2, .int a1), (3, .int s3.1)], [.int 0, .int s3.1, .ref 235], am_SH, (g, s3.2))) rfl ?_
          exact am_Ev.weak' (hLt4 false h.symm) (am_sub_cons rfl (am_sub_cons rfl (am_sub_cons rfl (am_sub_cons rfl am_sub_nil)))) rfl
      · refine am_Ev.f hcd (c := s3.1 < 5) (s1 := (28, [(0, .ref 216), (1, .int a0), (2, .int a1), (3, .int s3.1)], [], am_SH, (g, s3.2))) rfl c93 ?_
        exact am_Ev.weak' (hZ3 s3.2 (Option.some.inj h).symm) (am_sub_cons rfl (am_sub_cons rfl (am_sub_cons rfl am_sub_nil))) rfl
    · refine am_Ev.t hcd (c := am_b (m_isIn a1 1 5) = 0) (s1 := (10, [(0, .ref 216), (1, .int a0), (2, .int a1)], [], am_SH, (g, f))) rfl (am_b_f c8) ?_
      refine am_Ev.go hcd 1 (s' := (11, [(0, .ref 216), (1, .int a0), (2, .int a1)], [.int (-1)], am_SH, (g, f))) rfl ?_
      exact am_Ev.cast (a := ((some (.int ((-1), f).1)), am_SH, (g, ((-1), f).2))) (by cases h; rfl) (am_Ev.ret hcd rfl)
  · refine am_Ev.t hcd (c := am_b (m_isIn a0 0 60) = 0) (s1 := (10, [(0, .ref 216), (1, .int a0), (2, .int a1)], [], am_SH, (g, f))) rfl (am_b_f c4) ?_
    refine am_Ev.go hcd 1 (s' := (11, [(0, .ref 216), (1, .int a0), (2, .int a1)], [.int (-1)], am_SH, (g, f))) rfl ?_
    exact am_Ev.cast (a := ((some (.int ((-1), f).1)), am_SH, (g, ((-1), f).2))) (by cases h; rfl) (am_Ev.ret hcd rfl)
def m_dog (a0 : Int32) (f : (Nat → Nat → Int32)) : Option (Int32 × (Nat → Nat → Int32)) :=
  if a0 = (-1) then (
    (m_endsRow 506 f).bind fun p1 =>
    some (p1.1, p1.2))
  else (
    if (m_isIn a0 1 9999) = true then (
      (m_tellsOne 506 8 a0 f).bind fun p3 =>
      some (p3.1, p3.2))
    else (
      some ((-1), f)))
set_option maxRecDepth 100000 in
set_option maxHeartbeats 4000000 in
theorem m_dog_ok {sc : Nat × (Nat → Int32)} (d : Nat) (a0 : Int32) (f g : (Nat → Nat → Int32)) (r : Int32 × (Nat → Nat → Int32)) (h : m_dog a0 f = some r) : am_Ev sc (d + 1) 299 (0, [(0, .ref 216), (1, .int a0)], [], am_SH, (g, f)) ((some (.int r.1)), am_SH, (g, r.2)) := by
  have hcd : am_code 299 = am_c299 := rfl
  unfold m_dog at h
  refine am_Ev.go hcd 2 (s' := (2, [(0, .ref 216), (1, .int a0)], [.int (-1), .int a0], am_SH, (g, f))) rfl ?_
  rcases am_ite h with ⟨c2, h⟩ | ⟨c2, h⟩
  · refine am_Ev.t hcd (c := a0 = (-1)) (s1 := (3, [(0, .ref 216), (1, .int a0)], [], am_SH, (g, f))) rfl c2 ?_
    refine am_Ev.go hcd 2 (s' := (5, [(0, .ref 216), (1, .int a0)], [.int 506, .ref 216], am_SH, (g, f))) rfl ?_
    obtain ⟨p1, hp1, h⟩ := am_bind_some h
    refine am_Ev.call hcd (a := 262) (s0 := (0, [(0, .ref 216), (1, .int 506)], [], am_SH, (g, f))) (q := ((some (.int p1.1)), am_SH, (g, p1.2))) (s1 := (6, [(0, .ref 216), (1, .int a0)], [.int p1.1], am_SH, (g, p1.2))) rfl rfl (m_endsRow_ok (d) 506 f g p1 hp1) ?_
    refine am_Ev.go hcd 1 (s' := (19, [(0, .ref 216), (1, .int a0)], [.int p1.1], am_SH, (g, p1.2))) rfl ?_
    exact am_Ev.cast (a := ((some (.int (p1.1, p1.2).1)), am_SH, (g, (p1.1, p1.2).2))) (by cases h; rfl) (am_Ev.ret hcd rfl)
  · refine am_Ev.f hcd (c := a0 = (-1)) (s1 := (7, [(0, .ref 216), (1, .int a0)], [], am_SH, (g, f))) rfl c2 ?_
    refine am_Ev.go hcd 3 (s' := (10, [(0, .ref 216), (1, .int a0)], [.int 9999, .int 1, .int a0], am_SH, (g, f))) rfl ?_
    refine am_Ev.call hcd (a := 176) (s0 := (0, [(0, .int a0), (1, .int 1), (2, .int 9999)], [], am_SH, (g, f))) (q := ((some (.int (am_b (m_isIn a0 1 9999)))), am_SH, (g, f))) (s1 := (11, [(0, .ref 216), (1, .int a0)], [.int (am_b (m_isIn a0 1 9999))], am_SH, (g, f))) rfl rfl (m_isIn_ok (d) a0 1 9999 (g, f)) ?_
    rcases am_ite h with ⟨c13, h⟩ | ⟨c13, h⟩
    · refine am_Ev.f hcd (c := am_b (m_isIn a0 1 9999) = 0) (s1 := (12, [(0, .ref 216), (1, .int a0)], [], am_SH, (g, f))) rfl (am_b_t c13) ?_
      refine am_Ev.go hcd 4 (s' := (16, [(0, .ref 216), (1, .int a0)], [.int a0, .int 8, .int 506, .ref 216], am_SH, (g, f))) rfl ?_
      obtain ⟨p3, hp3, h⟩ := am_bind_some h
      refine am_Ev.call hcd (a := 260) (s0 := (0, [(0, .ref 216), (1, .int 506), (2, .int 8), (3, .int a0)], [], am_SH, (g, f))) (q := ((some (.int p3.1)), am_SH, (g, p3.2))) (s1 := (17, [(0, .ref 216), (1, .int a0)], [.int p3.1], am_SH, (g, p3.2))) rfl rfl (m_tellsOne_ok (d) 506 8 a0 f g p3 hp3) ?_
      refine am_Ev.go hcd 1 (s' := (19, [(0, .ref 216), (1, .int a0)], [.int p3.1], am_SH, (g, p3.2))) rfl ?_
      exact am_Ev.cast (a := ((some (.int (p3.1, p3.2).1)), am_SH, (g, (p3.1, p3.2).2))) (by cases h; rfl) (am_Ev.ret hcd rfl)
    · refine am_Ev.t hcd (c := am_b (m_isIn a0 1 9999) = 0) (s1 := (18, [(0, .ref 216), (1, .int a0)], [], am_SH, (g, f))) rfl (am_b_f c13) ?_
      refine am_Ev.go hcd 1 (s' := (19, [(0, .ref 216), (1, .int a0)], [.int (-1)], am_SH, (g, f))) rfl ?_
      exact am_Ev.cast (a := ((some (.int ((-1), f).1)), am_SH, (g, ((-1), f).2))) (by cases h; rfl) (am_Ev.ret hcd rfl)
def m_lettersOf (a0 : Int32)  : Int32 :=
  if 999 < a0 then (
    4)
  else (
    if 99 < a0 then (
      3)
    else (
      if 9 < a0 then (
        2)
      else (
        1)))
set_option maxRecDepth 100000 in
set_option maxHeartbeats 4000000 in
theorem m_lettersOf_ok {sc : Nat × (Nat → Int32)} (d : Nat) (a0 : Int32) (hp : am_H) : am_Ev sc (d) 300 (0, [(0, .int a0)], [], am_SH, hp) ((some (.int (m_lettersOf a0))), am_SH, hp) := by
  have hcd : am_code 300 = am_c300 := rfl
  obtain ⟨r, h⟩ : ∃ r, r = m_lettersOf a0 := ⟨_, rfl⟩
  rw [← h]
  unfold m_lettersOf at h
  refine am_Ev.go hcd 2 (s' := (2, [(0, .int a0)], [.int 999, .int a0], am_SH, hp)) rfl ?_
  rcases am_itv h with ⟨c4, h⟩ | ⟨c4, h⟩
  · refine am_Ev.t hcd (c := 999 < a0) (s1 := (3, [(0, .int a0)], [], am_SH, hp)) rfl c4 ?_
    refine am_Ev.go hcd 2 (s' := (16, [(0, .int a0)], [.int 4], am_SH, hp)) rfl ?_
    exact am_Ev.cast (a := ((some (.int 4)), am_SH, hp)) (by subst h; rfl) (am_Ev.ret hcd rfl)
  · refine am_Ev.f hcd (c := 999 < a0) (s1 := (5, [(0, .int a0)], [], am_SH, hp)) rfl c4 ?_
    refine am_Ev.go hcd 2 (s' := (7, [(0, .int a0)], [.int 99, .int a0], am_SH, hp)) rfl ?_
    rcases am_itv h with ⟨c10, h⟩ | ⟨c10, h⟩
    · refine am_Ev.t hcd (c := 99 < a0) (s1 := (8, [(0, .int a0)], [], am_SH, hp)) rfl c10 ?_
      refine am_Ev.go hcd 2 (s' := (16, [(0, .int a0)], [.int 3], am_SH, hp)) rfl ?_
      exact am_Ev.cast (a := ((some (.int 3)), am_SH, hp)) (by subst h; rfl) (am_Ev.ret hcd rfl)
    · refine am_Ev.f hcd (c := 99 < a0) (s1 := (10, [(0, .int a0)], [], am_SH, hp)) rfl c10 ?_
      refine am_Ev.go hcd 2 (s' := (12, [(0, .int a0)], [.int 9, .int a0], am_SH, hp)) rfl ?_
      rcases am_itv h with ⟨c16, h⟩ | ⟨c16, h⟩
      · refine am_Ev.t hcd (c := 9 < a0) (s1 := (13, [(0, .int a0)], [], am_SH, hp)) rfl c16 ?_
        refine am_Ev.go hcd 2 (s' := (16, [(0, .int a0)], [.int 2], am_SH, hp)) rfl ?_
        exact am_Ev.cast (a := ((some (.int 2)), am_SH, hp)) (by subst h; rfl) (am_Ev.ret hcd rfl)
      · refine am_Ev.f hcd (c := 9 < a0) (s1 := (15, [(0, .int a0)], [], am_SH, hp)) rfl c16 ?_
        refine am_Ev.go hcd 1 (s' := (16, [(0, .int a0)], [.int 1], am_SH, hp)) rfl ?_
        exact am_Ev.cast (a := ((some (.int 1)), am_SH, hp)) (by subst h; rfl) (am_Ev.ret hcd rfl)
def m_firstOf (a0 : Int32) (a1 : Int32) (f : (Nat → Nat → Int32)) : Option (Int32) :=
  if am_in (507 + a0) 2008 = true then (
  am_let (f 217 (507 + a0).toNatClampNeg : Int32) fun t1 =>
  if (m_lettersOf t1) < a1 then (
    some (100000 + t1))
  else (
    am_loop (fun (s3 : Int32 × Int32) => ((
      if a1 < s3.2 then (
        am_let (s3.2 + (-1) : Int32) fun t4 =>
        some (.inl ((s3.1 / 10), t4)))
      else (
        some (.inr s3.1))) : Option ((Int32 × Int32) ⊕ (Int32)))) am_F (t1, (m_lettersOf t1)))) else none
set_option maxRecDepth 100000 in
set_option maxHeartbeats 4000000 in
theorem m_firstOf_ok {sc : Nat × (Nat → Int32)} (d : Nat) (a0 : Int32) (a1 : Int32) (f g : (Nat → Nat → Int32)) (r : Int32) (h : m_firstOf a0 a1 f = some r) : am_Ev sc (d + 1) 301 (0, [(0, .ref 216), (1, .int a0), (2, .int a1)], [], am_SH, (g, f)) ((some (.int r)), am_SH, (g, f)) := by
  have hcd : am_code 301 = am_c301 := rfl
  unfold m_firstOf at h
  refine am_Ev.go hcd 5 (s' := (5, [(0, .ref 216), (1, .int a0), (2, .int a1)], [.int (507 + a0), .ref 217], am_SH, (g, f))) rfl ?_
  obtain ⟨c2, h⟩ := am_grd h
  refine am_Ev.t hcd (c := am_in (507 + a0) 2008 = true) (s1 := (6, [(0, .ref 216), (1, .int a0), (2, .int a1)], [.int (f 217 (507 + a0).toNatClampNeg)], am_SH, (g, f))) rfl c2 ?_
  obtain ⟨t1, Et1, h⟩ := am_let_eq h
  refine am_Ev.go hcd 1 (s' := (7, [(0, .ref 216), (1, .int a0), (2, .int a1), (3, .int t1)], [], am_SH, (g, f))) (by subst Et1; exact rfl) ?_
  refine am_Ev.go hcd 1 (s' := (8, [(0, .ref 216), (1, .int a0), (2, .int a1), (3, .int t1)], [.int t1], am_SH, (g, f))) rfl ?_
  refine am_Ev.call hcd (a := 300) (s0 := (0, [(0, .int t1)], [], am_SH, (g, f))) (q := ((some (.int (m_lettersOf t1))), am_SH, (g, f))) (s1 := (9, [(0, .ref 216), (1, .int a0), (2, .int a1), (3, .int t1)], [.int (m_lettersOf t1)], am_SH, (g, f))) rfl rfl (m_lettersOf_ok (d) t1 (g, f)) ?_
  refine am_Ev.go hcd 3 (s' := (12, [(0, .ref 216), (1, .int a0), (2, .int a1), (3, .int t1), (4, .int (m_lettersOf t1))], [.int (m_lettersOf t1), .int a1], am_SH, (g, f))) rfl ?_
  rcases am_ite h with ⟨c9, h⟩ | ⟨c9, h⟩
  · refine am_Ev.t hcd (c := (m_lettersOf t1) < a1) (s1 := (13, [(0, .ref 216), (1, .int a0), (2, .int a1), (3, .int t1), (4, .int (m_lettersOf t1))], [], am_SH, (g, f))) rfl c9 ?_
    refine am_Ev.go hcd 3 (s' := (16, [(0, .ref 216), (1, .int a0), (2, .int a1), (3, .int t1), (4, .int (m_lettersOf t1))], [.int (100000 + t1)], am_SH, (g, f))) rfl ?_
    exact am_Ev.cast (a := ((some (.int (100000 + t1))), am_SH, (g, f))) (by cases h; rfl) (am_Ev.ret hcd rfl)
  · refine am_Ev.f hcd (c := (m_lettersOf t1) < a1) (s1 := (17, [(0, .ref 216), (1, .int a0), (2, .int a1), (3, .int t1), (4, .int (m_lettersOf t1))], [], am_SH, (g, f))) rfl c9 ?_
    refine am_Ev.go hcd 4 (s' := (21, [(0, .ref 216), (1, .int a0), (2, .int a1), (3, .int t1), (4, .int (m_lettersOf t1)), (5, .int t1), (6, .int (m_lettersOf t1))], [], am_SH, (g, f))) rfl ?_
    refine am_Ev.weak' (am_loop_ok (G := fun (s3 : Int32 × Int32) => am_Ev sc (d + 1) 301 (21, [(2, .int a1), (5, .int s3.1), (6, .int s3.2)], [], am_SH, (g, f)) ((some (.int r)), am_SH, (g, f))) (Z := fun (v : Int32) => (((some (.int v)), am_SH, (g, f)) : am_R) = ((some (.int r)), am_SH, (g, f))) ?_ am_F (t1, (m_lettersOf t1)) r h rfl) (am_sub_cons rfl (am_sub_cons rfl (am_sub_cons rfl am_sub_nil))) rfl
    intro s3 q3 h hI3 hZ3
    show am_Ev sc (d + 1) 301 (21, [(2, .int a1), (5, .int s3.1), (6, .int s3.2)], [], am_SH, (g, f)) ((some (.int r)), am_SH, (g, f))
    refine am_Ev.go hcd 2 (s' := (23, [(2, .int a1), (5, .int s3.1), (6, .int s3.2)], [.int a1, .int s3.2], am_SH, (g, f))) rfl ?_
    rcases am_ite h with ⟨c19, h⟩ | ⟨c19, h⟩
    · refine am_Ev.t hcd (c := a1 < s3.2) (s1 := (24, [(2, .int a1), (5, .int s3.1), (6, .int s3.2)], [], am_SH, (g, f))) rfl c19 ?_
      obtain ⟨t4, Et4, h⟩ := am_let_eq h
      refine am_Ev.go hcd 5 (s' := (29, [(2, .int a1), (5, .int (s3.1 / 10)), (6, .int t4)], [], am_SH, (g, f))) (by subst Et4; exact rfl) ?_
      refine am_Ev.go hcd 1 (s' := (21, [(2, .int a1), (5, .int (s3.1 / 10)), (6, .int t4)], [], am_SH, (g, f))) rfl ?_
      exact am_Ev.weak' (hI3 ((s3.1 / 10), t4) (Option.some.inj h).symm) (am_sub_cons rfl (am_sub_cons rfl (am_sub_cons rfl am_sub_nil))) rfl
    · refine am_Ev.f hcd (c := a1 < s3.2) (s1 := (30, [(2, .int a1), (5, .int s3.1), (6, .int s3.2)], [], am_SH, (g, f))) rfl c19 ?_
      refine am_Ev.go hcd 1 (s' := (31, [(2, .int a1), (5, .int s3.1), (6, .int s3.2)], [.int s3.1], am_SH, (g, f))) rfl ?_
      exact am_Ev.cast (a := ((some (.int s3.1)), am_SH, (g, f))) (hZ3 _ (Option.some.inj h).symm) (am_Ev.ret hcd rfl)
def m_newOf (a0 : Int32) (f : (Nat → Nat → Int32)) : Option (Int32) :=
  am_loop (fun (s1 : Int32 × Int32) => ((
    if am_in (507 + a0) 2008 = true then (
    if (m_lettersOf (f 217 (507 + a0).toNatClampNeg)) < s1.2 then (
      some (.inr s1.1))
    else (
      (am_loop (fun (s3 : Int32 × Int32) => ((
        if s3.2 < a0 then (
          (m_firstOf s3.2 s1.2 f).bind fun p4 =>
          (m_firstOf a0 s1.2 f).bind fun p5 =>
          am_let ((if p4 = p5 then (
              false)
            else (
              true)) : Bool) fun t6 =>
          am_let (s3.2 + 1 : Int32) fun t7 =>
          some (.inl ((s3.1 &&& (am_b t6)), t7)))
        else (
          some (.inr s3.1))) : Option ((Int32 × Int32) ⊕ (Int32)))) am_F (1, 0)).bind fun e8 =>
      am_let ((if e8 = 0 then (
          false)
        else (
          true)) : Bool) fun t9 =>
      am_let (s1.2 + 1 : Int32) fun t10 =>
      some (.inl ((s1.1 + (am_b t9)), t10)))) else none) : Option ((Int32 × Int32) ⊕ (Int32)))) am_F (0, 1)
set_option maxRecDepth 100000 in
set_option maxHeartbeats 4000000 in
theorem m_newOf_ok {sc : Nat × (Nat → Int32)} (d : Nat) (a0 : Int32) (f g : (Nat → Nat → Int32)) (r : Int32) (h : m_newOf a0 f = some r) : am_Ev sc (d + 2) 303 (0, [(0, .ref 216), (1, .int a0)], [], am_SH, (g, f)) ((some (.int r)), am_SH, (g, f)) := by
  have hcd : am_code 303 = am_c303 := rfl
  unfold m_newOf at h
  refine am_Ev.go hcd 4 (s' := (4, [(0, .ref 216), (1, .int a0), (2, .int 0), (3, .int 1)], [], am_SH, (g, f))) rfl ?_
  refine am_Ev.weak' (am_loop_ok (G := fun (s1 : Int32 × Int32) => am_Ev sc (d + 2) 303 (4, [(0, .ref 216), (1, .int a0), (2, .int s1.1), (3, .int s1.2)], [], am_SH, (g, f)) ((some (.int r)), am_SH, (g, f))) (Z := fun (v : Int32) => (((some (.int v)), am_SH, (g, f)) : am_R) = ((some (.int r)), am_SH, (g, f))) ?_ am_F (0, 1) r h rfl) (am_sub_cons rfl (am_sub_cons rfl (am_sub_cons rfl (am_sub_cons rfl am_sub_nil)))) rfl
  intro s1 q1 h hI1 hZ1
  show am_Ev sc (d + 2) 303 (4, [(0, .ref 216), (1, .int a0), (2, .int s1.1), (3, .int s1.2)], [], am_SH, (g, f)) ((some (.int r)), am_SH, (g, f))
  refine am_Ev.go hcd 6 (s' := (10, [(0, .ref 216), (1, .int a0), (2, .int s1.1), (3, .int s1.2)], [.int (507 + a0), .ref 217, .int s1.2], am_SH, (g, f))) rfl ?_
  obtain ⟨c6, h⟩ := am_grd h
  refine am_Ev.t hcd (c := am_in (507 + a0) 2008 = true) (s1 := (11, [(0, .ref 216), (1, .int a0), (2, .int s1.1), (3, .int s1.2)], [.int (f 217 (507 + a0).toNatClampNeg), .int s1.2], am_SH, (g, f))) rfl c6 ?_
  refine am_Ev.call hcd (a := 300) (s0 := (0, [(0, .int (f 217 (507 + a0).toNatClampNeg))], [], am_SH, (g, f))) (q := ((some (.int (m_lettersOf (f 217 (507 + a0).toNatClampNeg)))), am_SH, (g, f))) (s1 := (12, [(0, .ref 216), (1, .int a0), (2, .int s1.1), (3, .int s1.2)], [.int (m_lettersOf (f 217 (507 + a0).toNatClampNeg)), .int s1.2], am_SH, (g, f))) rfl rfl (m_lettersOf_ok (d + 1) (f 217 (507 + a0).toNatClampNeg) (g, f)) ?_
  rcases am_ite h with ⟨c10, h⟩ | ⟨c10, h⟩
  · refine am_Ev.t hcd (c := (m_lettersOf (f 217 (507 + a0).toNatClampNeg)) < s1.2) (s1 := (47, [(0, .ref 216), (1, .int a0), (2, .int s1.1), (3, .int s1.2)], [], am_SH, (g, f))) rfl c10 ?_
    refine am_Ev.go hcd 1 (s' := (48, [(0, .ref 216), (1, .int a0), (2, .int s1.1), (3, .int s1.2)], [.int s1.1], am_SH, (g, f))) rfl ?_
    exact am_Ev.cast (a := ((some (.int s1.1)), am_SH, (g, f))) (hZ1 _ (Option.some.inj h).symm) (am_Ev.ret hcd rfl)
  · refine am_Ev.f hcd (c := (m_lettersOf (f 217 (507 + a0).toNatClampNeg)) < s1.2) (s1 := (13, [(0, .ref 216), (1, .int a0), (2, .int s1.1), (3, .int s1.2)], [], am_SH, (g, f))) rfl c10 ?_
    refine am_Ev.go hcd 4 (s' := (17, [(0, .ref 216), (1, .int a0), (2, .int s1.1), (3, .int s1.2), (4, .int 1), (5, .int 0)], [], am_SH, (g, f))) rfl ?_
    obtain ⟨e8, he8, h⟩ := am_bind_some h
    have hK3 : (fun (e8 : Int32) => am_Ev sc (d + 2) 303 (37, [(0, .ref 216), (1, .int a0), (2, .int s1.1), (3, .int s1.2), (4, .int e8)], [], am_SH, (g, f)) ((some (.int r)), am_SH, (g, f))) e8 := by
      show am_Ev sc (d + 2) 303 (37, [(0, .ref 216), (1, .int a0), (2, .int s1.1), (3, .int s1.2), (4, .int e8)], [], am_SH, (g, f)) ((some (.int r)), am_SH, (g, f))
      obtain ⟨t9, ht9, kt9⟩ := am_let_eq h
      have hKt9 : am_Ev sc (d + 2) 303 (43, [(0, .ref 216), (1, .int a0), (3, .int s1.2)], [.int (am_b t9), .int s1.1], am_SH, (g, f)) ((some (.int r)), am_SH, (g, f)) := by
        have h := kt9
        obtain ⟨t10, Et10, h⟩ := am_let_eq h
        refine am_Ev.go hcd 3 (s' := (46, [(0, .ref 216), (1, .int a0), (2, .int (s1.1 + (am_b t9))), (3, .int t10)], [], am_SH, (g, f))) (by subst Et10; exact rfl) ?_
        refine am_Ev.go hcd 1 (s' := (4, [(0, .ref 216), (1, .int a0), (2, .int (s1.1 + (am_b t9))), (3, .int t10)], [], am_SH, (g, f))) rfl ?_
        exact am_Ev.weak' (hI1 ((s1.1 + (am_b t9)), t10) (Option.some.inj h).symm) (am_sub_cons rfl (am_sub_cons rfl (am_sub_cons rfl (am_sub_cons rfl am_sub_nil)))) rfl
      have hLt9 : ∀ tt, tt = t9 → am_Ev sc (d + 2) 303 (43, [(0, .ref 216), (1, .int a0), (3, .int s1.2)], [.int (am_b tt), .int s1.1], am_SH, (g, f)) ((some (.int r)), am_SH, (g, f)) := fun tt htt => by subst htt; exact hKt9
      have h := ht9
      refine am_Ev.go hcd 2 (s' := (39, [(0, .ref 216), (1, .int a0), (2, .int s1.1), (3, .int s1.2), (4, .int e8)], [.int e8, .int s1.1], am_SH, (g, f))) rfl ?_
      rcases am_itv h with ⟨c28, h⟩ | ⟨c28, h⟩
      · refine am_Ev.t hcd (c := e8 = 0) (s1 := (42, [(0, .ref 216), (1, .int a0), (2, .int s1.1), (3, .int s1.2), (4, .int e8)], [.int s1.1], am_SH, (g, f))) rfl c28 ?_
        refine am_Ev.go hcd 1 (s' := (43, [(0, .ref 216), (1, .int a0), (2, .int s1.1), (3, .int s1.2), (4, .int e8)], [.int 0, .int s1.1], am_SH, (g, f))) rfl ?_
        exact am_Ev.weak' (hLt9 false h.symm) (am_sub_cons rfl (am_sub_cons rfl (am_sub_cons rfl am_sub_nil))) rfl
      · refine am_Ev.f hcd (c := e8 = 0) (s1 := (40, [(0, .ref 216), (1, .int a0), (2, .int s1.1), (3, .int s1.2), (4, .int e8)], [.int s1.1], am_SH, (g, f))) rfl c28 ?_
        refine am_Ev.go hcd 2 (s' := (43, [(0, .ref 216), (1, .int a0), (2, .int s1.1), (3, .int s1.2), (4, .int e8)], [.int 1, .int s1.1], am_SH, (g, f))) rfl ?_
        exact am_Ev.weak' (hLt9 true h.symm) (am_sub_cons rfl (am_sub_cons rfl (am_sub_cons rfl am_sub_nil))) rfl
    refine am_Ev.weak' (am_loop_ok (G := fun (s3 : Int32 × Int32) => am_Ev sc (d + 2) 303 (17, [(0, .ref 216), (1, .int a0), (2, .int s1.1), (3, .int s1.2), (4, .int s3.1), (5, .int s3.2)], [], am_SH, (g, f)) ((some (.int r)), am_SH, (g, f))) (Z := fun (e8 : Int32) => am_Ev sc (d + 2) 303 (37, [(0, .ref 216), (1, .int a0), (2, .int s1.1), (3, .int s1.2), (4, .int e8)], [], am_SH, (g, f)) ((some (.int r)), am_SH, (g, f))) ?_ am_F (1, 0) e8 he8 hK3) (am_sub_cons rfl (am_sub_cons rfl (am_sub_cons rfl (am_sub_cons rfl (am_sub_cons rfl (am_sub_cons rfl am_sub_nil)))))) rfl
    intro s3 q3 h hI3 hZ3
    show am_Ev sc (d + 2) 303 (17, [(0, .ref 216), (1, .int a0), (2, .int s1.1), (3, .int s1.2), (4, .int s3.1), (5, .int s3.2)], [], am_SH, (g, f)) ((some (.int r)), am_SH, (g, f))
    refine am_Ev.go hcd 2 (s' := (19, [(0, .ref 216), (1, .int a0), (2, .int s1.1), (3, .int s1.2), (4, .int s3.1), (5, .int s3.2)], [.int a0, .int s3.2], am_SH, (g, f))) rfl ?_
    rcases am_ite h with ⟨c39, h⟩ | ⟨c39, h⟩
    · refine am_Ev.t hcd (c := s3.2 < a0) (s1 := (20, [(0, .ref 216), (1, .int a0), (2, .int s1.1), (3, .int s1.2), (4, .int s3.1), (5, .int s3.2)], [], am_SH, (g, f))) rfl c39 ?_
      refine am_Ev.go hcd 4 (s' := (24, [(0, .ref 216), (1, .int a0), (2, .int s1.1), (3, .int s1.2), (4, .int s3.1), (5, .int s3.2)], [.int s1.2, .int s3.2, .ref 216, .int s3.1], am_SH, (g, f))) rfl ?_
      obtain ⟨p4, hp4, h⟩ := am_bind_some h
      refine am_Ev.call hcd (a := 301) (s0 := (0, [(0, .ref 216), (1, .int s3.2), (2, .int s1.2)], [], am_SH, (g, f))) (q := ((some (.int p4)), am_SH, (g, f))) (s1 := (25, [(0, .ref 216), (1, .int a0), (2, .int s1.1), (3, .int s1.2), (4, .int s3.1), (5, .int s3.2)], [.int p4, .int s3.1], am_SH, (g, f))) rfl rfl (m_firstOf_ok (d) s3.2 s1.2 f g p4 hp4) ?_
      refine am_Ev.go hcd 3 (s' := (28, [(0, .ref 216), (1, .int a0), (2, .int s1.1), (3, .int s1.2), (4, .int s3.1), (5, .int s3.2)], [.int s1.2, .int a0, .ref 216, .int p4, .int s3.1], am_SH, (g, f))) rfl ?_
      obtain ⟨p5, hp5, h⟩ := am_bind_some h
      refine am_Ev.call hcd (a := 301) (s0 := (0, [(0, .ref 216), (1, .int a0), (2, .int s1.2)], [], am_SH, (g, f))) (q := ((some (.int p5)), am_SH, (g, f))) (s1 := (29, [(0, .ref 216), (1, .int a0), (2, .int s1.1), (3, .int s1.2), (4, .int s3.1), (5, .int s3.2)], [.int p5, .int p4, .int s3.1], am_SH, (g, f))) rfl rfl (m_firstOf_ok (d) a0 s1.2 f g p5 hp5) ?_
      obtain ⟨t6, ht6, kt6⟩ := am_let_eq h
      have hKt6 : am_Ev sc (d + 2) 303 (33, [(0, .ref 216), (1, .int a0), (2, .int s1.1), (3, .int s1.2), (5, .int s3.2)], [.int (am_b t6), .int s3.1], am_SH, (g, f)) ((some (.int r)), am_SH, (g, f)) := by
        have h := kt6
        obtain ⟨t7, Et7, h⟩ := am_let_eq h
        refine am_Ev.go hcd 3 (s' := (36, [(0, .ref 216), (1, .int a0), (2, .int s1.1), (3, .int s1.2), (4, .int (s3.1 &&& (am_b t6))), (5, .int t7)], [], am_SH, (g, f))) (by subst Et7; exact rfl) ?_
        refine am_Ev.go hcd 1 (s' := (17, [(0, .ref 216), (1, .int a0), (2, .int s1.1), (3, .int s1.2), (4, .int (s3.1 &&& (am_b t6))), (5, .int t7)], [], am_SH, (g, f))) rfl ?_
        exact am_Ev.weak' (hI3 ((s3.1 &&& (am_b t6)), t7) (Option.some.inj h).symm) (am_sub_cons rfl (am_sub_cons rfl (am_sub_cons rfl (am_sub_cons rfl (am_sub_cons rfl (am_sub_cons rfl am_sub_nil)))))) rfl
      have hLt6 : ∀ tt, tt = t6 → am_Ev sc (d + 2) 303 (33, [(0, .ref 216), (1, .int a0), (2, .int s1.1), (3, .int s1.2), (5, .int s3.2)], [.int (am_b tt), .int s3.1], am_SH, (g, f)) ((some (.int r)), am_SH, (g, f)) := fun tt htt => by subst htt; exact hKt6
      have h := ht6
      rcases am_itv h with ⟨c57, h⟩ | ⟨c57, h⟩
      · refine am_Ev.t hcd (c := p4 = p5) (s1 := (32, [(0, .ref 216), (1, .int a0), (2, .int s1.1), (3, .int s1.2), (4, .int s3.1), (5, .int s3.2)], [.int s3.1], am_SH, (g, f))) rfl c57 ?_
        refine am_Ev.go hcd 1 (s' := (33, [(0, .ref 216), (1, .int a0), (2, .int s1.1), (3, .int s1.2), (4, .int s3.1), (5, .int s3.2)], [.int 0, .int s3.1], am_SH, (g, f))) rfl ?_
        exact am_Ev.weak' (hLt6 false h.symm) (am_sub_cons rfl (am_sub_cons rfl (am_sub_cons rfl (am_sub_cons rfl (am_sub_cons rfl am_sub_nil))))) rfl
      · refine am_Ev.f hcd (c := p4 = p5) (s1 := (30, [(0, .ref 216), (1, .int a0), (2, .int s1.1), (3, .int s1.2), (4, .int s3.1), (5, .int s3.2)], [.int s3.1], am_SH, (g, f))) rfl c57 ?_
        refine am_Ev.go hcd 2 (s' := (33, [(0, .ref 216), (1, .int a0), (2, .int s1.1), (3, .int s1.2), (4, .int s3.1), (5, .int s3.2)], [.int 1, .int s3.1], am_SH, (g, f))) rfl ?_
        exact am_Ev.weak' (hLt6 true h.symm) (am_sub_cons rfl (am_sub_cons rfl (am_sub_cons rfl (am_sub_cons rfl (am_sub_cons rfl am_sub_nil))))) rfl
    · refine am_Ev.f hcd (c := s3.2 < a0) (s1 := (37, [(0, .ref 216), (1, .int a0), (2, .int s1.1), (3, .int s1.2), (4, .int s3.1), (5, .int s3.2)], [], am_SH, (g, f))) rfl c39 ?_
      exact am_Ev.weak' (hZ3 s3.1 (Option.some.inj h).symm) (am_sub_cons rfl (am_sub_cons rfl (am_sub_cons rfl (am_sub_cons rfl (am_sub_cons rfl am_sub_nil))))) rfl
def m_areApartBy (a0 : Int32) (f : (Nat → Nat → Int32)) : Option (Bool) :=
  am_loop (fun (s1 : Int32) => ((
    if s1 < f 217 506 then (
      (am_loop (fun (s2 : Int32) => ((
        if s2 < s1 then (
          (m_firstOf s1 a0 f).bind fun p3 =>
          (m_firstOf s2 a0 f).bind fun p4 =>
          if p3 = p4 then (
            some (.inr (.inl false)))
          else (
            am_let (s2 + 1 : Int32) fun t5 =>
            some (.inl t5)))
        else (
          some (.inr (.inr ())))) : Option ((Int32) ⊕ ((Bool) ⊕ (Unit))))) am_F 0).bind fun e6 =>
      e6.elim (fun v => some (.inr v)) fun e7 =>
      am_let (s1 + 1 : Int32) fun t8 =>
      some (.inl t8))
    else (
      some (.inr true))) : Option ((Int32) ⊕ (Bool)))) am_F 0
set_option maxRecDepth 100000 in
set_option maxHeartbeats 4000000 in
theorem m_areApartBy_ok {sc : Nat × (Nat → Int32)} (d : Nat) (a0 : Int32) (f g : (Nat → Nat → Int32)) (r : Bool) (h : m_areApartBy a0 f = some r) : am_Ev sc (d + 2) 302 (0, [(0, .ref 216), (1, .int a0)], [], am_SH, (g, f)) ((some (.int (am_b r))), am_SH, (g, f)) := by
  have hcd : am_code 302 = am_c302 := rfl
  unfold m_areApartBy at h
  refine am_Ev.go hcd 2 (s' := (2, [(0, .ref 216), (1, .int a0), (2, .int 0)], [], am_SH, (g, f))) rfl ?_
  refine am_Ev.weak' (am_loop_ok (G := fun (s1 : Int32) => am_Ev sc (d + 2) 302 (2, [(0, .ref 216), (1, .int a0), (2, .int s1)], [], am_SH, (g, f)) ((some (.int (am_b r))), am_SH, (g, f))) (Z := fun (v : Bool) => (((some (.int (am_b v))), am_SH, (g, f)) : am_R) = ((some (.int (am_b r))), am_SH, (g, f))) ?_ am_F 0 r h rfl) (am_sub_cons rfl (am_sub_cons rfl (am_sub_cons rfl am_sub_nil))) rfl
  intro s1 q1 h hI1 hZ1
  show am_Ev sc (d + 2) 302 (2, [(0, .ref 216), (1, .int a0), (2, .int s1)], [], am_SH, (g, f)) ((some (.int (am_b r))), am_SH, (g, f))
  refine am_Ev.go hcd 5 (s' := (7, [(0, .ref 216), (1, .int a0), (2, .int s1)], [.int (f 217 506), .int s1], am_SH, (g, f))) rfl ?_
  rcases am_ite h with ⟨c6, h⟩ | ⟨c6, h⟩
  · refine am_Ev.t hcd (c := s1 < f 217 506) (s1 := (8, [(0, .ref 216), (1, .int a0), (2, .int s1)], [], am_SH, (g, f))) rfl c6 ?_
    refine am_Ev.go hcd 2 (s' := (10, [(0, .ref 216), (1, .int a0), (2, .int s1), (3, .int 0)], [], am_SH, (g, f))) rfl ?_
    obtain ⟨e6, he6, h⟩ := am_bind_some h
    have hK2 : (fun (v : (Bool) ⊕ (Unit)) => v.elim (fun (v : Bool) => (((some (.int (am_b v))), am_SH, (g, f)) : am_R) = ((some (.int (am_b r))), am_SH, (g, f))) (fun (e7 : Unit) => am_Ev sc (d + 2) 302 (26, [(0, .ref 216), (1, .int a0), (2, .int s1)], [], am_SH, (g, f)) ((some (.int (am_b r))), am_SH, (g, f)))) e6 := by
      cases e6 with
      | inl v => exact (hZ1 _ (Option.some.inj h).symm)
      | inr e7 =>
        show am_Ev sc (d + 2) 302 (26, [(0, .ref 216), (1, .int a0), (2, .int s1)], [], am_SH, (g, f)) ((some (.int (am_b r))), am_SH, (g, f))
        obtain ⟨t8, Et8, h⟩ := am_let_eq h
        refine am_Ev.go hcd 1 (s' := (27, [(0, .ref 216), (1, .int a0), (2, .int t8)], [], am_SH, (g, f))) (by subst Et8; exact rfl) ?_
        refine am_Ev.go hcd 1 (s' := (2, [(0, .ref 216), (1, .int a0), (2, .int t8)], [], am_SH, (g, f))) rfl ?_
        exact am_Ev.weak' (hI1 t8 (Option.some.inj h).symm) (am_sub_cons rfl (am_sub_cons rfl (am_sub_cons rfl am_sub_nil))) rfl
    refine am_Ev.weak' (am_loop_ok (G := fun (s2 : Int32) => am_Ev sc (d + 2) 302 (10, [(0, .ref 216), (1, .int a0), (2, .int s1), (3, .int s2)], [], am_SH, (g, f)) ((some (.int (am_b r))), am_SH, (g, f))) (Z := fun (v : (Bool) ⊕ (Unit)) => v.elim (fun (v : Bool) => (((some (.int (am_b v))), am_SH, (g, f)) : am_R) = ((some (.int (am_b r))), am_SH, (g, f))) (fun (e7 : Unit) => am_Ev sc (d + 2) 302 (26, [(0, .ref 216), (1, .int a0), (2, .int s1)], [], am_SH, (g, f)) ((some (.int (am_b r))), am_SH, (g, f)))) ?_ am_F 0 e6 he6 hK2) (am_sub_cons rfl (am_sub_cons rfl (am_sub_cons rfl (am_sub_cons rfl am_sub_nil)))) rfl
    intro s2 q2 h hI2 hZ2
    show am_Ev sc (d + 2) 302 (10, [(0, .ref 216), (1, .int a0), (2, .int s1), (3, .int s2)], [], am_SH, (g, f)) ((some (.int (am_b r))), am_SH, (g, f))
    refine am_Ev.go hcd 2 (s' := (12, [(0, .ref 216), (1, .int a0), (2, .int s1), (3, .int s2)], [.int s1, .int s2], am_SH, (g, f))) rfl ?_
    rcases am_ite h with ⟨c23, h⟩ | ⟨c23, h⟩
    · refine am_Ev.t hcd (c := s2 < s1) (s1 := (13, [(0, .ref 216), (1, .int a0), (2, .int s1), (3, .int s2)], [], am_SH, (g, f))) rfl c23 ?_
      refine am_Ev.go hcd 3 (s' := (16, [(0, .ref 216), (1, .int a0), (2, .int s1), (3, .int s2)], [.int a0, .int s1, .ref 216], am_SH, (g, f))) rfl ?_
      obtain ⟨p3, hp3, h⟩ := am_bind_some h
      refine am_Ev.call hcd (a := 301) (s0 := (0, [(0, .ref 216), (1, .int s1), (2, .int a0)], [], am_SH, (g, f))) (q := ((some (.int p3)), am_SH, (g, f))) (s1 := (17, [(0, .ref 216), (1, .int a0), (2, .int s1), (3, .int s2)], [.int p3], am_SH, (g, f))) rfl rfl (m_firstOf_ok (d) s1 a0 f g p3 hp3) ?_
      refine am_Ev.go hcd 3 (s' := (20, [(0, .ref 216), (1, .int a0), (2, .int s1), (3, .int s2)], [.int a0, .int s2, .ref 216, .int p3], am_SH, (g, f))) rfl ?_
      obtain ⟨p4, hp4, h⟩ := am_bind_some h
      refine am_Ev.call hcd (a := 301) (s0 := (0, [(0, .ref 216), (1, .int s2), (2, .int a0)], [], am_SH, (g, f))) (q := ((some (.int p4)), am_SH, (g, f))) (s1 := (21, [(0, .ref 216), (1, .int a0), (2, .int s1), (3, .int s2)], [.int p4, .int p3], am_SH, (g, f))) rfl rfl (m_firstOf_ok (d) s2 a0 f g p4 hp4) ?_
      rcases am_ite h with ⟨c32, h⟩ | ⟨c32, h⟩
      · refine am_Ev.t hcd (c := p3 = p4) (s1 := (22, [(0, .ref 216), (1, .int a0), (2, .int s1), (3, .int s2)], [], am_SH, (g, f))) rfl c32 ?_
        refine am_Ev.go hcd 1 (s' := (23, [(0, .ref 216), (1, .int a0), (2, .int s1), (3, .int s2)], [.int 0], am_SH, (g, f))) rfl ?_
        exact am_Ev.cast (a := ((some (.int (am_b false))), am_SH, (g, f))) (hZ2 _ (Option.some.inj h).symm) (am_Ev.ret hcd rfl)
      · refine am_Ev.f hcd (c := p3 = p4) (s1 := (24, [(0, .ref 216), (1, .int a0), (2, .int s1), (3, .int s2)], [], am_SH, (g, f))) rfl c32 ?_
        obtain ⟨t5, Et5, h⟩ := am_let_eq h
        refine am_Ev.go hcd 1 (s' := (25, [(0, .ref 216), (1, .int a0), (2, .int s1), (3, .int t5)], [], am_SH, (g, f))) (by subst Et5; exact rfl) ?_
        refine am_Ev.go hcd 1 (s' := (10, [(0, .ref 216), (1, .int a0), (2, .int s1), (3, .int t5)], [], am_SH, (g, f))) rfl ?_
        exact am_Ev.weak' (hI2 t5 (Option.some.inj h).symm) (am_sub_cons rfl (am_sub_cons rfl (am_sub_cons rfl (am_sub_cons rfl am_sub_nil)))) rfl
    · refine am_Ev.f hcd (c := s2 < s1) (s1 := (26, [(0, .ref 216), (1, .int a0), (2, .int s1), (3, .int s2)], [], am_SH, (g, f))) rfl c23 ?_
      exact am_Ev.weak' (hZ2 (.inr ()) (Option.some.inj h).symm) (am_sub_cons rfl (am_sub_cons rfl (am_sub_cons rfl am_sub_nil))) rfl
  · refine am_Ev.f hcd (c := s1 < f 217 506) (s1 := (28, [(0, .ref 216), (1, .int a0), (2, .int s1)], [], am_SH, (g, f))) rfl c6 ?_
    refine am_Ev.go hcd 1 (s' := (29, [(0, .ref 216), (1, .int a0), (2, .int s1)], [.int 1], am_SH, (g, f))) rfl ?_
    exact am_Ev.cast (a := ((some (.int (am_b true))), am_SH, (g, f))) (hZ1 _ (Option.some.inj h).symm) (am_Ev.ret hcd rfl)
def m_dogs (a0 : Int32) (f : (Nat → Nat → Int32)) : Option (Int32) :=
  if (m_isIn a0 0 1) = true then (
    if a0 = 1 then (
      am_loop (fun (s2 : Int32 × Int32) => ((
        if s2.2 < f 217 506 then (
          (m_newOf s2.2 f).bind fun p3 =>
          am_let (s2.2 + 1 : Int32) fun t4 =>
          some (.inl ((s2.1 + p3), t4)))
        else (
          some (.inr s2.1))) : Option ((Int32 × Int32) ⊕ (Int32)))) am_F (0, 0))
    else (
      if f 217 506 < 2 then (
        some 0)
      else (
        am_loop (fun (s6 : Int32) => ((
          if s6 < 6 then (
            (m_areApartBy s6 f).bind fun p7 =>
            if p7 = true then (
              some (.inr s6))
            else (
              am_let (s6 + 1 : Int32) fun t8 =>
              some (.inl t8)))
          else (
            some (.inr (-1)))) : Option ((Int32) ⊕ (Int32)))) am_F 1)))
  else (
    some (-1))
set_option maxRecDepth 100000 in
set_option maxHeartbeats 4000000 in
theorem m_dogs_ok {sc : Nat × (Nat → Int32)} (d : Nat) (a0 : Int32) (f g : (Nat → Nat → Int32)) (r : Int32) (h : m_dogs a0 f = some r) : am_Ev sc (d + 3) 304 (0, [(0, .ref 216), (1, .int a0)], [], am_SH, (g, f)) ((some (.int r)), am_SH, (g, f)) := by
  have hcd : am_code 304 = am_c304 := rfl
  unfold m_dogs at h
  refine am_Ev.go hcd 3 (s' := (3, [(0, .ref 216), (1, .int a0)], [.int 1, .int 0, .int a0], am_SH, (g, f))) rfl ?_
  refine am_Ev.call hcd (a := 176) (s0 := (0, [(0, .int a0), (1, .int 0), (2, .int 1)], [], am_SH, (g, f))) (q := ((some (.int (am_b (m_isIn a0 0 1)))), am_SH, (g, f))) (s1 := (4, [(0, .ref 216), (1, .int a0)], [.int (am_b (m_isIn a0 0 1))], am_SH, (g, f))) rfl rfl (m_isIn_ok (d + 2) a0 0 1 (g, f)) ?_
  rcases am_ite h with ⟨c4, h⟩ | ⟨c4, h⟩
  · refine am_Ev.f hcd (c := am_b (m_isIn a0 0 1) = 0) (s1 := (7, [(0, .ref 216), (1, .int a0)], [], am_SH, (g, f))) rfl (am_b_t c4) ?_
    refine am_Ev.go hcd 2 (s' := (9, [(0, .ref 216), (1, .int a0)], [.int 1, .int a0], am_SH, (g, f))) rfl ?_
    rcases am_ite h with ⟨c6, h⟩ | ⟨c6, h⟩
    · refine am_Ev.t hcd (c := a0 = 1) (s1 := (10, [(0, .ref 216), (1, .int a0)], [], am_SH, (g, f))) rfl c6 ?_
      refine am_Ev.go hcd 4 (s' := (14, [(0, .ref 216), (1, .int a0), (2, .int 0), (3, .int 0)], [], am_SH, (g, f))) rfl ?_
      refine am_Ev.weak' (am_loop_ok (G := fun (s2 : Int32 × Int32) => am_Ev sc (d + 3) 304 (14, [(0, .ref 216), (2, .int s2.1), (3, .int s2.2)], [], am_SH, (g, f)) ((some (.int r)), am_SH, (g, f))) (Z := fun (v : Int32) => (((some (.int v)), am_SH, (g, f)) : am_R) = ((some (.int r)), am_SH, (g, f))) ?_ am_F (0, 0) r h rfl) (am_sub_cons rfl (am_sub_cons rfl (am_sub_cons rfl am_sub_nil))) rfl
      intro s2 q2 h hI2 hZ2
      show am_Ev sc (d + 3) 304 (14, [(0, .ref 216), (2, .int s2.1), (3, .int s2.2)], [], am_SH, (g, f)) ((some (.int r)), am_SH, (g, f))
      refine am_Ev.go hcd 5 (s' := (19, [(0, .ref 216), (2, .int s2.1), (3, .int s2.2)], [.int (f 217 506), .int s2.2], am_SH, (g, f))) rfl ?_
      rcases am_ite h with ⟨c13, h⟩ | ⟨c13, h⟩
      · refine am_Ev.t hcd (c := s2.2 < f 217 506) (s1 := (20, [(0, .ref 216), (2, .int s2.1), (3, .int s2.2)], [], am_SH, (g, f))) rfl c13 ?_
        refine am_Ev.go hcd 3 (s' := (23, [(0, .ref 216), (2, .int s2.1), (3, .int s2.2)], [.int s2.2, .ref 216, .int s2.1], am_SH, (g, f))) rfl ?_
        obtain ⟨p3, hp3, h⟩ := am_bind_some h
        refine am_Ev.call hcd (a := 303) (s0 := (0, [(0, .ref 216), (1, .int s2.2)], [], am_SH, (g, f))) (q := ((some (.int p3)), am_SH, (g, f))) (s1 := (24, [(0, .ref 216), (2, .int s2.1), (3, .int s2.2)], [.int p3, .int s2.1], am_SH, (g, f))) rfl rfl (m_newOf_ok (d) s2.2 f g p3 hp3) ?_
        obtain ⟨t4, Et4, h⟩ := am_let_eq h
        refine am_Ev.go hcd 3 (s' := (27, [(0, .ref 216), (2, .int (s2.1 + p3)), (3, .int t4)], [], am_SH, (g, f))) (by subst Et4; exact rfl) ?_
        refine am_Ev.go hcd 1 (s' := (14, [(0, .ref 216), (2, .int (s2.1 + p3)), (3, .int t4)], [], am_SH, (g, f))) rfl ?_
        exact am_Ev.weak' (hI2 ((s2.1 + p3), t4) (Option.some.inj h).symm) (am_sub_cons rfl (am_sub_cons rfl (am_sub_cons rfl am_sub_nil))) rfl
      · refine am_Ev.f hcd (c := s2.2 < f 217 506) (s1 := (28, [(0, .ref 216), (2, .int s2.1), (3, .int s2.2)], [], am_SH, (g, f))) rfl c13 ?_
        refine am_Ev.go hcd 1 (s' := (29, [(0, .ref 216), (2, .int s2.1), (3, .int s2.2)], [.int s2.1], am_SH, (g, f))) rfl ?_
        exact am_Ev.cast (a := ((some (.int s2.1)), am_SH, (g, f))) (hZ2 _ (Option.some.inj h).symm) (am_Ev.ret hcd rfl)
    · refine am_Ev.f hcd (c := a0 = 1) (s1 := (30, [(0, .ref 216), (1, .int a0)], [], am_SH, (g, f))) rfl c6 ?_
      refine am_Ev.go hcd 5 (s' := (35, [(0, .ref 216), (1, .int a0)], [.int 2, .int (f 217 506)], am_SH, (g, f))) rfl ?_
      rcases am_ite h with ⟨c27, h⟩ | ⟨c27, h⟩
      · refine am_Ev.t hcd (c := f 217 506 < 2) (s1 := (36, [(0, .ref 216), (1, .int a0)], [], am_SH, (g, f))) rfl c27 ?_
        refine am_Ev.go hcd 1 (s' := (37, [(0, .ref 216), (1, .int a0)], [.int 0], am_SH, (g, f))) rfl ?_
        exact am_Ev.cast (a := ((some (.int 0)), am_SH, (g, f))) (by cases h; rfl) (am_Ev.ret hcd rfl)
      · refine am_Ev.f hcd (c := f 217 506 < 2) (s1 := (38, [(0, .ref 216), (1, .int a0)], [], am_SH, (g, f))) rfl c27 ?_
        refine am_Ev.go hcd 2 (s' := (40, [(0, .ref 216), (1, .int a0), (2, .int 1)], [], am_SH, (g, f))) rfl ?_
        refine am_Ev.weak' (am_loop_ok (G := fun (s6 : Int32) => am_Ev sc (d + 3) 304 (40, [(0, .ref 216), (2, .int s6)], [], am_SH, (g, f)) ((some (.int r)), am_SH, (g, f))) (Z := fun (v : Int32) => (((some (.int v)), am_SH, (g, f)) : am_R) = ((some (.int r)), am_SH, (g, f))) ?_ am_F 1 r h rfl) (am_sub_cons rfl (am_sub_cons rfl am_sub_nil)) rfl
        intro s6 q6 h hI6 hZ6
        show am_Ev sc (d + 3) 304 (40, [(0, .ref 216), (2, .int s6)], [], am_SH, (g, f)) ((some (.int r)), am_SH, (g, f))
        refine am_Ev.go hcd 2 (s' := (42, [(0, .ref 216), (2, .int s6)], [.int 6, .int s6], am_SH, (g, f))) rfl ?_
        rcases am_ite h with ⟨c37, h⟩ | ⟨c37, h⟩
        · refine am_Ev.t hcd (c := s6 < 6) (s1 := (43, [(0, .ref 216), (2, .int s6)], [], am_SH, (g, f))) rfl c37 ?_
          refine am_Ev.go hcd 2 (s' := (45, [(0, .ref 216), (2, .int s6)], [.int s6, .ref 216], am_SH, (g, f))) rfl ?_
          obtain ⟨p7, hp7, h⟩ := am_bind_some h
          refine am_Ev.call hcd (a := 302) (s0 := (0, [(0, .ref 216), (1, .int s6)], [], am_SH, (g, f))) (q := ((some (.int (am_b p7))), am_SH, (g, f))) (s1 := (46, [(0, .ref 216), (2, .int s6)], [.int (am_b p7)], am_SH, (g, f))) rfl rfl (m_areApartBy_ok (d) s6 f g p7 hp7) ?_
          rcases am_ite h with ⟨c43, h⟩ | ⟨c43, h⟩
          · refine am_Ev.f hcd (c := am_b p7 = 0) (s1 := (47, [(0, .ref 216), (2, .int s6)], [], am_SH, (g, f))) rfl (am_b_t c43) ?_
            refine am_Ev.go hcd 1 (s' := (48, [(0, .ref 216), (2, .int s6)], [.int s6], am_SH, (g, f))) rfl ?_
            exact am_Ev.cast (a := ((some (.int s6)), am_SH, (g, f))) (hZ6 _ (Option.some.inj h).symm) (am_Ev.ret hcd rfl)
          · refine am_Ev.t hcd (c := am_b p7 = 0) (s1 := (49, [(0, .ref 216), (2, .int s6)], [], am_SH, (g, f))) rfl (am_b_f c43) ?_
            obtain ⟨t8, Et8, h⟩ := am_let_eq h
            refine am_Ev.go hcd 1 (s' := (50, [(0, .ref 216), (2, .int t8)], [], am_SH, (g, f))) (by subst Et8; exact rfl) ?_
            refine am_Ev.go hcd 1 (s' := (40, [(0, .ref 216), (2, .int t8)], [], am_SH, (g, f))) rfl ?_
            exact am_Ev.weak' (hI6 t8 (Option.some.inj h).symm) (am_sub_cons rfl (am_sub_cons rfl am_sub_nil)) rfl
        · refine am_Ev.f hcd (c := s6 < 6) (s1 := (51, [(0, .ref 216), (2, .int s6)], [], am_SH, (g, f))) rfl c37 ?_
          refine am_Ev.go hcd 1 (s' := (52, [(0, .ref 216), (2, .int s6)], [.int (-1)], am_SH, (g, f))) rfl ?_
          exact am_Ev.cast (a := ((some (.int (-1))), am_SH, (g, f))) (hZ6 _ (Option.some.inj h).symm) (am_Ev.ret hcd rfl)
  · refine am_Ev.t hcd (c := am_b (m_isIn a0 0 1) = 0) (s1 := (5, [(0, .ref 216), (1, .int a0)], [], am_SH, (g, f))) rfl (am_b_f c4) ?_
    refine am_Ev.go hcd 1 (s' := (6, [(0, .ref 216), (1, .int a0)], [.int (-1)], am_SH, (g, f))) rfl ?_
    exact am_Ev.cast (a := ((some (.int (-1))), am_SH, (g, f))) (by cases h; rfl) (am_Ev.ret hcd rfl)
