def m_product (f : (Nat → Nat → Int32)) : Option (Bool × (Nat → Nat → Int32)) :=
  (m_unit  f).bind fun p1 =>
  if p1.1 = true then (
    (am_loop (fun (s2 : (Nat → Nat → Int32)) => ((
      if s2 216 18 = 142 then (
        am_let ((if s2 216 18 = 147 then (
            true)
          else (
            false)) : Bool) fun t3 =>
        (m_next0  s2).bind fun p4 =>
        if t3 = true then (
          am_let (p4 216 20 : Int32) fun t5 =>
          if p4 216 18 = 2 then (
            if t5 = 0 then (
              am_let (m_bad 2 p4) fun p6 =>
              some (.inr (.inl (p6.1, p6.2))))
            else (
              (m_next0  p4).bind fun p7 =>
              (m_lay 26 t5 p7).bind fun p8 =>
              some (.inl p8)))
          else (
            am_let (m_bad 1 p4) fun p9 =>
            some (.inr (.inl (p9.1, p9.2)))))
        else (
          (m_unit  p4).bind fun p10 =>
          if p10.1 = true then (
            (m_lay 25 0 p10.2).bind fun p11 =>
            some (.inl p11))
          else (
            some (.inr (.inl (false, p10.2))))))
      else (
        if s2 216 18 = 147 then (
          am_let ((if s2 216 18 = 147 then (
              true)
            else (
              false)) : Bool) fun t12 =>
          (m_next0  s2).bind fun p13 =>
          if t12 = true then (
            am_let (p13 216 20 : Int32) fun t14 =>
            if p13 216 18 = 2 then (
              if t14 = 0 then (
                am_let (m_bad 2 p13) fun p15 =>
                some (.inr (.inl (p15.1, p15.2))))
              else (
                (m_next0  p13).bind fun p16 =>
                (m_lay 26 t14 p16).bind fun p17 =>
                some (.inl p17)))
            else (
              am_let (m_bad 1 p13) fun p18 =>
              some (.inr (.inl (p18.1, p18.2)))))
          else (
            (m_unit  p13).bind fun p19 =>
            if p19.1 = true then (
              (m_lay 25 0 p19.2).bind fun p20 =>
              some (.inl p20))
            else (
              some (.inr (.inl (false, p19.2))))))
        else (
          some (.inr (.inr s2))))) : Option (((Nat → Nat → Int32)) ⊕ ((Bool × (Nat → Nat → Int32)) ⊕ ((Nat → Nat → Int32)))))) am_F p1.2).bind fun e21 =>
    e21.elim (fun v => some v) fun e22 =>
    some (true, e22))
  else (
    some (false, p1.2))
set_option maxRecDepth 100000 in
set_option maxHeartbeats 4000000 in
theorem m_product_ok {sc : Nat × (Nat → Int32)} (d : Nat)  (f g : (Nat → Nat → Int32)) (r : Bool × (Nat → Nat → Int32)) (h : m_product  f = some r) : am_Ev sc (d + 7) 206 (0, [(0, .ref 216)], [], am_SH, (g, f)) ((some (.int (am_b r.1))), am_SH, (g, r.2)) := by
  have hcd : am_code 206 = am_c206 := rfl
  unfold m_product at h
  refine am_Ev.go hcd 1 (s' := (1, [(0, .ref 216)], [.ref 216], am_SH, (g, f))) rfl ?_
  obtain ⟨p1, hp1, h⟩ := am_bind_some h
  refine am_Ev.call hcd (a := 207) (s0 := (0, [(0, .ref 216)], [], am_SH, (g, f))) (q := ((some (.int (am_b p1.1))), am_SH, (g, p1.2))) (s1 := (2, [(0, .ref 216)], [.int (am_b p1.1)], am_SH, (g, p1.2))) rfl rfl (m_unit_ok (d)  f g p1 hp1) ?_
  rcases am_ite h with ⟨c5, h⟩ | ⟨c5, h⟩
  · refine am_Ev.f hcd (c := am_b p1.1 = 0) (s1 := (5, [(0, .ref 216)], [], am_SH, (g, p1.2))) rfl (am_b_t c5) ?_
    obtain ⟨e21, he21, h⟩ := am_bind_some h
    have hK2 : (fun (v : (Bool × (Nat → Nat → Int32)) ⊕ ((Nat → Nat → Int32))) => v.elim (fun (v : Bool × (Nat → Nat → Int32)) => (((some (.int (am_b v.1))), am_SH, (g, v.2)) : am_R) = ((some (.int (am_b r.1))), am_SH, (g, r.2))) (fun (e22 : (Nat → Nat → Int32)) => am_Ev sc (d + 7) 206 (59, [], [], am_SH, (g, e22)) ((some (.int (am_b r.1))), am_SH, (g, r.2)))) e21 := by
      cases e21 with
      | inl v => exact (by cases h; rfl)
      | inr e22 =>
        show am_Ev sc (d + 7) 206 (59, [], [], am_SH, (g, e22)) ((some (.int (am_b r.1))), am_SH, (g, r.2))
        refine am_Ev.go hcd 1 (s' := (60, [], [.int 1], am_SH, (g, e22))) rfl ?_
        exact am_Ev.cast (a := ((some (.int (am_b (true, e22).1))), am_SH, (g, (true, e22).2))) (by cases h; rfl) (am_Ev.ret hcd rfl)
    refine am_Ev.weak' (am_loop_ok (G := fun (s2 : (Nat → Nat → Int32)) => am_Ev sc (d + 7) 206 (5, [(0, .ref 216)], [], am_SH, (g, s2)) ((some (.int (am_b r.1))), am_SH, (g, r.2))) (Z := fun (v : (Bool × (Nat → Nat → Int32)) ⊕ ((Nat → Nat → Int32))) => v.elim (fun (v : Bool × (Nat → Nat → Int32)) => (((some (.int (am_b v.1))), am_SH, (g, v.2)) : am_R) = ((some (.int (am_b r.1))), am_SH, (g, r.2))) (fun (e22 : (Nat → Nat → Int32)) => am_Ev sc (d + 7) 206 (59, [], [], am_SH, (g, e22)) ((some (.int (am_b r.1))), am_SH, (g, r.2)))) ?_ am_F p1.2 e21 he21 hK2) (am_sub_cons rfl am_sub_nil) rfl
    intro s2 q2 h hI2 hZ2
    show am_Ev sc (d + 7) 206 (5, [(0, .ref 216)], [], am_SH, (g, s2)) ((some (.int (am_b r.1))), am_SH, (g, r.2))
    refine am_Ev.go hcd 3 (s' := (8, [(0, .ref 216)], [.int 142, .int (s2 216 18)], am_SH, (g, s2))) rfl ?_
    rcases am_ite h with ⟨c18, h⟩ | ⟨c18, h⟩
    · refine am_Ev.t hcd (c := s2 216 18 = 142) (s1 := (13, [(0, .ref 216)], [], am_SH, (g, s2))) rfl c18 ?_
      obtain ⟨t3, ht3, kt3⟩ := am_let_eq h
      have hKt3 : am_Ev sc (d + 7) 206 (20, [(0, .ref 216)], [.int (am_b t3)], am_SH, (g, s2)) ((some (.int (am_b r.1))), am_SH, (g, r.2)) := by
        have h := kt3
        refine am_Ev.go hcd 2 (s' := (22, [(0, .ref 216), (1, .int (am_b t3))], [.ref 216], am_SH, (g, s2))) rfl ?_
        obtain ⟨p4, hp4, h⟩ := am_bind_some h
        refine am_Ev.call hcd (a := 200) (s0 := (0, [(0, .ref 216)], [], am_SH, (g, s2))) (q := (none, am_SH, (g, p4))) (s1 := (23, [(0, .ref 216), (1, .int (am_b t3))], [], am_SH, (g, p4))) rfl rfl (m_next0_ok (d + 1)  s2 g p4 hp4) ?_
        refine am_Ev.go hcd 1 (s' := (24, [(0, .ref 216), (1, .int (am_b t3))], [.int (am_b t3)], am_SH, (g, p4))) rfl ?_
        rcases am_ite h with ⟨c27, h⟩ | ⟨c27, h⟩
        · refine am_Ev.f hcd (c := am_b t3 = 0) (s1 := (25, [(0, .ref 216), (1, .int (am_b t3))], [], am_SH, (g, p4))) rfl (am_b_t c27) ?_
          obtain ⟨t5, Et5, h⟩ := am_let_eq h
          refine am_Ev.go hcd 3 (s' := (28, [(0, .ref 216), (1, .int (am_b t3)), (2, .int t5)], [], am_SH, (g, p4))) (by subst Et5; exact rfl) ?_
          refine am_Ev.go hcd 3 (s' := (31, [(0, .ref 216), (1, .int (am_b t3)), (2, .int t5)], [.int 2, .int (p4 216 18)], am_SH, (g, p4))) rfl ?_
          rcases am_ite h with ⟨c32, h⟩ | ⟨c32, h⟩
          · refine am_Ev.t hcd (c := p4 216 18 = 2) (s1 := (36, [(0, .ref 216), (1, .int (am_b t3)), (2, .int t5)], [], am_SH, (g, p4))) rfl c32 ?_
            refine am_Ev.go hcd 1 (s' := (37, [(0, .ref 216), (1, .int (am_b t3)), (2, .int t5)], [.int t5], am_SH, (g, p4))) rfl ?_
            rcases am_ite h with ⟨c35, h⟩ | ⟨c35, h⟩
            · refine am_Ev.t hcd (c := t5 = 0) (s1 := (38, [(0, .ref 216), (1, .int (am_b t3)), (2, .int t5)], [], am_SH, (g, p4))) rfl c35 ?_
              refine am_Ev.go hcd 2 (s' := (40, [(0, .ref 216), (1, .int (am_b t3)), (2, .int t5)], [.int 2, .ref 216], am_SH, (g, p4))) rfl ?_
              obtain ⟨p6, Ep6, h⟩ := am_let_eq h
              refine am_Ev.call hcd (a := 201) (s0 := (0, [(0, .ref 216), (1, .int 2)], [], am_SH, (g, p4))) (q := ((some (.int (am_b p6.1))), am_SH, (g, p6.2))) (s1 := (41, [(0, .ref 216), (1, .int (am_b t3)), (2, .int t5)], [.int (am_b p6.1)], am_SH, (g, p6.2))) rfl rfl (by subst Ep6; exact m_bad_ok (d + 6) 2 p4 g) ?_
              exact am_Ev.cast (a := ((some (.int (am_b (p6.1, p6.2).1))), am_SH, (g, (p6.1, p6.2).2))) (hZ2 _ (Option.some.inj h).symm) (am_Ev.retb hcd rfl)
            · refine am_Ev.f hcd (c := t5 = 0) (s1 := (42, [(0, .ref 216), (1, .int (am_b t3)), (2, .int t5)], [], am_SH, (g, p4))) rfl c35 ?_
              refine am_Ev.go hcd 1 (s' := (43, [(0, .ref 216), (1, .int (am_b t3)), (2, .int t5)], [.ref 216], am_SH, (g, p4))) rfl ?_
              obtain ⟨p7, hp7, h⟩ := am_bind_some h
              refine am_Ev.call hcd (a := 200) (s0 := (0, [(0, .ref 216)], [], am_SH, (g, p4))) (q := (none, am_SH, (g, p7))) (s1 := (44, [(0, .ref 216), (1, .int (am_b t3)), (2, .int t5)], [], am_SH, (g, p7))) rfl rfl (m_next0_ok (d + 1)  p4 g p7 hp7) ?_
              refine am_Ev.go hcd 3 (s' := (47, [(0, .ref 216), (1, .int (am_b t3)), (2, .int t5)], [.int t5, .int 26, .ref 216], am_SH, (g, p7))) rfl ?_
              obtain ⟨p8, hp8, h⟩ := am_bind_some h
              refine am_Ev.call hcd (a := 203) (s0 := (0, [(0, .ref 216), (1, .int 26), (2, .int t5)], [], am_SH, (g, p7))) (q := (none, am_SH, (g, p8))) (s1 := (48, [(0, .ref 216), (1, .int (am_b t3)), (2, .int t5)], [], am_SH, (g, p8))) rfl rfl (m_lay_ok (d + 6) 26 t5 p7 g p8 hp8) ?_
              refine am_Ev.go hcd 2 (s' := (5, [(0, .ref 216), (1, .int (am_b t3)), (2, .int t5)], [], am_SH, (g, p8))) rfl ?_
              exact am_Ev.weak' (hI2 p8 (Option.some.inj h).symm) (am_sub_cons rfl am_sub_nil) rfl
          · refine am_Ev.f hcd (c := p4 216 18 = 2) (s1 := (32, [(0, .ref 216), (1, .int (am_b t3)), (2, .int t5)], [], am_SH, (g, p4))) rfl c32 ?_
            refine am_Ev.go hcd 2 (s' := (34, [(0, .ref 216), (1, .int (am_b t3)), (2, .int t5)], [.int 1, .ref 216], am_SH, (g, p4))) rfl ?_
            obtain ⟨p9, Ep9, h⟩ := am_let_eq h
            refine am_Ev.call hcd (a := 201) (s0 := (0, [(0, .ref 216), (1, .int 1)], [], am_SH, (g, p4))) (q := ((some (.int (am_b p9.1))), am_SH, (g, p9.2))) (s1 := (35, [(0, .ref 216), (1, .int (am_b t3)), (2, .int t5)], [.int (am_b p9.1)], am_SH, (g, p9.2))) rfl rfl (by subst Ep9; exact m_bad_ok (d + 6) 1 p4 g) ?_
            exact am_Ev.cast (a := ((some (.int (am_b (p9.1, p9.2).1))), am_SH, (g, (p9.1, p9.2).2))) (hZ2 _ (Option.some.inj h).symm) (am_Ev.retb hcd rfl)
        · refine am_Ev.t hcd (c := am_b t3 = 0) (s1 := (49, [(0, .ref 216), (1, .int (am_b t3))], [], am_SH, (g, p4))) rfl (am_b_f c27) ?_
          refine am_Ev.go hcd 1 (s' := (50, [(0, .ref 216), (1, .int (am_b t3))], [.ref 216], am_SH, (g, p4))) rfl ?_
          obtain ⟨p10, hp10, h⟩ := am_bind_some h
          refine am_Ev.call hcd (a := 207) (s0 := (0, [(0, .ref 216)], [], am_SH, (g, p4))) (q := ((some (.int (am_b p10.1))), am_SH, (g, p10.2))) (s1 := (51, [(0, .ref 216), (1, .int (am_b t3))], [.int (am_b p10.1)], am_SH, (g, p10.2))) rfl rfl (m_unit_ok (d)  p4 g p10 hp10) ?_
          rcases am_ite h with ⟨c60, h⟩ | ⟨c60, h⟩
          · refine am_Ev.f hcd (c := am_b p10.1 = 0) (s1 := (54, [(0, .ref 216), (1, .int (am_b t3))], [], am_SH, (g, p10.2))) rfl (am_b_t c60) ?_
            refine am_Ev.go hcd 3 (s' := (57, [(0, .ref 216), (1, .int (am_b t3))], [.int 0, .int 25, .ref 216], am_SH, (g, p10.2))) rfl ?_
            obtain ⟨p11, hp11, h⟩ := am_bind_some h
            refine am_Ev.call hcd (a := 203) (s0 := (0, [(0, .ref 216), (1, .int 25), (2, .int 0)], [], am_SH, (g, p10.2))) (q := (none, am_SH, (g, p11))) (s1 := (58, [(0, .ref 216), (1, .int (am_b t3))], [], am_SH, (g, p11))) rfl rfl (m_lay_ok (d + 6) 25 0 p10.2 g p11 hp11) ?_
            refine am_Ev.go hcd 1 (s' := (5, [(0, .ref 216), (1, .int (am_b t3))], [], am_SH, (g, p11))) rfl ?_
            exact am_Ev.weak' (hI2 p11 (Option.some.inj h).symm) (am_sub_cons rfl am_sub_nil) rfl
          · refine am_Ev.t hcd (c := am_b p10.1 = 0) (s1 := (52, [(0, .ref 216), (1, .int (am_b t3))], [], am_SH, (g, p10.2))) rfl (am_b_f c60) ?_
            refine am_Ev.go hcd 1 (s' := (53, [(0, .ref 216), (1, .int (am_b t3))], [.int 0], am_SH, (g, p10.2))) rfl ?_
            exact am_Ev.cast (a := ((some (.int (am_b (false, p10.2).1))), am_SH, (g, (false, p10.2).2))) (hZ2 _ (Option.some.inj h).symm) (am_Ev.ret hcd rfl)
      have hLt3 : ∀ tt, tt = t3 → am_Ev sc (d + 7) 206 (20, [(0, .ref 216)], [.int (am_b tt)], am_SH, (g, s2)) ((some (.int (am_b r.1))), am_SH, (g, r.2)) := fun tt htt => by subst htt; exact hKt3
      have h := ht3
      refine am_Ev.go hcd 3 (s' := (16, [(0, .ref 216)], [.int 147, .int (s2 216 18)], am_SH, (g, s2))) rfl ?_
      rcases am_itv h with ⟨c72, h⟩ | ⟨c72, h⟩
      · refine am_Ev.t hcd (c := s2 216 18 = 147) (s1 := (17, [(0, .ref 216)], [], am_SH, (g, s2))) rfl c72 ?_
        refine am_Ev.go hcd 2 (s' := (20, [(0, .ref 216)], [.int 1], am_SH, (g, s2))) rfl ?_
        exact am_Ev.weak' (hLt3 true h.symm) (am_sub_cons rfl am_sub_nil) rfl
      · refine am_Ev.f hcd (c := s2 216 18 = 147) (s1 := (19, [(0, .ref 216)], [], am_SH, (g, s2))) rfl c72 ?_
        refine am_Ev.go hcd 1 (s' := (20, [(0, .ref 216)], [.int 0], am_SH, (g, s2))) rfl ?_
        exact am_Ev.weak' (hLt3 false h.symm) (am_sub_cons rfl am_sub_nil) rfl
    · refine am_Ev.f hcd (c := s2 216 18 = 142) (s1 := (9, [(0, .ref 216)], [], am_SH, (g, s2))) rfl c18 ?_
      refine am_Ev.go hcd 3 (s' := (12, [(0, .ref 216)], [.int 147, .int (s2 216 18)], am_SH, (g, s2))) rfl ?_
      rcases am_ite h with ⟨c81, h⟩ | ⟨c81, h⟩
      · refine am_Ev.t hcd (c := s2 216 18 = 147) (s1 := (13, [(0, .ref 216)], [], am_SH, (g, s2))) rfl c81 ?_
        obtain ⟨t12, ht12, kt12⟩ := am_let_eq h
        have hKt12 : am_Ev sc (d + 7) 206 (20, [(0, .ref 216)], [.int (am_b t12)], am_SH, (g, s2)) ((some (.int (am_b r.1))), am_SH, (g, r.2)) := by
          have h := kt12
          refine am_Ev.go hcd 2 (s' := (22, [(0, .ref 216), (1, .int (am_b t12))], [.ref 216], am_SH, (g, s2))) rfl ?_
          obtain ⟨p13, hp13, h⟩ := am_bind_some h
          refine am_Ev.call hcd (a := 200) (s0 := (0, [(0, .ref 216)], [], am_SH, (g, s2))) (q := (none, am_SH, (g, p13))) (s1 := (23, [(0, .ref 216), (1, .int (am_b t12))], [], am_SH, (g, p13))) rfl rfl (m_next0_ok (d + 1)  s2 g p13 hp13) ?_
          refine am_Ev.go hcd 1 (s' := (24, [(0, .ref 216), (1, .int (am_b t12))], [.int (am_b t12)], am_SH, (g, p13))) rfl ?_
          rcases am_ite h with ⟨c90, h⟩ | ⟨c90, h⟩
          · refine am_Ev.f hcd (c := am_b t12 = 0) (s1 := (25, [(0, .ref 216), (1, .int (am_b t12))], [], am_SH, (g, p13))) rfl (am_b_t c90) ?_
            obtain ⟨t14, Et14, h⟩ := am_let_eq h
            refine am_Ev.go hcd 3 (s' := (28, [(0, .ref 216), (1, .int (am_b t12)), (2, .int t14)], [], am_SH, (g, p13))) (by subst Et14; exact rfl) ?_
            refine am_Ev.go hcd 3 (s' := (31, [(0, .ref 216), (1, .int (am_b t12)), (2, .int t14)], [.int 2, .int (p13 216 18)], am_SH, (g, p13))) rfl ?_
            rcases am_ite h with ⟨c95, h⟩ | ⟨c95, h⟩
            · refine am_Ev.t hcd (c := p13 216 18 = 2) (s1 := (36, [(0, .ref 216), (1, .int (am_b t12)), (2, .int t14)], [], am_SH, (g, p13))) rfl c95 ?_
              refine am_Ev.go hcd 1 (s' := (37, [(0, .ref 216), (1, .int (am_b t12)), (2, .int t14)], [.int t14], am_SH, (g, p13))) rfl ?_
              rcases am_ite h with ⟨c98, h⟩ | ⟨c98, h⟩
              · refine am_Ev.t hcd (c := t14 = 0) (s1 := (38, [(0, .ref 216), (1, .int (am_b t12)), (2, .int t14)], [], am_SH, (g, p13))) rfl c98 ?_
                refine am_Ev.go hcd 2 (s' := (40, [(0, .ref 216), (1, .int (am_b t12)), (2, .int t14)], [.int 2, .ref 216], am_SH, (g, p13))) rfl ?_
                obtain ⟨p15, Ep15, h⟩ := am_let_eq h
                refine am_Ev.call hcd (a := 201) (s0 := (0, [(0, .ref 216), (1, .int 2)], [], am_SH, (g, p13))) (q := ((some (.int (am_b p15.1))), am_SH, (g, p15.2))) (s1 := (41, [(0, .ref 216), (1, .int (am_b t12)), (2, .int t14)], [.int (am_b p15.1)], am_SH, (g, p15.2))) rfl rfl (by subst Ep15; exact m_bad_ok (d + 6) 2 p13 g) ?_
                exact am_Ev.cast (a := ((some (.int (am_b (p15.1, p15.2).1))), am_SH, (g, (p15.1, p15.2).2))) (hZ2 _ (Option.some.inj h).symm) (am_Ev.retb hcd rfl)
              · refine am_Ev.f hcd (c := t14 = 0) (s1 := (42, [(0, .ref 216), (1, .int (am_b t12)), (2, .int t14)], [], am_SH, (g, p13))) rfl c98 ?_
                refine am_Ev.go hcd 1 (s' := (43, [(0, .ref 216), (1, .int (am_b t12)), (2, .int t14)], [.ref 216], am_SH, (g, p13))) rfl ?_
                obtain ⟨p16, hp16, h⟩ := am_bind_some h
                refine am_Ev.call hcd (a := 200) (s0 := (0, [(0, .ref 216)], [], am_SH, (g, p13))) (q := (none, am_SH, (g, p16))) (s1 := (44, [(0, .ref 216), (1, .int (am_b t12)), (2, .int t14)], [], am_SH, (g, p16))) rfl rfl (m_next0_ok (d + 1)  p13 g p16 hp16) ?_
                refine am_Ev.go hcd 3 (s' := (47, [(0, .ref 216), (1, .int (am_b t12)), (2, .int t14)], [.int t14, .int 26, .ref 216], am_SH, (g, p16))) rfl ?_
                obtain ⟨p17, hp17, h⟩ := am_bind_some h
                refine am_Ev.call hcd (a := 203) (s0 := (0, [(0, .ref 216), (1, .int 26), (2, .int t14)], [], am_SH, (g, p16))) (q := (none, am_SH, (g, p17))) (s1 := (48, [(0, .ref 216), (1, .int (am_b t12)), (2, .int t14)], [], am_SH, (g, p17))) rfl rfl (m_lay_ok (d + 6) 26 t14 p16 g p17 hp17) ?_
                refine am_Ev.go hcd 2 (s' := (5, [(0, .ref 216), (1, .int (am_b t12)), (2, .int t14)], [], am_SH, (g, p17))) rfl ?_
                exact am_Ev.weak' (hI2 p17 (Option.some.inj h).symm) (am_sub_cons rfl am_sub_nil) rfl
            · refine am_Ev.f hcd (c := p13 216 18 = 2) (s1 := (32, [(0, .ref 216), (1, .int (am_b t12)), (2, .int t14)], [], am_SH, (g, p13))) rfl c95 ?_
              refine am_Ev.go hcd 2 (s' := (34, [(0, .ref 216), (1, .int (am_b t12)), (2, .int t14)], [.int 1, .ref 216], am_SH, (g, p13))) rfl ?_
              obtain ⟨p18, Ep18, h⟩ := am_let_eq h
              refine am_Ev.call hcd (a := 201) (s0 := (0, [(0, .ref 216), (1, .int 1)], [], am_SH, (g, p13))) (q := ((some (.int (am_b p18.1))), am_SH, (g, p18.2))) (s1 := (35, [(0, .ref 216), (1, .int (am_b t12)), (2, .int t14)], [.int (am_b p18.1)], am_SH, (g, p18.2))) rfl rfl (by subst Ep18; exact m_bad_ok (d + 6) 1 p13 g) ?_
              exact am_Ev.cast (a := ((some (.int (am_b (p18.1, p18.2).1))), am_SH, (g, (p18.1, p18.2).2))) (hZ2 _ (Option.some.inj h).symm) (am_Ev.retb hcd rfl)
          · refine am_Ev.t hcd (c := am_b t12 = 0) (s1 := (49, [(0, .ref 216), (1, .int (am_b t12))], [], am_SH, (g, p13))) rfl (am_b_f c90) ?_
            refine am_Ev.go hcd 1 (s' := (50, [(0, .ref 216), (1, .int (am_b t12))], [.ref 216], am_SH, (g, p13))) rfl ?_
            obtain ⟨p19, hp19, h⟩ := am_bind_some h
            refine am_Ev.call hcd (a := 207) (s0 := (0, [(0, .ref 216)], [], am_SH, (g, p13))) (q := ((some (.int (am_b p19.1))), am_SH, (g, p19.2))) (s1 := (51, [(0, .ref 216), (1, .int (am_b t12))], [.int (am_b p19.1)], am_SH, (g, p19.2))) rfl rfl (m_unit_ok (d)  p13 g p19 hp19) ?_
            rcases am_ite h with ⟨c123, h⟩ | ⟨c123, h⟩
            · refine am_Ev.f hcd (c := am_b p19.1 = 0) (s1 := (54, [(0, .ref 216), (1, .int (am_b t12))], [], am_SH, (g, p19.2))) rfl (am_b_t c123) ?_
              refine am_Ev.go hcd 3 (s' := (57, [(0, .ref 216), (1, .int (am_b t12))], [.int 0, .int 25, .ref 216], am_SH, (g, p19.2))) rfl ?_
              obtain ⟨p20, hp20, h⟩ := am_bind_some h
              refine am_Ev.call hcd (a := 203) (s0 := (0, [(0, .ref 216), (1, .int 25), (2, .int 0)], [], am_SH, (g, p19.2))) (q := (none, am_SH, (g, p20))) (s1 := (58, [(0, .ref 216), (1, .int (am_b t12))], [], am_SH, (g, p20))) rfl rfl (m_lay_ok (d + 6) 25 0 p19.2 g p20 hp20) ?_
              refine am_Ev.go hcd 1 (s' := (5, [(0, .ref 216), (1, .int (am_b t12))], [], am_SH, (g, p20))) rfl ?_
              exact am_Ev.weak' (hI2 p20 (Option.some.inj h).symm) (am_sub_cons rfl am_sub_nil) rfl
            · refine am_Ev.t hcd (c := am_b p19.1 = 0) (s1 := (52, [(0, .ref 216), (1, .int (am_b t12))], [], am_SH, (g, p19.2))) rfl (am_b_f c123) ?_
              refine am_Ev.go hcd 1 (s' := (53, [(0, .ref 216), (1, .int (am_b t12))], [.int 0], am_SH, (g, p19.2))) rfl ?_
              exact am_Ev.cast (a := ((some (.int (am_b (false, p19.2).1))), am_SH, (g, (false, p19.2).2))) (hZ2 _ (Option.some.inj h).symm) (am_Ev.ret hcd rfl)
        have hLt12 : ∀ tt, tt = t12 → am_Ev sc (d + 7) 206 (20, [(0, .ref 216)], [.int (am_b tt)], am_SH, (g, s2)) ((some (.int (am_b r.1))), am_SH, (g, r.2)) := fun tt htt => by subst htt; exact hKt12
        have h := ht12
        refine am_Ev.go hcd 3 (s' := (16, [(0, .ref 216)], [.int 147, .int (s2 216 18)], am_SH, (g, s2))) rfl ?_
        rcases am_itv h with ⟨c135, h⟩ | ⟨c135, h⟩
        · refine am_Ev.t hcd (c := s2 216 18 = 147) (s1 := (17, [(0, .ref 216)], [], am_SH, (g, s2))) rfl c135 ?_
          refine am_Ev.go hcd 2 (s' := (20, [(0, .ref 216)], [.int 1], am_SH, (g, s2))) rfl ?_
          exact am_Ev.weak' (hLt12 true h.symm) (am_sub_cons rfl am_sub_nil) rfl
        · refine am_Ev.f hcd (c := s2 216 18 = 147) (s1 := (19, [(0, .ref 216)], [], am_SH, (g, s2))) rfl c135 ?_
          refine am_Ev.go hcd 1 (s' := (20, [(0, .ref 216)], [.int 0], am_SH, (g, s2))) rfl ?_
          exact am_Ev.weak' (hLt12 false h.symm) (am_sub_cons rfl am_sub_nil) rfl
      · refine am_Ev.f hcd (c := s2 216 18 = 147) (s1 := (59, [(0, .ref 216)], [], am_SH, (g, s2))) rfl c81 ?_
        exact am_Ev.weak' (hZ2 (.inr s2) (Option.some.inj h).symm) am_sub_nil rfl
  · refine am_Ev.t hcd (c := am_b p1.1 = 0) (s1 := (3, [(0, .ref 216)], [], am_SH, (g, p1.2))) rfl (am_b_f c5) ?_
    refine am_Ev.go hcd 1 (s' := (4, [(0, .ref 216)], [.int 0], am_SH, (g, p1.2))) rfl ?_
    exact am_Ev.cast (a := ((some (.int (am_b (false, p1.2).1))), am_SH, (g, (false, p1.2).2))) (by cases h; rfl) (am_Ev.ret hcd rfl)
def m_sumUp (f : (Nat → Nat → Int32)) : Option (Bool × (Nat → Nat → Int32)) :=
  (m_product  f).bind fun p1 =>
  if p1.1 = true then (
    am_loop (fun (s2 : (Nat → Nat → Int32)) => ((
      if s2 216 18 = 143 then (
        am_let ((if s2 216 18 = 143 then (
            23)
          else (
            24)) : Int32) fun t3 =>
        (m_next0  s2).bind fun p4 =>
        (m_product  p4).bind fun p5 =>
        if p5.1 = true then (
          (m_lay t3 0 p5.2).bind fun p6 =>
          some (.inl p6))
        else (
          some (.inr (false, p5.2))))
      else (
        if s2 216 18 = 145 then (
          am_let ((if s2 216 18 = 143 then (
              23)
            else (
              24)) : Int32) fun t7 =>
          (m_next0  s2).bind fun p8 =>
          (m_product  p8).bind fun p9 =>
          if p9.1 = true then (
            (m_lay t7 0 p9.2).bind fun p10 =>
            some (.inl p10))
          else (
            some (.inr (false, p9.2))))
        else (
          some (.inr (true, s2))))) : Option (((Nat → Nat → Int32)) ⊕ (Bool × (Nat → Nat → Int32))))) am_F p1.2)
  else (
    some (false, p1.2))
set_option maxRecDepth 100000 in
set_option maxHeartbeats 4000000 in
theorem m_sumUp_ok {sc : Nat × (Nat → Int32)} (d : Nat)  (f g : (Nat → Nat → Int32)) (r : Bool × (Nat → Nat → Int32)) (h : m_sumUp  f = some r) : am_Ev sc (d + 8) 205 (0, [(0, .ref 216)], [], am_SH, (g, f)) ((some (.int (am_b r.1))), am_SH, (g, r.2)) := by
  have hcd : am_code 205 = am_c205 := rfl
  unfold m_sumUp at h
  refine am_Ev.go hcd 1 (s' := (1, [(0, .ref 216)], [.ref 216], am_SH, (g, f))) rfl ?_
  obtain ⟨p1, hp1, h⟩ := am_bind_some h
  refine am_Ev.call hcd (a := 206) (s0 := (0, [(0, .ref 216)], [], am_SH, (g, f))) (q := ((some (.int (am_b p1.1))), am_SH, (g, p1.2))) (s1 := (2, [(0, .ref 216)], [.int (am_b p1.1)], am_SH, (g, p1.2))) rfl rfl (m_product_ok (d)  f g p1 hp1) ?_
  rcases am_ite h with ⟨c5, h⟩ | ⟨c5, h⟩
  · refine am_Ev.f hcd (c := am_b p1.1 = 0) (s1 := (5, [(0, .ref 216)], [], am_SH, (g, p1.2))) rfl (am_b_t c5) ?_
    refine am_Ev.weak' (am_loop_ok (G := fun (s2 : (Nat → Nat → Int32)) => am_Ev sc (d + 8) 205 (5, [(0, .ref 216)], [], am_SH, (g, s2)) ((some (.int (am_b r.1))), am_SH, (g, r.2))) (Z := fun (v : Bool × (Nat → Nat → Int32)) => (((some (.int (am_b v.1))), am_SH, (g, v.2)) : am_R) = ((some (.int (am_b r.1))), am_SH, (g, r.2))) ?_ am_F p1.2 r h rfl) (am_sub_cons rfl am_sub_nil) rfl
    intro s2 q2 h hI2 hZ2
    show am_Ev sc (d + 8) 205 (5, [(0, .ref 216)], [], am_SH, (g, s2)) ((some (.int (am_b r.1))), am_SH, (g, r.2))
    refine am_Ev.go hcd 3 (s' := (8, [(0, .ref 216)], [.int 143, .int (s2 216 18)], am_SH, (g, s2))) rfl ?_
    rcases am_ite h with ⟨c10, h⟩ | ⟨c10, h⟩
    · refine am_Ev.t hcd (c := s2 216 18 = 143) (s1 := (13, [(0, .ref 216)], [], am_SH, (g, s2))) rfl c10 ?_
      obtain ⟨t3, ht3, kt3⟩ := am_let_eq h
      have hKt3 : am_Ev sc (d + 8) 205 (20, [(0, .ref 216)], [.int t3], am_SH, (g, s2)) ((some (.int (am_b r.1))), am_SH, (g, r.2)) := by
        have h := kt3
        refine am_Ev.go hcd 2 (s' := (22, [(0, .ref 216), (1, .int t3)], [.ref 216], am_SH, (g, s2))) rfl ?_
        obtain ⟨p4, hp4, h⟩ := am_bind_some h
        refine am_Ev.call hcd (a := 200) (s0 := (0, [(0, .ref 216)], [], am_SH, (g, s2))) (q := (none, am_SH, (g, p4))) (s1 := (23, [(0, .ref 216), (1, .int t3)], [], am_SH, (g, p4))) rfl rfl (m_next0_ok (d + 2)  s2 g p4 hp4) ?_
        refine am_Ev.go hcd 1 (s' := (24, [(0, .ref 216), (1, .int t3)], [.ref 216], am_SH, (g, p4))) rfl ?_
        obtain ⟨p5, hp5, h⟩ := am_bind_some h
        refine am_Ev.call hcd (a := 206) (s0 := (0, [(0, .ref 216)], [], am_SH, (g, p4))) (q := ((some (.int (am_b p5.1))), am_SH, (g, p5.2))) (s1 := (25, [(0, .ref 216), (1, .int t3)], [.int (am_b p5.1)], am_SH, (g, p5.2))) rfl rfl (m_product_ok (d)  p4 g p5 hp5) ?_
        rcases am_ite h with ⟨c22, h⟩ | ⟨c22, h⟩
        · refine am_Ev.f hcd (c := am_b p5.1 = 0) (s1 := (28, [(0, .ref 216), (1, .int t3)], [], am_SH, (g, p5.2))) rfl (am_b_t c22) ?_
          refine am_Ev.go hcd 3 (s' := (31, [(0, .ref 216), (1, .int t3)], [.int 0, .int t3, .ref 216], am_SH, (g, p5.2))) rfl ?_
          obtain ⟨p6, hp6, h⟩ := am_bind_some h
          refine am_Ev.call hcd (a := 203) (s0 := (0, [(0, .ref 216), (1, .int t3), (2, .int 0)], [], am_SH, (g, p5.2))) (q := (none, am_SH, (g, p6))) (s1 := (32, [(0, .ref 216), (1, .int t3)], [], am_SH, (g, p6))) rfl rfl (m_lay_ok (d + 7) t3 0 p5.2 g p6 hp6) ?_
          refine am_Ev.go hcd 1 (s' := (5, [(0, .ref 216), (1, .int t3)], [], am_SH, (g, p6))) rfl ?_
          exact am_Ev.weak' (hI2 p6 (Option.some.inj h).symm) (am_sub_cons rfl am_sub_nil) rfl
        · refine am_Ev.t hcd (c := am_b p5.1 = 0) (s1 := (26, [(0, .ref 216), (1, .int t3)], [], am_SH, (g, p5.2))) rfl (am_b_f c22) ?_
          refine am_Ev.go hcd 1 (s' := (27, [(0, .ref 216), (1, .int t3)], [.int 0], am_SH, (g, p5.2))) rfl ?_
          exact am_Ev.cast (a := ((some (.int (am_b (false, p5.2).1))), am_SH, (g, (false, p5.2).2))) (hZ2 _ (Option.some.inj h).symm) (am_Ev.ret hcd rfl)
      have hLt3 : ∀ tt, tt = t3 → am_Ev sc (d + 8) 205 (20, [(0, .ref 216)], [.int tt], am_SH, (g, s2)) ((some (.int (am_b r.1))), am_SH, (g, r.2)) := fun tt htt => by subst htt; exact hKt3
      have h := ht3
      refine am_Ev.go hcd 3 (s' := (16, [(0, .ref 216)], [.int 143, .int (s2 216 18)], am_SH, (g, s2))) rfl ?_
      rcases am_itv h with ⟨c34, h⟩ | ⟨c34, h⟩
      · refine am_Ev.t hcd (c := s2 216 18 = 143) (s1 := (17, [(0, .ref 216)], [], am_SH, (g, s2))) rfl c34 ?_
        refine am_Ev.go hcd 2 (s' := (20, [(0, .ref 216)], [.int 23], am_SH, (g, s2))) rfl ?_
        exact am_Ev.weak' (hLt3 23 h.symm) (am_sub_cons rfl am_sub_nil) rfl
      · refine am_Ev.f hcd (c := s2 216 18 = 143) (s1 := (19, [(0, .ref 216)], [], am_SH, (g, s2))) rfl c34 ?_
        refine am_Ev.go hcd 1 (s' := (20, [(0, .ref 216)], [.int 24], am_SH, (g, s2))) rfl ?_
        exact am_Ev.weak' (hLt3 24 h.symm) (am_sub_cons rfl am_sub_nil) rfl
    · refine am_Ev.f hcd (c := s2 216 18 = 143) (s1 := (9, [(0, .ref 216)], [], am_SH, (g, s2))) rfl c10 ?_
      refine am_Ev.go hcd 3 (s' := (12, [(0, .ref 216)], [.int 145, .int (s2 216 18)], am_SH, (g, s2))) rfl ?_
      rcases am_ite h with ⟨c43, h⟩ | ⟨c43, h⟩
      · refine am_Ev.t hcd (c := s2 216 18 = 145) (s1 := (13, [(0, .ref 216)], [], am_SH, (g, s2))) rfl c43 ?_
        obtain ⟨t7, ht7, kt7⟩ := am_let_eq h
        have hKt7 : am_Ev sc (d + 8) 205 (20, [(0, .ref 216)], [.int t7], am_SH, (g, s2)) ((some (.int (am_b r.1))), am_SH, (g, r.2)) := by
          have h := kt7
          refine am_Ev.go hcd 2 (s' := (22, [(0, .ref 216), (1, .int t7)], [.ref 216], am_SH, (g, s2))) rfl ?_
          obtain ⟨p8, hp8, h⟩ := am_bind_some h
          refine am_Ev.call hcd (a := 200) (s0 := (0, [(0, .ref 216)], [], am_SH, (g, s2))) (q := (none, am_SH, (g, p8))) (s1 := (23, [(0, .ref 216), (1, .int t7)], [], am_SH, (g, p8))) rfl rfl (m_next0_ok (d + 2)  s2 g p8 hp8) ?_
          refine am_Ev.go hcd 1 (s' := (24, [(0, .ref 216), (1, .int t7)], [.ref 216], am_SH, (g, p8))) rfl ?_
          obtain ⟨p9, hp9, h⟩ := am_bind_some h
          refine am_Ev.call hcd (a := 206) (s0 := (0, [(0, .ref 216)], [], am_SH, (g, p8))) (q := ((some (.int (am_b p9.1))), am_SH, (g, p9.2))) (s1 := (25, [(0, .ref 216), (1, .int t7)], [.int (am_b p9.1)], am_SH, (g, p9.2))) rfl rfl (m_product_ok (d)  p8 g p9 hp9) ?_
          rcases am_ite h with ⟨c55, h⟩ | ⟨c55, h⟩
          · refine am_Ev.f hcd (c := am_b p9.1 = 0) (s1 := (28, [(0, .ref 216), (1, .int t7)], [], am_SH, (g, p9.2))) rfl (am_b_t c55) ?_
            refine am_Ev.go hcd 3 (s' := (31, [(0, .ref 216), (1, .int t7)], [.int 0, .int t7, .ref 216], am_SH, (g, p9.2))) rfl ?_
            obtain ⟨p10, hp10, h⟩ := am_bind_some h
            refine am_Ev.call hcd (a := 203) (s0 := (0, [(0, .ref 216), (1, .int t7), (2, .int 0)], [], am_SH, (g, p9.2))) (q := (none, am_SH, (g, p10))) (s1 := (32, [(0, .ref 216), (1, .int t7)], [], am_SH, (g, p10))) rfl rfl (m_lay_ok (d + 7) t7 0 p9.2 g p10 hp10) ?_
            refine am_Ev.go hcd 1 (s' := (5, [(0, .ref 216), (1, .int t7)], [], am_SH, (g, p10))) rfl ?_
            exact am_Ev.weak' (hI2 p10 (Option.some.inj h).symm) (am_sub_cons rfl am_sub_nil) rfl
          · refine am_Ev.t hcd (c := am_b p9.1 = 0) (s1 := (26, [(0, .ref 216), (1, .int t7)], [], am_SH, (g, p9.2))) rfl (am_b_f c55) ?_
            refine am_Ev.go hcd 1 (s' := (27, [(0, .ref 216), (1, .int t7)], [.int 0], am_SH, (g, p9.2))) rfl ?_
            exact am_Ev.cast (a := ((some (.int (am_b (false, p9.2).1))), am_SH, (g, (false, p9.2).2))) (hZ2 _ (Option.some.inj h).symm) (am_Ev.ret hcd rfl)
        have hLt7 : ∀ tt, tt = t7 → am_Ev sc (d + 8) 205 (20, [(0, .ref 216)], [.int tt], am_SH, (g, s2)) ((some (.int (am_b r.1))), am_SH, (g, r.2)) := fun tt htt => by subst htt; exact hKt7
        have h := ht7
        refine am_Ev.go hcd 3 (s' := (16, [(0, .ref 216)], [.int 143, .int (s2 216 18)], am_SH, (g, s2))) rfl ?_
        rcases am_itv h with ⟨c67, h⟩ | ⟨c67, h⟩
        · refine am_Ev.t hcd (c := s2 216 18 = 143) (s1 := (17, [(0, .ref 216)], [], am_SH, (g, s2))) rfl c67 ?_
          refine am_Ev.go hcd 2 (s' := (20, [(0, .ref 216)], [.int 23], am_SH, (g, s2))) rfl ?_
          exact am_Ev.weak' (hLt7 23 h.symm) (am_sub_cons rfl am_sub_nil) rfl
        · refine am_Ev.f hcd (c := s2 216 18 = 143) (s1 := (19, [(0, .ref 216)], [], am_SH, (g, s2))) rfl c67 ?_
          refine am_Ev.go hcd 1 (s' := (20, [(0, .ref 216)], [.int 24], am_SH, (g, s2))) rfl ?_
          exact am_Ev.weak' (hLt7 24 h.symm) (am_sub_cons rfl am_sub_nil) rfl
      · refine am_Ev.f hcd (c := s2 216 18 = 145) (s1 := (33, [(0, .ref 216)], [], am_SH, (g, s2))) rfl c43 ?_
        refine am_Ev.go hcd 1 (s' := (34, [(0, .ref 216)], [.int 1], am_SH, (g, s2))) rfl ?_
        exact am_Ev.cast (a := ((some (.int (am_b (true, s2).1))), am_SH, (g, (true, s2).2))) (hZ2 _ (Option.some.inj h).symm) (am_Ev.ret hcd rfl)
  · refine am_Ev.t hcd (c := am_b p1.1 = 0) (s1 := (3, [(0, .ref 216)], [], am_SH, (g, p1.2))) rfl (am_b_f c5) ?_
    refine am_Ev.go hcd 1 (s' := (4, [(0, .ref 216)], [.int 0], am_SH, (g, p1.2))) rfl ?_
    exact am_Ev.cast (a := ((some (.int (am_b (false, p1.2).1))), am_SH, (g, (false, p1.2).2))) (by cases h; rfl) (am_Ev.ret hcd rfl)
def m_opens (f : (Nat → Nat → Int32)) : Option (Bool × (Nat → Nat → Int32)) :=
  if f 216 24 = 8 then (
    am_let (m_bad 3 f) fun p1 =>
    some (p1.1, p1.2))
  else (
    am_let (am_up f 216 24 ((f 216 24) + 1) : Nat → Nat → Int32) fun f2 =>
    (m_next0  f2).bind fun p3 =>
    some (true, p3))
set_option maxRecDepth 100000 in
set_option maxHeartbeats 4000000 in
theorem m_opens_ok {sc : Nat × (Nat → Int32)} (d : Nat)  (f g : (Nat → Nat → Int32)) (r : Bool × (Nat → Nat → Int32)) (h : m_opens  f = some r) : am_Ev sc (d + 6) 204 (0, [(0, .ref 216)], [], am_SH, (g, f)) ((some (.int (am_b r.1))), am_SH, (g, r.2)) := by
  have hcd : am_code 204 = am_c204 := rfl
  unfold m_opens at h
  refine am_Ev.go hcd 3 (s' := (3, [(0, .ref 216)], [.int 8, .int (f 216 24)], am_SH, (g, f))) rfl ?_
  rcases am_ite h with ⟨c2, h⟩ | ⟨c2, h⟩
  · refine am_Ev.t hcd (c := f 216 24 = 8) (s1 := (4, [(0, .ref 216)], [], am_SH, (g, f))) rfl c2 ?_
    refine am_Ev.go hcd 2 (s' := (6, [(0, .ref 216)], [.int 3, .ref 216], am_SH, (g, f))) rfl ?_
    obtain ⟨p1, Ep1, h⟩ := am_let_eq h
    refine am_Ev.call hcd (a := 201) (s0 := (0, [(0, .ref 216), (1, .int 3)], [], am_SH, (g, f))) (q := ((some (.int (am_b p1.1))), am_SH, (g, p1.2))) (s1 := (7, [(0, .ref 216)], [.int (am_b p1.1)], am_SH, (g, p1.2))) rfl rfl (by subst Ep1; exact m_bad_ok (d + 5) 3 f g) ?_
    exact am_Ev.cast (a := ((some (.int (am_b (p1.1, p1.2).1))), am_SH, (g, (p1.1, p1.2).2))) (by cases h; rfl) (am_Ev.retb hcd rfl)
  · refine am_Ev.f hcd (c := f 216 24 = 8) (s1 := (8, [(0, .ref 216)], [], am_SH, (g, f))) rfl c2 ?_
    obtain ⟨f2, Ef2, h⟩ := am_let_eq h
    refine am_Ev.go hcd 6 (s' := (14, [(0, .ref 216)], [], am_SH, (g, f2))) (by subst Ef2; exact rfl) ?_
    refine am_Ev.go hcd 1 (s' := (15, [(0, .ref 216)], [.ref 216], am_SH, (g, f2))) rfl ?_
    obtain ⟨p3, hp3, h⟩ := am_bind_some h
    refine am_Ev.call hcd (a := 200) (s0 := (0, [(0, .ref 216)], [], am_SH, (g, f2))) (q := (none, am_SH, (g, p3))) (s1 := (16, [(0, .ref 216)], [], am_SH, (g, p3))) rfl rfl (m_next0_ok (d)  f2 g p3 hp3) ?_
    refine am_Ev.go hcd 1 (s' := (17, [(0, .ref 216)], [.int 1], am_SH, (g, p3))) rfl ?_
    exact am_Ev.cast (a := ((some (.int (am_b (true, p3).1))), am_SH, (g, (true, p3).2))) (by cases h; rfl) (am_Ev.ret hcd rfl)
def m_need (a0 : Int32) (f : (Nat → Nat → Int32)) : Option (Bool × (Nat → Nat → Int32)) :=
  if f 216 18 = a0 then (
    (m_next0  f).bind fun p1 =>
    some (true, p1))
  else (
    am_let (m_bad 1 f) fun p2 =>
    some (p2.1, p2.2))
set_option maxRecDepth 100000 in
set_option maxHeartbeats 4000000 in
theorem m_need_ok {sc : Nat × (Nat → Int32)} (d : Nat) (a0 : Int32) (f g : (Nat → Nat → Int32)) (r : Bool × (Nat → Nat → Int32)) (h : m_need a0 f = some r) : am_Ev sc (d + 6) 202 (0, [(0, .ref 216), (1, .int a0)], [], am_SH, (g, f)) ((some (.int (am_b r.1))), am_SH, (g, r.2)) := by
  have hcd : am_code 202 = am_c202 := rfl
  unfold m_need at h
  refine am_Ev.go hcd 3 (s' := (3, [(0, .ref 216), (1, .int a0)], [.int a0, .int (f 216 18)], am_SH, (g, f))) rfl ?_
  rcases am_ite h with ⟨c2, h⟩ | ⟨c2, h⟩
  · refine am_Ev.t hcd (c := f 216 18 = a0) (s1 := (8, [(0, .ref 216), (1, .int a0)], [], am_SH, (g, f))) rfl c2 ?_
    refine am_Ev.go hcd 1 (s' := (9, [(0, .ref 216), (1, .int a0)], [.ref 216], am_SH, (g, f))) rfl ?_
    obtain ⟨p1, hp1, h⟩ := am_bind_some h
    refine am_Ev.call hcd (a := 200) (s0 := (0, [(0, .ref 216)], [], am_SH, (g, f))) (q := (none, am_SH, (g, p1))) (s1 := (10, [(0, .ref 216), (1, .int a0)], [], am_SH, (g, p1))) rfl rfl (m_next0_ok (d)  f g p1 hp1) ?_
    refine am_Ev.go hcd 1 (s' := (11, [(0, .ref 216), (1, .int a0)], [.int 1], am_SH, (g, p1))) rfl ?_
    exact am_Ev.cast (a := ((some (.int (am_b (true, p1).1))), am_SH, (g, (true, p1).2))) (by cases h; rfl) (am_Ev.ret hcd rfl)
  · refine am_Ev.f hcd (c := f 216 18 = a0) (s1 := (4, [(0, .ref 216), (1, .int a0)], [], am_SH, (g, f))) rfl c2 ?_
    refine am_Ev.go hcd 2 (s' := (6, [(0, .ref 216), (1, .int a0)], [.int 1, .ref 216], am_SH, (g, f))) rfl ?_
    obtain ⟨p2, Ep2, h⟩ := am_let_eq h
    refine am_Ev.call hcd (a := 201) (s0 := (0, [(0, .ref 216), (1, .int 1)], [], am_SH, (g, f))) (q := ((some (.int (am_b p2.1))), am_SH, (g, p2.2))) (s1 := (7, [(0, .ref 216), (1, .int a0)], [.int (am_b p2.1)], am_SH, (g, p2.2))) rfl rfl (by subst Ep2; exact m_bad_ok (d + 5) 1 f g) ?_
    exact am_Ev.cast (a := ((some (.int (am_b (p2.1, p2.2).1))), am_SH, (g, (p2.1, p2.2).2))) (by cases h; rfl) (am_Ev.retb hcd rfl)
