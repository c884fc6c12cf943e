def m_fits (a0 : Int32) (a1 : Int32) (f : (Nat → Nat → Int32)) : Option (Int32) :=
  if (m_isIn a0 1 3) = true then (
    if (m_isIn a1 0 1) = true then (
      (am_loop (fun (s3 : Int32 × Int32 × Int32) => ((
        if 0 < s3.2.2 then (
          (m_bitsOf s3.2.2).bind fun p4 =>
          ((if p4 = a0 then (
              (m_fitsAll s3.2.2 f).bind fun p5 =>
              if p5 = true then (
                am_let (s3.1 + 1 : Int32) fun t6 =>
                some (t6, s3.2.2))
              else (
                some (s3.1, s3.2.1)))
            else (
              some (s3.1, s3.2.1))) : Option (Int32 × Int32)).bind fun t7 =>
          am_let (s3.2.2 + (-1) : Int32) fun t8 =>
          some (.inl (t7.1, t7.2, t8)))
        else (
          some (.inr (s3.1, s3.2.1)))) : Option ((Int32 × Int32 × Int32) ⊕ (Int32 × Int32)))) am_F (0, (-1), 65535)).bind fun e9 =>
      if a1 = 0 then (
        some e9.1)
      else (
        some e9.2))
    else (
      some (-1)))
  else (
    some (-1))
set_option maxRecDepth 100000 in
set_option maxHeartbeats 4000000 in
theorem m_fits_ok {sc : Nat × (Nat → Int32)} (d : Nat) (a0 : Int32) (a1 : Int32) (f g : (Nat → Nat → Int32)) (r : Int32) (h : m_fits a0 a1 f = some r) : am_Ev sc (d + 3) 265 (0, [(0, .ref 216), (1, .int a0), (2, .int a1)], [], am_SH, (g, f)) ((some (.int r)), am_SH, (g, f)) := by
  have hcd : am_code 265 = am_c265 := rfl
  unfold m_fits at h
  refine am_Ev.go hcd 3 (s' := (3, [(0, .ref 216), (1, .int a0), (2, .int a1)], [.int 3, .int 1, .int a0], am_SH, (g, f))) rfl ?_
  refine am_Ev.call hcd (a := 176) (s0 := (0, [(0, .int a0), (1, .int 1), (2, .int 3)], [], am_SH, (g, f))) (q := ((some (.int (am_b (m_isIn a0 1 3)))), am_SH, (g, f))) (s1 := (4, [(0, .ref 216), (1, .int a0), (2, .int a1)], [.int (am_b (m_isIn a0 1 3))], am_SH, (g, f))) rfl rfl (m_isIn_ok (d + 2) a0 1 3 (g, f)) ?_
  rcases am_ite h with ⟨c4, h⟩ | ⟨c4, h⟩
  · refine am_Ev.f hcd (c := am_b (m_isIn a0 1 3) = 0) (s1 := (5, [(0, .ref 216), (1, .int a0), (2, .int a1)], [], am_SH, (g, f))) rfl (am_b_t c4) ?_
    refine am_Ev.go hcd 3 (s' := (8, [(0, .ref 216), (1, .int a0), (2, .int a1)], [.int 1, .int 0, .int a1], am_SH, (g, f))) rfl ?_
    refine am_Ev.call hcd (a := 176) (s0 := (0, [(0, .int a1), (1, .int 0), (2, .int 1)], [], am_SH, (g, f))) (q := ((some (.int (am_b (m_isIn a1 0 1)))), am_SH, (g, f))) (s1 := (9, [(0, .ref 216), (1, .int a0), (2, .int a1)], [.int (am_b (m_isIn a1 0 1))], am_SH, (g, f))) rfl rfl (m_isIn_ok (d + 2) a1 0 1 (g, f)) ?_
    rcases am_ite h with ⟨c8, h⟩ | ⟨c8, h⟩
    · refine am_Ev.f hcd (c := am_b (m_isIn a1 0 1) = 0) (s1 := (12, [(0, .ref 216), (1, .int a0), (2, .int a1)], [], am_SH, (g, f))) rfl (am_b_t c8) ?_
      refine am_Ev.go hcd 6 (s' := (18, [(0, .ref 216), (1, .int a0), (2, .int a1), (3, .int 0), (4, .int (-1)), (5, .int 65535)], [], am_SH, (g, f))) rfl ?_
      obtain ⟨e9, he9, h⟩ := am_bind_some h
      have hK3 : (fun (e9 : Int32 × Int32) => am_Ev sc (d + 3) 265 (34, [(2, .int a1), (3, .int e9.1), (4, .int e9.2)], [], am_SH, (g, f)) ((some (.int r)), am_SH, (g, f))) e9 := by
        show am_Ev sc (d + 3) 265 (34, [(2, .int a1), (3, .int e9.1), (4, .int e9.2)], [], am_SH, (g, f)) ((some (.int r)), am_SH, (g, f))
        refine am_Ev.go hcd 1 (s' := (35, [(2, .int a1), (3, .int e9.1), (4, .int e9.2)], [.int a1], am_SH, (g, f))) rfl ?_
        rcases am_ite h with ⟨c14, h⟩ | ⟨c14, h⟩
        · refine am_Ev.t hcd (c := a1 = 0) (s1 := (36, [(2, .int a1), (3, .int e9.1), (4, .int e9.2)], [], am_SH, (g, f))) rfl c14 ?_
          refine am_Ev.go hcd 2 (s' := (39, [(2, .int a1), (3, .int e9.1), (4, .int e9.2)], [.int e9.1], am_SH, (g, f))) rfl ?_
          exact am_Ev.cast (a := ((some (.int e9.1)), am_SH, (g, f))) (by cases h; rfl) (am_Ev.ret hcd rfl)
        · refine am_Ev.f hcd (c := a1 = 0) (s1 := (38, [(2, .int a1), (3, .int e9.1), (4, .int e9.2)], [], am_SH, (g, f))) rfl c14 ?_
          refine am_Ev.go hcd 1 (s' := (39, [(2, .int a1), (3, .int e9.1), (4, .int e9.2)], [.int e9.2], am_SH, (g, f))) rfl ?_
          exact am_Ev.cast (a := ((some (.int e9.2)), am_SH, (g, f))) (by cases h; rfl) (am_Ev.ret hcd rfl)
      refine am_Ev.weak' (am_loop_ok (G := fun (s3 : Int32 × Int32 × Int32) => am_Ev sc (d + 3) 265 (18, [(0, .ref 216), (1, .int a0), (2, .int a1), (3, .int s3.1), (4, .int s3.2.1), (5, .int s3.2.2)], [], am_SH, (g, f)) ((some (.int r)), am_SH, (g, f))) (Z := fun (e9 : Int32 × Int32) => am_Ev sc (d + 3) 265 (34, [(2, .int a1), (3, .int e9.1), (4, .int e9.2)], [], am_SH, (g, f)) ((some (.int r)), am_SH, (g, f))) ?_ am_F (0, (-1), 65535) e9 he9 hK3) (am_sub_cons rfl (am_sub_cons rfl (am_sub_cons rfl (am_sub_cons rfl (am_sub_cons rfl (am_sub_cons rfl am_sub_nil)))))) rfl
      intro s3 q3 h hI3 hZ3
      show am_Ev sc (d + 3) 265 (18, [(0, .ref 216), (1, .int a0), (2, .int a1), (3, .int s3.1), (4, .int s3.2.1), (5, .int s3.2.2)], [], am_SH, (g, f)) ((some (.int r)), am_SH, (g, f))
      refine am_Ev.go hcd 1 (s' := (19, [(0, .ref 216), (1, .int a0), (2, .int a1), (3, .int s3.1), (4, .int s3.2.1), (5, .int s3.2.2)], [.int s3.2.2], am_SH, (g, f))) rfl ?_
      rcases am_ite h with ⟨c25, h⟩ | ⟨c25, h⟩
      · refine am_Ev.t hcd (c := 0 < s3.2.2) (s1 := (20, [(0, .ref 216), (1, .int a0), (2, .int a1), (3, .int s3.1), (4, .int s3.2.1), (5, .int s3.2.2)], [], am_SH, (g, f))) rfl c25 ?_
        refine am_Ev.go hcd 1 (s' := (21, [(0, .ref 216), (1, .int a0), (2, .int a1), (3, .int s3.1), (4, .int s3.2.1), (5, .int s3.2.2)], [.int s3.2.2], am_SH, (g, f))) rfl ?_
        obtain ⟨p4, hp4, h⟩ := am_bind_some h
        refine am_Ev.call hcd (a := 179) (s0 := (0, [(0, .int s3.2.2)], [], am_SH, (g, f))) (q := ((some (.int p4)), am_SH, (g, f))) (s1 := (22, [(0, .ref 216), (1, .int a0), (2, .int a1), (3, .int s3.1), (4, .int s3.2.1), (5, .int s3.2.2)], [.int p4], am_SH, (g, f))) rfl rfl (m_bitsOf_ok (d + 2) s3.2.2 (g, f) p4 hp4) ?_
        obtain ⟨t7, ht7, kt7⟩ := am_bind_some h
        have hKt7 : am_Ev sc (d + 3) 265 (32, [(0, .ref 216), (1, .int a0), (2, .int a1), (3, .int t7.1), (4, .int t7.2), (5, .int s3.2.2)], [], am_SH, (g, f)) ((some (.int r)), am_SH, (g, f)) := by
          have h := kt7
          obtain ⟨t8, Et8, h⟩ := am_let_eq h
          refine am_Ev.go hcd 1 (s' := (33, [(0, .ref 216), (1, .int a0), (2, .int a1), (3, .int t7.1), (4, .int t7.2), (5, .int t8)], [], am_SH, (g, f))) (by subst Et8; exact rfl) ?_
          refine am_Ev.go hcd 1 (s' := (18, [(0, .ref 216), (1, .int a0), (2, .int a1), (3, .int t7.1), (4, .int t7.2), (5, .int t8)], [], am_SH, (g, f))) rfl ?_
          exact am_Ev.weak' (hI3 (t7.1, t7.2, t8) (Option.some.inj h).symm) (am_sub_cons rfl (am_sub_cons rfl (am_sub_cons rfl (am_sub_cons rfl (am_sub_cons rfl (am_sub_cons rfl am_sub_nil)))))) rfl
        have hLt7 : ∀ tt, tt = t7 → am_Ev sc (d + 3) 265 (32, [(0, .ref 216), (1, .int a0), (2, .int a1), (3, .int tt.1), (4, .int tt.2), (5, .int s3.2.2)], [], am_SH, (g, f)) ((some (.int r)), am_SH, (g, f)) := fun tt htt => by subst htt; exact hKt7
        have h := ht7
        refine am_Ev.go hcd 1 (s' := (23, [(0, .ref 216), (1, .int a0), (2, .int a1), (3, .int s3.1), (4, .int s3.2.1), (5, .int s3.2.2)], [.int a0, .int p4], am_SH, (g, f))) rfl ?_
        rcases am_ite h with ⟨c40, h⟩ | ⟨c40, h⟩
        · refine am_Ev.t hcd (c := p4 = a0) (s1 := (24, [(0, .ref 216), (1, .int a0), (2, .int a1), (3, .int s3.1), (4, .int s3.2.1), (5, .int s3.2.2)], [], am_SH, (g, f))) rfl c40 ?_
          refine am_Ev.go hcd 2 (s' := (26, [(0, .ref 216), (1, .int a0), (2, .int a1), (3, .int s3.1), (4, .int s3.2.1), (5, .int s3.2.2)], [.int s3.2.2, .ref 216], am_SH, (g, f))) rfl ?_
          obtain ⟨p5, hp5, h⟩ := am_bind_some h
          refine am_Ev.call hcd (a := 264) (s0 := (0, [(0, .ref 216), (1, .int s3.2.2)], [], am_SH, (g, f))) (q := ((some (.int (am_b p5))), am_SH, (g, f))) (s1 := (27, [(0, .ref 216), (1, .int a0), (2, .int a1), (3, .int s3.1), (4, .int s3.2.1), (5, .int s3.2.2)], [.int (am_b p5)], am_SH, (g, f))) rfl rfl (m_fitsAll_ok (d) s3.2.2 f g p5 hp5) ?_
          rcases am_ite h with ⟨c46, h⟩ | ⟨c46, h⟩
          · refine am_Ev.f hcd (c := am_b p5 = 0) (s1 := (29, [(0, .ref 216), (1, .int a0), (2, .int a1), (3, .int s3.1), (4, .int s3.2.1), (5, .int s3.2.2)], [], am_SH, (g, f))) rfl (am_b_t c46) ?_
            obtain ⟨t6, Et6, h⟩ := am_let_eq h
            refine am_Ev.go hcd 1 (s' := (30, [(0, .ref 216), (1, .int a0), (2, .int a1), (3, .int t6), (4, .int s3.2.1), (5, .int s3.2.2)], [], am_SH, (g, f))) (by subst Et6; exact rfl) ?_
            refine am_Ev.go hcd 2 (s' := (32, [(0, .ref 216), (1, .int a0), (2, .int a1), (3, .int t6), (4, .int s3.2.2), (5, .int s3.2.2)], [], am_SH, (g, f))) rfl ?_
            exact am_Ev.weak' (hLt7 (t6, s3.2.2) (Option.some.inj h)) (am_sub_cons rfl (am_sub_cons rfl (am_sub_cons rfl (am_sub_cons rfl (am_sub_cons rfl (am_sub_cons rfl am_sub_nil)))))) rfl
          · refine am_Ev.t hcd (c := am_b p5 = 0) (s1 := (28, [(0, .ref 216), (1, .int a0), (2, .int a1), (3, .int s3.1), (4, .int s3.2.1), (5, .int s3.2.2)], [], am_SH, (g, f))) rfl (am_b_f c46) ?_
            refine am_Ev.go hcd 1 (s' := (32, [(0, .ref 216), (1, .int a0), (2, .int a1), (3, .int s3.1), (4, .int s3.2.1), (5, .int s3.2.2)], [], am_SH, (g, f))) rfl ?_
            exact am_Ev.weak' (hLt7 (s3.1, s3.2.1) (Option.some.inj h)) (am_sub_cons rfl (am_sub_cons rfl (am_sub_cons rfl (am_sub_cons rfl (am_sub_cons rfl (am_sub_cons rfl am_sub_nil)))))) rfl
        · refine am_Ev.f hcd (c := p4 = a0) (s1 := (32, [(0, .ref 216), (1, .int a0), (2, .int a1), (3, .int s3.1), (4, .int s3.2.1), (5, .int s3.2.2)], [], am_SH, (g, f))) rfl c40 ?_
          exact am_Ev.weak' (hLt7 (s3.1, s3.2.1) (Option.some.inj h)) (am_sub_cons rfl (am_sub_cons rfl (am_sub_cons rfl (am_sub_cons rfl (am_sub_cons rfl (am_sub_cons rfl am_sub_nil)))))) rfl
      · refine am_Ev.f hcd (c := 0 < s3.2.2) (s1 := (34, [(0, .ref 216), (1, .int a0), (2, .int a1), (3, .int s3.1), (4, .int s3.2.1), (5, .int s3.2.2)], [], am_SH, (g, f))) rfl c25 ?_
        exact am_Ev.weak' (hZ3 (s3.1, s3.2.1) (Option.some.inj h).symm) (am_sub_cons rfl (am_sub_cons rfl (am_sub_cons rfl am_sub_nil))) rfl
    · refine am_Ev.t hcd (c := am_b (m_isIn a1 0 1) = 0) (s1 := (10, [(0, .ref 216), (1, .int a0), (2, .int a1)], [], am_SH, (g, f))) rfl (am_b_f c8) ?_
      refine am_Ev.go hcd 1 (s' := (11, [(0, .ref 216), (1, .int a0), (2, .int a1)], [.int (-1)], am_SH, (g, f))) rfl ?_
      exact am_Ev.cast (a := ((some (.int (-1))), am_SH, (g, f))) (by cases h; rfl) (am_Ev.ret hcd rfl)
  · refine am_Ev.t hcd (c := am_b (m_isIn a0 1 3) = 0) (s1 := (10, [(0, .ref 216), (1, .int a0), (2, .int a1)], [], am_SH, (g, f))) rfl (am_b_f c4) ?_
    refine am_Ev.go hcd 1 (s' := (11, [(0, .ref 216), (1, .int a0), (2, .int a1)], [.int (-1)], am_SH, (g, f))) rfl ?_
    exact am_Ev.cast (a := ((some (.int (-1))), am_SH, (g, f))) (by cases h; rfl) (am_Ev.ret hcd rfl)
def m_wordsBy (a0 : Int32) (a1 : Int32) (a2 : Int32) (f : (Nat → Nat → Int32)) : Option (Int32 × (Nat → Nat → Int32)) :=
  (am_loop (fun (s1 : Int32 × (Nat → Nat → Int32)) => ((
    if s1.1 < 11 then (
      if am_in s1.1 11 = true then (
      am_let (am_up s1.2 229 s1.1.toNatClampNeg 0 : Nat → Nat → Int32) fun f2 =>
      am_let (s1.1 + 1 : Int32) fun t3 =>
      some (.inl (t3, f2))) else none)
    else (
      some (.inr s1.2))) : Option ((Int32 × (Nat → Nat → Int32)) ⊕ ((Nat → Nat → Int32))))) am_F (0, f)).bind fun e4 =>
  (am_loop (fun (s5 : Int32 × (Nat → Nat → Int32)) => ((
    if s5.1 < a1 then (
      ((if ((a0 >>> (s5.1 &&& 31)) &&& 1) = 1 then (
          if am_in s5.1 8 = true then (
          (m_nearnessOf (1 <<< ((s5.2 227 s5.1.toNatClampNeg) &&& 31)) a2 s5.2).bind fun p6 =>
          if am_in p6 11 = true then (
          if am_in p6 11 = true then (
          am_let (am_up s5.2 229 p6.toNatClampNeg ((s5.2 229 p6.toNatClampNeg) ||| (1 <<< (s5.1 &&& 31))) : Nat → Nat → Int32) fun f7 =>
          some f7) else none) else none) else none)
        else (
          some s5.2)) : Option ((Nat → Nat → Int32))).bind fun t8 =>
      am_let (s5.1 + 1 : Int32) fun t9 =>
      some (.inl (t9, t8)))
    else (
      some (.inr s5.2))) : Option ((Int32 × (Nat → Nat → Int32)) ⊕ ((Nat → Nat → Int32))))) am_F (0, e4)).bind fun e10 =>
  (am_loop (fun (s11 : Int32 × Int32) => ((
    if s11.2 < 11 then (
      if am_in s11.2 11 = true then (
      ((if e10 229 s11.2.toNatClampNeg = a0 then (
          some 100000000)
        else (
          if am_in s11.2 11 = true then (
          if e10 229 s11.2.toNatClampNeg = 0 then (
            some s11.1)
          else (
            if am_in s11.2 11 = true then (
            if am_in (e10 229 s11.2.toNatClampNeg) 256 = true then (
            some (m_greater s11.1 (e10 228 (e10 229 s11.2.toNatClampNeg).toNatClampNeg))) else none) else none)) else none)) : Option (Int32)).bind fun t13 =>
      am_let (s11.2 + 1 : Int32) fun t14 =>
      some (.inl (t13, t14))) else none)
    else (
      some (.inr s11.1))) : Option ((Int32 × Int32) ⊕ (Int32)))) am_F (0, 0)).bind fun e15 =>
  if e15 < 100000000 then (
    some ((e15 + 1), e10))
  else (
    some (100000000, e10))
set_option maxRecDepth 100000 in
set_option maxHeartbeats 4000000 in
theorem m_wordsBy_ok {sc : Nat × (Nat → Int32)} (d : Nat) (a0 : Int32) (a1 : Int32) (a2 : Int32) (f g : (Nat → Nat → Int32)) (r : Int32 × (Nat → Nat → Int32)) (h : m_wordsBy a0 a1 a2 f = some r) : am_Ev sc (d + 2) 266 (0, [(0, .ref 216), (1, .int a0), (2, .int a1), (3, .int a2)], [], am_SH, (g, f)) ((some (.int r.1)), am_SH, (g, r.2)) := by
  have hcd : am_code 266 = am_c266 := rfl
  unfold m_wordsBy at h
  refine am_Ev.go hcd 2 (s' := (2, [(0, .ref 216), (1, .int a0), (2, .int a1), (3, .int a2), (4, .int 0)], [], am_SH, (g, f))) rfl ?_
  obtain ⟨e4, he4, h⟩ := am_bind_some h
  have hK1 : (fun (e4 : (Nat → Nat → Int32)) => am_Ev sc (d + 2) 266 (12, [(0, .ref 216), (1, .int a0), (2, .int a1), (3, .int a2)], [], am_SH, (g, e4)) ((some (.int r.1)), am_SH, (g, r.2))) e4 := by
    show am_Ev sc (d + 2) 266 (12, [(0, .ref 216), (1, .int a0), (2, .int a1), (3, .int a2)], [], am_SH, (g, e4)) ((some (.int r.1)), am_SH, (g, r.2))
    refine am_Ev.go hcd 2 (s' := (14, [(0, .ref 216), (1, .int a0), (2, .int a1), (3, .int a2), (4, .int 0)], [], am_SH, (g, e4))) rfl ?_
    obtain ⟨e10, he10, h⟩ := am_bind_some h
    have hK5 : (fun (e10 : (Nat → Nat → Int32)) => am_Ev sc (d + 2) 266 (44, [(0, .ref 216), (1, .int a0)], [], am_SH, (g, e10)) ((some (.int r.1)), am_SH, (g, r.2))) e10 := by
      show am_Ev sc (d + 2) 266 (44, [(0, .ref 216), (1, .int a0)], [], am_SH, (g, e10)) ((some (.int r.1)), am_SH, (g, r.2))
      refine am_Ev.go hcd 4 (s' := (48, [(0, .ref 216), (1, .int a0), (4, .int 0), (5, .int 0)], [], am_SH, (g, e10))) rfl ?_
      obtain ⟨e15, he15, h⟩ := am_bind_some h
      have hK11 : (fun (e15 : Int32) => am_Ev sc (d + 2) 266 (78, [(4, .int e15)], [], am_SH, (g, e10)) ((some (.int r.1)), am_SH, (g, r.2))) e15 := by
        show am_Ev sc (d + 2) 266 (78, [(4, .int e15)], [], am_SH, (g, e10)) ((some (.int r.1)), am_SH, (g, r.2))
        refine am_Ev.go hcd 2 (s' := (80, [(4, .int e15)], [.int 100000000, .int e15], am_SH, (g, e10))) rfl ?_
        rcases am_ite h with ⟨c14, h⟩ | ⟨c14, h⟩
        · refine am_Ev.t hcd (c := e15 < 100000000) (s1 := (83, [(4, .int e15)], [], am_SH, (g, e10))) rfl c14 ?_
          refine am_Ev.go hcd 3 (s' := (86, [(4, .int e15)], [.int (e15 + 1)], am_SH, (g, e10))) rfl ?_
          exact am_Ev.cast (a := ((some (.int ((e15 + 1), e10).1)), am_SH, (g, ((e15 + 1), e10).2))) (by cases h; rfl) (am_Ev.ret hcd rfl)
        · refine am_Ev.f hcd (c := e15 < 100000000) (s1 := (81, [(4, .int e15)], [], am_SH, (g, e10))) rfl c14 ?_
          refine am_Ev.go hcd 2 (s' := (86, [(4, .int e15)], [.int 100000000], am_SH, (g, e10))) rfl ?_
          exact am_Ev.cast (a := ((some (.int (100000000, e10).1)), am_SH, (g, (100000000, e10).2))) (by cases h; rfl) (am_Ev.ret hcd rfl)
      refine am_Ev.weak' (am_loop_ok (G := fun (s11 : Int32 × Int32) => am_Ev sc (d + 2) 266 (48, [(0, .ref 216), (1, .int a0), (4, .int s11.1), (5, .int s11.2)], [], am_SH, (g, e10)) ((some (.int r.1)), am_SH, (g, r.2))) (Z := fun (e15 : Int32) => am_Ev sc (d + 2) 266 (78, [(4, .int e15)], [], am_SH, (g, e10)) ((some (.int r.1)), am_SH, (g, r.2))) ?_ am_F (0, 0) e15 he15 hK11) (am_sub_cons rfl (am_sub_cons rfl (am_sub_cons rfl (am_sub_cons rfl am_sub_nil)))) rfl
      intro s11 q11 h hI11 hZ11
      show am_Ev sc (d + 2) 266 (48, [(0, .ref 216), (1, .int a0), (4, .int s11.1), (5, .int s11.2)], [], am_SH, (g, e10)) ((some (.int r.1)), am_SH, (g, r.2))
      refine am_Ev.go hcd 2 (s' := (50, [(0, .ref 216), (1, .int a0), (4, .int s11.1), (5, .int s11.2)], [.int 11, .int s11.2], am_SH, (g, e10))) rfl ?_
      rcases am_ite h with ⟨c25, h⟩ | ⟨c25, h⟩
      · refine am_Ev.t hcd (c := s11.2 < 11) (s1 := (51, [(0, .ref 216), (1, .int a0), (4, .int s11.1), (5, .int s11.2)], [], am_SH, (g, e10))) rfl c25 ?_
        refine am_Ev.go hcd 3 (s' := (54, [(0, .ref 216), (1, .int a0), (4, .int s11.1), (5, .int s11.2)], [.int s11.2, .ref 229], am_SH, (g, e10))) rfl ?_
        obtain ⟨c28, h⟩ := am_grd h
        refine am_Ev.t hcd (c := am_in s11.2 11 = true) (s1 := (55, [(0, .ref 216), (1, .int a0), (4, .int s11.1), (5, .int s11.2)], [.int (e10 229 s11.2.toNatClampNeg)], am_SH, (g, e10))) rfl c28 ?_
        obtain ⟨t13, ht13, kt13⟩ := am_bind_some h
        have hKt13 : am_Ev sc (d + 2) 266 (75, [(0, .ref 216), (1, .int a0), (5, .int s11.2)], [.int t13], am_SH, (g, e10)) ((some (.int r.1)), am_SH, (g, r.2)) := by
          have h := kt13
          obtain ⟨t14, Et14, h⟩ := am_let_eq h
          refine am_Ev.go hcd 2 (s' := (77, [(0, .ref 216), (1, .int a0), (4, .int t13), (5, .int t14)], [], am_SH, (g, e10))) (by subst Et14; exact rfl) ?_
          refine am_Ev.go hcd 1 (s' := (48, [(0, .ref 216), (1, .int a0), (4, .int t13), (5, .int t14)], [], am_SH, (g, e10))) rfl ?_
          exact am_Ev.weak' (hI11 (t13, t14) (Option.some.inj h).symm) (am_sub_cons rfl (am_sub_cons rfl (am_sub_cons rfl (am_sub_cons rfl am_sub_nil)))) rfl
        have hLt13 : ∀ tt, tt = t13 → am_Ev sc (d + 2) 266 (75, [(0, .ref 216), (1, .int a0), (5, .int s11.2)], [.int tt], am_SH, (g, e10)) ((some (.int r.1)), am_SH, (g, r.2)) := fun tt htt => by subst htt; exact hKt13
        have h := ht13
        refine am_Ev.go hcd 1 (s' := (56, [(0, .ref 216), (1, .int a0), (4, .int s11.1), (5, .int s11.2)], [.int a0, .int (e10 229 s11.2.toNatClampNeg)], am_SH, (g, e10))) rfl ?_
        rcases am_ite h with ⟨c40, h⟩ | ⟨c40, h⟩
        · refine am_Ev.t hcd (c := e10 229 s11.2.toNatClampNeg = a0) (s1 := (57, [(0, .ref 216), (1, .int a0), (4, .int s11.1), (5, .int s11.2)], [], am_SH, (g, e10))) rfl c40 ?_
          refine am_Ev.go hcd 2 (s' := (75, [(0, .ref 216), (1, .int a0), (4, .int s11.1), (5, .int s11.2)], [.int 100000000], am_SH, (g, e10))) rfl ?_
          exact am_Ev.weak' (hLt13 100000000 (Option.some.inj h)) (am_sub_cons rfl (am_sub_cons rfl (am_sub_cons rfl am_sub_nil))) rfl
        · refine am_Ev.f hcd (c := e10 229 s11.2.toNatClampNeg = a0) (s1 := (59, [(0, .ref 216), (1, .int a0), (4, .int s11.1), (5, .int s11.2)], [], am_SH, (g, e10))) rfl c40 ?_
          refine am_Ev.go hcd 3 (s' := (62, [(0, .ref 216), (1, .int a0), (4, .int s11.1), (5, .int s11.2)], [.int s11.2, .ref 229], am_SH, (g, e10))) rfl ?_
          obtain ⟨c46, h⟩ := am_grd h
          refine am_Ev.t hcd (c := am_in s11.2 11 = true) (s1 := (63, [(0, .ref 216), (1, .int a0), (4, .int s11.1), (5, .int s11.2)], [.int (e10 229 s11.2.toNatClampNeg)], am_SH, (g, e10))) rfl c46 ?_
          rcases am_ite h with ⟨c49, h⟩ | ⟨c49, h⟩
          · refine am_Ev.t hcd (c := e10 229 s11.2.toNatClampNeg = 0) (s1 := (64, [(0, .ref 216), (1, .int a0), (4, .int s11.1), (5, .int s11.2)], [], am_SH, (g, e10))) rfl c49 ?_
            refine am_Ev.go hcd 2 (s' := (75, [(0, .ref 216), (1, .int a0), (4, .int s11.1), (5, .int s11.2)], [.int s11.1], am_SH, (g, e10))) rfl ?_
            exact am_Ev.weak' (hLt13 s11.1 (Option.some.inj h)) (am_sub_cons rfl (am_sub_cons rfl (am_sub_cons rfl am_sub_nil))) rfl
          · refine am_Ev.f hcd (c := e10 229 s11.2.toNatClampNeg = 0) (s1 := (66, [(0, .ref 216), (1, .int a0), (4, .int s11.1), (5, .int s11.2)], [], am_SH, (g, e10))) rfl c49 ?_
            refine am_Ev.go hcd 6 (s' := (72, [(0, .ref 216), (1, .int a0), (4, .int s11.1), (5, .int s11.2)], [.int s11.2, .ref 229, .ref 228, .int s11.1], am_SH, (g, e10))) rfl ?_
            obtain ⟨c54, h⟩ := am_grd h
            refine am_Ev.t hcd (c := am_in s11.2 11 = true) (s1 := (73, [(0, .ref 216), (1, .int a0), (4, .int s11.1), (5, .int s11.2)], [.int (e10 229 s11.2.toNatClampNeg), .ref 228, .int s11.1], am_SH, (g, e10))) rfl c54 ?_
            obtain ⟨c57, h⟩ := am_grd h
            refine am_Ev.t hcd (c := am_in (e10 229 s11.2.toNatClampNeg) 256 = true) (s1 := (74, [(0, .ref 216), (1, .int a0), (4, .int s11.1), (5, .int s11.2)], [.int (e10 228 (e10 229 s11.2.toNatClampNeg).toNatClampNeg), .int s11.1], am_SH, (g, e10))) rfl c57 ?_
            refine am_Ev.call hcd (a := 178) (s0 := (0, [(0, .int s11.1), (1, .int (e10 228 (e10 229 s11.2.toNatClampNeg).toNatClampNeg))], [], am_SH, (g, e10))) (q := ((some (.int (m_greater s11.1 (e10 228 (e10 229 s11.2.toNatClampNeg).toNatClampNeg)))), am_SH, (g, e10))) (s1 := (75, [(0, .ref 216), (1, .int a0), (4, .int s11.1), (5, .int s11.2)], [.int (m_greater s11.1 (e10 228 (e10 229 s11.2.toNatClampNeg).toNatClampNeg))], am_SH, (g, e10))) rfl rfl (m_greater_ok (d + 1) s11.1 (e10 228 (e10 229 s11.2.toNatClampNeg).toNatClampNeg) (g, e10)) ?_
            exact am_Ev.weak' (hLt13 (m_greater s11.1 (e10 228 (e10 229 s11.2.toNatClampNeg).toNatClampNeg)) (Option.some.inj h)) (am_sub_cons rfl (am_sub_cons rfl (am_sub_cons rfl am_sub_nil))) rfl
      · refine am_Ev.f hcd (c := s11.2 < 11) (s1 := (78, [(0, .ref 216), (1, .int a0), (4, .int s11.1), (5, .int s11.2)], [], am_SH, (g, e10))) rfl c25 ?_
        exact am_Ev.weak' (hZ11 s11.1 (Option.some.inj h).symm) (am_sub_cons rfl am_sub_nil) rfl
    refine am_Ev.weak' (am_loop_ok (G := fun (s5 : Int32 × (Nat → Nat → Int32)) => am_Ev sc (d + 2) 266 (14, [(0, .ref 216), (1, .int a0), (2, .int a1), (3, .int a2), (4, .int s5.1)], [], am_SH, (g, s5.2)) ((some (.int r.1)), am_SH, (g, r.2))) (Z := fun (e10 : (Nat → Nat → Int32)) => am_Ev sc (d + 2) 266 (44, [(0, .ref 216), (1, .int a0)], [], am_SH, (g, e10)) ((some (.int r.1)), am_SH, (g, r.2))) ?_ am_F (0, e4) e10 he10 hK5) (am_sub_cons rfl (am_sub_cons rfl (am_sub_cons rfl (am_sub_cons rfl (am_sub_cons rfl am_sub_nil))))) rfl
    intro s5 q5 h hI5 hZ5
    show am_Ev sc (d + 2) 266 (14, [(0, .ref 216), (1, .int a0), (2, .int a1), (3, .int a2), (4, .int s5.1)], [], am_SH, (g, s5.2)) ((some (.int r.1)), am_SH, (g, r.2))
    refine am_Ev.go hcd 2 (s' := (16, [(0, .ref 216), (1, .int a0), (2, .int a1), (3, .int a2), (4, .int s5.1)], [.int a1, .int s5.1], am_SH, (g, s5.2))) rfl ?_
    rcases am_ite h with ⟨c66, h⟩ | ⟨c66, h⟩
    · refine am_Ev.t hcd (c := s5.1 < a1) (s1 := (17, [(0, .ref 216), (1, .int a0), (2, .int a1), (3, .int a2), (4, .int s5.1)], [], am_SH, (g, s5.2))) rfl c66 ?_
      obtain ⟨t8, ht8, kt8⟩ := am_bind_some h
      have hKt8 : am_Ev sc (d + 2) 266 (42, [(0, .ref 216), (1, .int a0), (2, .int a1), (3, .int a2), (4, .int s5.1)], [], am_SH, (g, t8)) ((some (.int r.1)), am_SH, (g, r.2)) := by
        have h := kt8
        obtain ⟨t9, Et9, h⟩ := am_let_eq h
        refine am_Ev.go hcd 1 (s' := (43, [(0, .ref 216), (1, .int a0), (2, .int a1), (3, .int a2), (4, .int t9)], [], am_SH, (g, t8))) (by subst Et9; exact rfl) ?_
        refine am_Ev.go hcd 1 (s' := (14, [(0, .ref 216), (1, .int a0), (2, .int a1), (3, .int a2), (4, .int t9)], [], am_SH, (g, t8))) rfl ?_
        exact am_Ev.weak' (hI5 (t9, t8) (Option.some.inj h).symm) (am_sub_cons rfl (am_sub_cons rfl (am_sub_cons rfl (am_sub_cons rfl (am_sub_cons rfl am_sub_nil))))) rfl
      have hLt8 : ∀ tt, tt = t8 → am_Ev sc (d + 2) 266 (42, [(0, .ref 216), (1, .int a0), (2, .int a1), (3, .int a2), (4, .int s5.1)], [], am_SH, (g, tt)) ((some (.int r.1)), am_SH, (g, r.2)) := fun tt htt => by subst htt; exact hKt8
      have h := ht8
      refine am_Ev.go hcd 6 (s' := (23, [(0, .ref 216), (1, .int a0), (2, .int a1), (3, .int a2), (4, .int s5.1)], [.int 1, .int ((a0 >>> (s5.1 &&& 31)) &&& 1)], am_SH, (g, s5.2))) rfl ?_
      rcases am_ite h with ⟨c78, h⟩ | ⟨c78, h⟩
      · refine am_Ev.t hcd (c := ((a0 >>> (s5.1 &&& 31)) &&& 1) = 1) (s1 := (24, [(0, .ref 216), (1, .int a0), (2, .int a1), (3, .int a2), (4, .int s5.1)], [], am_SH, (g, s5.2))) rfl c78 ?_
        refine am_Ev.go hcd 7 (s' := (31, [(0, .ref 216), (1, .int a0), (2, .int a1), (3, .int a2), (4, .int s5.1)], [.int s5.1, .ref 227, .int 1, .ref 216, .ref 229], am_SH, (g, s5.2))) rfl ?_
        obtain ⟨c81, h⟩ := am_grd h
        refine am_Ev.t hcd (c := am_in s5.1 8 = true) (s1 := (32, [(0, .ref 216), (1, .int a0), (2, .int a1), (3, .int a2), (4, .int s5.1)], [.int (s5.2 227 s5.1.toNatClampNeg), .int 1, .ref 216, .ref 229], am_SH, (g, s5.2))) rfl c81 ?_
        refine am_Ev.go hcd 2 (s' := (34, [(0, .ref 216), (1, .int a0), (2, .int a1), (3, .int a2), (4, .int s5.1)], [.int a2, .int (1 <<< ((s5.2 227 s5.1.toNatClampNeg) &&& 31)), .ref 216, .ref 229], am_SH, (g, s5.2))) rfl ?_
        obtain ⟨p6, hp6, h⟩ := am_bind_some h
        refine am_Ev.call hcd (a := 230) (s0 := (0, [(0, .ref 216), (1, .int (1 <<< ((s5.2 227 s5.1.toNatClampNeg) &&& 31))), (2, .int a2)], [], am_SH, (g, s5.2))) (q := ((some (.int p6)), am_SH, (g, s5.2))) (s1 := (35, [(0, .ref 216), (1, .int a0), (2, .int a1), (3, .int a2), (4, .int s5.1)], [.int p6, .ref 229], am_SH, (g, s5.2))) rfl rfl (m_nearnessOf_ok (d) (1 <<< ((s5.2 227 s5.1.toNatClampNeg) &&& 31)) a2 s5.2 g p6 hp6) ?_
        refine am_Ev.go hcd 1 (s' := (36, [(0, .ref 216), (1, .int a0), (2, .int a1), (3, .int a2), (4, .int s5.1)], [.int p6, .ref 229, .int p6, .ref 229], am_SH, (g, s5.2))) rfl ?_
        obtain ⟨c87, h⟩ := am_grd h
        refine am_Ev.t hcd (c := am_in p6 11 = true) (s1 := (37, [(0, .ref 216), (1, .int a0), (2, .int a1), (3, .int a2), (4, .int s5.1)], [.int (s5.2 229 p6.toNatClampNeg), .int p6, .ref 229], am_SH, (g, s5.2))) rfl c87 ?_
        refine am_Ev.go hcd 4 (s' := (41, [(0, .ref 216), (1, .int a0), (2, .int a1), (3, .int a2), (4, .int s5.1)], [.int ((s5.2 229 p6.toNatClampNeg) ||| (1 <<< (s5.1 &&& 31))), .int p6, .ref 229], am_SH, (g, s5.2))) rfl ?_
        obtain ⟨c90, h⟩ := am_grd h
        obtain ⟨f7, Ef7, h⟩ := am_let_eq h
        refine am_Ev.t hcd (c := am_in p6 11 = true) (s1 := (42, [(0, .ref 216), (1, .int a0), (2, .int a1), (3, .int a2), (4, .int s5.1)], [], am_SH, (g, f7))) (by subst Ef7; exact rfl) c90 ?_
        exact am_Ev.weak' (hLt8 f7 (Option.some.inj h)) (am_sub_cons rfl (am_sub_cons rfl (am_sub_cons rfl (am_sub_cons rfl (am_sub_cons rfl am_sub_nil))))) rfl
      · refine am_Ev.f hcd (c := ((a0 >>> (s5.1 &&& 31)) &&& 1) = 1) (s1 := (42, [(0, .ref 216), (1, .int a0), (2, .int a1), (3, .int a2), (4, .int s5.1)], [], am_SH, (g, s5.2))) rfl c78 ?_
        exact am_Ev.weak' (hLt8 s5.2 (Option.some.inj h)) (am_sub_cons rfl (am_sub_cons rfl (am_sub_cons rfl (am_sub_cons rfl (am_sub_cons rfl am_sub_nil))))) rfl
    · refine am_Ev.f hcd (c := s5.1 < a1) (s1 := (44, [(0, .ref 216), (1, .int a0), (2, .int a1), (3, .int a2), (4, .int s5.1)], [], am_SH, (g, s5.2))) rfl c66 ?_
      exact am_Ev.weak' (hZ5 s5.2 (Option.some.inj h).symm) (am_sub_cons rfl (am_sub_cons rfl am_sub_nil)) rfl
  refine am_Ev.weak' (am_loop_ok (G := fun (s1 : Int32 × (Nat → Nat → Int32)) => am_Ev sc (d + 2) 266 (2, [(0, .ref 216), (1, .int a0), (2, .int a1), (3, .int a2), (4, .int s1.1)], [], am_SH, (g, s1.2)) ((some (.int r.1)), am_SH, (g, r.2))) (Z := fun (e4 : (Nat → Nat → Int32)) => am_Ev sc (d + 2) 266 (12, [(0, .ref 216), (1, .int a0), (2, .int a1), (3, .int a2)], [], am_SH, (g, e4)) ((some (.int r.1)), am_SH, (g, r.2))) ?_ am_F (0, f) e4 he4 hK1) (am_sub_cons rfl (am_sub_cons rfl (am_sub_cons rfl (am_sub_cons rfl (am_sub_cons rfl am_sub_nil))))) rfl
  intro s1 q1 h hI1 hZ1
  show am_Ev sc (d + 2) 266 (2, [(0, .ref 216), (1, .int a0), (2, .int a1), (3, .int a2), (4, .int s1.1)], [], am_SH, (g, s1.2)) ((some (.int r.1)), am_SH, (g, r.2))
  refine am_Ev.go hcd 2 (s' := (4, [(0, .ref 216), (1, .int a0), (2, .int a1), (3, .int a2), (4, .int s1.1)], [.int 11, .int s1.1], am_SH, (g, s1.2))) rfl ?_
  rcases am_ite h with ⟨c102, h⟩ | ⟨c102, h⟩
  · refine am_Ev.t hcd (c := s1.1 < 11) (s1 := (5, [(0, .ref 216), (1, .int a0), (2, .int a1), (3, .int a2), (4, .int s1.1)], [], am_SH, (g, s1.2))) rfl c102 ?_
    refine am_Ev.go hcd 4 (s' := (9, [(0, .ref 216), (1, .int a0), (2, .int a1), (3, .int a2), (4, .int s1.1)], [.int 0, .int s1.1, .ref 229], am_SH, (g, s1.2))) rfl ?_
    obtain ⟨c105, h⟩ := am_grd h
    obtain ⟨f2, Ef2, h⟩ := am_let_eq h
    refine am_Ev.t hcd (c := am_in s1.1 11 = true) (s1 := (10, [(0, .ref 216), (1, .int a0), (2, .int a1), (3, .int a2), (4, .int s1.1)], [], am_SH, (g, f2))) (by subst Ef2; exact rfl) c105 ?_
    obtain ⟨t3, Et3, h⟩ := am_let_eq h
    refine am_Ev.go hcd 1 (s' := (11, [(0, .ref 216), (1, .int a0), (2, .int a1), (3, .int a2), (4, .int t3)], [], am_SH, (g, f2))) (by subst Et3; exact rfl) ?_
    refine am_Ev.go hcd 1 (s' := (2, [(0, .ref 216), (1, .int a0), (2, .int a1), (3, .int a2), (4, .int t3)], [], am_SH, (g, f2))) rfl ?_
    exact am_Ev.weak' (hI1 (t3, f2) (Option.some.inj h).symm) (am_sub_cons rfl (am_sub_cons rfl (am_sub_cons rfl (am_sub_cons rfl (am_sub_cons rfl am_sub_nil))))) rfl
  · refine am_Ev.f hcd (c := s1.1 < 11) (s1 := (12, [(0, .ref 216), (1, .int a0), (2, .int a1), (3, .int a2), (4, .int s1.1)], [], am_SH, (g, s1.2))) rfl c102 ?_
    exact am_Ev.weak' (hZ1 s1.2 (Option.some.inj h).symm) (am_sub_cons rfl (am_sub_cons rfl (am_sub_cons rfl (am_sub_cons rfl am_sub_nil)))) rfl
def m_bestWord (a0 : Int32) (a1 : Int32) (f : (Nat → Nat → Int32)) : Option (Int32 × (Nat → Nat → Int32)) :=
  am_loop (fun (s1 : Int32 × Int32 × (Nat → Nat → Int32)) => ((
    if s1.2.1 < 16 then (
      (m_wordsBy a0 a1 s1.2.1 s1.2.2).bind fun p2 =>
      (m_wordsBy a0 a1 s1.1 p2.2).bind fun p3 =>
      am_let ((if p2.1 < p3.1 then (
          s1.2.1)
        else (
          s1.1)) : Int32) fun t4 =>
      am_let (s1.2.1 + 1 : Int32) fun t5 =>
      some (.inl (t4, t5, p3.2)))
    else (
      some (.inr (s1.1, s1.2.2)))) : Option ((Int32 × Int32 × (Nat → Nat → Int32)) ⊕ (Int32 × (Nat → Nat → Int32))))) am_F (0, 1, f)
set_option maxRecDepth 100000 in
set_option maxHeartbeats 4000000 in
theorem m_bestWord_ok {sc : Nat × (Nat → Int32)} (d : Nat) (a0 : Int32) (a1 : Int32) (f g : (Nat → Nat → Int32)) (r : Int32 × (Nat → Nat → Int32)) (h : m_bestWord a0 a1 f = some r) : am_Ev sc (d + 3) 267 (0, [(0, .ref 216), (1, .int a0), (2, .int a1)], [], am_SH, (g, f)) ((some (.int r.1)), am_SH, (g, r.2)) := by
  have hcd : am_code 267 = am_c267 := rfl
  unfold m_bestWord at h
  refine am_Ev.go hcd 4 (s' := (4, [(0, .ref 216), (1, .int a0), (2, .int a1), (3, .int 0), (4, .int 1)], [], am_SH, (g, f))) rfl ?_
  refine am_Ev.weak' (am_loop_ok (G := fun (s1 : Int32 × Int32 × (Nat → Nat → Int32)) => am_Ev sc (d + 3) 267 (4, [(0, .ref 216), (1, .int a0), (2, .int a1), (3, .int s1.1), (4, .int s1.2.1)], [], am_SH, (g, s1.2.2)) ((some (.int r.1)), am_SH, (g, r.2))) (Z := fun (v : Int32 × (Nat → Nat → Int32)) => (((some (.int v.1)), am_SH, (g, v.2)) : am_R) = ((some (.int r.1)), am_SH, (g, r.2))) ?_ am_F (0, 1, f) r h rfl) (am_sub_cons rfl (am_sub_cons rfl (am_sub_cons rfl (am_sub_cons rfl (am_sub_cons rfl am_sub_nil))))) rfl
  intro s1 q1 h hI1 hZ1
  show am_Ev sc (d + 3) 267 (4, [(0, .ref 216), (1, .int a0), (2, .int a1), (3, .int s1.1), (4, .int s1.2.1)], [], am_SH, (g, s1.2.2)) ((some (.int r.1)), am_SH, (g, r.2))
  refine am_Ev.go hcd 2 (s' := (6, [(0, .ref 216), (1, .int a0), (2, .int a1), (3, .int s1.1), (4, .int s1.2.1)], [.int 16, .int s1.2.1], am_SH, (g, s1.2.2))) rfl ?_
  rcases am_ite h with ⟨c6, h⟩ | ⟨c6, h⟩
  · refine am_Ev.t hcd (c := s1.2.1 < 16) (s1 := (7, [(0, .ref 216), (1, .int a0), (2, .int a1), (3, .int s1.1), (4, .int s1.2.1)], [], am_SH, (g, s1.2.2))) rfl c6 ?_
    refine am_Ev.go hcd 4 (s' := (11, [(0, .ref 216), (1, .int a0), (2, .int a1), (3, .int s1.1), (4, .int s1.2.1)], [.int s1.2.1, .int a1, .int a0, .ref 216], am_SH, (g, s1.2.2))) rfl ?_
    obtain ⟨p2, hp2, h⟩ := am_bind_some h
    refine am_Ev.call hcd (a := 266) (s0 := (0, [(0, .ref 216), (1, .int a0), (2, .int a1), (3, .int s1.2.1)], [], am_SH, (g, s1.2.2))) (q := ((some (.int p2.1)), am_SH, (g, p2.2))) (s1 := (12, [(0, .ref 216), (1, .int a0), (2, .int a1), (3, .int s1.1), (4, .int s1.2.1)], [.int p2.1], am_SH, (g, p2.2))) rfl rfl (m_wordsBy_ok (d) a0 a1 s1.2.1 s1.2.2 g p2 hp2) ?_
    refine am_Ev.go hcd 4 (s' := (16, [(0, .ref 216), (1, .int a0), (2, .int a1), (3, .int s1.1), (4, .int s1.2.1)], [.int s1.1, .int a1, .int a0, .ref 216, .int p2.1], am_SH, (g, p2.2))) rfl ?_
    obtain ⟨p3, hp3, h⟩ := am_bind_some h
    refine am_Ev.call hcd (a := 266) (s0 := (0, [(0, .ref 216), (1, .int a0), (2, .int a1), (3, .int s1.1)], [], am_SH, (g, p2.2))) (q := ((some (.int p3.1)), am_SH, (g, p3.2))) (s1 := (17, [(0, .ref 216), (1, .int a0), (2, .int a1), (3, .int s1.1), (4, .int s1.2.1)], [.int p3.1, .int p2.1], am_SH, (g, p3.2))) rfl rfl (m_wordsBy_ok (d) a0 a1 s1.1 p2.2 g p3 hp3) ?_
    obtain ⟨t4, ht4, kt4⟩ := am_let_eq h
    have hKt4 : am_Ev sc (d + 3) 267 (21, [(0, .ref 216), (1, .int a0), (2, .int a1), (4, .int s1.2.1)], [.int t4], am_SH, (g, p3.2)) ((some (.int r.1)), am_SH, (g, r.2)) := by
      have h := kt4
      obtain ⟨t5, Et5, h⟩ := am_let_eq h
      refine am_Ev.go hcd 2 (s' := (23, [(0, .ref 216), (1, .int a0), (2, .int a1), (3, .int t4), (4, .int t5)], [], am_SH, (g, p3.2))) (by subst Et5; exact rfl) ?_
      refine am_Ev.go hcd 1 (s' := (4, [(0, .ref 216), (1, .int a0), (2, .int a1), (3, .int t4), (4, .int t5)], [], am_SH, (g, p3.2))) rfl ?_
      exact am_Ev.weak' (hI1 (t4, t5, p3.2) (Option.some.inj h).symm) (am_sub_cons rfl (am_sub_cons rfl (am_sub_cons rfl (am_sub_cons rfl (am_sub_cons rfl am_sub_nil))))) rfl
    have hLt4 : ∀ tt, tt = t4 → am_Ev sc (d + 3) 267 (21, [(0, .ref 216), (1, .int a0), (2, .int a1), (4, .int s1.2.1)], [.int tt], am_SH, (g, p3.2)) ((some (.int r.1)), am_SH, (g, r.2)) := fun tt htt => by subst htt; exact hKt4
    have h := ht4
    rcases am_itv h with ⟨c24, h⟩ | ⟨c24, h⟩
    · refine am_Ev.t hcd (c := p2.1 < p3.1) (s1 := (18, [(0, .ref 216), (1, .int a0), (2, .int a1), (3, .int s1.1), (4, .int s1.2.1)], [], am_SH, (g, p3.2))) rfl c24 ?_
      refine am_Ev.go hcd 2 (s' := (21, [(0, .ref 216), (1, .int a0), (2, .int a1), (3, .int s1.1), (4, .int s1.2.1)], [.int s1.2.1], am_SH, (g, p3.2))) rfl ?_
      exact am_Ev.weak' (hLt4 s1.2.1 h.symm) (am_sub_cons rfl (am_sub_cons rfl (am_sub_cons rfl (am_sub_cons rfl am_sub_nil)))) rfl
    · refine am_Ev.f hcd (c := p2.1 < p3.1) (s1 := (20, [(0, .ref 216), (1, .int a0), (2, .int a1), (3, .int s1.1), (4, .int s1.2.1)], [], am_SH, (g, p3.2))) rfl c24 ?_
      refine am_Ev.go hcd 1 (s' := (21, [(0, .ref 216), (1, .int a0), (2, .int a1), (3, .int s1.1), (4, .int s1.2.1)], [.int s1.1], am_SH, (g, p3.2))) rfl ?_
      exact am_Ev.weak' (hLt4 s1.1 h.symm) (am_sub_cons rfl (am_sub_cons rfl (am_sub_cons rfl (am_sub_cons rfl am_sub_nil)))) rfl
  · refine am_Ev.f hcd (c := s1.2.1 < 16) (s1 := (24, [(0, .ref 216), (1, .int a0), (2, .int a1), (3, .int s1.1), (4, .int s1.2.1)], [], am_SH, (g, s1.2.2))) rfl c6 ?_
    refine am_Ev.go hcd 1 (s' := (25, [(0, .ref 216), (1, .int a0), (2, .int a1), (3, .int s1.1), (4, .int s1.2.1)], [.int s1.1], am_SH, (g, s1.2.2))) rfl ?_
    exact am_Ev.cast (a := ((some (.int (s1.1, s1.2.2).1)), am_SH, (g, (s1.1, s1.2.2).2))) (hZ1 _ (Option.some.inj h).symm) (am_Ev.ret hcd rfl)
def m_words (a0 : Int32) (a1 : Int32) (f : (Nat → Nat → Int32)) : Option (Int32 × (Nat → Nat → Int32)) :=
  if (m_isIn a0 0 65535) = true then (
    (m_bitsOf a0).bind fun p2 =>
    if 8 < p2 then (
      some ((-1), f))
    else (
      if (m_isIn a1 0 1) = true then (
        (am_loop (fun (s4 : Int32 × Int32 × (Nat → Nat → Int32)) => ((
          if s4.2.1 < 16 then (
            ((if ((a0 >>> (s4.2.1 &&& 31)) &&& 1) = 0 then (
                some (s4.1, s4.2.2))
              else (
                if am_in s4.1 8 = true then (
                am_let (am_up s4.2.2 227 s4.1.toNatClampNeg s4.2.1 : Nat → Nat → Int32) fun f5 =>
                am_let (s4.1 + 1 : Int32) fun t6 =>
                some (t6, f5)) else none)) : Option (Int32 × (Nat → Nat → Int32))).bind fun t7 =>
            am_let (s4.2.1 + 1 : Int32) fun t8 =>
            some (.inl (t7.1, t8, t7.2)))
          else (
            some (.inr (s4.1, s4.2.2)))) : Option ((Int32 × Int32 × (Nat → Nat → Int32)) ⊕ (Int32 × (Nat → Nat → Int32))))) am_F (0, 0, f)).bind fun e9 =>
        if e9.1 < 2 then (
          if e9.1 = 1 then (
            if a1 = 0 then (
              some (0, e9.2))
            else (
              some ((-1), e9.2)))
          else (
            some ((-1), e9.2)))
        else (
          (am_loop (fun (s10 : Int32 × (Nat → Nat → Int32)) => ((
            if s10.1 < (1 <<< (e9.1 &&& 31)) then (
              (m_bitsOf s10.1).bind fun p11 =>
              ((if p11 = 1 then (
                  some (0, s10.2))
                else (
                  (m_bestWord s10.1 e9.1 s10.2).bind fun p12 =>
                  (m_wordsBy s10.1 e9.1 p12.1 p12.2).bind fun p13 =>
                  some (p13.1, p13.2))) : Option (Int32 × (Nat → Nat → Int32))).bind fun t14 =>
              if am_in s10.1 256 = true then (
              am_let (am_up t14.2 228 s10.1.toNatClampNeg t14.1 : Nat → Nat → Int32) fun f15 =>
              am_let (s10.1 + 1 : Int32) fun t16 =>
              some (.inl (t16, f15))) else none)
            else (
              some (.inr s10.2))) : Option ((Int32 × (Nat → Nat → Int32)) ⊕ ((Nat → Nat → Int32))))) am_F (1, e9.2)).bind fun e17 =>
          if a1 = 0 then (
            if am_in ((1 <<< (e9.1 &&& 31)) - 1) 256 = true then (
            some (e17 228 ((1 <<< (e9.1 &&& 31)) - 1).toNatClampNeg, e17)) else none)
          else (
            (m_bestWord ((1 <<< (e9.1 &&& 31)) - 1) e9.1 e17).bind fun p18 =>
            some (p18.1, p18.2))))
      else (
        some ((-1), f))))
  else (
    some ((-1), f))
set_option maxRecDepth 100000 in
set_option maxHeartbeats 4000000 in
theorem m_words_ok {sc : Nat × (Nat → Int32)} (d : Nat) (a0 : Int32) (a1 : Int32) (f g : (Nat → Nat → Int32)) (r : Int32 × (Nat → Nat → Int32)) (h : m_words a0 a1 f = some r) : am_Ev sc (d + 4) 268 (0, [(0, .ref 216), (1, .int a0), (2, .int a1)], [], am_SH, (g, f)) ((some (.int r.1)), am_SH, (g, r.2)) := by
  have hcd : am_code 268 = am_c268 := rfl
  unfold m_words at h
  refine am_Ev.go hcd 3 (s' := (3, [(0, .ref 216), (1, .int a0), (2, .int a1)], [.int 65535, .int 0, .int a0], am_SH, (g, f))) rfl ?_
  refine am_Ev.call hcd (a := 176) (s0 := (0, [(0, .int a0), (1, .int 0), (2, .int 65535)], [], am_SH, (g, f))) (q := ((some (.int (am_b (m_isIn a0 0 65535)))), am_SH, (g, f))) (s1 := (4, [(0, .ref 216), (1, .int a0), (2, .int a1)], [.int (am_b (m_isIn a0 0 65535))], am_SH, (g, f))) rfl rfl (m_isIn_ok (d + 3) a0 0 65535 (g, f)) ?_
  rcases am_ite h with ⟨c4, h⟩ | ⟨c4, h⟩
  · refine am_Ev.f hcd (c := am_b (m_isIn a0 0 65535) = 0) (s1 := (5, [(0, .ref 216), (1, .int a0), (2, .int a1)], [], am_SH, (g, f))) rfl (am_b_t c4) ?_
    refine am_Ev.go hcd 1 (s' := (6, [(0, .ref 216), (1, .int a0), (2, .int a1)], [.int a0], am_SH, (g, f))) rfl ?_
    obtain ⟨p2, hp2, h⟩ := am_bind_some h
    refine am_Ev.call hcd (a := 179) (s0 := (0, [(0, .int a0)], [], am_SH, (g, f))) (q := ((some (.int p2)), am_SH, (g, f))) (s1 := (7, [(0, .ref 216), (1, .int a0), (2, .int a1)], [.int p2], am_SH, (g, f))) rfl rfl (m_bitsOf_ok (d + 3) a0 (g, f) p2 hp2) ?_
    refine am_Ev.go hcd 1 (s' := (8, [(0, .ref 216), (1, .int a0), (2, .int a1)], [.int 8, .int p2], am_SH, (g, f))) rfl ?_
    rcases am_ite h with ⟨c9, h⟩ | ⟨c9, h⟩
    · refine am_Ev.t hcd (c := 8 < p2) (s1 := (14, [(0, .ref 216), (1, .int a0), (2, .int a1)], [], am_SH, (g, f))) rfl c9 ?_
      refine am_Ev.go hcd 1 (s' := (15, [(0, .ref 216), (1, .int a0), (2, .int a1)], [.int (-1)], am_SH, (g, f))) rfl ?_
      exact am_Ev.cast (a := ((some (.int ((-1), f).1)), am_SH, (g, ((-1), f).2))) (by cases h; rfl) (am_Ev.ret hcd rfl)
    · refine am_Ev.f hcd (c := 8 < p2) (s1 := (9, [(0, .ref 216), (1, .int a0), (2, .int a1)], [], am_SH, (g, f))) rfl c9 ?_
      refine am_Ev.go hcd 3 (s' := (12, [(0, .ref 216), (1, .int a0), (2, .int a1)], [.int 1, .int 0, .int a1], am_SH, (g, f))) rfl ?_
      refine am_Ev.call hcd (a := 176) (s0 := (0, [(0, .int a1), (1, .int 0), (2, .int 1)], [], am_SH, (g, f))) (q := ((some (.int (am_b (m_isIn a1 0 1)))), am_SH, (g, f))) (s1 := (13, [(0, .ref 216), (1, .int a0), (2, .int a1)], [.int (am_b (m_isIn a1 0 1))], am_SH, (g, f))) rfl rfl (m_isIn_ok (d + 3) a1 0 1 (g, f)) ?_
      rcases am_ite h with ⟨c17, h⟩ | ⟨c17, h⟩
      · refine am_Ev.f hcd (c := am_b (m_isIn a1 0 1) = 0) (s1 := (16, [(0, .ref 216), (1, .int a0), (2, .int a1)], [], am_SH, (g, f))) rfl (am_b_t c17) ?_
        refine am_Ev.go hcd 4 (s' := (20, [(0, .ref 216), (1, .int a0), (2, .int a1), (3, .int 0), (4, .int 0)], [], am_SH, (g, f))) rfl ?_
        obtain ⟨e9, he9, h⟩ := am_bind_some h
        have hK4 : (fun (e9 : Int32 × (Nat → Nat → Int32)) => am_Ev sc (d + 4) 268 (38, [(0, .ref 216), (2, .int a1), (3, .int e9.1)], [], am_SH, (g, e9.2)) ((some (.int r.1)), am_SH, (g, r.2))) e9 := by
          show am_Ev sc (d + 4) 268 (38, [(0, .ref 216), (2, .int a1), (3, .int e9.1)], [], am_SH, (g, e9.2)) ((some (.int r.1)), am_SH, (g, r.2))
          refine am_Ev.go hcd 2 (s' := (40, [(0, .ref 216), (2, .int a1), (3, .int e9.1)], [.int 2, .int e9.1], am_SH, (g, e9.2))) rfl ?_
          rcases am_ite h with ⟨c23, h⟩ | ⟨c23, h⟩
          · refine am_Ev.t hcd (c := e9.1 < 2) (s1 := (41, [(0, .ref 216), (2, .int a1), (3, .int e9.1)], [], am_SH, (g, e9.2))) rfl c23 ?_
            refine am_Ev.go hcd 2 (s' := (43, [(0, .ref 216), (2, .int a1), (3, .int e9.1)], [.int 1, .int e9.1], am_SH, (g, e9.2))) rfl ?_
            rcases am_ite h with ⟨c26, h⟩ | ⟨c26, h⟩
            · refine am_Ev.t hcd (c := e9.1 = 1) (s1 := (44, [(0, .ref 216), (2, .int a1), (3, .int e9.1)], [], am_SH, (g, e9.2))) rfl c26 ?_
              refine am_Ev.go hcd 1 (s' := (45, [(0, .ref 216), (2, .int a1), (3, .int e9.1)], [.int a1], am_SH, (g, e9.2))) rfl ?_
              rcases am_ite h with ⟨c29, h⟩ | ⟨c29, h⟩
              · refine am_Ev.t hcd (c := a1 = 0) (s1 := (46, [(0, .ref 216), (2, .int a1), (3, .int e9.1)], [], am_SH, (g, e9.2))) rfl c29 ?_
                refine am_Ev.go hcd 2 (s' := (49, [(0, .ref 216), (2, .int a1), (3, .int e9.1)], [.int 0], am_SH, (g, e9.2))) rfl ?_
                exact am_Ev.cast (a := ((some (.int (0, e9.2).1)), am_SH, (g, (0, e9.2).2))) (by cases h; rfl) (am_Ev.ret hcd rfl)
              · refine am_Ev.f hcd (c := a1 = 0) (s1 := (48, [(0, .ref 216), (2, .int a1), (3, .int e9.1)], [], am_SH, (g, e9.2))) rfl c29 ?_
                refine am_Ev.go hcd 1 (s' := (49, [(0, .ref 216), (2, .int a1), (3, .int e9.1)], [.int (-1)], am_SH, (g, e9.2))) rfl ?_
                exact am_Ev.cast (a := ((some (.int ((-1), e9.2).1)), am_SH, (g, ((-1), e9.2).2))) (by cases h; rfl) (am_Ev.ret hcd rfl)
            · refine am_Ev.f hcd (c := e9.1 = 1) (s1 := (48, [(0, .ref 216), (2, .int a1), (3, .int e9.1)], [], am_SH, (g, e9.2))) rfl c26 ?_
              refine am_Ev.go hcd 1 (s' := (49, [(0, .ref 216), (2, .int a1), (3, .int e9.1)], [.int (-1)], am_SH, (g, e9.2))) rfl ?_
              exact am_Ev.cast (a := ((some (.int ((-1), e9.2).1)), am_SH, (g, ((-1), e9.2).2))) (by cases h; rfl) (am_Ev.ret hcd rfl)
          · refine am_Ev.f hcd (c := e9.1 < 2) (s1 := (50, [(0, .ref 216), (2, .int a1), (3, .int e9.1)], [], am_SH, (g, e9.2))) rfl c23 ?_
            refine am_Ev.go hcd 2 (s' := (52, [(0, .ref 216), (2, .int a1), (3, .int e9.1), (4, .int 1)], [], am_SH, (g, e9.2))) rfl ?_
            obtain ⟨e17, he17, h⟩ := am_bind_some h
            have hK10 : (fun (e17 : (Nat → Nat → Int32)) => am_Ev sc (d + 4) 268 (77, [(0, .ref 216), (2, .int a1), (3, .int e9.1)], [], am_SH, (g, e17)) ((some (.int r.1)), am_SH, (g, r.2))) e17 := by
              show am_Ev sc (d + 4) 268 (77, [(0, .ref 216), (2, .int a1), (3, .int e9.1)], [], am_SH, (g, e17)) ((some (.int r.1)), am_SH, (g, r.2))
              refine am_Ev.go hcd 1 (s' := (78, [(0, .ref 216), (2, .int a1), (3, .int e9.1)], [.int a1], am_SH, (g, e17))) rfl ?_
              rcases am_ite h with ⟨c45, h⟩ | ⟨c45, h⟩
              · refine am_Ev.t hcd (c := a1 = 0) (s1 := (79, [(0, .ref 216), (2, .int a1), (3, .int e9.1)], [], am_SH, (g, e17))) rfl c45 ?_
                refine am_Ev.go hcd 7 (s' := (86, [(0, .ref 216), (2, .int a1), (3, .int e9.1)], [.int ((1 <<< (e9.1 &&& 31)) - 1), .ref 228], am_SH, (g, e17))) rfl ?_
                obtain ⟨c48, h⟩ := am_grd h
                refine am_Ev.t hcd (c := am_in ((1 <<< (e9.1 &&& 31)) - 1) 256 = true) (s1 := (87, [(0, .ref 216), (2, .int a1), (3, .int e9.1)], [.int (e17 228 ((1 <<< (e9.1 &&& 31)) - 1).toNatClampNeg)], am_SH, (g, e17))) rfl c48 ?_
                refine am_Ev.go hcd 1 (s' := (96, [(0, .ref 216), (2, .int a1), (3, .int e9.1)], [.int (e17 228 ((1 <<< (e9.1 &&& 31)) - 1).toNatClampNeg)], am_SH, (g, e17))) rfl ?_
                exact am_Ev.cast (a := ((some (.int (e17 228 ((1 <<< (e9.1 &&& 31)) - 1).toNatClampNeg, e17).1)), am_SH, (g, (e17 228 ((1 <<< (e9.1 &&& 31)) - 1).toNatClampNeg, e17).2))) (by cases h; rfl) (am_Ev.ret hcd rfl)
              · refine am_Ev.f hcd (c := a1 = 0) (s1 := (88, [(0, .ref 216), (2, .int a1), (3, .int e9.1)], [], am_SH, (g, e17))) rfl c45 ?_
                refine am_Ev.go hcd 7 (s' := (95, [(0, .ref 216), (2, .int a1), (3, .int e9.1)], [.int e9.1, .int ((1 <<< (e9.1 &&& 31)) - 1), .ref 216], am_SH, (g, e17))) rfl ?_
                obtain ⟨p18, hp18, h⟩ := am_bind_some h
                refine am_Ev.call hcd (a := 267) (s0 := (0, [(0, .ref 216), (1, .int ((1 <<< (e9.1 &&& 31)) - 1)), (2, .int e9.1)], [], am_SH, (g, e17))) (q := ((some (.int p18.1)), am_SH, (g, p18.2))) (s1 := (96, [(0, .ref 216), (2, .int a1), (3, .int e9.1)], [.int p18.1], am_SH, (g, p18.2))) rfl rfl (m_bestWord_ok (d) ((1 <<< (e9.1 &&& 31)) - 1) e9.1 e17 g p18 hp18) ?_
                exact am_Ev.cast (a := ((some (.int (p18.1, p18.2).1)), am_SH, (g, (p18.1, p18.2).2))) (by cases h; rfl) (am_Ev.ret hcd rfl)
            refine am_Ev.weak' (am_loop_ok (G := fun (s10 : Int32 × (Nat → Nat → Int32)) => am_Ev sc (d + 4) 268 (52, [(0, .ref 216), (2, .int a1), (3, .int e9.1), (4, .int s10.1)], [], am_SH, (g, s10.2)) ((some (.int r.1)), am_SH, (g, r.2))) (Z := fun (e17 : (Nat → Nat → Int32)) => am_Ev sc (d + 4) 268 (77, [(0, .ref 216), (2, .int a1), (3, .int e9.1)], [], am_SH, (g, e17)) ((some (.int r.1)), am_SH, (g, r.2))) ?_ am_F (1, e9.2) e17 he17 hK10) (am_sub_cons rfl (am_sub_cons rfl (am_sub_cons rfl (am_sub_cons rfl am_sub_nil)))) rfl
            intro s10 q10 h hI10 hZ10
            show am_Ev sc (d + 4) 268 (52, [(0, .ref 216), (2, .int a1), (3, .int e9.1), (4, .int s10.1)], [], am_SH, (g, s10.2)) ((some (.int r.1)), am_SH, (g, r.2))
            refine am_Ev.go hcd 4 (s' := (56, [(0, .ref 216), (2, .int a1), (3, .int e9.1), (4, .int s10.1)], [.int (1 <<< (e9.1 &&& 31)), .int s10.1], am_SH, (g, s10.2))) rfl ?_
            rcases am_ite h with ⟨c61, h⟩ | ⟨c61, h⟩
            · refine am_Ev.t hcd (c := s10.1 < (1 <<< (e9.1 &&& 31))) (s1 := (57, [(0, .ref 216), (2, .int a1), (3, .int e9.1), (4, .int s10.1)], [], am_SH, (g, s10.2))) rfl c61 ?_
              refine am_Ev.go hcd 4 (s' := (61, [(0, .ref 216), (2, .int a1), (3, .int e9.1), (4, .int s10.1)], [.int s10.1, .int s10.1, .ref 228], am_SH, (g, s10.2))) rfl ?_
              obtain ⟨p11, hp11, h⟩ := am_bind_some h
              refine am_Ev.call hcd (a := 179) (s0 := (0, [(0, .int s10.1)], [], am_SH, (g, s10.2))) (q := ((some (.int p11)), am_SH, (g, s10.2))) (s1 := (62, [(0, .ref 216), (2, .int a1), (3, .int e9.1), (4, .int s10.1)], [.int p11, .int s10.1, .ref 228], am_SH, (g, s10.2))) rfl rfl (m_bitsOf_ok (d + 3) s10.1 (g, s10.2) p11 hp11) ?_
              obtain ⟨t14, ht14, kt14⟩ := am_bind_some h
              have hKt14 : am_Ev sc (d + 4) 268 (74, [(0, .ref 216), (2, .int a1), (3, .int e9.1), (4, .int s10.1)], [.int t14.1, .int s10.1, .ref 228], am_SH, (g, t14.2)) ((some (.int r.1)), am_SH, (g, r.2)) := by
                have h := kt14
                obtain ⟨c70, h⟩ := am_grd h
                obtain ⟨f15, Ef15, h⟩ := am_let_eq h
                refine am_Ev.t hcd (c := am_in s10.1 256 = true) (s1 := (75, [(0, .ref 216), (2, .int a1), (3, .int e9.1), (4, .int s10.1)], [], am_SH, (g, f15))) (by subst Ef15; exact rfl) c70 ?_
                obtain ⟨t16, Et16, h⟩ := am_let_eq h
                refine am_Ev.go hcd 1 (s' := (76, [(0, .ref 216), (2, .int a1), (3, .int e9.1), (4, .int t16)], [], am_SH, (g, f15))) (by subst Et16; exact rfl) ?_
                refine am_Ev.go hcd 1 (s' := (52, [(0, .ref 216), (2, .int a1), (3, .int e9.1), (4, .int t16)], [], am_SH, (g, f15))) rfl ?_
                exact am_Ev.weak' (hI10 (t16, f15) (Option.some.inj h).symm) (am_sub_cons rfl (am_sub_cons rfl (am_sub_cons rfl (am_sub_cons rfl am_sub_nil)))) rfl
              have hLt14 : ∀ tt, tt = t14 → am_Ev sc (d + 4) 268 (74, [(0, .ref 216), (2, .int a1), (3, .int e9.1), (4, .int s10.1)], [.int tt.1, .int s10.1, .ref 228], am_SH, (g, tt.2)) ((some (.int r.1)), am_SH, (g, r.2)) := fun tt htt => by subst htt; exact hKt14
              have h := ht14
              refine am_Ev.go hcd 1 (s' := (63, [(0, .ref 216), (2, .int a1), (3, .int e9.1), (4, .int s10.1)], [.int 1, .int p11, .int s10.1, .ref 228], am_SH, (g, s10.2))) rfl ?_
              rcases am_ite h with ⟨c79, h⟩ | ⟨c79, h⟩
              · refine am_Ev.t hcd (c := p11 = 1) (s1 := (64, [(0, .ref 216), (2, .int a1), (3, .int e9.1), (4, .int s10.1)], [.int s10.1, .ref 228], am_SH, (g, s10.2))) rfl c79 ?_
                refine am_Ev.go hcd 2 (s' := (74, [(0, .ref 216), (2, .int a1), (3, .int e9.1), (4, .int s10.1)], [.int 0, .int s10.1, .ref 228], am_SH, (g, s10.2))) rfl ?_
                exact am_Ev.weak' (hLt14 (0, s10.2) (Option.some.inj h)) (am_sub_cons rfl (am_sub_cons rfl (am_sub_cons rfl (am_sub_cons rfl am_sub_nil)))) rfl
              · refine am_Ev.f hcd (c := p11 = 1) (s1 := (66, [(0, .ref 216), (2, .int a1), (3, .int e9.1), (4, .int s10.1)], [.int s10.1, .ref 228], am_SH, (g, s10.2))) rfl c79 ?_
                refine am_Ev.go hcd 6 (s' := (72, [(0, .ref 216), (2, .int a1), (3, .int e9.1), (4, .int s10.1)], [.int e9.1, .int s10.1, .ref 216, .int e9.1, .int s10.1, .ref 216, .int s10.1, .ref 228], am_SH, (g, s10.2))) rfl ?_
                obtain ⟨p12, hp12, h⟩ := am_bind_some h
                refine am_Ev.call hcd (a := 267) (s0 := (0, [(0, .ref 216), (1, .int s10.1), (2, .int e9.1)], [], am_SH, (g, s10.2))) (q := ((some (.int p12.1)), am_SH, (g, p12.2))) (s1 := (73, [(0, .ref 216), (2, .int a1), (3, .int e9.1), (4, .int s10.1)], [.int p12.1, .int e9.1, .int s10.1, .ref 216, .int s10.1, .ref 228], am_SH, (g, p12.2))) rfl rfl (m_bestWord_ok (d) s10.1 e9.1 s10.2 g p12 hp12) ?_
                obtain ⟨p13, hp13, h⟩ := am_bind_some h
                refine am_Ev.call hcd (a := 266) (s0 := (0, [(0, .ref 216), (1, .int s10.1), (2, .int e9.1), (3, .int p12.1)], [], am_SH, (g, p12.2))) (q := ((some (.int p13.1)), am_SH, (g, p13.2))) (s1 := (74, [(0, .ref 216), (2, .int a1), (3, .int e9.1), (4, .int s10.1)], [.int p13.1, .int s10.1, .ref 228], am_SH, (g, p13.2))) rfl rfl (m_wordsBy_ok (d + 1) s10.1 e9.1 p12.1 p12.2 g p13 hp13) ?_
                exact am_Ev.weak' (hLt14 (p13.1, p13.2) (Option.some.inj h)) (am_sub_cons rfl (am_sub_cons rfl (am_sub_cons rfl (am_sub_cons rfl am_sub_nil)))) rfl
            · refine am_Ev.f hcd (c := s10.1 < (1 <<< (e9.1 &&& 31))) (s1 := (77, [(0, .ref 216), (2, .int a1), (3, .int e9.1), (4, .int s10.1)], [], am_SH, (g, s10.2))) rfl c61 ?_
              exact am_Ev.weak' (hZ10 s10.2 (Option.some.inj h).symm) (am_sub_cons rfl (am_sub_cons rfl (am_sub_cons rfl am_sub_nil))) rfl
        refine am_Ev.weak' (am_loop_ok (G := fun (s4 : Int32 × Int32 × (Nat → Nat → Int32)) => am_Ev sc (d + 4) 268 (20, [(0, .ref 216), (1, .int a0), (2, .int a1), (3, .int s4.1), (4, .int s4.2.1)], [], am_SH, (g, s4.2.2)) ((some (.int r.1)), am_SH, (g, r.2))) (Z := fun (e9 : Int32 × (Nat → Nat → Int32)) => am_Ev sc (d + 4) 268 (38, [(0, .ref 216), (2, .int a1), (3, .int e9.1)], [], am_SH, (g, e9.2)) ((some (.int r.1)), am_SH, (g, r.2))) ?_ am_F (0, 0, f) e9 he9 hK4) (am_sub_cons rfl (am_sub_cons rfl (am_sub_cons rfl (am_sub_cons rfl (am_sub_cons rfl am_sub_nil))))) rfl
        intro s4 q4 h hI4 hZ4
        show am_Ev sc (d + 4) 268 (20, [(0, .ref 216), (1, .int a0), (2, .int a1), (3, .int s4.1), (4, .int s4.2.1)], [], am_SH, (g, s4.2.2)) ((some (.int r.1)), am_SH, (g, r.2))
        refine am_Ev.go hcd 2 (s' := (22, [(0, .ref 216), (1, .int a0), (2, .int a1), (3, .int s4.1), (4, .int s4.2.1)], [.int 16, .int s4.2.1], am_SH, (g, s4.2.2))) rfl ?_
        rcases am_ite h with ⟨c96, h⟩ | ⟨c96, h⟩
        · refine am_Ev.t hcd (c := s4.2.1 < 16) (s1 := (23, [(0, .ref 216), (1, .int a0), (2, .int a1), (3, .int s4.1), (4, .int s4.2.1)], [], am_SH, (g, s4.2.2))) rfl c96 ?_
          obtain ⟨t7, ht7, kt7⟩ := am_bind_some h
          have hKt7 : am_Ev sc (d + 4) 268 (36, [(0, .ref 216), (1, .int a0), (2, .int a1), (3, .int t7.1), (4, .int s4.2.1)], [], am_SH, (g, t7.2)) ((some (.int r.1)), am_SH, (g, r.2)) := by
            have h := kt7
            obtain ⟨t8, Et8, h⟩ := am_let_eq h
            refine am_Ev.go hcd 1 (s' := (37, [(0, .ref 216), (1, .int a0), (2, .int a1), (3, .int t7.1), (4, .int t8)], [], am_SH, (g, t7.2))) (by subst Et8; exact rfl) ?_
            refine am_Ev.go hcd 1 (s' := (20, [(0, .ref 216), (1, .int a0), (2, .int a1), (3, .int t7.1), (4, .int t8)], [], am_SH, (g, t7.2))) rfl ?_
            exact am_Ev.weak' (hI4 (t7.1, t8, t7.2) (Option.some.inj h).symm) (am_sub_cons rfl (am_sub_cons rfl (am_sub_cons rfl (am_sub_cons rfl (am_sub_cons rfl am_sub_nil))))) rfl
          have hLt7 : ∀ tt, tt = t7 → am_Ev sc (d + 4) 268 (36, [(0, .ref 216), (1, .int a0), (2, .int a1), (3, .int tt.1), (4, .int s4.2.1)], [], am_SH, (g, tt.2)) ((some (.int r.1)), am_SH, (g, r.2)) := fun tt htt => by subst htt; exact hKt7
          have h := ht7
          refine am_Ev.go hcd 5 (s' := (28, [(0, .ref 216), (1, .int a0), (2, .int a1), (3, .int s4.1), (4, .int s4.2.1)], [.int ((a0 >>> (s4.2.1 &&& 31)) &&& 1)], am_SH, (g, s4.2.2))) rfl ?_
          rcases am_ite h with ⟨c108, h⟩ | ⟨c108, h⟩
          · refine am_Ev.t hcd (c := ((a0 >>> (s4.2.1 &&& 31)) &&& 1) = 0) (s1 := (29, [(0, .ref 216), (1, .int a0), (2, .int a1), (3, .int s4.1), (4, .int s4.2.1)], [], am_SH, (g, s4.2.2))) rfl c108 ?_
            refine am_Ev.go hcd 1 (s' := (36, [(0, .ref 216), (1, .int a0), (2, .int a1), (3, .int s4.1), (4, .int s4.2.1)], [], am_SH, (g, s4.2.2))) rfl ?_
            exact am_Ev.weak' (hLt7 (s4.1, s4.2.2) (Option.some.inj h)) (am_sub_cons rfl (am_sub_cons rfl (am_sub_cons rfl (am_sub_cons rfl (am_sub_cons rfl am_sub_nil))))) rfl
          · refine am_Ev.f hcd (c := ((a0 >>> (s4.2.1 &&& 31)) &&& 1) = 0) (s1 := (30, [(0, .ref 216), (1, .int a0), (2, .int a1), (3, .int s4.1), (4, .int s4.2.1)], [], am_SH, (g, s4.2.2))) rfl c108 ?_
            refine am_Ev.go hcd 4 (s' := (34, [(0, .ref 216), (1, .int a0), (2, .int a1), (3, .int s4.1), (4, .int s4.2.1)], [.int s4.2.1, .int s4.1, .ref 227], am_SH, (g, s4.2.2))) rfl ?_
            obtain ⟨c114, h⟩ := am_grd h
            obtain ⟨f5, Ef5, h⟩ := am_let_eq h
            refine am_Ev.t hcd (c := am_in s4.1 8 = true) (s1 := (35, [(0, .ref 216), (1, .int a0), (2, .int a1), (3, .int s4.1), (4, .int s4.2.1)], [], am_SH, (g, f5))) (by subst Ef5; exact rfl) c114 ?_
            obtain ⟨t6, Et6, h⟩ := am_let_eq h
            refine am_Ev.go hcd 1 (s' := (36, [(0, .ref 216), (1, .int a0), (2, .int a1), (3, .int t6), (4, .int s4.2.1)], [], am_SH, (g, f5))) (by subst Et6; exact rfl) ?_
            exact am_Ev.weak' (hLt7 (t6, f5) (Option.some.inj h)) (am_sub_cons rfl (am_sub_cons rfl (am_sub_cons rfl (am_sub_cons rfl (am_sub_cons rfl am_sub_nil))))) rfl
        · refine am_Ev.f hcd (c := s4.2.1 < 16) (s1 := (38, [(0, .ref 216), (1, .int a0), (2, .int a1), (3, .int s4.1), (4, .int s4.2.1)], [], am_SH, (g, s4.2.2))) rfl c96 ?_
          exact am_Ev.weak' (hZ4 (s4.1, s4.2.2) (Option.some.inj h).symm) (am_sub_cons rfl (am_sub_cons rfl (am_sub_cons rfl am_sub_nil))) rfl
      · refine am_Ev.t hcd (c := am_b (m_isIn a1 0 1) = 0) (s1 := (14, [(0, .ref 216), (1, .int a0), (2, .int a1)], [], am_SH, (g, f))) rfl (am_b_f c17) ?_
        refine am_Ev.go hcd 1 (s' := (15, [(0, .ref 216), (1, .int a0), (2, .int a1)], [.int (-1)], am_SH, (g, f))) rfl ?_
        exact am_Ev.cast (a := ((some (.int ((-1), f).1)), am_SH, (g, ((-1), f).2))) (by cases h; rfl) (am_Ev.ret hcd rfl)
  · refine am_Ev.t hcd (c := am_b (m_isIn a0 0 65535) = 0) (s1 := (14, [(0, .ref 216), (1, .int a0), (2, .int a1)], [], am_SH, (g, f))) rfl (am_b_f c4) ?_
    refine am_Ev.go hcd 1 (s' := (15, [(0, .ref 216), (1, .int a0), (2, .int a1)], [.int (-1)], am_SH, (g, f))) rfl ?_
    exact am_Ev.cast (a := ((some (.int ((-1), f).1)), am_SH, (g, ((-1), f).2))) (by cases h; rfl) (am_Ev.ret hcd rfl)
