set_option maxRecDepth 100000 in
set_option maxHeartbeats 4000000 in
theorem m_sumUp_ok {sc : Nat × (Nat → Int32)} (d : Nat)  (f g : (Nat → Nat → Int32)) (r : Bool × (Nat → Nat → Int32)) (h : m_sumUp  f = some r) : am_Ev sc (d + 8) 205 (0, [(0, .ref 216)], [], am_SH, (g, f)) ((some (.int (am_b r.1))), am_SH, (g, r.2)) := by
  have hcd : am_code 205 = am_c205 := rfl
  unfold m_sumUp at h
  refine am_Ev.go hcd 1 (s' := (1, [(0, .ref 216)], [.ref 216], am_SH, (g, f))) rfl ?_
  obtain ⟨p1, hp1, h⟩ := am_bind_some h
  refine am_Ev.call hcd (a := 206) (s0 := (0, [(0, .ref 216)], [], am_SH, (g, f))) (q := ((some (.int (am_b p1.1))), am_SH, (g, p1.2))) (s1 := (2, [(0, .ref 216)], [.int (am_b p1.1)], am_SH, (g, p1.2))) rfl rfl (m_product_ok (d)  f g p1 hp1) ?_
  rcases am_ite h with ⟨c5, h⟩ | ⟨c5, h⟩
  · refine am_Ev.f hcd (c := am_b p1.1 = 0) (s1 := (5, [(0, .ref 216)], [], am_SH, (g, p1.2))) rfl (am_b_t c5) ?_
    refine am_Ev.weak' (am_loop_ok (G := fun (s2 : (Nat → Nat → Int32)) => am_Ev sc (d + 8) 205 (5, [(0, .ref 216)], [], am_SH, (g, s2)) ((some (.int (am_b r.1))), am_SH, (g, r.2))) (Z := fun (v : Bool × (Nat → Nat → Int32)) => (((some (.int (am_b v.1))), am_SH, (g, v.2)) : am_R) = ((some (.int (am_b r.1))), am_SH, (g, r.2))) ?_ am_F p1.2 r h rfl) (am_sub_cons rfl am_sub_nil) rfl
    intro s2 q2 h hI2 hZ2
    show am_Ev sc (d + 8) 205 (5, [(0, .ref 216)], [], am_SH, (g, s2)) ((some (.int (am_b r.1))), am_SH, (g, r.2))
    refine am_Ev.go hcd 3 (s' := (8, [(0, .ref 216)], [.int 143, .int (s2 216 18)], am_SH, (g, s2))) rfl ?_
    rcases am_ite h with ⟨c10, h⟩ | ⟨c10, h⟩
    · refine am_Ev.t hcd (c := s2 216 18 = 143) (s1 := (13, [(0, .ref 216)], [], am_SH, (g, s2))) rfl c10 ?_
      obtain ⟨t3, ht3, kt3⟩ := am_let_eq h
      have hKt3 : am_Ev sc (d + 8) 205 (20, [(0, .ref 216)], [.int t3], am_SH, (g, s2)) ((some (.int (am_b r.1))), am_SH, (g, r.2)) := by
        have h := kt3
        refine am_Ev.go hcd 2 (s' := (22, [(0, .ref 216), (1, .int t3)], [.ref 216], am_SH, (g, s2))) rfl ?_
        obtain ⟨p4, hp4, h⟩ := am_bind_some h
        refine am_Ev.call hcd (a := 200) (s0 := (0, [(0, .ref 216)], [], am_SH, (g, s2))) (q := (none, am_SH, (g, p4))) (s1 := (23, [(0, .ref 216), (1, .int t3)], [], am_SH, (g, p4))) rfl rfl (m_next0_ok (d + 2)  s2 g p4 hp4) ?_
        refine am_Ev.go hcd 1 (s' := (24, [(0, .ref 216), (1, .int t3)], [.ref 216], am_SH, (g, p4))) rfl ?_
        obtain ⟨p5, hp5, h⟩ := am_bind_some h
        refine am_Ev.call hcd (a := 206) (s0 := (0, [(0, .ref 216)], [], am_SH, (g, p4))) (q := ((some (.int (am_b p5.1))), am_SH, (g, p5.2))) (s1 := (25, [(0, .ref 216), (1, .int t3)], [.int (am_b p5.1)], am_SH, (g, p5.2))) rfl rfl (m_product_ok (d)  p4 g p5 hp5) ?_
        rcases am_ite h with ⟨c22, h⟩ | ⟨c22, h⟩
        · refine am_Ev.f hcd (c := am_b p5.1 = 0) (s1 := (28, [(0, .ref 216), (1, .int t3)], [], am_SH, (g, p5.2))) rfl (am_b_t c22) ?_
          refine am_Ev.go hcd 3 (s' := (31, [(0, .ref 216), (1, .int t3)], [.int 0, .int t3, .ref 216], am_SH, (g, p5.2))) rfl ?_
          obtain ⟨p6, hp6, h⟩ := am_bind_some h
          refine am_Ev.call hcd (a := 203) (s0 := (0, [(0, .ref 216), (1, .int t3), (2, .int 0)], [], am_SH, (g, p5.2))) (q := (none, am_SH, (g, p6))) (s1 := (32, [(0, .ref 216), (1, .int t3)], [], am_SH, (g, p6))) rfl rfl (m_lay_ok (d + 7) t3 0 p5.2 g p6 hp6) ?_
          refine am_Ev.go hcd 1 (s' := (5, [(0, .ref 216), (1, .int t3)], [], am_SH, (g, p6))) rfl ?_
          exact am_Ev.weak' (hI2 p6 (Option.some.inj h).symm) (am_sub_cons rfl am_sub_nil) rfl
        · refine am_Ev.t hcd (c := am_b p5.1 = 0) (s1 := (26, [(0, .ref 216), (1, .int t3)], [], am_SH, (g, p5.2))) rfl (am_b_f c22) ?_
          refine am_Ev.go hcd 1 (s' := (27, [(0, .ref 216), (1, .int t3)], [.int 0], am_SH, (g, p5.2))) rfl ?_
          exact am_Ev.cast (a := ((some (.int (am_b (false, p5.2).1))), am_SH, (g, (false, p5.2).2))) (hZ2 _ (Option.some.inj h).symm) (am_Ev.ret hcd rfl)
      have hLt3 : ∀ tt, tt = t3 → am_Ev sc (d + 8) 205 (20, [(0, .ref 216)], [.int tt], am_SH, (g, s2)) ((some (.int (am_b r.1))), am_SH, (g, r.2)) := fun tt htt => by subst htt; exact hKt3
      have h := ht3
      refine am_Ev.go hcd 3 (s' := (16, [(0, .ref 216)], [.int 143, .int (s2 216 18)], am_SH, (g, s2))) rfl ?_
      rcases am_itv h with ⟨c34, h⟩ | ⟨c34, h⟩
      · refine am_Ev.t hcd (c := s2 216 18 = 143) (s1 := (17, [(0, .ref 216)], [], am_SH, (g, s2))) rfl c34 ?_
        refine am_Ev.go hcd 2 (s' := (20, [(0, .ref 216)], [.int 23], am_SH, (g, s2))) rfl ?_
        exact am_Ev.weak' (hLt3 23 h.symm) (am_sub_cons rfl am_sub_nil) rfl
      · refine am_Ev.f hcd (c := s2 216 18 = 143) (s1 := (19, [(0, .ref 216)], [], am_SH, (g, s2))) rfl c34 ?_
        refine am_Ev.go hcd 1 (s' := (20, [(0, .ref 216)], [.int 24], am_SH, (g, s2))) rfl ?_
        exact am_Ev.weak' (hLt3 24 h.symm) (am_sub_cons rfl am_sub_nil) rfl
    · refine am_Ev.f hcd (c := s2 216 18 = 143) (s1 := (9, [(0, .ref 216)], [], am_SH, (g, s2))) rfl c10 ?_
      refine am_Ev.go hcd 3 (s' := (12, [(0, .ref 216)], [.int 145, .int (s2 216 18)], am_SH, (g, s2))) rfl ?_
      rcases am_ite h with ⟨c43, h⟩ | ⟨c43, h⟩
      · refine am_Ev.t hcd (c := s2 216 18 = 145) (s1 := (13, [(0, .ref 216)], [], am_SH, (g, s2))) rfl c43 ?_
        obtain ⟨t7, ht7, kt7⟩ := am_let_eq h
        have hKt7 : am_Ev sc (d + 8) 205 (20, [(0, .ref 216)], [.int t7], am_SH, (g, s2)) ((some (.int (am_b r.1))), am_SH, (g, r.2)) := by
          have h := kt7
          refine am_Ev.go hcd 2 (s' := (22, [(0, .ref 216), (1, .int t7)], [.ref 216], am_SH, (g, s2))) rfl ?_
          obtain ⟨p8, hp8, h⟩ := am_bind_some h
          refine am_Ev.call hcd (a := 200) (s0 := (0, [(0, .ref 216)], [], am_SH, (g, s2))) (q := (none, am_SH, (g, p8))) (s1 := (23, [(0, .ref 216), (1, .int t7)], [], am_SH, (g, p8))) rfl rfl (m_next0_ok (d + 2)  s2 g p8 hp8) ?_
          refine am_Ev.go hcd 1 (s' := (24, [(0, .ref 216), (1, .int t7)], [.ref 216], am_SH, (g, p8))) rfl ?_
          obtain ⟨p9, hp9, h⟩ := am_bind_some h
          refine am_Ev.call hcd (a := 206) (s0 := (0, [(0, .ref 216)], [], am_SH, (g, p8))) (q := ((some (.int (am_b p9.1))), am_SH, (g, p9.2))) (s1 := (25, [(0, .ref 216), (1, .int t7)], [.int (am_b p9.1)], am_SH, (g, p9.2))) rfl rfl (m_product_ok (d)  p8 g p9 hp9) ?_
          rcases am_ite h with ⟨c55, h⟩ | ⟨c55, h⟩
          · refine am_Ev.f hcd (c := am_b p9.1 = 0) (s1 := (28, [(0, .ref 216), (1, .int t7)], [], am_SH, (g, p9.2))) rfl (am_b_t c55) ?_
            refine am_Ev.go hcd 3 (s' := (31, [(0, .ref 216), (1, .int t7)], [.int 0, .int t7, .ref 216], am_SH, (g, p9.2))) rfl ?_
            obtain ⟨p10, hp10, h⟩ := am_bind_some h
            refine am_Ev.call hcd (a := 203) (s0 := (0, [(0, .ref 216), (1, .int t7), (2, .int 0)], [], am_SH, (g, p9.2))) (q := (none, am_SH, (g, p10))) (s1 := (32, [(0, .ref 216), (1, .int t7)], [], am_SH, (g, p10))) rfl rfl (m_lay_ok (d + 7) t7 0 p9.2 g p10 hp10) ?_
            refine am_Ev.go hcd 1 (s' := (5, [(0, .ref 216), (1, .int t7)], [], am_SH, (g, p10))) rfl ?_
            exact am_Ev.weak' (hI2 p10 (Option.some.inj h).symm) (am_sub_cons rfl am_sub_nil) rfl
          · refine am_Ev.t hcd (c := am_b p9.1 = 0) (s1 := (26, [(0, .ref 216), (1, .int t7)], [], am_SH, (g, p9.2))) rfl (am_b_f c55) ?_
            refine am_Ev.go hcd 1 (s' := (27, [(0, .ref 216), (1, .int t7)], [.int 0], am_SH, (g, p9.2))) rfl ?_
            exact am_Ev.cast (a := ((some (.int (am_b (false, p9.2).1))), am_SH, (g, (false, p9.2).2))) (hZ2 _ (Option.some.inj h).symm) (am_Ev.ret hcd rfl)
        have hLt7 : ∀ tt, tt = t7 → am_Ev sc (d + 8) 205 (20, [(0, .ref 216)], [.int tt], am_SH, (g, s2)) ((some (.int (am_b r.1))), am_SH, (g, r.2)) := fun tt htt => by subst htt; exact hKt7
        have h := ht7
        refine am_Ev.go hcd 3 (s' := (16, [(0, .ref 216)], [.int 143, .int (s2 216 18)], am_SH, (g, s2))) rfl ?_
        rcases am_itv h with ⟨c67, h⟩ | ⟨c67, h⟩
        · refine am_Ev.t hcd (c := s2 216 18 = 143) (s1 := (17, [(0, .ref 216)], [], am_SH, (g, s2))) rfl c67 ?_
          refine am_Ev.go hcd 2 (s' := (20, [(0, .ref 216)], [.int 23], am_SH, (g, s2))) rfl ?_
          exact am_Ev.weak' (hLt7 23 h.symm) (am_sub_cons rfl am_sub_nil) rfl
        · refine am_Ev.f hcd (c := s2 216 18 = 143) (s1 := (19, [(0, .ref 216)], [], am_SH, (g, s2))) rfl c67 ?_
          refine am_Ev.go hcd 1 (s' := (20, [(0, .ref 216)], [.int 24], am_SH, (g, s2))) rfl ?_
          exact am_Ev.weak' (hLt7 24 h.symm) (am_sub_cons rfl am_sub_nil) rfl
      · refine am_Ev.f hcd (c := s2 216 18 = 145) (s1 := (33, [(0, .ref 216)], [], am_SH, (g, s2))) rfl c43 ?_
        refine am_Ev.go hcd 1 (s' := (34, [(0, .ref 216)], [.int 1], am_SH, (g, s2))) rfl ?_
        exact am_Ev.cast (a := ((some (.int (am_b (true, s2).1))), am_SH, (g, (true, s2).2))) (hZ2 _ (Option.some.inj h).symm) (am_Ev.ret hcd rfl)
  · refine am_Ev.t hcd (c := am_b p1.1 = 0) (s1 := (3, [(0, .ref 216)], [], am_SH, (g, p1.2))) rfl (am_b_f c5) ?_
    refine am_Ev.go hcd 1 (s' := (4, [(0, .ref 216)], [.int 0], am_SH, (g, p1.2))) rfl ?_
    exact am_Ev.cast (a := ((some (.int (am_b (false, p1.2).1))), am_SH, (g, (false, p1.2).2))) (by cases h; rfl) (am_Ev.ret hcd rfl)
set_option maxRecDepth 100000 in
set_option maxHeartbeats 4000000 in
theorem m_opens_ok {sc : Nat × (Nat → Int32)} (d : Nat)  (f g : (Nat → Nat → Int32)) (r : Bool × (Nat → Nat → Int32)) (h : m_opens  f = some r) : am_Ev sc (d + 6) 204 (0, [(0, .ref 216)], [], am_SH, (g, f)) ((some (.int (am_b r.1))), am_SH, (g, r.2)) := by
  have hcd : am_code 204 = am_c204 := rfl
  unfold m_opens at h
  refine am_Ev.go hcd 3 (s' := (3, [(0, .ref 216)], [.int 8, .int (f 216 24)], am_SH, (g, f))) rfl ?_
  rcases am_ite h with ⟨c2, h⟩ | ⟨c2, h⟩
  · refine am_Ev.t hcd (c := f 216 24 = 8) (s1 := (4, [(0, .ref 216)], [], am_SH, (g, f))) rfl c2 ?_
    refine am_Ev.go hcd 2 (s' := (6, [(0, .ref 216)], [.int 3, .ref 216], am_SH, (g, f))) rfl ?_
    obtain ⟨p1, Ep1, h⟩ := am_let_eq h
    refine am_Ev.call hcd (a := 201) (s0 := (0, [(0, .ref 216), (1, .int 3)], [], am_SH, (g, f))) (q := ((some (.int (am_b p1.1))), am_SH, (g, p1.2))) (s1 := (7, [(0, .ref 216)], [.int (am_b p1.1)], am_SH, (g, p1.2))) rfl rfl (by subst Ep1; exact m_bad_ok (d + 5) 3 f g) ?_
    exact am_Ev.cast (a := ((some (.int (am_b (p1.1, p1.2).1))), am_SH, (g, (p1.1, p1.2).2))) (by cases h; rfl) (am_Ev.retb hcd rfl)
  · refine am_Ev.f hcd (c := f 216 24 = 8) (s1 := (8, [(0, .ref 216)], [], am_SH, (g, f))) rfl c2 ?_
    obtain ⟨f2, Ef2, h⟩ := am_let_eq h
    refine am_Ev.go hcd 6 (s' := (14, [(0, .ref 216)], [], am_SH, (g, f2))) (by subst Ef2; exact rfl) ?_
    refine am_Ev.go hcd 1 (s' := (15, [(0, .ref 216)], [.ref 216], am_SH, (g, f2))) rfl ?_
    obtain ⟨p3, hp3, h⟩ := am_bind_some h
    refine am_Ev.call hcd (a := 200) (s0 := (0, [(0, .ref 216)], [], am_SH, (g, f2))) (q := (none, am_SH, (g, p3))) (s1 := (16, [(0, .ref 216)], [], am_SH, (g, p3))) rfl rfl (m_next0_ok (d)  f2 g p3 hp3) ?_
    refine am_Ev.go hcd 1 (s' := (17, [(0, .ref 216)], [.int 1], am_SH, (g, p3))) rfl ?_
    exact am_Ev.cast (a := ((some (.int (am_b (true, p3).1))), am_SH, (g, (true, p3).2))) (by cases h; rfl) (am_Ev.ret hcd rfl)
set_option maxRecDepth 100000 in
set_option maxHeartbeats 4000000 in
theorem m_need_ok {sc : Nat × (Nat → Int32)} (d : Nat) (a0 : Int32) (f g : (Nat → Nat → Int32)) (r : Bool × (Nat → Nat → Int32)) (h : m_need a0 f = some r) : am_Ev sc (d + 6) 202 (0, [(0, .ref 216), (1, .int a0)], [], am_SH, (g, f)) ((some (.int (am_b r.1))), am_SH, (g, r.2)) := by
  have hcd : am_code 202 = am_c202 := rfl
  unfold m_need at h
  refine am_Ev.go hcd 3 (s' := (3, [(0, .ref 216), (1, .int a0)], [.int a0, .int (f 216 18)], am_SH, (g, f))) rfl ?_
  rcases am_ite h with ⟨c2, h⟩ | ⟨c2, h⟩
  · refine am_Ev.t hcd (c := f 216 18 = a0) (s1 := (8, [(0, .ref 216), (1, .int a0)], [], am_SH, (g, f))) rfl c2 ?_
    refine am_Ev.go hcd 1 (s' := (9, [(0, .ref 216), (1, .int a0)], [.ref 216], am_SH, (g, f))) rfl ?_
    obtain ⟨p1, hp1, h⟩ := am_bind_some h
    refine am_Ev.call hcd (a := 200) (s0 := (0, [(0, .ref 216)], [], am_SH, (g, f))) (q := (none, am_SH, (g, p1))) (s1 := (10, [(0, .ref 216), (1, .int a0)], [], am_SH, (g, p1))) rfl rfl (m_next0_ok (d)  f g p1 hp1) ?_
    refine am_Ev.go hcd 1 (s' := (11, [(0, .ref 216), (1, .int a0)], [.int 1], am_SH, (g, p1))) rfl ?_
    exact am_Ev.cast (a := ((some (.int (am_b (true, p1).1))), am_SH, (g, (true, p1).2))) (by cases h; rfl) (am_Ev.ret hcd rfl)
  · refine am_Ev.f hcd (c := f 216 18 = a0) (s1 := (4, [(0, .ref 216), (1, .int a0)], [], am_SH, (g, f))) rfl c2 ?_
    refine am_Ev.go hcd 2 (s' := (6, [(0, .ref 216), (1, .int a0)], [.int 1, .ref 216], am_SH, (g, f))) rfl ?_
    obtain ⟨p2, Ep2, h⟩ := am_let_eq h
    refine am_Ev.call hcd (a := 201) (s0 := (0, [(0, .ref 216), (1, .int 1)], [], am_SH, (g, f))) (q := ((some (.int (am_b p2.1))), am_SH, (g, p2.2))) (s1 := (7, [(0, .ref 216), (1, .int a0)], [.int (am_b p2.1)], am_SH, (g, p2.2))) rfl rfl (by subst Ep2; exact m_bad_ok (d + 5) 1 f g) ?_
    exact am_Ev.cast (a := ((some (.int (am_b (p2.1, p2.2).1))), am_SH, (g, (p2.1, p2.2).2))) (by cases h; rfl) (am_Ev.retb hcd rfl)
set_option maxRecDepth 100000 in
set_option maxHeartbeats 4000000 in
theorem m_any_Bok {sc : Nat × (Nat → Int32)} (d : Nat) (r_any : (Nat → Nat → Int32) → Option (Bool × (Nat → Nat → Int32))) (r_every : (Nat → Nat → Int32) → Option (Bool × (Nat → Nat → Int32))) (r_oneTest : (Nat → Nat → Int32) → Option (Bool × (Nat → Nat → Int32))) (hany : ∀ (f g : (Nat → Nat → Int32)) (r : Bool × (Nat → Nat → Int32)), r_any  f = some r → am_Ev sc (d + 8) 208 (0, [(0, .ref 216)], [], am_SH, (g, f)) ((some (.int (am_b r.1))), am_SH, (g, r.2))) (hevery : ∀ (f g : (Nat → Nat → Int32)) (r : Bool × (Nat → Nat → Int32)), r_every  f = some r → am_Ev sc (d + 8) 209 (0, [(0, .ref 216)], [], am_SH, (g, f)) ((some (.int (am_b r.1))), am_SH, (g, r.2))) (honeTest : ∀ (f g : (Nat → Nat → Int32)) (r : Bool × (Nat → Nat → Int32)), r_oneTest  f = some r → am_Ev sc (d + 8) 210 (0, [(0, .ref 216)], [], am_SH, (g, f)) ((some (.int (am_b r.1))), am_SH, (g, r.2)))  (f g : (Nat → Nat → Int32)) (r : Bool × (Nat → Nat → Int32)) (h : m_any_B r_any r_every r_oneTest  f = some r) : am_Ev sc (d + 9) 208 (0, [(0, .ref 216)], [], am_SH, (g, f)) ((some (.int (am_b r.1))), am_SH, (g, r.2)) := by
  have hcd : am_code 208 = am_c208 := rfl
  unfold m_any_B at h
  refine am_Ev.go hcd 1 (s' := (1, [(0, .ref 216)], [.ref 216], am_SH, (g, f))) rfl ?_
  obtain ⟨p1, hp1, h⟩ := am_bind_some h
  refine am_Ev.call hcd (a := 209) (s0 := (0, [(0, .ref 216)], [], am_SH, (g, f))) (q := ((some (.int (am_b p1.1))), am_SH, (g, p1.2))) (s1 := (2, [(0, .ref 216)], [.int (am_b p1.1)], am_SH, (g, p1.2))) rfl rfl (hevery  f g p1 hp1) ?_
  rcases am_ite h with ⟨c5, h⟩ | ⟨c5, h⟩
  · refine am_Ev.f hcd (c := am_b p1.1 = 0) (s1 := (5, [(0, .ref 216)], [], am_SH, (g, p1.2))) rfl (am_b_t c5) ?_
    refine am_Ev.weak' (am_loop_ok (G := fun (s2 : (Nat → Nat → Int32)) => am_Ev sc (d + 9) 208 (5, [(0, .ref 216)], [], am_SH, (g, s2)) ((some (.int (am_b r.1))), am_SH, (g, r.2))) (Z := fun (v : Bool × (Nat → Nat → Int32)) => (((some (.int (am_b v.1))), am_SH, (g, v.2)) : am_R) = ((some (.int (am_b r.1))), am_SH, (g, r.2))) ?_ am_F p1.2 r h rfl) (am_sub_cons rfl am_sub_nil) rfl
    intro s2 q2 h hI2 hZ2
    show am_Ev sc (d + 9) 208 (5, [(0, .ref 216)], [], am_SH, (g, s2)) ((some (.int (am_b r.1))), am_SH, (g, r.2))
    refine am_Ev.go hcd 3 (s' := (8, [(0, .ref 216)], [.int 4, .int (s2 216 18)], am_SH, (g, s2))) rfl ?_
    rcases am_ite h with ⟨c10, h⟩ | ⟨c10, h⟩
    · refine am_Ev.t hcd (c := s2 216 18 = 4) (s1 := (9, [(0, .ref 216)], [], am_SH, (g, s2))) rfl c10 ?_
      refine am_Ev.go hcd 1 (s' := (10, [(0, .ref 216)], [.ref 216], am_SH, (g, s2))) rfl ?_
      obtain ⟨p3, hp3, h⟩ := am_bind_some h
      refine am_Ev.call hcd (a := 200) (s0 := (0, [(0, .ref 216)], [], am_SH, (g, s2))) (q := (none, am_SH, (g, p3))) (s1 := (11, [(0, .ref 216)], [], am_SH, (g, p3))) rfl rfl (m_next0_ok (d + 3)  s2 g p3 hp3) ?_
      refine am_Ev.go hcd 1 (s' := (12, [(0, .ref 216)], [.ref 216], am_SH, (g, p3))) rfl ?_
      obtain ⟨p4, hp4, h⟩ := am_bind_some h
      refine am_Ev.call hcd (a := 209) (s0 := (0, [(0, .ref 216)], [], am_SH, (g, p3))) (q := ((some (.int (am_b p4.1))), am_SH, (g, p4.2))) (s1 := (13, [(0, .ref 216)], [.int (am_b p4.1)], am_SH, (g, p4.2))) rfl rfl (hevery  p3 g p4 hp4) ?_
      rcases am_ite h with ⟨c19, h⟩ | ⟨c19, h⟩
      · refine am_Ev.f hcd (c := am_b p4.1 = 0) (s1 := (16, [(0, .ref 216)], [], am_SH, (g, p4.2))) rfl (am_b_t c19) ?_
        refine am_Ev.go hcd 3 (s' := (19, [(0, .ref 216)], [.int 0, .int 32, .ref 216], am_SH, (g, p4.2))) rfl ?_
        obtain ⟨p5, hp5, h⟩ := am_bind_some h
        refine am_Ev.call hcd (a := 203) (s0 := (0, [(0, .ref 216), (1, .int 32), (2, .int 0)], [], am_SH, (g, p4.2))) (q := (none, am_SH, (g, p5))) (s1 := (20, [(0, .ref 216)], [], am_SH, (g, p5))) rfl rfl (m_lay_ok (d + 8) 32 0 p4.2 g p5 hp5) ?_
        refine am_Ev.go hcd 1 (s' := (5, [(0, .ref 216)], [], am_SH, (g, p5))) rfl ?_
        exact am_Ev.weak' (hI2 p5 (Option.some.inj h).symm) (am_sub_cons rfl am_sub_nil) rfl
      · refine am_Ev.t hcd (c := am_b p4.1 = 0) (s1 := (14, [(0, .ref 216)], [], am_SH, (g, p4.2))) rfl (am_b_f c19) ?_
        refine am_Ev.go hcd 1 (s' := (15, [(0, .ref 216)], [.int 0], am_SH, (g, p4.2))) rfl ?_
        exact am_Ev.cast (a := ((some (.int (am_b (false, p4.2).1))), am_SH, (g, (false, p4.2).2))) (hZ2 _ (Option.some.inj h).symm) (am_Ev.ret hcd rfl)
    · refine am_Ev.f hcd (c := s2 216 18 = 4) (s1 := (21, [(0, .ref 216)], [], am_SH, (g, s2))) rfl c10 ?_
      refine am_Ev.go hcd 1 (s' := (22, [(0, .ref 216)], [.int 1], am_SH, (g, s2))) rfl ?_
      exact am_Ev.cast (a := ((some (.int (am_b (true, s2).1))), am_SH, (g, (true, s2).2))) (hZ2 _ (Option.some.inj h).symm) (am_Ev.ret hcd rfl)
  · refine am_Ev.t hcd (c := am_b p1.1 = 0) (s1 := (3, [(0, .ref 216)], [], am_SH, (g, p1.2))) rfl (am_b_f c5) ?_
    refine am_Ev.go hcd 1 (s' := (4, [(0, .ref 216)], [.int 0], am_SH, (g, p1.2))) rfl ?_
    exact am_Ev.cast (a := ((some (.int (am_b (false, p1.2).1))), am_SH, (g, (false, p1.2).2))) (by cases h; rfl) (am_Ev.ret hcd rfl)
set_option maxRecDepth 100000 in
set_option maxHeartbeats 4000000 in
theorem m_every_Bok {sc : Nat × (Nat → Int32)} (d : Nat) (r_any : (Nat → Nat → Int32) → Option (Bool × (Nat → Nat → Int32))) (r_every : (Nat → Nat → Int32) → Option (Bool × (Nat → Nat → Int32))) (r_oneTest : (Nat → Nat → Int32) → Option (Bool × (Nat → Nat → Int32))) (hany : ∀ (f g : (Nat → Nat → Int32)) (r : Bool × (Nat → Nat → Int32)), r_any  f = some r → am_Ev sc (d + 8) 208 (0, [(0, .ref 216)], [], am_SH, (g, f)) ((some (.int (am_b r.1))), am_SH, (g, r.2))) (hevery : ∀ (f g : (Nat → Nat → Int32)) (r : Bool × (Nat → Nat → Int32)), r_every  f = some r → am_Ev sc (d + 8) 209 (0, [(0, .ref 216)], [], am_SH, (g, f)) ((some (.int (am_b r.1))), am_SH, (g, r.2))) (honeTest : ∀ (f g : (Nat → Nat → Int32)) (r : Bool × (Nat → Nat → Int32)), r_oneTest  f = some r → am_Ev sc (d + 8) 210 (0, [(0, .ref 216)], [], am_SH, (g, f)) ((some (.int (am_b r.1))), am_SH, (g, r.2)))  (f g : (Nat → Nat → Int32)) (r : Bool × (Nat → Nat → Int32)) (h : m_every_B r_any r_every r_oneTest  f = some r) : am_Ev sc (d + 9) 209 (0, [(0, .ref 216)], [], am_SH, (g, f)) ((some (.int (am_b r.1))), am_SH, (g, r.2)) := by
  have hcd : am_code 209 = am_c209 := rfl
  unfold m_every_B at h
  refine am_Ev.go hcd 1 (s' := (1, [(0, .ref 216)], [.ref 216], am_SH, (g, f))) rfl ?_
  obtain ⟨p1, hp1, h⟩ := am_bind_some h
  refine am_Ev.call hcd (a := 210) (s0 := (0, [(0, .ref 216)], [], am_SH, (g, f))) (q := ((some (.int (am_b p1.1))), am_SH, (g, p1.2))) (s1 := (2, [(0, .ref 216)], [.int (am_b p1.1)], am_SH, (g, p1.2))) rfl rfl (honeTest  f g p1 hp1) ?_
  rcases am_ite h with ⟨c5, h⟩ | ⟨c5, h⟩
  · refine am_Ev.f hcd (c := am_b p1.1 = 0) (s1 := (5, [(0, .ref 216)], [], am_SH, (g, p1.2))) rfl (am_b_t c5) ?_
    refine am_Ev.weak' (am_loop_ok (G := fun (s2 : (Nat → Nat → Int32)) => am_Ev sc (d + 9) 209 (5, [(0, .ref 216)], [], am_SH, (g, s2)) ((some (.int (am_b r.1))), am_SH, (g, r.2))) (Z := fun (v : Bool × (Nat → Nat → Int32)) => (((some (.int (am_b v.1))), am_SH, (g, v.2)) : am_R) = ((some (.int (am_b r.1))), am_SH, (g, r.2))) ?_ am_F p1.2 r h rfl) (am_sub_cons rfl am_sub_nil) rfl
    intro s2 q2 h hI2 hZ2
    show am_Ev sc (d + 9) 209 (5, [(0, .ref 216)], [], am_SH, (g, s2)) ((some (.int (am_b r.1))), am_SH, (g, r.2))
    refine am_Ev.go hcd 3 (s' := (8, [(0, .ref 216)], [.int 5, .int (s2 216 18)], am_SH, (g, s2))) rfl ?_
    rcases am_ite h with ⟨c10, h⟩ | ⟨c10, h⟩
    · refine am_Ev.t hcd (c := s2 216 18 = 5) (s1 := (9, [(0, .ref 216)], [], am_SH, (g, s2))) rfl c10 ?_
      refine am_Ev.go hcd 1 (s' := (10, [(0, .ref 216)], [.ref 216], am_SH, (g, s2))) rfl ?_
      obtain ⟨p3, hp3, h⟩ := am_bind_some h
      refine am_Ev.call hcd (a := 200) (s0 := (0, [(0, .ref 216)], [], am_SH, (g, s2))) (q := (none, am_SH, (g, p3))) (s1 := (11, [(0, .ref 216)], [], am_SH, (g, p3))) rfl rfl (m_next0_ok (d + 3)  s2 g p3 hp3) ?_
      refine am_Ev.go hcd 1 (s' := (12, [(0, .ref 216)], [.ref 216], am_SH, (g, p3))) rfl ?_
      obtain ⟨p4, hp4, h⟩ := am_bind_some h
      refine am_Ev.call hcd (a := 210) (s0 := (0, [(0, .ref 216)], [], am_SH, (g, p3))) (q := ((some (.int (am_b p4.1))), am_SH, (g, p4.2))) (s1 := (13, [(0, .ref 216)], [.int (am_b p4.1)], am_SH, (g, p4.2))) rfl rfl (honeTest  p3 g p4 hp4) ?_
      rcases am_ite h with ⟨c19, h⟩ | ⟨c19, h⟩
      · refine am_Ev.f hcd (c := am_b p4.1 = 0) (s1 := (16, [(0, .ref 216)], [], am_SH, (g, p4.2))) rfl (am_b_t c19) ?_
        refine am_Ev.go hcd 3 (s' := (19, [(0, .ref 216)], [.int 0, .int 31, .ref 216], am_SH, (g, p4.2))) rfl ?_
        obtain ⟨p5, hp5, h⟩ := am_bind_some h
        refine am_Ev.call hcd (a := 203) (s0 := (0, [(0, .ref 216), (1, .int 31), (2, .int 0)], [], am_SH, (g, p4.2))) (q := (none, am_SH, (g, p5))) (s1 := (20, [(0, .ref 216)], [], am_SH, (g, p5))) rfl rfl (m_lay_ok (d + 8) 31 0 p4.2 g p5 hp5) ?_
        refine am_Ev.go hcd 1 (s' := (5, [(0, .ref 216)], [], am_SH, (g, p5))) rfl ?_
        exact am_Ev.weak' (hI2 p5 (Option.some.inj h).symm) (am_sub_cons rfl am_sub_nil) rfl
      · refine am_Ev.t hcd (c := am_b p4.1 = 0) (s1 := (14, [(0, .ref 216)], [], am_SH, (g, p4.2))) rfl (am_b_f c19) ?_
        refine am_Ev.go hcd 1 (s' := (15, [(0, .ref 216)], [.int 0], am_SH, (g, p4.2))) rfl ?_
        exact am_Ev.cast (a := ((some (.int (am_b (false, p4.2).1))), am_SH, (g, (false, p4.2).2))) (hZ2 _ (Option.some.inj h).symm) (am_Ev.ret hcd rfl)
    · refine am_Ev.f hcd (c := s2 216 18 = 5) (s1 := (21, [(0, .ref 216)], [], am_SH, (g, s2))) rfl c10 ?_
      refine am_Ev.go hcd 1 (s' := (22, [(0, .ref 216)], [.int 1], am_SH, (g, s2))) rfl ?_
      exact am_Ev.cast (a := ((some (.int (am_b (true, s2).1))), am_SH, (g, (true, s2).2))) (hZ2 _ (Option.some.inj h).symm) (am_Ev.ret hcd rfl)
  · refine am_Ev.t hcd (c := am_b p1.1 = 0) (s1 := (3, [(0, .ref 216)], [], am_SH, (g, p1.2))) rfl (am_b_f c5) ?_
    refine am_Ev.go hcd 1 (s' := (4, [(0, .ref 216)], [.int 0], am_SH, (g, p1.2))) rfl ?_
    exact am_Ev.cast (a := ((some (.int (am_b (false, p1.2).1))), am_SH, (g, (false, p1.2).2))) (by cases h; rfl) (am_Ev.ret hcd rfl)
set_option maxRecDepth 100000 in
set_option maxHeartbeats 4000000 in
theorem m_oneTest_Bok {sc : Nat × (Nat → Int32)} (d : Nat) (r_any : (Nat → Nat → Int32) → Option (Bool × (Nat → Nat → Int32))) (r_every : (Nat → Nat → Int32) → Option (Bool × (Nat → Nat → Int32))) (r_oneTest : (Nat → Nat → Int32) → Option (Bool × (Nat → Nat → Int32))) (hany : ∀ (f g : (Nat → Nat → Int32)) (r : Bool × (Nat → Nat → Int32)), r_any  f = some r → am_Ev sc (d + 8) 208 (0, [(0, .ref 216)], [], am_SH, (g, f)) ((some (.int (am_b r.1))), am_SH, (g, r.2))) (hevery : ∀ (f g : (Nat → Nat → Int32)) (r : Bool × (Nat → Nat → Int32)), r_every  f = some r → am_Ev sc (d + 8) 209 (0, [(0, .ref 216)], [], am_SH, (g, f)) ((some (.int (am_b r.1))), am_SH, (g, r.2))) (honeTest : ∀ (f g : (Nat → Nat → Int32)) (r : Bool × (Nat → Nat → Int32)), r_oneTest  f = some r → am_Ev sc (d + 8) 210 (0, [(0, .ref 216)], [], am_SH, (g, f)) ((some (.int (am_b r.1))), am_SH, (g, r.2)))  (f g : (Nat → Nat → Int32)) (r : Bool × (Nat → Nat → Int32)) (h : m_oneTest_B r_any r_every r_oneTest  f = some r) : am_Ev sc (d + 9) 210 (0, [(0, .ref 216)], [], am_SH, (g, f)) ((some (.int (am_b r.1))), am_SH, (g, r.2)) := by
  have hcd : am_code 210 = am_c210 := rfl
  unfold m_oneTest_B at h
  refine am_Ev.go hcd 3 (s' := (3, [(0, .ref 216)], [.int 6, .int (f 216 18)], am_SH, (g, f))) rfl ?_
  rcases am_ite h with ⟨c2, h⟩ | ⟨c2, h⟩
  · refine am_Ev.t hcd (c := f 216 18 = 6) (s1 := (4, [(0, .ref 216)], [], am_SH, (g, f))) rfl c2 ?_
    refine am_Ev.go hcd 1 (s' := (5, [(0, .ref 216)], [.ref 216], am_SH, (g, f))) rfl ?_
    obtain ⟨p1, hp1, h⟩ := am_bind_some h
    refine am_Ev.call hcd (a := 204) (s0 := (0, [(0, .ref 216)], [], am_SH, (g, f))) (q := ((some (.int (am_b p1.1))), am_SH, (g, p1.2))) (s1 := (6, [(0, .ref 216)], [.int (am_b p1.1)], am_SH, (g, p1.2))) rfl rfl (m_opens_ok (d + 2)  f g p1 hp1) ?_
    rcases am_ite h with ⟨c8, h⟩ | ⟨c8, h⟩
    · refine am_Ev.f hcd (c := am_b p1.1 = 0) (s1 := (7, [(0, .ref 216)], [], am_SH, (g, p1.2))) rfl (am_b_t c8) ?_
      refine am_Ev.go hcd 1 (s' := (8, [(0, .ref 216)], [.ref 216], am_SH, (g, p1.2))) rfl ?_
      obtain ⟨p2, hp2, h⟩ := am_bind_some h
      refine am_Ev.call hcd (a := 210) (s0 := (0, [(0, .ref 216)], [], am_SH, (g, p1.2))) (q := ((some (.int (am_b p2.1))), am_SH, (g, p2.2))) (s1 := (9, [(0, .ref 216)], [.int (am_b p2.1)], am_SH, (g, p2.2))) rfl rfl (honeTest  p1.2 g p2 hp2) ?_
      rcases am_ite h with ⟨c13, h⟩ | ⟨c13, h⟩
      · refine am_Ev.f hcd (c := am_b p2.1 = 0) (s1 := (12, [(0, .ref 216)], [], am_SH, (g, p2.2))) rfl (am_b_t c13) ?_
        obtain ⟨f3, Ef3, h⟩ := am_let_eq h
        refine am_Ev.go hcd 6 (s' := (18, [(0, .ref 216)], [], am_SH, (g, f3))) (by subst Ef3; exact rfl) ?_
        refine am_Ev.go hcd 3 (s' := (21, [(0, .ref 216)], [.int 0, .int 30, .ref 216], am_SH, (g, f3))) rfl ?_
        obtain ⟨p4, hp4, h⟩ := am_bind_some h
        refine am_Ev.call hcd (a := 203) (s0 := (0, [(0, .ref 216), (1, .int 30), (2, .int 0)], [], am_SH, (g, f3))) (q := (none, am_SH, (g, p4))) (s1 := (22, [(0, .ref 216)], [], am_SH, (g, p4))) rfl rfl (m_lay_ok (d + 8) 30 0 f3 g p4 hp4) ?_
        refine am_Ev.go hcd 1 (s' := (23, [(0, .ref 216)], [.int 1], am_SH, (g, p4))) rfl ?_
        exact am_Ev.cast (a := ((some (.int (am_b (true, p4).1))), am_SH, (g, (true, p4).2))) (by cases h; rfl) (am_Ev.ret hcd rfl)
      · refine am_Ev.t hcd (c := am_b p2.1 = 0) (s1 := (10, [(0, .ref 216)], [], am_SH, (g, p2.2))) rfl (am_b_f c13) ?_
        refine am_Ev.go hcd 1 (s' := (11, [(0, .ref 216)], [.int 0], am_SH, (g, p2.2))) rfl ?_
        exact am_Ev.cast (a := ((some (.int (am_b (false, p2.2).1))), am_SH, (g, (false, p2.2).2))) (by cases h; rfl) (am_Ev.ret hcd rfl)
    · refine am_Ev.t hcd (c := am_b p1.1 = 0) (s1 := (10, [(0, .ref 216)], [], am_SH, (g, p1.2))) rfl (am_b_f c8) ?_
      refine am_Ev.go hcd 1 (s' := (11, [(0, .ref 216)], [.int 0], am_SH, (g, p1.2))) rfl ?_
      exact am_Ev.cast (a := ((some (.int (am_b (false, p1.2).1))), am_SH, (g, (false, p1.2).2))) (by cases h; rfl) (am_Ev.ret hcd rfl)
  · refine am_Ev.f hcd (c := f 216 18 = 6) (s1 := (24, [(0, .ref 216)], [], am_SH, (g, f))) rfl c2 ?_
    refine am_Ev.go hcd 3 (s' := (27, [(0, .ref 216)], [.int 140, .int (f 216 18)], am_SH, (g, f))) rfl ?_
    rcases am_ite h with ⟨c29, h⟩ | ⟨c29, h⟩
    · refine am_Ev.t hcd (c := f 216 18 = 140) (s1 := (28, [(0, .ref 216)], [], am_SH, (g, f))) rfl c29 ?_
      refine am_Ev.go hcd 1 (s' := (29, [(0, .ref 216)], [.ref 216], am_SH, (g, f))) rfl ?_
      obtain ⟨p5, hp5, h⟩ := am_bind_some h
      refine am_Ev.call hcd (a := 204) (s0 := (0, [(0, .ref 216)], [], am_SH, (g, f))) (q := ((some (.int (am_b p5.1))), am_SH, (g, p5.2))) (s1 := (30, [(0, .ref 216)], [.int (am_b p5.1)], am_SH, (g, p5.2))) rfl rfl (m_opens_ok (d + 2)  f g p5 hp5) ?_
      rcases am_ite h with ⟨c35, h⟩ | ⟨c35, h⟩
      · refine am_Ev.f hcd (c := am_b p5.1 = 0) (s1 := (31, [(0, .ref 216)], [], am_SH, (g, p5.2))) rfl (am_b_t c35) ?_
        refine am_Ev.go hcd 1 (s' := (32, [(0, .ref 216)], [.ref 216], am_SH, (g, p5.2))) rfl ?_
        obtain ⟨p6, hp6, h⟩ := am_bind_some h
        refine am_Ev.call hcd (a := 208) (s0 := (0, [(0, .ref 216)], [], am_SH, (g, p5.2))) (q := ((some (.int (am_b p6.1))), am_SH, (g, p6.2))) (s1 := (33, [(0, .ref 216)], [.int (am_b p6.1)], am_SH, (g, p6.2))) rfl rfl (hany  p5.2 g p6 hp6) ?_
        rcases am_ite h with ⟨c40, h⟩ | ⟨c40, h⟩
        · refine am_Ev.f hcd (c := am_b p6.1 = 0) (s1 := (34, [(0, .ref 216)], [], am_SH, (g, p6.2))) rfl (am_b_t c40) ?_
          refine am_Ev.go hcd 2 (s' := (36, [(0, .ref 216)], [.int 141, .ref 216], am_SH, (g, p6.2))) rfl ?_
          obtain ⟨p7, hp7, h⟩ := am_bind_some h
          refine am_Ev.call hcd (a := 202) (s0 := (0, [(0, .ref 216), (1, .int 141)], [], am_SH, (g, p6.2))) (q := ((some (.int (am_b p7.1))), am_SH, (g, p7.2))) (s1 := (37, [(0, .ref 216)], [.int (am_b p7.1)], am_SH, (g, p7.2))) rfl rfl (m_need_ok (d + 2) 141 p6.2 g p7 hp7) ?_
          rcases am_ite h with ⟨c45, h⟩ | ⟨c45, h⟩
          · refine am_Ev.f hcd (c := am_b p7.1 = 0) (s1 := (40, [(0, .ref 216)], [], am_SH, (g, p7.2))) rfl (am_b_t c45) ?_
            obtain ⟨f8, Ef8, h⟩ := am_let_eq h
            refine am_Ev.go hcd 6 (s' := (46, [(0, .ref 216)], [], am_SH, (g, f8))) (by subst Ef8; exact rfl) ?_
            refine am_Ev.go hcd 1 (s' := (47, [(0, .ref 216)], [.int 1], am_SH, (g, f8))) rfl ?_
            exact am_Ev.cast (a := ((some (.int (am_b (true, f8).1))), am_SH, (g, (true, f8).2))) (by cases h; rfl) (am_Ev.ret hcd rfl)
          · refine am_Ev.t hcd (c := am_b p7.1 = 0) (s1 := (38, [(0, .ref 216)], [], am_SH, (g, p7.2))) rfl (am_b_f c45) ?_
            refine am_Ev.go hcd 1 (s' := (39, [(0, .ref 216)], [.int 0], am_SH, (g, p7.2))) rfl ?_
            exact am_Ev.cast (a := ((some (.int (am_b (false, p7.2).1))), am_SH, (g, (false, p7.2).2))) (by cases h; rfl) (am_Ev.ret hcd rfl)
        · refine am_Ev.t hcd (c := am_b p6.1 = 0) (s1 := (38, [(0, .ref 216)], [], am_SH, (g, p6.2))) rfl (am_b_f c40) ?_
          refine am_Ev.go hcd 1 (s' := (39, [(0, .ref 216)], [.int 0], am_SH, (g, p6.2))) rfl ?_
          exact am_Ev.cast (a := ((some (.int (am_b (false, p6.2).1))), am_SH, (g, (false, p6.2).2))) (by cases h; rfl) (am_Ev.ret hcd rfl)
      · refine am_Ev.t hcd (c := am_b p5.1 = 0) (s1 := (38, [(0, .ref 216)], [], am_SH, (g, p5.2))) rfl (am_b_f c35) ?_
        refine am_Ev.go hcd 1 (s' := (39, [(0, .ref 216)], [.int 0], am_SH, (g, p5.2))) rfl ?_
        exact am_Ev.cast (a := ((some (.int (am_b (false, p5.2).1))), am_SH, (g, (false, p5.2).2))) (by cases h; rfl) (am_Ev.ret hcd rfl)
    · refine am_Ev.f hcd (c := f 216 18 = 140) (s1 := (48, [(0, .ref 216)], [], am_SH, (g, f))) rfl c29 ?_
      refine am_Ev.go hcd 1 (s' := (49, [(0, .ref 216)], [.ref 216], am_SH, (g, f))) rfl ?_
      obtain ⟨p9, hp9, h⟩ := am_bind_some h
      refine am_Ev.call hcd (a := 205) (s0 := (0, [(0, .ref 216)], [], am_SH, (g, f))) (q := ((some (.int (am_b p9.1))), am_SH, (g, p9.2))) (s1 := (50, [(0, .ref 216)], [.int (am_b p9.1)], am_SH, (g, p9.2))) rfl rfl (m_sumUp_ok (d)  f g p9 hp9) ?_
      rcases am_ite h with ⟨c64, h⟩ | ⟨c64, h⟩
      · refine am_Ev.f hcd (c := am_b p9.1 = 0) (s1 := (53, [(0, .ref 216)], [], am_SH, (g, p9.2))) rfl (am_b_t c64) ?_
        obtain ⟨t10, ht10, kt10⟩ := am_let_eq h
        have hKt10 : am_Ev sc (d + 9) 210 (72, [(0, .ref 216)], [.int t10], am_SH, (g, p9.2)) ((some (.int (am_b r.1))), am_SH, (g, r.2)) := by
          have h := kt10
          refine am_Ev.go hcd 3 (s' := (75, [(0, .ref 216), (1, .int t10)], [.int (-1), .int t10], am_SH, (g, p9.2))) rfl ?_
          rcases am_ite h with ⟨c69, h⟩ | ⟨c69, h⟩
          · refine am_Ev.t hcd (c := t10 = (-1)) (s1 := (76, [(0, .ref 216), (1, .int t10)], [], am_SH, (g, p9.2))) rfl c69 ?_
            refine am_Ev.go hcd 2 (s' := (78, [(0, .ref 216), (1, .int t10)], [.int 1, .ref 216], am_SH, (g, p9.2))) rfl ?_
            obtain ⟨p11, Ep11, h⟩ := am_let_eq h
            refine am_Ev.call hcd (a := 201) (s0 := (0, [(0, .ref 216), (1, .int 1)], [], am_SH, (g, p9.2))) (q := ((some (.int (am_b p11.1))), am_SH, (g, p11.2))) (s1 := (79, [(0, .ref 216), (1, .int t10)], [.int (am_b p11.1)], am_SH, (g, p11.2))) rfl rfl (by subst Ep11; exact m_bad_ok (d + 8) 1 p9.2 g) ?_
            exact am_Ev.cast (a := ((some (.int (am_b (p11.1, p11.2).1))), am_SH, (g, (p11.1, p11.2).2))) (by cases h; rfl) (am_Ev.retb hcd rfl)
          · refine am_Ev.f hcd (c := t10 = (-1)) (s1 := (80, [(0, .ref 216), (1, .int t10)], [], am_SH, (g, p9.2))) rfl c69 ?_
            refine am_Ev.go hcd 1 (s' := (81, [(0, .ref 216), (1, .int t10)], [.ref 216], am_SH, (g, p9.2))) rfl ?_
            obtain ⟨p12, hp12, h⟩ := am_bind_some h
            refine am_Ev.call hcd (a := 200) (s0 := (0, [(0, .ref 216)], [], am_SH, (g, p9.2))) (q := (none, am_SH, (g, p12))) (s1 := (82, [(0, .ref 216), (1, .int t10)], [], am_SH, (g, p12))) rfl rfl (m_next0_ok (d + 3)  p9.2 g p12 hp12) ?_
            refine am_Ev.go hcd 1 (s' := (83, [(0, .ref 216), (1, .int t10)], [.ref 216], am_SH, (g, p12))) rfl ?_
            obtain ⟨p13, hp13, h⟩ := am_bind_some h
            refine am_Ev.call hcd (a := 205) (s0 := (0, [(0, .ref 216)], [], am_SH, (g, p12))) (q := ((some (.int (am_b p13.1))), am_SH, (g, p13.2))) (s1 := (84, [(0, .ref 216), (1, .int t10)], [.int (am_b p13.1)], am_SH, (g, p13.2))) rfl rfl (m_sumUp_ok (d)  p12 g p13 hp13) ?_
            rcases am_ite h with ⟨c83, h⟩ | ⟨c83, h⟩
            · refine am_Ev.f hcd (c := am_b p13.1 = 0) (s1 := (87, [(0, .ref 216), (1, .int t10)], [], am_SH, (g, p13.2))) rfl (am_b_t c83) ?_
              refine am_Ev.go hcd 3 (s' := (90, [(0, .ref 216), (1, .int t10)], [.int 0, .int t10, .ref 216], am_SH, (g, p13.2))) rfl ?_
              obtain ⟨p14, hp14, h⟩ := am_bind_some h
              refine am_Ev.call hcd (a := 203) (s0 := (0, [(0, .ref 216), (1, .int t10), (2, .int 0)], [], am_SH, (g, p13.2))) (q := (none, am_SH, (g, p14))) (s1 := (91, [(0, .ref 216), (1, .int t10)], [], am_SH, (g, p14))) rfl rfl (m_lay_ok (d + 8) t10 0 p13.2 g p14 hp14) ?_
              refine am_Ev.go hcd 1 (s' := (92, [(0, .ref 216), (1, .int t10)], [.int 1], am_SH, (g, p14))) rfl ?_
              exact am_Ev.cast (a := ((some (.int (am_b (true, p14).1))), am_SH, (g, (true, p14).2))) (by cases h; rfl) (am_Ev.ret hcd rfl)
            · refine am_Ev.t hcd (c := am_b p13.1 = 0) (s1 := (85, [(0, .ref 216), (1, .int t10)], [], am_SH, (g, p13.2))) rfl (am_b_f c83) ?_
              refine am_Ev.go hcd 1 (s' := (86, [(0, .ref 216), (1, .int t10)], [.int 0], am_SH, (g, p13.2))) rfl ?_
              exact am_Ev.cast (a := ((some (.int (am_b (false, p13.2).1))), am_SH, (g, (false, p13.2).2))) (by cases h; rfl) (am_Ev.ret hcd rfl)
        have hLt10 : ∀ tt, tt = t10 → am_Ev sc (d + 9) 210 (72, [(0, .ref 216)], [.int tt], am_SH, (g, p9.2)) ((some (.int (am_b r.1))), am_SH, (g, r.2)) := fun tt htt => by subst htt; exact hKt10
        have h := ht10
        refine am_Ev.go hcd 3 (s' := (56, [(0, .ref 216)], [.int 160, .int (p9.2 216 18)], am_SH, (g, p9.2))) rfl ?_
        rcases am_itv h with ⟨c95, h⟩ | ⟨c95, h⟩
        · refine am_Ev.t hcd (c := p9.2 216 18 = 160) (s1 := (57, [(0, .ref 216)], [], am_SH, (g, p9.2))) rfl c95 ?_
          refine am_Ev.go hcd 2 (s' := (72, [(0, .ref 216)], [.int 27], am_SH, (g, p9.2))) rfl ?_
          exact am_Ev.weak' (hLt10 27 h.symm) (am_sub_cons rfl am_sub_nil) rfl
        · refine am_Ev.f hcd (c := p9.2 216 18 = 160) (s1 := (59, [(0, .ref 216)], [], am_SH, (g, p9.2))) rfl c95 ?_
          refine am_Ev.go hcd 3 (s' := (62, [(0, .ref 216)], [.int 161, .int (p9.2 216 18)], am_SH, (g, p9.2))) rfl ?_
          rcases am_itv h with ⟨c101, h⟩ | ⟨c101, h⟩
          · refine am_Ev.t hcd (c := p9.2 216 18 = 161) (s1 := (63, [(0, .ref 216)], [], am_SH, (g, p9.2))) rfl c101 ?_
            refine am_Ev.go hcd 2 (s' := (72, [(0, .ref 216)], [.int 28], am_SH, (g, p9.2))) rfl ?_
            exact am_Ev.weak' (hLt10 28 h.symm) (am_sub_cons rfl am_sub_nil) rfl
          · refine am_Ev.f hcd (c := p9.2 216 18 = 161) (s1 := (65, [(0, .ref 216)], [], am_SH, (g, p9.2))) rfl c101 ?_
            refine am_Ev.go hcd 3 (s' := (68, [(0, .ref 216)], [.int 162, .int (p9.2 216 18)], am_SH, (g, p9.2))) rfl ?_
            rcases am_itv h with ⟨c107, h⟩ | ⟨c107, h⟩
            · refine am_Ev.t hcd (c := p9.2 216 18 = 162) (s1 := (69, [(0, .ref 216)], [], am_SH, (g, p9.2))) rfl c107 ?_
              refine am_Ev.go hcd 2 (s' := (72, [(0, .ref 216)], [.int 29], am_SH, (g, p9.2))) rfl ?_
              exact am_Ev.weak' (hLt10 29 h.symm) (am_sub_cons rfl am_sub_nil) rfl
            · refine am_Ev.f hcd (c := p9.2 216 18 = 162) (s1 := (71, [(0, .ref 216)], [], am_SH, (g, p9.2))) rfl c107 ?_
              refine am_Ev.go hcd 1 (s' := (72, [(0, .ref 216)], [.int (-1)], am_SH, (g, p9.2))) rfl ?_
              exact am_Ev.weak' (hLt10 (-1) h.symm) (am_sub_cons rfl am_sub_nil) rfl
      · refine am_Ev.t hcd (c := am_b p9.1 = 0) (s1 := (51, [(0, .ref 216)], [], am_SH, (g, p9.2))) rfl (am_b_f c64) ?_
        refine am_Ev.go hcd 1 (s' := (52, [(0, .ref 216)], [.int 0], am_SH, (g, p9.2))) rfl ?_
        exact am_Ev.cast (a := ((some (.int (am_b (false, p9.2).1))), am_SH, (g, (false, p9.2).2))) (by cases h; rfl) (am_Ev.ret hcd rfl)
set_option maxHeartbeats 4000000 in
theorem m_rec_ok {sc : Nat × (Nat → Int32)} (d : Nat) : ∀ n : Nat, (∀ (f g : (Nat → Nat → Int32)) (r : Bool × (Nat → Nat → Int32)), m_any n  f = some r → am_Ev sc (d + n + 8) 208 (0, [(0, .ref 216)], [], am_SH, (g, f)) ((some (.int (am_b r.1))), am_SH, (g, r.2))) ∧ (∀ (f g : (Nat → Nat → Int32)) (r : Bool × (Nat → Nat → Int32)), m_every n  f = some r → am_Ev sc (d + n + 8) 209 (0, [(0, .ref 216)], [], am_SH, (g, f)) ((some (.int (am_b r.1))), am_SH, (g, r.2))) ∧ (∀ (f g : (Nat → Nat → Int32)) (r : Bool × (Nat → Nat → Int32)), m_oneTest n  f = some r → am_Ev sc (d + n + 8) 210 (0, [(0, .ref 216)], [], am_SH, (g, f)) ((some (.int (am_b r.1))), am_SH, (g, r.2))) := by
  intro n
  induction n with
  | zero => exact ⟨fun  f g r h => (by cases h), fun  f g r h => (by cases h), fun  f g r h => (by cases h)⟩
  | succ n ih =>
    obtain ⟨i0, i1, i2⟩ := ih
    exact ⟨fun  f g r h => m_any_Bok (d + n) _ _ _ i0 i1 i2  f g r h, fun  f g r h => m_every_Bok (d + n) _ _ _ i0 i1 i2  f g r h, fun  f g r h => m_oneTest_Bok (d + n) _ _ _ i0 i1 i2  f g r h⟩
theorem m_any_ok {sc : Nat × (Nat → Int32)} (d n : Nat)  (f g : (Nat → Nat → Int32)) (r : Bool × (Nat → Nat → Int32)) (h : m_any n  f = some r) : am_Ev sc (d + n + 8) 208 (0, [(0, .ref 216)], [], am_SH, (g, f)) ((some (.int (am_b r.1))), am_SH, (g, r.2)) := (m_rec_ok d n).1  f g r h
theorem m_every_ok {sc : Nat × (Nat → Int32)} (d n : Nat)  (f g : (Nat → Nat → Int32)) (r : Bool × (Nat → Nat → Int32)) (h : m_every n  f = some r) : am_Ev sc (d + n + 8) 209 (0, [(0, .ref 216)], [], am_SH, (g, f)) ((some (.int (am_b r.1))), am_SH, (g, r.2)) := (m_rec_ok d n).2.1  f g r h
theorem m_oneTest_ok {sc : Nat × (Nat → Int32)} (d n : Nat)  (f g : (Nat → Nat → Int32)) (r : Bool × (Nat → Nat → Int32)) (h : m_oneTest n  f = some r) : am_Ev sc (d + n + 8) 210 (0, [(0, .ref 216)], [], am_SH, (g, f)) ((some (.int (am_b r.1))), am_SH, (g, r.2)) := (m_rec_ok d n).2.2  f g r h
set_option maxRecDepth 100000 in
set_option maxHeartbeats 4000000 in
theorem m_aLine_ok {sc : Nat × (Nat → Int32)} (d : Nat)  (f g : (Nat → Nat → Int32)) (r : Bool × (Nat → Nat → Int32)) (h : m_aLine  f = some r) : am_Ev sc (d + 50) 211 (0, [(0, .ref 216)], [], am_SH, (g, f)) ((some (.int (am_b r.1))), am_SH, (g, r.2)) := by
  have hcd : am_code 211 = am_c211 := rfl
  unfold m_aLine at h
  refine am_Ev.go hcd 4 (s' := (4, [(0, .ref 216)], [.int 22, .int 20, .int (f 216 18)], am_SH, (g, f))) rfl ?_
  refine am_Ev.call hcd (a := 176) (s0 := (0, [(0, .int (f 216 18)), (1, .int 20), (2, .int 22)], [], am_SH, (g, f))) (q := ((some (.int (am_b (m_isIn (f 216 18) 20 22)))), am_SH, (g, f))) (s1 := (5, [(0, .ref 216)], [.int (am_b (m_isIn (f 216 18) 20 22))], am_SH, (g, f))) rfl rfl (m_isIn_ok (d + 49) (f 216 18) 20 22 (g, f)) ?_
  rcases am_ite h with ⟨c4, h⟩ | ⟨c4, h⟩
  · refine am_Ev.f hcd (c := am_b (m_isIn (f 216 18) 20 22) = 0) (s1 := (10, [(0, .ref 216)], [], am_SH, (g, f))) rfl (am_b_t c4) ?_
    refine am_Ev.go hcd 3 (s' := (13, [(0, .ref 216)], [.int 16, .int (f 216 13)], am_SH, (g, f))) rfl ?_
    rcases am_ite h with ⟨c6, h⟩ | ⟨c6, h⟩
    · refine am_Ev.t hcd (c := f 216 13 = 16) (s1 := (14, [(0, .ref 216)], [], am_SH, (g, f))) rfl c6 ?_
      refine am_Ev.go hcd 2 (s' := (16, [(0, .ref 216)], [.int 3, .ref 216], am_SH, (g, f))) rfl ?_
      obtain ⟨p2, Ep2, h⟩ := am_let_eq h
      refine am_Ev.call hcd (a := 201) (s0 := (0, [(0, .ref 216), (1, .int 3)], [], am_SH, (g, f))) (q := ((some (.int (am_b p2.1))), am_SH, (g, p2.2))) (s1 := (17, [(0, .ref 216)], [.int (am_b p2.1)], am_SH, (g, p2.2))) rfl rfl (by subst Ep2; exact m_bad_ok (d + 49) 3 f g) ?_
      exact am_Ev.cast (a := ((some (.int (am_b (p2.1, p2.2).1))), am_SH, (g, (p2.1, p2.2).2))) (by cases h; rfl) (am_Ev.retb hcd rfl)
    · refine am_Ev.f hcd (c := f 216 13 = 16) (s1 := (18, [(0, .ref 216)], [], am_SH, (g, f))) rfl c6 ?_
      obtain ⟨f3, Ef3, h⟩ := am_let_eq h
      refine am_Ev.go hcd 3 (s' := (21, [(0, .ref 216)], [], am_SH, (g, f3))) (by subst Ef3; exact rfl) ?_
      refine am_Ev.go hcd 10 (s' := (31, [(0, .ref 216)], [.int (f3 216 18), .int ((4 * (f3 216 13)) + 3), .ref 221], am_SH, (g, f3))) rfl ?_
      obtain ⟨c16, h⟩ := am_grd h
      obtain ⟨f4, Ef4, h⟩ := am_let_eq h
      refine am_Ev.t hcd (o := none) (c := am_in ((4 * (f3 216 13)) + 3) 64 = true) (s1 := (32, [(0, .ref 216)], [], am_SH, (g, f4))) (by subst Ef4; exact rfl) c16 ?_
      refine am_Ev.go hcd 1 (s' := (33, [(0, .ref 216)], [.ref 216], am_SH, (g, f4))) rfl ?_
      obtain ⟨p5, hp5, h⟩ := am_bind_some h
      refine am_Ev.call hcd (a := 200) (s0 := (0, [(0, .ref 216)], [], am_SH, (g, f4))) (q := (none, am_SH, (g, p5))) (s1 := (34, [(0, .ref 216)], [], am_SH, (g, p5))) rfl rfl (m_next0_ok (d + 44)  f4 g p5 hp5) ?_
      refine am_Ev.go hcd 8 (s' := (42, [(0, .ref 216)], [.int (p5 216 14), .int (4 * (p5 216 13)), .ref 221], am_SH, (g, p5))) rfl ?_
      obtain ⟨c23, h⟩ := am_grd h
      obtain ⟨f6, Ef6, h⟩ := am_let_eq h
      refine am_Ev.t hcd (o := none) (c := am_in (4 * (p5 216 13)) 64 = true) (s1 := (43, [(0, .ref 216)], [], am_SH, (g, f6))) (by subst Ef6; exact rfl) c23 ?_
      refine am_Ev.go hcd 1 (s' := (44, [(0, .ref 216)], [.ref 216], am_SH, (g, f6))) rfl ?_
      obtain ⟨p7, hp7, h⟩ := am_bind_some h
      refine am_Ev.call hcd (a := 205) (s0 := (0, [(0, .ref 216)], [], am_SH, (g, f6))) (q := ((some (.int (am_b p7.1))), am_SH, (g, p7.2))) (s1 := (45, [(0, .ref 216)], [.int (am_b p7.1)], am_SH, (g, p7.2))) rfl rfl (m_sumUp_ok (d + 41)  f6 g p7 hp7) ?_
      rcases am_ite h with ⟨c30, h⟩ | ⟨c30, h⟩
      · refine am_Ev.f hcd (c := am_b p7.1 = 0) (s1 := (48, [(0, .ref 216)], [], am_SH, (g, p7.2))) rfl (am_b_t c30) ?_
        refine am_Ev.go hcd 10 (s' := (58, [(0, .ref 216)], [.int (p7.2 216 14), .int ((4 * (p7.2 216 13)) + 1), .ref 221], am_SH, (g, p7.2))) rfl ?_
        obtain ⟨c32, h⟩ := am_grd h
        obtain ⟨f8, Ef8, h⟩ := am_let_eq h
        refine am_Ev.t hcd (o := none) (c := am_in ((4 * (p7.2 216 13)) + 1) 64 = true) (s1 := (59, [(0, .ref 216)], [], am_SH, (g, f8))) (by subst Ef8; exact rfl) c32 ?_
        refine am_Ev.go hcd 3 (s' := (62, [(0, .ref 216)], [.int 3, .int (f8 216 18)], am_SH, (g, f8))) rfl ?_
        rcases am_ite h with ⟨c36, h⟩ | ⟨c36, h⟩
        · refine am_Ev.t hcd (c := f8 216 18 = 3) (s1 := (63, [(0, .ref 216)], [], am_SH, (g, f8))) rfl c36 ?_
          refine am_Ev.go hcd 1 (s' := (64, [(0, .ref 216)], [.ref 216], am_SH, (g, f8))) rfl ?_
          obtain ⟨p9, hp9, h⟩ := am_bind_some h
          refine am_Ev.call hcd (a := 200) (s0 := (0, [(0, .ref 216)], [], am_SH, (g, f8))) (q := (none, am_SH, (g, p9))) (s1 := (65, [(0, .ref 216)], [], am_SH, (g, p9))) rfl rfl (m_next0_ok (d + 44)  f8 g p9 hp9) ?_
          refine am_Ev.go hcd 1 (s' := (66, [(0, .ref 216)], [.ref 216], am_SH, (g, p9))) rfl ?_
          obtain ⟨p10, hp10, h⟩ := am_bind_some h
          refine am_Ev.call hcd (a := 208) (s0 := (0, [(0, .ref 216)], [], am_SH, (g, p9))) (q := ((some (.int (am_b p10.1))), am_SH, (g, p10.2))) (s1 := (67, [(0, .ref 216)], [.int (am_b p10.1)], am_SH, (g, p10.2))) rfl rfl (m_any_ok (d + 1) 40  p9 g p10 hp10) ?_
          rcases am_ite h with ⟨c45, h⟩ | ⟨c45, h⟩
          · refine am_Ev.f hcd (c := am_b p10.1 = 0) (s1 := (70, [(0, .ref 216)], [], am_SH, (g, p10.2))) rfl (am_b_t c45) ?_
            refine am_Ev.go hcd 10 (s' := (80, [(0, .ref 216)], [.int (p10.2 216 14), .int ((4 * (p10.2 216 13)) + 2), .ref 221], am_SH, (g, p10.2))) rfl ?_
            obtain ⟨c47, h⟩ := am_grd h
            obtain ⟨f11, Ef11, h⟩ := am_let_eq h
            refine am_Ev.t hcd (o := none) (c := am_in ((4 * (p10.2 216 13)) + 2) 64 = true) (s1 := (81, [(0, .ref 216)], [], am_SH, (g, f11))) (by subst Ef11; exact rfl) c47 ?_
            refine am_Ev.go hcd 2 (s' := (83, [(0, .ref 216)], [.int 159, .ref 216], am_SH, (g, f11))) rfl ?_
            obtain ⟨p12, hp12, h⟩ := am_bind_some h
            refine am_Ev.call hcd (a := 202) (s0 := (0, [(0, .ref 216), (1, .int 159)], [], am_SH, (g, f11))) (q := ((some (.int (am_b p12.1))), am_SH, (g, p12.2))) (s1 := (84, [(0, .ref 216)], [.int (am_b p12.1)], am_SH, (g, p12.2))) rfl rfl (m_need_ok (d + 43) 159 f11 g p12 hp12) ?_
            exact am_Ev.cast (a := ((some (.int (am_b (p12.1, p12.2).1))), am_SH, (g, (p12.1, p12.2).2))) (by cases h; rfl) (am_Ev.retb hcd rfl)
          · refine am_Ev.t hcd (c := am_b p10.1 = 0) (s1 := (68, [(0, .ref 216)], [], am_SH, (g, p10.2))) rfl (am_b_f c45) ?_
            refine am_Ev.go hcd 1 (s' := (69, [(0, .ref 216)], [.int 0], am_SH, (g, p10.2))) rfl ?_
            exact am_Ev.cast (a := ((some (.int (am_b (false, p10.2).1))), am_SH, (g, (false, p10.2).2))) (by cases h; rfl) (am_Ev.ret hcd rfl)
        · refine am_Ev.f hcd (c := f8 216 18 = 3) (s1 := (70, [(0, .ref 216)], [], am_SH, (g, f8))) rfl c36 ?_
          refine am_Ev.go hcd 10 (s' := (80, [(0, .ref 216)], [.int (f8 216 14), .int ((4 * (f8 216 13)) + 2), .ref 221], am_SH, (g, f8))) rfl ?_
          obtain ⟨c59, h⟩ := am_grd h
          obtain ⟨f13, Ef13, h⟩ := am_let_eq h
          refine am_Ev.t hcd (o := none) (c := am_in ((4 * (f8 216 13)) + 2) 64 = true) (s1 := (81, [(0, .ref 216)], [], am_SH, (g, f13))) (by subst Ef13; exact rfl) c59 ?_
          refine am_Ev.go hcd 2 (s' := (83, [(0, .ref 216)], [.int 159, .ref 216], am_SH, (g, f13))) rfl ?_
          obtain ⟨p14, hp14, h⟩ := am_bind_some h
          refine am_Ev.call hcd (a := 202) (s0 := (0, [(0, .ref 216), (1, .int 159)], [], am_SH, (g, f13))) (q := ((some (.int (am_b p14.1))), am_SH, (g, p14.2))) (s1 := (84, [(0, .ref 216)], [.int (am_b p14.1)], am_SH, (g, p14.2))) rfl rfl (m_need_ok (d + 43) 159 f13 g p14 hp14) ?_
          exact am_Ev.cast (a := ((some (.int (am_b (p14.1, p14.2).1))), am_SH, (g, (p14.1, p14.2).2))) (by cases h; rfl) (am_Ev.retb hcd rfl)
      · refine am_Ev.t hcd (c := am_b p7.1 = 0) (s1 := (46, [(0, .ref 216)], [], am_SH, (g, p7.2))) rfl (am_b_f c30) ?_
        refine am_Ev.go hcd 1 (s' := (47, [(0, .ref 216)], [.int 0], am_SH, (g, p7.2))) rfl ?_
        exact am_Ev.cast (a := ((some (.int (am_b (false, p7.2).1))), am_SH, (g, (false, p7.2).2))) (by cases h; rfl) (am_Ev.ret hcd rfl)
  · refine am_Ev.t hcd (c := am_b (m_isIn (f 216 18) 20 22) = 0) (s1 := (6, [(0, .ref 216)], [], am_SH, (g, f))) rfl (am_b_f c4) ?_
    refine am_Ev.go hcd 2 (s' := (8, [(0, .ref 216)], [.int 1, .ref 216], am_SH, (g, f))) rfl ?_
    obtain ⟨p15, Ep15, h⟩ := am_let_eq h
    refine am_Ev.call hcd (a := 201) (s0 := (0, [(0, .ref 216), (1, .int 1)], [], am_SH, (g, f))) (q := ((some (.int (am_b p15.1))), am_SH, (g, p15.2))) (s1 := (9, [(0, .ref 216)], [.int (am_b p15.1)], am_SH, (g, p15.2))) rfl rfl (by subst Ep15; exact m_bad_ok (d + 49) 1 f g) ?_
    exact am_Ev.cast (a := ((some (.int (am_b (p15.1, p15.2).1))), am_SH, (g, (p15.1, p15.2).2))) (by cases h; rfl) (am_Ev.retb hcd rfl)
