set_option maxRecDepth 100000 in
set_option maxHeartbeats 4000000 in
theorem m_areApartBy_ok {sc : Nat × (Nat → Int32)} (d : Nat) (a0 : Int32) (f g : (Nat → Nat → Int32)) (r : Bool) (h : m_areApartBy a0 f = some r) : am_Ev sc (d + 2) 302 (0, [(0, .ref 216), (1, .int a0)], [], am_SH, (g, f)) ((some (.int (am_b r))), am_SH, (g, f)) := by
  have hcd : am_code 302 = am_c302 := rfl
  unfold m_areApartBy at h
  refine am_Ev.go hcd 2 (s' := (2, [(0, .ref 216), (1, .int a0), (2, .int 0)], [], am_SH, (g, f))) rfl ?_
  refine am_Ev.weak' (am_loop_ok (G := fun (s1 : Int32) => am_Ev sc (d + 2) 302 (2, [(0, .ref 216), (1, .int a0), (2, .int s1)], [], am_SH, (g, f)) ((some (.int (am_b r))), am_SH, (g, f))) (Z := fun (v : Bool) => (((some (.int (am_b v))), am_SH, (g, f)) : am_R) = ((some (.int (am_b r))), am_SH, (g, f))) ?_ am_F 0 r h rfl) (am_sub_cons rfl (am_sub_cons rfl (am_sub_cons rfl am_sub_nil))) rfl
  intro s1 q1 h hI1 hZ1
  show am_Ev sc (d + 2) 302 (2, [(0, .ref 216), (1, .int a0), (2, .int s1)], [], am_SH, (g, f)) ((some (.int (am_b r))), am_SH, (g, f))
  refine am_Ev.go hcd 5 (s' := (7, [(0, .ref 216), (1, .int a0), (2, .int s1)], [.int (f 217 506), .int s1], am_SH, (g, f))) rfl ?_
  rcases am_ite h with ⟨c6, h⟩ | ⟨c6, h⟩
  · refine am_Ev.t hcd (c := s1 < f 217 506) (s1 := (8, [(0, .ref 216), (1, .int a0), (2, .int s1)], [], am_SH, (g, f))) rfl c6 ?_
    refine am_Ev.go hcd 2 (s' := (10, [(0, .ref 216), (1, .int a0), (2, .int s1), (3, .int 0)], [], am_SH, (g, f))) rfl ?_
    obtain ⟨e6, he6, h⟩ := am_bind_some h
    have hK2 : (fun (v : (Bool) ⊕ (Unit)) => v.elim (fun (v : Bool) => (((some (.int (am_b v))), am_SH, (g, f)) : am_R) = ((some (.int (am_b r))), am_SH, (g, f))) (fun (e7 : Unit) => am_Ev sc (d + 2) 302 (26, [(0, .ref 216), (1, .int a0), (2, .int s1)], [], am_SH, (g, f)) ((some (.int (am_b r))), am_SH, (g, f)))) e6 := by
      cases e6 with
      | inl v => exact (hZ1 _ (Option.some.inj h).symm)
      | inr e7 =>
        have h := am_elim_r h
        show am_Ev sc (d + 2) 302 (26, [(0, .ref 216), (1, .int a0), (2, .int s1)], [], am_SH, (g, f)) ((some (.int (am_b r))), am_SH, (g, f))
        obtain ⟨t8, Et8, h⟩ := am_let_eq h
        refine am_Ev.go hcd 1 (s' := (27, [(0, .ref 216), (1, .int a0), (2, .int t8)], [], am_SH, (g, f))) (by subst Et8; exact rfl) ?_
        refine am_Ev.go hcd 1 (s' := (2, [(0, .ref 216), (1, .int a0), (2, .int t8)], [], am_SH, (g, f))) rfl ?_
        exact am_Ev.weak' (hI1 t8 (Option.some.inj h).symm) (am_sub_cons rfl (am_sub_cons rfl (am_sub_cons rfl am_sub_nil))) rfl
    refine am_Ev.weak' (am_loop_ok (G := fun (s2 : Int32) => am_Ev sc (d + 2) 302 (10, [(0, .ref 216), (1, .int a0), (2, .int s1), (3, .int s2)], [], am_SH, (g, f)) ((some (.int (am_b r))), am_SH, (g, f))) (Z := fun (v : (Bool) ⊕ (Unit)) => v.elim (fun (v : Bool) => (((some (.int (am_b v))), am_SH, (g, f)) : am_R) = ((some (.int (am_b r))), am_SH, (g, f))) (fun (e7 : Unit) => am_Ev sc (d + 2) 302 (26, [(0, .ref 216), (1, .int a0), (2, .int s1)], [], am_SH, (g, f)) ((some (.int (am_b r))), am_SH, (g, f)))) ?_ am_F 0 e6 he6 hK2) (am_sub_cons rfl (am_sub_cons rfl (am_sub_cons rfl (am_sub_cons rfl am_sub_nil)))) rfl
    intro s2 q2 h hI2 hZ2
    show am_Ev sc (d + 2) 302 (10, [(0, .ref 216), (1, .int a0), (2, .int s1), (3, .int s2)], [], am_SH, (g, f)) ((some (.int (am_b r))), am_SH, (g, f))
    refine am_Ev.go hcd 2 (s' := (12, [(0, .ref 216), (1, .int a0), (2, .int s1), (3, .int s2)], [.int s1, .int s2], am_SH, (g, f))) rfl ?_
    rcases am_ite h with ⟨c24, h⟩ | ⟨c24, h⟩
    · refine am_Ev.t hcd (c := s2 < s1) (s1 := (13, [(0, .ref 216), (1, .int a0), (2, .int s1), (3, .int s2)], [], am_SH, (g, f))) rfl c24 ?_
      refine am_Ev.go hcd 3 (s' := (16, [(0, .ref 216), (1, .int a0), (2, .int s1), (3, .int s2)], [.int a0, .int s1, .ref 216], am_SH, (g, f))) rfl ?_
      obtain ⟨p3, hp3, h⟩ := am_bind_some h
      refine am_Ev.call hcd (a := 301) (s0 := (0, [(0, .ref 216), (1, .int s1), (2, .int a0)], [], am_SH, (g, f))) (q := ((some (.int p3)), am_SH, (g, f))) (s1 := (17, [(0, .ref 216), (1, .int a0), (2, .int s1), (3, .int s2)], [.int p3], am_SH, (g, f))) rfl rfl (m_firstOf_ok (d) s1 a0 f g p3 hp3) ?_
      refine am_Ev.go hcd 3 (s' := (20, [(0, .ref 216), (1, .int a0), (2, .int s1), (3, .int s2)], [.int a0, .int s2, .ref 216, .int p3], am_SH, (g, f))) rfl ?_
      obtain ⟨p4, hp4, h⟩ := am_bind_some h
      refine am_Ev.call hcd (a := 301) (s0 := (0, [(0, .ref 216), (1, .int s2), (2, .int a0)], [], am_SH, (g, f))) (q := ((some (.int p4)), am_SH, (g, f))) (s1 := (21, [(0, .ref 216), (1, .int a0), (2, .int s1), (3, .int s2)], [.int p4, .int p3], am_SH, (g, f))) rfl rfl (m_firstOf_ok (d) s2 a0 f g p4 hp4) ?_
      rcases am_ite h with ⟨c33, h⟩ | ⟨c33, h⟩
      · refine am_Ev.t hcd (c := p3 = p4) (s1 := (22, [(0, .ref 216), (1, .int a0), (2, .int s1), (3, .int s2)], [], am_SH, (g, f))) rfl c33 ?_
        refine am_Ev.go hcd 1 (s' := (23, [(0, .ref 216), (1, .int a0), (2, .int s1), (3, .int s2)], [.int 0], am_SH, (g, f))) rfl ?_
        exact am_Ev.cast (a := ((some (.int (am_b false))), am_SH, (g, f))) (hZ2 _ (Option.some.inj h).symm) (am_Ev.ret hcd rfl)
      · refine am_Ev.f hcd (c := p3 = p4) (s1 := (24, [(0, .ref 216), (1, .int a0), (2, .int s1), (3, .int s2)], [], am_SH, (g, f))) rfl c33 ?_
        obtain ⟨t5, Et5, h⟩ := am_let_eq h
        refine am_Ev.go hcd 1 (s' := (25, [(0, .ref 216), (1, .int a0), (2, .int s1), (3, .int t5)], [], am_SH, (g, f))) (by subst Et5; exact rfl) ?_
        refine am_Ev.go hcd 1 (s' := (10, [(0, .ref 216), (1, .int a0), (2, .int s1), (3, .int t5)], [], am_SH, (g, f))) rfl ?_
        exact am_Ev.weak' (hI2 t5 (Option.some.inj h).symm) (am_sub_cons rfl (am_sub_cons rfl (am_sub_cons rfl (am_sub_cons rfl am_sub_nil)))) rfl
    · refine am_Ev.f hcd (c := s2 < s1) (s1 := (26, [(0, .ref 216), (1, .int a0), (2, .int s1), (3, .int s2)], [], am_SH, (g, f))) rfl c24 ?_
      exact am_Ev.weak' (hZ2 (.inr ()) (Option.some.inj h).symm) (am_sub_cons rfl (am_sub_cons rfl (am_sub_cons rfl am_sub_nil))) rfl
  · refine am_Ev.f hcd (c := s1 < f 217 506) (s1 := (28, [(0, .ref 216), (1, .int a0), (2, .int s1)], [], am_SH, (g, f))) rfl c6 ?_
    refine am_Ev.go hcd 1 (s' := (29, [(0, .ref 216), (1, .int a0), (2, .int s1)], [.int 1], am_SH, (g, f))) rfl ?_
    exact am_Ev.cast (a := ((some (.int (am_b true))), am_SH, (g, f))) (hZ1 _ (Option.some.inj h).symm) (am_Ev.ret hcd rfl)
set_option maxRecDepth 100000 in
set_option maxHeartbeats 4000000 in
theorem m_dogs_ok {sc : Nat × (Nat → Int32)} (d : Nat) (a0 : Int32) (f g : (Nat → Nat → Int32)) (r : Int32) (h : m_dogs a0 f = some r) : am_Ev sc (d + 3) 304 (0, [(0, .ref 216), (1, .int a0)], [], am_SH, (g, f)) ((some (.int r)), am_SH, (g, f)) := by
  have hcd : am_code 304 = am_c304 := rfl
  unfold m_dogs at h
  refine am_Ev.go hcd 3 (s' := (3, [(0, .ref 216), (1, .int a0)], [.int 1, .int 0, .int a0], am_SH, (g, f))) rfl ?_
  refine am_Ev.call hcd (a := 176) (s0 := (0, [(0, .int a0), (1, .int 0), (2, .int 1)], [], am_SH, (g, f))) (q := ((some (.int (am_b (m_isIn a0 0 1)))), am_SH, (g, f))) (s1 := (4, [(0, .ref 216), (1, .int a0)], [.int (am_b (m_isIn a0 0 1))], am_SH, (g, f))) rfl rfl (m_isIn_ok (d + 2) a0 0 1 (g, f)) ?_
  rcases am_ite h with ⟨c4, h⟩ | ⟨c4, h⟩
  · refine am_Ev.f hcd (c := am_b (m_isIn a0 0 1) = 0) (s1 := (7, [(0, .ref 216), (1, .int a0)], [], am_SH, (g, f))) rfl (am_b_t c4) ?_
    refine am_Ev.go hcd 2 (s' := (9, [(0, .ref 216), (1, .int a0)], [.int 1, .int a0], am_SH, (g, f))) rfl ?_
    rcases am_ite h with ⟨c6, h⟩ | ⟨c6, h⟩
    · refine am_Ev.t hcd (c := a0 = 1) (s1 := (10, [(0, .ref 216), (1, .int a0)], [], am_SH, (g, f))) rfl c6 ?_
      refine am_Ev.go hcd 4 (s' := (14, [(0, .ref 216), (1, .int a0), (2, .int 0), (3, .int 0)], [], am_SH, (g, f))) rfl ?_
      refine am_Ev.weak' (am_loop_ok (G := fun (s2 : Int32 × Int32) => am_Ev sc (d + 3) 304 (14, [(0, .ref 216), (2, .int s2.1), (3, .int s2.2)], [], am_SH, (g, f)) ((some (.int r)), am_SH, (g, f))) (Z := fun (v : Int32) => (((some (.int v)), am_SH, (g, f)) : am_R) = ((some (.int r)), am_SH, (g, f))) ?_ am_F (0, 0) r h rfl) (am_sub_cons rfl (am_sub_cons rfl (am_sub_cons rfl am_sub_nil))) rfl
      intro s2 q2 h hI2 hZ2
      show am_Ev sc (d + 3) 304 (14, [(0, .ref 216), (2, .int s2.1), (3, .int s2.2)], [], am_SH, (g, f)) ((some (.int r)), am_SH, (g, f))
      refine am_Ev.go hcd 5 (s' := (19, [(0, .ref 216), (2, .int s2.1), (3, .int s2.2)], [.int (f 217 506), .int s2.2], am_SH, (g, f))) rfl ?_
      rcases am_ite h with ⟨c13, h⟩ | ⟨c13, h⟩
      · refine am_Ev.t hcd (c := s2.2 < f 217 506) (s1 := (20, [(0, .ref 216), (2, .int s2.1), (3, .int s2.2)], [], am_SH, (g, f))) rfl c13 ?_
        refine am_Ev.go hcd 3 (s' := (23, [(0, .ref 216), (2, .int s2.1), (3, .int s2.2)], [.int s2.2, .ref 216, .int s2.1], am_SH, (g, f))) rfl ?_
        obtain ⟨p3, hp3, h⟩ := am_bind_some h
        refine am_Ev.call hcd (a := 303) (s0 := (0, [(0, .ref 216), (1, .int s2.2)], [], am_SH, (g, f))) (q := ((some (.int p3)), am_SH, (g, f))) (s1 := (24, [(0, .ref 216), (2, .int s2.1), (3, .int s2.2)], [.int p3, .int s2.1], am_SH, (g, f))) rfl rfl (m_newOf_ok (d) s2.2 f g p3 hp3) ?_
        obtain ⟨t4, Et4, h⟩ := am_let_eq h
        refine am_Ev.go hcd 2 (s' := (26, [(0, .ref 216), (2, .int t4), (3, .int s2.2)], [], am_SH, (g, f))) (by subst Et4; exact rfl) ?_
        obtain ⟨t5, Et5, h⟩ := am_let_eq h
        refine am_Ev.go hcd 1 (s' := (27, [(0, .ref 216), (2, .int t4), (3, .int t5)], [], am_SH, (g, f))) (by subst Et5; exact rfl) ?_
        refine am_Ev.go hcd 1 (s' := (14, [(0, .ref 216), (2, .int t4), (3, .int t5)], [], am_SH, (g, f))) rfl ?_
        exact am_Ev.weak' (hI2 (t4, t5) (Option.some.inj h).symm) (am_sub_cons rfl (am_sub_cons rfl (am_sub_cons rfl am_sub_nil))) rfl
      · refine am_Ev.f hcd (c := s2.2 < f 217 506) (s1 := (28, [(0, .ref 216), (2, .int s2.1), (3, .int s2.2)], [], am_SH, (g, f))) rfl c13 ?_
        refine am_Ev.go hcd 1 (s' := (29, [(0, .ref 216), (2, .int s2.1), (3, .int s2.2)], [.int s2.1], am_SH, (g, f))) rfl ?_
        exact am_Ev.cast (a := ((some (.int s2.1)), am_SH, (g, f))) (hZ2 _ (Option.some.inj h).symm) (am_Ev.ret hcd rfl)
    · refine am_Ev.f hcd (c := a0 = 1) (s1 := (30, [(0, .ref 216), (1, .int a0)], [], am_SH, (g, f))) rfl c6 ?_
      refine am_Ev.go hcd 5 (s' := (35, [(0, .ref 216), (1, .int a0)], [.int 2, .int (f 217 506)], am_SH, (g, f))) rfl ?_
      rcases am_ite h with ⟨c29, h⟩ | ⟨c29, h⟩
      · refine am_Ev.t hcd (c := f 217 506 < 2) (s1 := (36, [(0, .ref 216), (1, .int a0)], [], am_SH, (g, f))) rfl c29 ?_
        refine am_Ev.go hcd 1 (s' := (37, [(0, .ref 216), (1, .int a0)], [.int 0], am_SH, (g, f))) rfl ?_
        exact am_Ev.cast (a := ((some (.int 0)), am_SH, (g, f))) (by cases h; rfl) (am_Ev.ret hcd rfl)
      · refine am_Ev.f hcd (c := f 217 506 < 2) (s1 := (38, [(0, .ref 216), (1, .int a0)], [], am_SH, (g, f))) rfl c29 ?_
        refine am_Ev.go hcd 2 (s' := (40, [(0, .ref 216), (1, .int a0), (2, .int 1)], [], am_SH, (g, f))) rfl ?_
        refine am_Ev.weak' (am_loop_ok (G := fun (s7 : Int32) => am_Ev sc (d + 3) 304 (40, [(0, .ref 216), (2, .int s7)], [], am_SH, (g, f)) ((some (.int r)), am_SH, (g, f))) (Z := fun (v : Int32) => (((some (.int v)), am_SH, (g, f)) : am_R) = ((some (.int r)), am_SH, (g, f))) ?_ am_F 1 r h rfl) (am_sub_cons rfl (am_sub_cons rfl am_sub_nil)) rfl
        intro s7 q7 h hI7 hZ7
        show am_Ev sc (d + 3) 304 (40, [(0, .ref 216), (2, .int s7)], [], am_SH, (g, f)) ((some (.int r)), am_SH, (g, f))
        refine am_Ev.go hcd 2 (s' := (42, [(0, .ref 216), (2, .int s7)], [.int 6, .int s7], am_SH, (g, f))) rfl ?_
        rcases am_ite h with ⟨c39, h⟩ | ⟨c39, h⟩
        · refine am_Ev.t hcd (c := s7 < 6) (s1 := (43, [(0, .ref 216), (2, .int s7)], [], am_SH, (g, f))) rfl c39 ?_
          refine am_Ev.go hcd 2 (s' := (45, [(0, .ref 216), (2, .int s7)], [.int s7, .ref 216], am_SH, (g, f))) rfl ?_
          obtain ⟨p8, hp8, h⟩ := am_bind_some h
          refine am_Ev.call hcd (a := 302) (s0 := (0, [(0, .ref 216), (1, .int s7)], [], am_SH, (g, f))) (q := ((some (.int (am_b p8))), am_SH, (g, f))) (s1 := (46, [(0, .ref 216), (2, .int s7)], [.int (am_b p8)], am_SH, (g, f))) rfl rfl (m_areApartBy_ok (d) s7 f g p8 hp8) ?_
          rcases am_ite h with ⟨c45, h⟩ | ⟨c45, h⟩
          · refine am_Ev.f hcd (c := am_b p8 = 0) (s1 := (47, [(0, .ref 216), (2, .int s7)], [], am_SH, (g, f))) rfl (am_b_t c45) ?_
            refine am_Ev.go hcd 1 (s' := (48, [(0, .ref 216), (2, .int s7)], [.int s7], am_SH, (g, f))) rfl ?_
            exact am_Ev.cast (a := ((some (.int s7)), am_SH, (g, f))) (hZ7 _ (Option.some.inj h).symm) (am_Ev.ret hcd rfl)
          · refine am_Ev.t hcd (c := am_b p8 = 0) (s1 := (49, [(0, .ref 216), (2, .int s7)], [], am_SH, (g, f))) rfl (am_b_f c45) ?_
            obtain ⟨t9, Et9, h⟩ := am_let_eq h
            refine am_Ev.go hcd 1 (s' := (50, [(0, .ref 216), (2, .int t9)], [], am_SH, (g, f))) (by subst Et9; exact rfl) ?_
            refine am_Ev.go hcd 1 (s' := (40, [(0, .ref 216), (2, .int t9)], [], am_SH, (g, f))) rfl ?_
            exact am_Ev.weak' (hI7 t9 (Option.some.inj h).symm) (am_sub_cons rfl (am_sub_cons rfl am_sub_nil)) rfl
        · refine am_Ev.f hcd (c := s7 < 6) (s1 := (51, [(0, .ref 216), (2, .int s7)], [], am_SH, (g, f))) rfl c39 ?_
          refine am_Ev.go hcd 1 (s' := (52, [(0, .ref 216), (2, .int s7)], [.int (-1)], am_SH, (g, f))) rfl ?_
          exact am_Ev.cast (a := ((some (.int (-1))), am_SH, (g, f))) (hZ7 _ (Option.some.inj h).symm) (am_Ev.ret hcd rfl)
  · refine am_Ev.t hcd (c := am_b (m_isIn a0 0 1) = 0) (s1 := (5, [(0, .ref 216), (1, .int a0)], [], am_SH, (g, f))) rfl (am_b_f c4) ?_
    refine am_Ev.go hcd 1 (s' := (6, [(0, .ref 216), (1, .int a0)], [.int (-1)], am_SH, (g, f))) rfl ?_
    exact am_Ev.cast (a := ((some (.int (-1))), am_SH, (g, f))) (by cases h; rfl) (am_Ev.ret hcd rfl)
set_option maxRecDepth 100000 in
set_option maxHeartbeats 4000000 in
theorem m_juror_ok {sc : Nat × (Nat → Int32)} (d : Nat) (a0 : Int32) (f g : (Nat → Nat → Int32)) (r : Int32 × (Nat → Nat → Int32)) (h : m_juror a0 f = some r) : am_Ev sc (d + 1) 305 (0, [(0, .ref 216), (1, .int a0)], [], am_SH, (g, f)) ((some (.int r.1)), am_SH, (g, r.2)) := by
  have hcd : am_code 305 = am_c305 := rfl
  unfold m_juror at h
  refine am_Ev.go hcd 2 (s' := (2, [(0, .ref 216), (1, .int a0)], [.int (-1), .int a0], am_SH, (g, f))) rfl ?_
  rcases am_ite h with ⟨c2, h⟩ | ⟨c2, h⟩
  · refine am_Ev.t hcd (c := a0 = (-1)) (s1 := (3, [(0, .ref 216), (1, .int a0)], [], am_SH, (g, f))) rfl c2 ?_
    refine am_Ev.go hcd 2 (s' := (5, [(0, .ref 216), (1, .int a0)], [.int 515, .ref 216], am_SH, (g, f))) rfl ?_
    obtain ⟨p1, hp1, h⟩ := am_bind_some h
    refine am_Ev.call hcd (a := 262) (s0 := (0, [(0, .ref 216), (1, .int 515)], [], am_SH, (g, f))) (q := ((some (.int p1.1)), am_SH, (g, p1.2))) (s1 := (6, [(0, .ref 216), (1, .int a0)], [.int p1.1], am_SH, (g, p1.2))) rfl rfl (m_endsRow_ok (d) 515 f g p1 hp1) ?_
    refine am_Ev.go hcd 1 (s' := (19, [(0, .ref 216), (1, .int a0)], [.int p1.1], am_SH, (g, p1.2))) rfl ?_
    exact am_Ev.cast (a := ((some (.int (p1.1, p1.2).1)), am_SH, (g, (p1.1, p1.2).2))) (by cases h; rfl) (am_Ev.ret hcd rfl)
  · refine am_Ev.f hcd (c := a0 = (-1)) (s1 := (7, [(0, .ref 216), (1, .int a0)], [], am_SH, (g, f))) rfl c2 ?_
    refine am_Ev.go hcd 3 (s' := (10, [(0, .ref 216), (1, .int a0)], [.int 20, .int 1, .int a0], am_SH, (g, f))) rfl ?_
    refine am_Ev.call hcd (a := 176) (s0 := (0, [(0, .int a0), (1, .int 1), (2, .int 20)], [], am_SH, (g, f))) (q := ((some (.int (am_b (m_isIn a0 1 20)))), am_SH, (g, f))) (s1 := (11, [(0, .ref 216), (1, .int a0)], [.int (am_b (m_isIn a0 1 20))], am_SH, (g, f))) rfl rfl (m_isIn_ok (d) a0 1 20 (g, f)) ?_
    rcases am_ite h with ⟨c13, h⟩ | ⟨c13, h⟩
    · refine am_Ev.f hcd (c := am_b (m_isIn a0 1 20) = 0) (s1 := (12, [(0, .ref 216), (1, .int a0)], [], am_SH, (g, f))) rfl (am_b_t c13) ?_
      refine am_Ev.go hcd 4 (s' := (16, [(0, .ref 216), (1, .int a0)], [.int a0, .int 8, .int 515, .ref 216], am_SH, (g, f))) rfl ?_
      obtain ⟨p3, hp3, h⟩ := am_bind_some h
      refine am_Ev.call hcd (a := 260) (s0 := (0, [(0, .ref 216), (1, .int 515), (2, .int 8), (3, .int a0)], [], am_SH, (g, f))) (q := ((some (.int p3.1)), am_SH, (g, p3.2))) (s1 := (17, [(0, .ref 216), (1, .int a0)], [.int p3.1], am_SH, (g, p3.2))) rfl rfl (m_tellsOne_ok (d) 515 8 a0 f g p3 hp3) ?_
      refine am_Ev.go hcd 1 (s' := (19, [(0, .ref 216), (1, .int a0)], [.int p3.1], am_SH, (g, p3.2))) rfl ?_
      exact am_Ev.cast (a := ((some (.int (p3.1, p3.2).1)), am_SH, (g, (p3.1, p3.2).2))) (by cases h; rfl) (am_Ev.ret hcd rfl)
    · refine am_Ev.t hcd (c := am_b (m_isIn a0 1 20) = 0) (s1 := (18, [(0, .ref 216), (1, .int a0)], [], am_SH, (g, f))) rfl (am_b_f c13) ?_
      refine am_Ev.go hcd 1 (s' := (19, [(0, .ref 216), (1, .int a0)], [.int (-1)], am_SH, (g, f))) rfl ?_
      exact am_Ev.cast (a := ((some (.int ((-1), f).1)), am_SH, (g, ((-1), f).2))) (by cases h; rfl) (am_Ev.ret hcd rfl)
set_option maxRecDepth 100000 in
set_option maxHeartbeats 4000000 in
theorem m_weightOf_ok {sc : Nat × (Nat → Int32)} (d : Nat) (a0 : Int32) (f g : (Nat → Nat → Int32)) (r : Int32) (h : m_weightOf a0 f = some r) : am_Ev sc (d) 306 (0, [(0, .ref 216), (1, .int a0)], [], am_SH, (g, f)) ((some (.int r)), am_SH, (g, f)) := by
  have hcd : am_code 306 = am_c306 := rfl
  unfold m_weightOf at h
  refine am_Ev.go hcd 4 (s' := (4, [(0, .ref 216), (1, .int a0), (2, .int 0), (3, .int 0)], [], am_SH, (g, f))) rfl ?_
  refine am_Ev.weak' (am_loop_ok (G := fun (s1 : Int32 × Int32) => am_Ev sc (d) 306 (4, [(0, .ref 216), (1, .int a0), (2, .int s1.1), (3, .int s1.2)], [], am_SH, (g, f)) ((some (.int r)), am_SH, (g, f))) (Z := fun (v : Int32) => (((some (.int v)), am_SH, (g, f)) : am_R) = ((some (.int r)), am_SH, (g, f))) ?_ am_F (0, 0) r h rfl) (am_sub_cons rfl (am_sub_cons rfl (am_sub_cons rfl (am_sub_cons rfl am_sub_nil)))) rfl
  intro s1 q1 h hI1 hZ1
  show am_Ev sc (d) 306 (4, [(0, .ref 216), (1, .int a0), (2, .int s1.1), (3, .int s1.2)], [], am_SH, (g, f)) ((some (.int r)), am_SH, (g, f))
  refine am_Ev.go hcd 5 (s' := (9, [(0, .ref 216), (1, .int a0), (2, .int s1.1), (3, .int s1.2)], [.int (f 217 515), .int s1.2], am_SH, (g, f))) rfl ?_
  rcases am_ite h with ⟨c6, h⟩ | ⟨c6, h⟩
  · refine am_Ev.t hcd (c := s1.2 < f 217 515) (s1 := (10, [(0, .ref 216), (1, .int a0), (2, .int s1.1), (3, .int s1.2)], [], am_SH, (g, f))) rfl c6 ?_
    obtain ⟨t2, ht2, kt2⟩ := am_bind_some h
    have hKt2 : am_Ev sc (d) 306 (26, [(0, .ref 216), (1, .int a0), (3, .int s1.2)], [.int t2, .int s1.1], am_SH, (g, f)) ((some (.int r)), am_SH, (g, f)) := by
      have h := kt2
      obtain ⟨t3, Et3, h⟩ := am_let_eq h
      refine am_Ev.go hcd 2 (s' := (28, [(0, .ref 216), (1, .int a0), (2, .int t3), (3, .int s1.2)], [], am_SH, (g, f))) (by subst Et3; exact rfl) ?_
      obtain ⟨t4, Et4, h⟩ := am_let_eq h
      refine am_Ev.go hcd 1 (s' := (29, [(0, .ref 216), (1, .int a0), (2, .int t3), (3, .int t4)], [], am_SH, (g, f))) (by subst Et4; exact rfl) ?_
      refine am_Ev.go hcd 1 (s' := (4, [(0, .ref 216), (1, .int a0), (2, .int t3), (3, .int t4)], [], am_SH, (g, f))) rfl ?_
      exact am_Ev.weak' (hI1 (t3, t4) (Option.some.inj h).symm) (am_sub_cons rfl (am_sub_cons rfl (am_sub_cons rfl (am_sub_cons rfl am_sub_nil)))) rfl
    have hLt2 : ∀ tt, tt = t2 → am_Ev sc (d) 306 (26, [(0, .ref 216), (1, .int a0), (3, .int s1.2)], [.int tt, .int s1.1], am_SH, (g, f)) ((some (.int r)), am_SH, (g, f)) := fun tt htt => by subst htt; exact hKt2
    have h := ht2
    refine am_Ev.go hcd 7 (s' := (17, [(0, .ref 216), (1, .int a0), (2, .int s1.1), (3, .int s1.2)], [.int 1, .int ((a0 >>> (s1.2 &&& 31)) &&& 1), .int s1.1], am_SH, (g, f))) rfl ?_
    rcases am_ite h with ⟨c20, h⟩ | ⟨c20, h⟩
    · refine am_Ev.t hcd (c := ((a0 >>> (s1.2 &&& 31)) &&& 1) = 1) (s1 := (18, [(0, .ref 216), (1, .int a0), (2, .int s1.1), (3, .int s1.2)], [.int s1.1], am_SH, (g, f))) rfl c20 ?_
      refine am_Ev.go hcd 5 (s' := (23, [(0, .ref 216), (1, .int a0), (2, .int s1.1), (3, .int s1.2)], [.int (516 + s1.2), .ref 217, .int s1.1], am_SH, (g, f))) rfl ?_
      obtain ⟨c23, h⟩ := am_grd h
      refine am_Ev.t hcd (o := none) (c := am_in (516 + s1.2) 2008 = true) (s1 := (24, [(0, .ref 216), (1, .int a0), (2, .int s1.1), (3, .int s1.2)], [.int (f 217 (516 + s1.2).toNatClampNeg), .int s1.1], am_SH, (g, f))) rfl c23 ?_
      refine am_Ev.go hcd 1 (s' := (26, [(0, .ref 216), (1, .int a0), (2, .int s1.1), (3, .int s1.2)], [.int (f 217 (516 + s1.2).toNatClampNeg), .int s1.1], am_SH, (g, f))) rfl ?_
      exact am_Ev.weak' (hLt2 (f 217 (516 + s1.2).toNatClampNeg) (Option.some.inj h)) (am_sub_cons rfl (am_sub_cons rfl (am_sub_cons rfl am_sub_nil))) rfl
    · refine am_Ev.f hcd (c := ((a0 >>> (s1.2 &&& 31)) &&& 1) = 1) (s1 := (25, [(0, .ref 216), (1, .int a0), (2, .int s1.1), (3, .int s1.2)], [.int s1.1], am_SH, (g, f))) rfl c20 ?_
      refine am_Ev.go hcd 1 (s' := (26, [(0, .ref 216), (1, .int a0), (2, .int s1.1), (3, .int s1.2)], [.int 0, .int s1.1], am_SH, (g, f))) rfl ?_
      exact am_Ev.weak' (hLt2 0 (Option.some.inj h)) (am_sub_cons rfl (am_sub_cons rfl (am_sub_cons rfl am_sub_nil))) rfl
  · refine am_Ev.f hcd (c := s1.2 < f 217 515) (s1 := (30, [(0, .ref 216), (1, .int a0), (2, .int s1.1), (3, .int s1.2)], [], am_SH, (g, f))) rfl c6 ?_
    refine am_Ev.go hcd 1 (s' := (31, [(0, .ref 216), (1, .int a0), (2, .int s1.1), (3, .int s1.2)], [.int s1.1], am_SH, (g, f))) rfl ?_
    exact am_Ev.cast (a := ((some (.int s1.1)), am_SH, (g, f))) (hZ1 _ (Option.some.inj h).symm) (am_Ev.ret hcd rfl)
set_option maxRecDepth 100000 in
set_option maxHeartbeats 4000000 in
theorem m_jury_ok {sc : Nat × (Nat → Int32)} (d : Nat) (a0 : Int32) (a1 : Int32) (f g : (Nat → Nat → Int32)) (r : Int32) (h : m_jury a0 a1 f = some r) : am_Ev sc (d + 1) 307 (0, [(0, .ref 216), (1, .int a0), (2, .int a1)], [], am_SH, (g, f)) ((some (.int r)), am_SH, (g, f)) := by
  have hcd : am_code 307 = am_c307 := rfl
  unfold m_jury at h
  refine am_Ev.go hcd 3 (s' := (3, [(0, .ref 216), (1, .int a0), (2, .int a1)], [.int 160, .int 1, .int a0], am_SH, (g, f))) rfl ?_
  refine am_Ev.call hcd (a := 176) (s0 := (0, [(0, .int a0), (1, .int 1), (2, .int 160)], [], am_SH, (g, f))) (q := ((some (.int (am_b (m_isIn a0 1 160)))), am_SH, (g, f))) (s1 := (4, [(0, .ref 216), (1, .int a0), (2, .int a1)], [.int (am_b (m_isIn a0 1 160))], am_SH, (g, f))) rfl rfl (m_isIn_ok (d) a0 1 160 (g, f)) ?_
  rcases am_ite h with ⟨c4, h⟩ | ⟨c4, h⟩
  · refine am_Ev.f hcd (c := am_b (m_isIn a0 1 160) = 0) (s1 := (5, [(0, .ref 216), (1, .int a0), (2, .int a1)], [], am_SH, (g, f))) rfl (am_b_t c4) ?_
    refine am_Ev.go hcd 8 (s' := (13, [(0, .ref 216), (1, .int a0), (2, .int a1)], [.int ((f 217 515) - 1), .int (-1), .int a1], am_SH, (g, f))) rfl ?_
    refine am_Ev.call hcd (a := 176) (s0 := (0, [(0, .int a1), (1, .int (-1)), (2, .int ((f 217 515) - 1))], [], am_SH, (g, f))) (q := ((some (.int (am_b (m_isIn a1 (-1) ((f 217 515) - 1))))), am_SH, (g, f))) (s1 := (14, [(0, .ref 216), (1, .int a0), (2, .int a1)], [.int (am_b (m_isIn a1 (-1) ((f 217 515) - 1)))], am_SH, (g, f))) rfl rfl (m_isIn_ok (d) a1 (-1) ((f 217 515) - 1) (g, f)) ?_
    rcases am_ite h with ⟨c8, h⟩ | ⟨c8, h⟩
    · refine am_Ev.f hcd (c := am_b (m_isIn a1 (-1) ((f 217 515) - 1)) = 0) (s1 := (17, [(0, .ref 216), (1, .int a0), (2, .int a1)], [], am_SH, (g, f))) rfl (am_b_t c8) ?_
      refine am_Ev.go hcd 6 (s' := (23, [(0, .ref 216), (1, .int a0), (2, .int a1), (3, .int 0), (4, .int (-1)), (5, .int 0)], [], am_SH, (g, f))) rfl ?_
      obtain ⟨e11, he11, h⟩ := am_bind_some h
      have hK3 : (fun (e11 : Int32 × Int32) => am_Ev sc (d + 1) 307 (73, [(2, .int a1), (3, .int e11.1), (4, .int e11.2)], [], am_SH, (g, f)) ((some (.int r)), am_SH, (g, f))) e11 := by
        show am_Ev sc (d + 1) 307 (73, [(2, .int a1), (3, .int e11.1), (4, .int e11.2)], [], am_SH, (g, f)) ((some (.int r)), am_SH, (g, f))
        refine am_Ev.go hcd 2 (s' := (75, [(2, .int a1), (3, .int e11.1), (4, .int e11.2)], [.int (-1), .int a1], am_SH, (g, f))) rfl ?_
        rcases am_ite h with ⟨c14, h⟩ | ⟨c14, h⟩
        · refine am_Ev.t hcd (c := a1 = (-1)) (s1 := (76, [(2, .int a1), (3, .int e11.1), (4, .int e11.2)], [], am_SH, (g, f))) rfl c14 ?_
          refine am_Ev.go hcd 2 (s' := (79, [(2, .int a1), (3, .int e11.1), (4, .int e11.2)], [.int e11.2], am_SH, (g, f))) rfl ?_
          exact am_Ev.cast (a := ((some (.int e11.2)), am_SH, (g, f))) (by cases h; rfl) (am_Ev.ret hcd rfl)
        · refine am_Ev.f hcd (c := a1 = (-1)) (s1 := (78, [(2, .int a1), (3, .int e11.1), (4, .int e11.2)], [], am_SH, (g, f))) rfl c14 ?_
          refine am_Ev.go hcd 1 (s' := (79, [(2, .int a1), (3, .int e11.1), (4, .int e11.2)], [.int e11.1], am_SH, (g, f))) rfl ?_
          exact am_Ev.cast (a := ((some (.int e11.1)), am_SH, (g, f))) (by cases h; rfl) (am_Ev.ret hcd rfl)
      refine am_Ev.weak' (am_loop_ok (G := fun (s3 : Int32 × Int32 × Int32) => am_Ev sc (d + 1) 307 (23, [(0, .ref 216), (1, .int a0), (2, .int a1), (3, .int s3.1), (4, .int s3.2.1), (5, .int s3.2.2)], [], am_SH, (g, f)) ((some (.int r)), am_SH, (g, f))) (Z := fun (e11 : Int32 × Int32) => am_Ev sc (d + 1) 307 (73, [(2, .int a1), (3, .int e11.1), (4, .int e11.2)], [], am_SH, (g, f)) ((some (.int r)), am_SH, (g, f))) ?_ am_F (0, (-1), 0) e11 he11 hK3) (am_sub_cons rfl (am_sub_cons rfl (am_sub_cons rfl (am_sub_cons rfl (am_sub_cons rfl (am_sub_cons rfl am_sub_nil)))))) rfl
      intro s3 q3 h hI3 hZ3
      show am_Ev sc (d + 1) 307 (23, [(0, .ref 216), (1, .int a0), (2, .int a1), (3, .int s3.1), (4, .int s3.2.1), (5, .int s3.2.2)], [], am_SH, (g, f)) ((some (.int r)), am_SH, (g, f))
      refine am_Ev.go hcd 7 (s' := (30, [(0, .ref 216), (1, .int a0), (2, .int a1), (3, .int s3.1), (4, .int s3.2.1), (5, .int s3.2.2)], [.int (1 <<< ((f 217 515) &&& 31)), .int s3.2.2], am_SH, (g, f))) rfl ?_
      rcases am_ite h with ⟨c25, h⟩ | ⟨c25, h⟩
      · refine am_Ev.t hcd (c := s3.2.2 < (1 <<< ((f 217 515) &&& 31))) (s1 := (31, [(0, .ref 216), (1, .int a0), (2, .int a1), (3, .int s3.1), (4, .int s3.2.1), (5, .int s3.2.2)], [], am_SH, (g, f))) rfl c25 ?_
        refine am_Ev.go hcd 2 (s' := (33, [(0, .ref 216), (1, .int a0), (2, .int a1), (3, .int s3.1), (4, .int s3.2.1), (5, .int s3.2.2)], [.int s3.2.2, .ref 216], am_SH, (g, f))) rfl ?_
        obtain ⟨p4, hp4, h⟩ := am_bind_some h
        refine am_Ev.call hcd (a := 306) (s0 := (0, [(0, .ref 216), (1, .int s3.2.2)], [], am_SH, (g, f))) (q := ((some (.int p4)), am_SH, (g, f))) (s1 := (34, [(0, .ref 216), (1, .int a0), (2, .int a1), (3, .int s3.1), (4, .int s3.2.1), (5, .int s3.2.2)], [.int p4], am_SH, (g, f))) rfl rfl (m_weightOf_ok (d) s3.2.2 f g p4 hp4) ?_
        obtain ⟨t6, ht6, kt6⟩ := am_bind_some h
        have hKt6 : am_Ev sc (d + 1) 307 (58, [(0, .ref 216), (1, .int a0), (2, .int a1), (3, .int t6), (4, .int s3.2.1), (5, .int s3.2.2), (6, .int p4)], [], am_SH, (g, f)) ((some (.int r)), am_SH, (g, f)) := by
          have h := kt6
          obtain ⟨t9, ht9, kt9⟩ := am_bind_some h
          have hKt9 : am_Ev sc (d + 1) 307 (71, [(0, .ref 216), (1, .int a0), (2, .int a1), (3, .int t6), (4, .int t9), (5, .int s3.2.2)], [], am_SH, (g, f)) ((some (.int r)), am_SH, (g, f)) := by
            have h := kt9
            obtain ⟨t10, Et10, h⟩ := am_let_eq h
            refine am_Ev.go hcd 1 (s' := (72, [(0, .ref 216), (1, .int a0), (2, .int a1), (3, .int t6), (4, .int t9), (5, .int t10)], [], am_SH, (g, f))) (by subst Et10; exact rfl) ?_
            refine am_Ev.go hcd 1 (s' := (23, [(0, .ref 216), (1, .int a0), (2, .int a1), (3, .int t6), (4, .int t9), (5, .int t10)], [], am_SH, (g, f))) rfl ?_
            exact am_Ev.weak' (hI3 (t6, t9, t10) (Option.some.inj h).symm) (am_sub_cons rfl (am_sub_cons rfl (am_sub_cons rfl (am_sub_cons rfl (am_sub_cons rfl (am_sub_cons rfl am_sub_nil)))))) rfl
          have hLt9 : ∀ tt, tt = t9 → am_Ev sc (d + 1) 307 (71, [(0, .ref 216), (1, .int a0), (2, .int a1), (3, .int t6), (4, .int tt), (5, .int s3.2.2)], [], am_SH, (g, f)) ((some (.int r)), am_SH, (g, f)) := fun tt htt => by subst htt; exact hKt9
          have h := ht9
          refine am_Ev.go hcd 2 (s' := (60, [(0, .ref 216), (1, .int a0), (2, .int a1), (3, .int t6), (4, .int s3.2.1), (5, .int s3.2.2), (6, .int p4)], [.int a0, .int p4], am_SH, (g, f))) rfl ?_
          rcases am_ite h with ⟨c43, h⟩ | ⟨c43, h⟩
          · refine am_Ev.t hcd (c := p4 < a0) (s1 := (71, [(0, .ref 216), (1, .int a0), (2, .int a1), (3, .int t6), (4, .int s3.2.1), (5, .int s3.2.2), (6, .int p4)], [], am_SH, (g, f))) rfl c43 ?_
            exact am_Ev.weak' (hLt9 s3.2.1 (Option.some.inj h)) (am_sub_cons rfl (am_sub_cons rfl (am_sub_cons rfl (am_sub_cons rfl (am_sub_cons rfl (am_sub_cons rfl am_sub_nil)))))) rfl
          · refine am_Ev.f hcd (c := p4 < a0) (s1 := (61, [(0, .ref 216), (1, .int a0), (2, .int a1), (3, .int t6), (4, .int s3.2.1), (5, .int s3.2.2), (6, .int p4)], [], am_SH, (g, f))) rfl c43 ?_
            refine am_Ev.go hcd 2 (s' := (63, [(0, .ref 216), (1, .int a0), (2, .int a1), (3, .int t6), (4, .int s3.2.1), (5, .int s3.2.2), (6, .int p4)], [.int (-1), .int s3.2.1], am_SH, (g, f))) rfl ?_
            rcases am_ite h with ⟨c48, h⟩ | ⟨c48, h⟩
            · refine am_Ev.t hcd (c := s3.2.1 = (-1)) (s1 := (69, [(0, .ref 216), (1, .int a0), (2, .int a1), (3, .int t6), (4, .int s3.2.1), (5, .int s3.2.2), (6, .int p4)], [], am_SH, (g, f))) rfl c48 ?_
              refine am_Ev.go hcd 2 (s' := (71, [(0, .ref 216), (1, .int a0), (2, .int a1), (3, .int t6), (4, .int s3.2.2), (5, .int s3.2.2), (6, .int p4)], [], am_SH, (g, f))) rfl ?_
              exact am_Ev.weak' (hLt9 s3.2.2 (Option.some.inj h)) (am_sub_cons rfl (am_sub_cons rfl (am_sub_cons rfl (am_sub_cons rfl (am_sub_cons rfl (am_sub_cons rfl am_sub_nil)))))) rfl
            · refine am_Ev.f hcd (c := s3.2.1 = (-1)) (s1 := (64, [(0, .ref 216), (1, .int a0), (2, .int a1), (3, .int t6), (4, .int s3.2.1), (5, .int s3.2.2), (6, .int p4)], [], am_SH, (g, f))) rfl c48 ?_
              refine am_Ev.go hcd 1 (s' := (65, [(0, .ref 216), (1, .int a0), (2, .int a1), (3, .int t6), (4, .int s3.2.1), (5, .int s3.2.2), (6, .int p4)], [.int s3.2.2], am_SH, (g, f))) rfl ?_
              obtain ⟨p7, hp7, h⟩ := am_bind_some h
              refine am_Ev.call hcd (a := 179) (s0 := (0, [(0, .int s3.2.2)], [], am_SH, (g, f))) (q := ((some (.int p7)), am_SH, (g, f))) (s1 := (66, [(0, .ref 216), (1, .int a0), (2, .int a1), (3, .int t6), (4, .int s3.2.1), (5, .int s3.2.2), (6, .int p4)], [.int p7], am_SH, (g, f))) rfl rfl (m_bitsOf_ok (d) s3.2.2 (g, f) p7 hp7) ?_
              refine am_Ev.go hcd 1 (s' := (67, [(0, .ref 216), (1, .int a0), (2, .int a1), (3, .int t6), (4, .int s3.2.1), (5, .int s3.2.2), (6, .int p4)], [.int s3.2.1, .int p7], am_SH, (g, f))) rfl ?_
              obtain ⟨p8, hp8, h⟩ := am_bind_some h
              refine am_Ev.call hcd (a := 179) (s0 := (0, [(0, .int s3.2.1)], [], am_SH, (g, f))) (q := ((some (.int p8)), am_SH, (g, f))) (s1 := (68, [(0, .ref 216), (1, .int a0), (2, .int a1), (3, .int t6), (4, .int s3.2.1), (5, .int s3.2.2), (6, .int p4)], [.int p8, .int p7], am_SH, (g, f))) rfl rfl (m_bitsOf_ok (d) s3.2.1 (g, f) p8 hp8) ?_
              rcases am_ite h with ⟨c60, h⟩ | ⟨c60, h⟩
              · refine am_Ev.t hcd (c := p7 < p8) (s1 := (69, [(0, .ref 216), (1, .int a0), (2, .int a1), (3, .int t6), (4, .int s3.2.1), (5, .int s3.2.2), (6, .int p4)], [], am_SH, (g, f))) rfl c60 ?_
                refine am_Ev.go hcd 2 (s' := (71, [(0, .ref 216), (1, .int a0), (2, .int a1), (3, .int t6), (4, .int s3.2.2), (5, .int s3.2.2), (6, .int p4)], [], am_SH, (g, f))) rfl ?_
                exact am_Ev.weak' (hLt9 s3.2.2 (Option.some.inj h)) (am_sub_cons rfl (am_sub_cons rfl (am_sub_cons rfl (am_sub_cons rfl (am_sub_cons rfl (am_sub_cons rfl am_sub_nil)))))) rfl
              · refine am_Ev.f hcd (c := p7 < p8) (s1 := (71, [(0, .ref 216), (1, .int a0), (2, .int a1), (3, .int t6), (4, .int s3.2.1), (5, .int s3.2.2), (6, .int p4)], [], am_SH, (g, f))) rfl c60 ?_
                exact am_Ev.weak' (hLt9 s3.2.1 (Option.some.inj h)) (am_sub_cons rfl (am_sub_cons rfl (am_sub_cons rfl (am_sub_cons rfl (am_sub_cons rfl (am_sub_cons rfl am_sub_nil)))))) rfl
        have hLt6 : ∀ tt, tt = t6 → am_Ev sc (d + 1) 307 (58, [(0, .ref 216), (1, .int a0), (2, .int a1), (3, .int tt), (4, .int s3.2.1), (5, .int s3.2.2), (6, .int p4)], [], am_SH, (g, f)) ((some (.int r)), am_SH, (g, f)) := fun tt htt => by subst htt; exact hKt6
        have h := ht6
        refine am_Ev.go hcd 3 (s' := (37, [(0, .ref 216), (1, .int a0), (2, .int a1), (3, .int s3.1), (4, .int s3.2.1), (5, .int s3.2.2), (6, .int p4)], [.int (-1), .int a1], am_SH, (g, f))) rfl ?_
        rcases am_ite h with ⟨c68, h⟩ | ⟨c68, h⟩
        · refine am_Ev.t hcd (c := a1 = (-1)) (s1 := (58, [(0, .ref 216), (1, .int a0), (2, .int a1), (3, .int s3.1), (4, .int s3.2.1), (5, .int s3.2.2), (6, .int p4)], [], am_SH, (g, f))) rfl c68 ?_
          exact am_Ev.weak' (hLt6 s3.1 (Option.some.inj h)) (am_sub_cons rfl (am_sub_cons rfl (am_sub_cons rfl (am_sub_cons rfl (am_sub_cons rfl (am_sub_cons rfl (am_sub_cons rfl am_sub_nil))))))) rfl
        · refine am_Ev.f hcd (c := a1 = (-1)) (s1 := (38, [(0, .ref 216), (1, .int a0), (2, .int a1), (3, .int s3.1), (4, .int s3.2.1), (5, .int s3.2.2), (6, .int p4)], [], am_SH, (g, f))) rfl c68 ?_
          refine am_Ev.go hcd 5 (s' := (43, [(0, .ref 216), (1, .int a0), (2, .int a1), (3, .int s3.1), (4, .int s3.2.1), (5, .int s3.2.2), (6, .int p4)], [.int ((s3.2.2 >>> (a1 &&& 31)) &&& 1)], am_SH, (g, f))) rfl ?_
          rcases am_ite h with ⟨c73, h⟩ | ⟨c73, h⟩
          · refine am_Ev.t hcd (c := ((s3.2.2 >>> (a1 &&& 31)) &&& 1) = 0) (s1 := (44, [(0, .ref 216), (1, .int a0), (2, .int a1), (3, .int s3.1), (4, .int s3.2.1), (5, .int s3.2.2), (6, .int p4)], [], am_SH, (g, f))) rfl c73 ?_
            refine am_Ev.go hcd 2 (s' := (46, [(0, .ref 216), (1, .int a0), (2, .int a1), (3, .int s3.1), (4, .int s3.2.1), (5, .int s3.2.2), (6, .int p4)], [.int a0, .int p4], am_SH, (g, f))) rfl ?_
            rcases am_ite h with ⟨c76, h⟩ | ⟨c76, h⟩
            · refine am_Ev.t hcd (c := p4 < a0) (s1 := (47, [(0, .ref 216), (1, .int a0), (2, .int a1), (3, .int s3.1), (4, .int s3.2.1), (5, .int s3.2.2), (6, .int p4)], [], am_SH, (g, f))) rfl c76 ?_
              refine am_Ev.go hcd 6 (s' := (53, [(0, .ref 216), (1, .int a0), (2, .int a1), (3, .int s3.1), (4, .int s3.2.1), (5, .int s3.2.2), (6, .int p4)], [.int (516 + a1), .ref 217, .int p4], am_SH, (g, f))) rfl ?_
              obtain ⟨c79, h⟩ := am_grd h
              refine am_Ev.t hcd (o := none) (c := am_in (516 + a1) 2008 = true) (s1 := (54, [(0, .ref 216), (1, .int a0), (2, .int a1), (3, .int s3.1), (4, .int s3.2.1), (5, .int s3.2.2), (6, .int p4)], [.int (f 217 (516 + a1).toNatClampNeg), .int p4], am_SH, (g, f))) rfl c79 ?_
              refine am_Ev.go hcd 2 (s' := (56, [(0, .ref 216), (1, .int a0), (2, .int a1), (3, .int s3.1), (4, .int s3.2.1), (5, .int s3.2.2), (6, .int p4)], [.int a0, .int (p4 + (f 217 (516 + a1).toNatClampNeg))], am_SH, (g, f))) rfl ?_
              rcases am_ite h with ⟨c82, h⟩ | ⟨c82, h⟩
              · refine am_Ev.t hcd (c := (p4 + (f 217 (516 + a1).toNatClampNeg)) < a0) (s1 := (58, [(0, .ref 216), (1, .int a0), (2, .int a1), (3, .int s3.1), (4, .int s3.2.1), (5, .int s3.2.2), (6, .int p4)], [], am_SH, (g, f))) rfl c82 ?_
                exact am_Ev.weak' (hLt6 s3.1 (Option.some.inj h)) (am_sub_cons rfl (am_sub_cons rfl (am_sub_cons rfl (am_sub_cons rfl (am_sub_cons rfl (am_sub_cons rfl (am_sub_cons rfl am_sub_nil))))))) rfl
              · refine am_Ev.f hcd (c := (p4 + (f 217 (516 + a1).toNatClampNeg)) < a0) (s1 := (57, [(0, .ref 216), (1, .int a0), (2, .int a1), (3, .int s3.1), (4, .int s3.2.1), (5, .int s3.2.2), (6, .int p4)], [], am_SH, (g, f))) rfl c82 ?_
                obtain ⟨t5, Et5, h⟩ := am_let_eq h
                refine am_Ev.go hcd 1 (s' := (58, [(0, .ref 216), (1, .int a0), (2, .int a1), (3, .int t5), (4, .int s3.2.1), (5, .int s3.2.2), (6, .int p4)], [], am_SH, (g, f))) (by subst Et5; exact rfl) ?_
                exact am_Ev.weak' (hLt6 t5 (Option.some.inj h)) (am_sub_cons rfl (am_sub_cons rfl (am_sub_cons rfl (am_sub_cons rfl (am_sub_cons rfl (am_sub_cons rfl (am_sub_cons rfl am_sub_nil))))))) rfl
            · refine am_Ev.f hcd (c := p4 < a0) (s1 := (58, [(0, .ref 216), (1, .int a0), (2, .int a1), (3, .int s3.1), (4, .int s3.2.1), (5, .int s3.2.2), (6, .int p4)], [], am_SH, (g, f))) rfl c76 ?_
              exact am_Ev.weak' (hLt6 s3.1 (Option.some.inj h)) (am_sub_cons rfl (am_sub_cons rfl (am_sub_cons rfl (am_sub_cons rfl (am_sub_cons rfl (am_sub_cons rfl (am_sub_cons rfl am_sub_nil))))))) rfl
          · refine am_Ev.f hcd (c := ((s3.2.2 >>> (a1 &&& 31)) &&& 1) = 0) (s1 := (58, [(0, .ref 216), (1, .int a0), (2, .int a1), (3, .int s3.1), (4, .int s3.2.1), (5, .int s3.2.2), (6, .int p4)], [], am_SH, (g, f))) rfl c73 ?_
            exact am_Ev.weak' (hLt6 s3.1 (Option.some.inj h)) (am_sub_cons rfl (am_sub_cons rfl (am_sub_cons rfl (am_sub_cons rfl (am_sub_cons rfl (am_sub_cons rfl (am_sub_cons rfl am_sub_nil))))))) rfl
      · refine am_Ev.f hcd (c := s3.2.2 < (1 <<< ((f 217 515) &&& 31))) (s1 := (73, [(0, .ref 216), (1, .int a0), (2, .int a1), (3, .int s3.1), (4, .int s3.2.1), (5, .int s3.2.2)], [], am_SH, (g, f))) rfl c25 ?_
        exact am_Ev.weak' (hZ3 (s3.1, s3.2.1) (Option.some.inj h).symm) (am_sub_cons rfl (am_sub_cons rfl (am_sub_cons rfl am_sub_nil))) rfl
    · refine am_Ev.t hcd (c := am_b (m_isIn a1 (-1) ((f 217 515) - 1)) = 0) (s1 := (15, [(0, .ref 216), (1, .int a0), (2, .int a1)], [], am_SH, (g, f))) rfl (am_b_f c8) ?_
      refine am_Ev.go hcd 1 (s' := (16, [(0, .ref 216), (1, .int a0), (2, .int a1)], [.int (-1)], am_SH, (g, f))) rfl ?_
      exact am_Ev.cast (a := ((some (.int (-1))), am_SH, (g, f))) (by cases h; rfl) (am_Ev.ret hcd rfl)
  · refine am_Ev.t hcd (c := am_b (m_isIn a0 1 160) = 0) (s1 := (15, [(0, .ref 216), (1, .int a0), (2, .int a1)], [], am_SH, (g, f))) rfl (am_b_f c4) ?_
    refine am_Ev.go hcd 1 (s' := (16, [(0, .ref 216), (1, .int a0), (2, .int a1)], [.int (-1)], am_SH, (g, f))) rfl ?_
    exact am_Ev.cast (a := ((some (.int (-1))), am_SH, (g, f))) (by cases h; rfl) (am_Ev.ret hcd rfl)
set_option maxRecDepth 100000 in
set_option maxHeartbeats 4000000 in
theorem m_undo_ok {sc : Nat × (Nat → Int32)} (d : Nat)  (f g : (Nat → Nat → Int32)) (r : Bool × (Nat → Nat → Int32)) (h : m_undo  f = some r) : am_Ev sc (d) 237 (0, [(0, .ref 216)], [], am_SH, (g, f)) ((some (.int (am_b r.1))), am_SH, (g, r.2)) := by
  have hcd : am_code 237 = am_c237 := rfl
  unfold m_undo at h
  refine am_Ev.go hcd 2 (s' := (2, [(0, .ref 216)], [.int (f 216 4)], am_SH, (g, f))) rfl ?_
  rcases am_ite h with ⟨c2, h⟩ | ⟨c2, h⟩
  · refine am_Ev.t hcd (c := f 216 4 = 0) (s1 := (3, [(0, .ref 216)], [], am_SH, (g, f))) rfl c2 ?_
    refine am_Ev.go hcd 1 (s' := (4, [(0, .ref 216)], [.int 0], am_SH, (g, f))) rfl ?_
    exact am_Ev.cast (a := ((some (.int (am_b (false, f).1))), am_SH, (g, (false, f).2))) (by cases h; rfl) (am_Ev.ret hcd rfl)
  · refine am_Ev.f hcd (c := f 216 4 = 0) (s1 := (5, [(0, .ref 216)], [], am_SH, (g, f))) rfl c2 ?_
    obtain ⟨f1, Ef1, h⟩ := am_let_eq h
    refine am_Ev.go hcd 6 (s' := (11, [(0, .ref 216)], [], am_SH, (g, f1))) (by subst Ef1; exact rfl) ?_
    refine am_Ev.go hcd 2 (s' := (13, [(0, .ref 216), (1, .int 0)], [], am_SH, (g, f1))) rfl ?_
    refine am_Ev.weak' (am_loop_ok (G := fun (s2 : Int32 × (Nat → Nat → Int32)) => am_Ev sc (d) 237 (13, [(0, .ref 216), (1, .int s2.1)], [], am_SH, (g, s2.2)) ((some (.int (am_b r.1))), am_SH, (g, r.2))) (Z := fun (v : Bool × (Nat → Nat → Int32)) => (((some (.int (am_b v.1))), am_SH, (g, v.2)) : am_R) = ((some (.int (am_b r.1))), am_SH, (g, r.2))) ?_ am_F (0, f1) r h rfl) (am_sub_cons rfl (am_sub_cons rfl am_sub_nil)) rfl
    intro s2 q2 h hI2 hZ2
    show am_Ev sc (d) 237 (13, [(0, .ref 216), (1, .int s2.1)], [], am_SH, (g, s2.2)) ((some (.int (am_b r.1))), am_SH, (g, r.2))
    refine am_Ev.go hcd 2 (s' := (15, [(0, .ref 216), (1, .int s2.1)], [.int 69, .int s2.1], am_SH, (g, s2.2))) rfl ?_
    rcases am_ite h with ⟨c14, h⟩ | ⟨c14, h⟩
    · refine am_Ev.t hcd (c := s2.1 < 69) (s1 := (16, [(0, .ref 216), (1, .int s2.1)], [], am_SH, (g, s2.2))) rfl c14 ?_
      refine am_Ev.go hcd 11 (s' := (27, [(0, .ref 216), (1, .int s2.1)], [.int ((69 * (s2.2 216 4)) + s2.1), .ref 219, .int s2.1, .ref 217], am_SH, (g, s2.2))) rfl ?_
      obtain ⟨c17, h⟩ := am_grd h
      refine am_Ev.t hcd (o := none) (c := am_in ((69 * (s2.2 216 4)) + s2.1) 414 = true) (s1 := (28, [(0, .ref 216), (1, .int s2.1)], [.int (s2.2 219 ((69 * (s2.2 216 4)) + s2.1).toNatClampNeg), .int s2.1, .ref 217], am_SH, (g, s2.2))) rfl c17 ?_
      obtain ⟨c20, h⟩ := am_grd h
      obtain ⟨f3, Ef3, h⟩ := am_let_eq h
      refine am_Ev.t hcd (o := none) (c := am_in s2.1 2008 = true) (s1 := (29, [(0, .ref 216), (1, .int s2.1)], [], am_SH, (g, f3))) (by subst Ef3; exact rfl) c20 ?_
      obtain ⟨t4, Et4, h⟩ := am_let_eq h
      refine am_Ev.go hcd 1 (s' := (30, [(0, .ref 216), (1, .int t4)], [], am_SH, (g, f3))) (by subst Et4; exact rfl) ?_
      refine am_Ev.go hcd 1 (s' := (13, [(0, .ref 216), (1, .int t4)], [], am_SH, (g, f3))) rfl ?_
      exact am_Ev.weak' (hI2 (t4, f3) (Option.some.inj h).symm) (am_sub_cons rfl (am_sub_cons rfl am_sub_nil)) rfl
    · refine am_Ev.f hcd (c := s2.1 < 69) (s1 := (31, [(0, .ref 216), (1, .int s2.1)], [], am_SH, (g, s2.2))) rfl c14 ?_
      refine am_Ev.go hcd 1 (s' := (32, [(0, .ref 216), (1, .int s2.1)], [.int 1], am_SH, (g, s2.2))) rfl ?_
      exact am_Ev.cast (a := ((some (.int (am_b (true, s2.2).1))), am_SH, (g, (true, s2.2).2))) (hZ2 _ (Option.some.inj h).symm) (am_Ev.ret hcd rfl)
