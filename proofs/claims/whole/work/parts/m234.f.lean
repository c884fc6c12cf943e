set_option maxRecDepth 100000 in
set_option maxHeartbeats 4000000 in
theorem m_who_ok {sc : Nat × (Nat → Int32)} (d : Nat) (a0 : Int32) (a1 : Int32) (f g : (Nat → Nat → Int32)) (r : Int32) (h : m_who a0 a1 f = some r) : am_Ev sc (d + 2) 251 (0, [(0, .ref 216), (1, .int a0), (2, .int a1)], [], am_SH, (g, f)) ((some (.int r)), am_SH, (g, f)) := by
  have hcd : am_code 251 = am_c251 := rfl
  unfold m_who at h
  refine am_Ev.go hcd 2 (s' := (2, [(0, .ref 216), (1, .int a0), (2, .int a1)], [.int a0, .ref 216], am_SH, (g, f))) rfl ?_
  refine am_Ev.call hcd (a := 182) (s0 := (0, [(0, .ref 216), (1, .int a0)], [], am_SH, (g, f))) (q := ((some (.int (am_b (m_isWitness a0 f)))), am_SH, (g, f))) (s1 := (3, [(0, .ref 216), (1, .int a0), (2, .int a1)], [.int (am_b (m_isWitness a0 f))], am_SH, (g, f))) rfl rfl (m_isWitness_ok (d) a0 f g) ?_
  rcases am_ite h with ⟨c4, h⟩ | ⟨c4, h⟩
  · refine am_Ev.f hcd (c := am_b (m_isWitness a0 f) = 0) (s1 := (6, [(0, .ref 216), (1, .int a0), (2, .int a1)], [], am_SH, (g, f))) rfl (am_b_t c4) ?_
    refine am_Ev.go hcd 3 (s' := (9, [(0, .ref 216), (1, .int a0), (2, .int a1)], [.int (a1 - 10)], am_SH, (g, f))) rfl ?_
    refine am_Ev.call hcd (a := 183) (s0 := (0, [(0, .int (a1 - 10))], [], am_SH, (g, f))) (q := ((some (.int (am_b (m_isTopic (a1 - 10))))), am_SH, (g, f))) (s1 := (10, [(0, .ref 216), (1, .int a0), (2, .int a1)], [.int (am_b (m_isTopic (a1 - 10)))], am_SH, (g, f))) rfl rfl (m_isTopic_ok (d) (a1 - 10) (g, f)) ?_
    rcases am_ite h with ⟨c8, h⟩ | ⟨c8, h⟩
    · refine am_Ev.f hcd (c := am_b (m_isTopic (a1 - 10)) = 0) (s1 := (11, [(0, .ref 216), (1, .int a0), (2, .int a1)], [], am_SH, (g, f))) rfl (am_b_t c8) ?_
      refine am_Ev.go hcd 6 (s' := (17, [(0, .ref 216), (1, .int a0), (2, .int a1)], [.int (75 + a0), .ref 217, .ref 216], am_SH, (g, f))) rfl ?_
      obtain ⟨c10, h⟩ := am_grd h
      refine am_Ev.t hcd (o := none) (c := am_in (75 + a0) 2008 = true) (s1 := (18, [(0, .ref 216), (1, .int a0), (2, .int a1)], [.int (f 217 (75 + a0).toNatClampNeg), .ref 216], am_SH, (g, f))) rfl c10 ?_
      refine am_Ev.go hcd 3 (s' := (21, [(0, .ref 216), (1, .int a0), (2, .int a1)], [.int (a1 - 10), .int (f 217 (75 + a0).toNatClampNeg), .ref 216], am_SH, (g, f))) rfl ?_
      obtain ⟨p3, hp3, h⟩ := am_bind_some h
      refine am_Ev.call hcd (a := 230) (s0 := (0, [(0, .ref 216), (1, .int (f 217 (75 + a0).toNatClampNeg)), (2, .int (a1 - 10))], [], am_SH, (g, f))) (q := ((some (.int p3)), am_SH, (g, f))) (s1 := (22, [(0, .ref 216), (1, .int a0), (2, .int a1)], [.int p3], am_SH, (g, f))) rfl rfl (m_nearnessOf_ok (d) (f 217 (75 + a0).toNatClampNeg) (a1 - 10) f g p3 hp3) ?_
      exact am_Ev.cast (a := ((some (.int p3)), am_SH, (g, f))) (by cases h; rfl) (am_Ev.ret hcd rfl)
    · refine am_Ev.t hcd (c := am_b (m_isTopic (a1 - 10)) = 0) (s1 := (23, [(0, .ref 216), (1, .int a0), (2, .int a1)], [], am_SH, (g, f))) rfl (am_b_f c8) ?_
      refine am_Ev.go hcd 1 (s' := (24, [(0, .ref 216), (1, .int a0), (2, .int a1)], [.int a1], am_SH, (g, f))) rfl ?_
      refine am_Ev.one hcd (s' := (am_swt a1 [(0, 25), (1, 32), (2, 39), (3, 46), (4, 53)] 57, [(0, .ref 216), (1, .int a0), (2, .int a1)], [], am_SH, (g, f))) rfl ?_
      rcases am_ite h with ⟨c20, h⟩ | ⟨c20, h⟩
      · rw [am_swt_t c20]
        refine am_Ev.go hcd 5 (s' := (30, [(0, .ref 216), (1, .int a0), (2, .int a1)], [.int (33 + a0), .ref 217], am_SH, (g, f))) rfl ?_
        obtain ⟨c22, h⟩ := am_grd h
        refine am_Ev.t hcd (o := none) (c := am_in (33 + a0) 2008 = true) (s1 := (31, [(0, .ref 216), (1, .int a0), (2, .int a1)], [.int (f 217 (33 + a0).toNatClampNeg)], am_SH, (g, f))) rfl c22 ?_
        exact am_Ev.cast (a := ((some (.int (f 217 (33 + a0).toNatClampNeg : Int32))), am_SH, (g, f))) (by cases h; rfl) (am_Ev.ret hcd rfl)
      rw [am_swt_f c20]
      rcases am_ite h with ⟨c27, h⟩ | ⟨c27, h⟩
      · rw [am_swt_t c27]
        refine am_Ev.go hcd 5 (s' := (37, [(0, .ref 216), (1, .int a0), (2, .int a1)], [.int (75 + a0), .ref 217], am_SH, (g, f))) rfl ?_
        obtain ⟨c29, h⟩ := am_grd h
        refine am_Ev.t hcd (o := none) (c := am_in (75 + a0) 2008 = true) (s1 := (38, [(0, .ref 216), (1, .int a0), (2, .int a1)], [.int (f 217 (75 + a0).toNatClampNeg)], am_SH, (g, f))) rfl c29 ?_
        exact am_Ev.cast (a := ((some (.int (f 217 (75 + a0).toNatClampNeg : Int32))), am_SH, (g, f))) (by cases h; rfl) (am_Ev.ret hcd rfl)
      rw [am_swt_f c27]
      rcases am_ite h with ⟨c34, h⟩ | ⟨c34, h⟩
      · rw [am_swt_t c34]
        refine am_Ev.go hcd 5 (s' := (44, [(0, .ref 216), (1, .int a0), (2, .int a1)], [.int (45 + a0), .ref 217], am_SH, (g, f))) rfl ?_
        obtain ⟨c36, h⟩ := am_grd h
        refine am_Ev.t hcd (o := none) (c := am_in (45 + a0) 2008 = true) (s1 := (45, [(0, .ref 216), (1, .int a0), (2, .int a1)], [.int (f 217 (45 + a0).toNatClampNeg)], am_SH, (g, f))) rfl c36 ?_
        exact am_Ev.cast (a := ((some (.int (f 217 (45 + a0).toNatClampNeg : Int32))), am_SH, (g, f))) (by cases h; rfl) (am_Ev.ret hcd rfl)
      rw [am_swt_f c34]
      rcases am_ite h with ⟨c41, h⟩ | ⟨c41, h⟩
      · rw [am_swt_t c41]
        refine am_Ev.go hcd 5 (s' := (51, [(0, .ref 216), (1, .int a0), (2, .int a1)], [.int (57 + a0), .ref 217], am_SH, (g, f))) rfl ?_
        obtain ⟨c43, h⟩ := am_grd h
        refine am_Ev.t hcd (o := none) (c := am_in (57 + a0) 2008 = true) (s1 := (52, [(0, .ref 216), (1, .int a0), (2, .int a1)], [.int (f 217 (57 + a0).toNatClampNeg)], am_SH, (g, f))) rfl c43 ?_
        exact am_Ev.cast (a := ((some (.int (f 217 (57 + a0).toNatClampNeg : Int32))), am_SH, (g, f))) (by cases h; rfl) (am_Ev.ret hcd rfl)
      rw [am_swt_f c41]
      rcases am_ite h with ⟨c48, h⟩ | ⟨c48, h⟩
      · rw [am_swt_t c48]
        refine am_Ev.go hcd 2 (s' := (55, [(0, .ref 216), (1, .int a0), (2, .int a1)], [.int a0, .ref 216], am_SH, (g, f))) rfl ?_
        obtain ⟨p4, hp4, h⟩ := am_bind_some h
        refine am_Ev.call hcd (a := 240) (s0 := (0, [(0, .ref 216), (1, .int a0)], [], am_SH, (g, f))) (q := ((some (.int p4)), am_SH, (g, f))) (s1 := (56, [(0, .ref 216), (1, .int a0), (2, .int a1)], [.int p4], am_SH, (g, f))) rfl rfl (m_glassOf_ok (d + 1) a0 f g p4 hp4) ?_
        exact am_Ev.cast (a := ((some (.int p4)), am_SH, (g, f))) (by cases h; rfl) (am_Ev.ret hcd rfl)
      rw [am_swt_f c48]
      rw [am_swt_n]
      refine am_Ev.go hcd 1 (s' := (58, [(0, .ref 216), (1, .int a0), (2, .int a1)], [.int (-2)], am_SH, (g, f))) rfl ?_
      exact am_Ev.cast (a := ((some (.int (-2))), am_SH, (g, f))) (by cases h; rfl) (am_Ev.ret hcd rfl)
  · refine am_Ev.t hcd (c := am_b (m_isWitness a0 f) = 0) (s1 := (4, [(0, .ref 216), (1, .int a0), (2, .int a1)], [], am_SH, (g, f))) rfl (am_b_f c4) ?_
    refine am_Ev.go hcd 1 (s' := (5, [(0, .ref 216), (1, .int a0), (2, .int a1)], [.int (-2)], am_SH, (g, f))) rfl ?_
    exact am_Ev.cast (a := ((some (.int (-2))), am_SH, (g, f))) (by cases h; rfl) (am_Ev.ret hcd rfl)
set_option maxRecDepth 100000 in
set_option maxHeartbeats 4000000 in
theorem m_near_ok {sc : Nat × (Nat → Int32)} (d : Nat) (a0 : Int32) (a1 : Int32) (f g : (Nat → Nat → Int32)) (r : Int32) (h : m_near a0 a1 f = some r) : am_Ev sc (d + 2) 252 (0, [(0, .ref 216), (1, .int a0), (2, .int a1)], [], am_SH, (g, f)) ((some (.int r)), am_SH, (g, f)) := by
  have hcd : am_code 252 = am_c252 := rfl
  unfold m_near at h
  refine am_Ev.go hcd 1 (s' := (1, [(0, .ref 216), (1, .int a0), (2, .int a1)], [.int a0], am_SH, (g, f))) rfl ?_
  refine am_Ev.call hcd (a := 183) (s0 := (0, [(0, .int a0)], [], am_SH, (g, f))) (q := ((some (.int (am_b (m_isTopic a0)))), am_SH, (g, f))) (s1 := (2, [(0, .ref 216), (1, .int a0), (2, .int a1)], [.int (am_b (m_isTopic a0))], am_SH, (g, f))) rfl rfl (m_isTopic_ok (d) a0 (g, f)) ?_
  rcases am_ite h with ⟨c4, h⟩ | ⟨c4, h⟩
  · refine am_Ev.f hcd (c := am_b (m_isTopic a0) = 0) (s1 := (3, [(0, .ref 216), (1, .int a0), (2, .int a1)], [], am_SH, (g, f))) rfl (am_b_t c4) ?_
    refine am_Ev.go hcd 1 (s' := (4, [(0, .ref 216), (1, .int a0), (2, .int a1)], [.int a1], am_SH, (g, f))) rfl ?_
    refine am_Ev.call hcd (a := 183) (s0 := (0, [(0, .int a1)], [], am_SH, (g, f))) (q := ((some (.int (am_b (m_isTopic a1)))), am_SH, (g, f))) (s1 := (5, [(0, .ref 216), (1, .int a0), (2, .int a1)], [.int (am_b (m_isTopic a1))], am_SH, (g, f))) rfl rfl (m_isTopic_ok (d) a1 (g, f)) ?_
    rcases am_ite h with ⟨c8, h⟩ | ⟨c8, h⟩
    · refine am_Ev.f hcd (c := am_b (m_isTopic a1) = 0) (s1 := (6, [(0, .ref 216), (1, .int a0), (2, .int a1)], [], am_SH, (g, f))) rfl (am_b_t c8) ?_
      refine am_Ev.go hcd 3 (s' := (9, [(0, .ref 216), (1, .int a0), (2, .int a1)], [.int a1, .int a0, .ref 216], am_SH, (g, f))) rfl ?_
      obtain ⟨p3, hp3, h⟩ := am_bind_some h
      refine am_Ev.call hcd (a := 229) (s0 := (0, [(0, .ref 216), (1, .int a0), (2, .int a1)], [], am_SH, (g, f))) (q := ((some (.int p3)), am_SH, (g, f))) (s1 := (10, [(0, .ref 216), (1, .int a0), (2, .int a1)], [.int p3], am_SH, (g, f))) rfl rfl (m_nearness_ok (d + 1) a0 a1 f g p3 hp3) ?_
      refine am_Ev.go hcd 1 (s' := (12, [(0, .ref 216), (1, .int a0), (2, .int a1)], [.int p3], am_SH, (g, f))) rfl ?_
      exact am_Ev.cast (a := ((some (.int p3)), am_SH, (g, f))) (by cases h; rfl) (am_Ev.ret hcd rfl)
    · refine am_Ev.t hcd (c := am_b (m_isTopic a1) = 0) (s1 := (11, [(0, .ref 216), (1, .int a0), (2, .int a1)], [], am_SH, (g, f))) rfl (am_b_f c8) ?_
      refine am_Ev.go hcd 1 (s' := (12, [(0, .ref 216), (1, .int a0), (2, .int a1)], [.int (-1)], am_SH, (g, f))) rfl ?_
      exact am_Ev.cast (a := ((some (.int (-1))), am_SH, (g, f))) (by cases h; rfl) (am_Ev.ret hcd rfl)
  · refine am_Ev.t hcd (c := am_b (m_isTopic a0) = 0) (s1 := (11, [(0, .ref 216), (1, .int a0), (2, .int a1)], [], am_SH, (g, f))) rfl (am_b_f c4) ?_
    refine am_Ev.go hcd 1 (s' := (12, [(0, .ref 216), (1, .int a0), (2, .int a1)], [.int (-1)], am_SH, (g, f))) rfl ?_
    exact am_Ev.cast (a := ((some (.int (-1))), am_SH, (g, f))) (by cases h; rfl) (am_Ev.ret hcd rfl)
set_option maxRecDepth 100000 in
set_option maxHeartbeats 4000000 in
theorem m_book_ok {sc : Nat × (Nat → Int32)} (d : Nat) (a0 : Int32) (a1 : Int32) (f g : (Nat → Nat → Int32)) (r : Int32) (h : m_book a0 a1 f = some r) : am_Ev sc (d + 1) 253 (0, [(0, .ref 216), (1, .int a0), (2, .int a1)], [], am_SH, (g, f)) ((some (.int r)), am_SH, (g, f)) := by
  have hcd : am_code 253 = am_c253 := rfl
  unfold m_book at h
  refine am_Ev.go hcd 8 (s' := (8, [(0, .ref 216), (1, .int a0), (2, .int a1)], [.int ((f 217 2) - 1), .int 0, .int a0], am_SH, (g, f))) rfl ?_
  refine am_Ev.call hcd (a := 176) (s0 := (0, [(0, .int a0), (1, .int 0), (2, .int ((f 217 2) - 1))], [], am_SH, (g, f))) (q := ((some (.int (am_b (m_isIn a0 0 ((f 217 2) - 1))))), am_SH, (g, f))) (s1 := (9, [(0, .ref 216), (1, .int a0), (2, .int a1)], [.int (am_b (m_isIn a0 0 ((f 217 2) - 1)))], am_SH, (g, f))) rfl rfl (m_isIn_ok (d) a0 0 ((f 217 2) - 1) (g, f)) ?_
  rcases am_ite h with ⟨c4, h⟩ | ⟨c4, h⟩
  · refine am_Ev.f hcd (c := am_b (m_isIn a0 0 ((f 217 2) - 1)) = 0) (s1 := (10, [(0, .ref 216), (1, .int a0), (2, .int a1)], [], am_SH, (g, f))) rfl (am_b_t c4) ?_
    refine am_Ev.go hcd 3 (s' := (13, [(0, .ref 216), (1, .int a0), (2, .int a1)], [.int 3, .int 0, .int a1], am_SH, (g, f))) rfl ?_
    refine am_Ev.call hcd (a := 176) (s0 := (0, [(0, .int a1), (1, .int 0), (2, .int 3)], [], am_SH, (g, f))) (q := ((some (.int (am_b (m_isIn a1 0 3)))), am_SH, (g, f))) (s1 := (14, [(0, .ref 216), (1, .int a0), (2, .int a1)], [.int (am_b (m_isIn a1 0 3))], am_SH, (g, f))) rfl rfl (m_isIn_ok (d) a1 0 3 (g, f)) ?_
    rcases am_ite h with ⟨c8, h⟩ | ⟨c8, h⟩
    · refine am_Ev.f hcd (c := am_b (m_isIn a1 0 3) = 0) (s1 := (15, [(0, .ref 216), (1, .int a0), (2, .int a1)], [], am_SH, (g, f))) rfl (am_b_t c8) ?_
      refine am_Ev.go hcd 9 (s' := (24, [(0, .ref 216), (1, .int a0), (2, .int a1)], [.int ((524 + (4 * a0)) + a1), .ref 217], am_SH, (g, f))) rfl ?_
      obtain ⟨c10, h⟩ := am_grd h
      refine am_Ev.t hcd (o := none) (c := am_in ((524 + (4 * a0)) + a1) 2008 = true) (s1 := (25, [(0, .ref 216), (1, .int a0), (2, .int a1)], [.int (f 217 ((524 + (4 * a0)) + a1).toNatClampNeg)], am_SH, (g, f))) rfl c10 ?_
      refine am_Ev.go hcd 1 (s' := (27, [(0, .ref 216), (1, .int a0), (2, .int a1)], [.int (f 217 ((524 + (4 * a0)) + a1).toNatClampNeg)], am_SH, (g, f))) rfl ?_
      exact am_Ev.cast (a := ((some (.int (f 217 ((524 + (4 * a0)) + a1).toNatClampNeg : Int32))), am_SH, (g, f))) (by cases h; rfl) (am_Ev.ret hcd rfl)
    · refine am_Ev.t hcd (c := am_b (m_isIn a1 0 3) = 0) (s1 := (26, [(0, .ref 216), (1, .int a0), (2, .int a1)], [], am_SH, (g, f))) rfl (am_b_f c8) ?_
      refine am_Ev.go hcd 1 (s' := (27, [(0, .ref 216), (1, .int a0), (2, .int a1)], [.int (-1)], am_SH, (g, f))) rfl ?_
      exact am_Ev.cast (a := ((some (.int (-1))), am_SH, (g, f))) (by cases h; rfl) (am_Ev.ret hcd rfl)
  · refine am_Ev.t hcd (c := am_b (m_isIn a0 0 ((f 217 2) - 1)) = 0) (s1 := (26, [(0, .ref 216), (1, .int a0), (2, .int a1)], [], am_SH, (g, f))) rfl (am_b_f c4) ?_
    refine am_Ev.go hcd 1 (s' := (27, [(0, .ref 216), (1, .int a0), (2, .int a1)], [.int (-1)], am_SH, (g, f))) rfl ?_
    exact am_Ev.cast (a := ((some (.int (-1))), am_SH, (g, f))) (by cases h; rfl) (am_Ev.ret hcd rfl)
set_option maxRecDepth 100000 in
set_option maxHeartbeats 4000000 in
theorem m_thinks_ok {sc : Nat × (Nat → Int32)} (d : Nat)  (f g : (Nat → Nat → Int32)) (r : (Nat → Nat → Int32)) (h : m_thinks  f = some r) : am_Ev sc (d) 254 (0, [(0, .ref 216)], [], am_SH, (g, f)) (none, am_SH, (g, r)) := by
  have hcd : am_code 254 = am_c254 := rfl
  unfold m_thinks at h
  refine am_Ev.go hcd 2 (s' := (2, [(0, .ref 216), (1, .int 0)], [], am_SH, (g, f))) rfl ?_
  obtain ⟨e4, he4, h⟩ := am_bind_some h
  have hK1 : (fun (e4 : (Nat → Nat → Int32)) => am_Ev sc (d) 254 (15, [(0, .ref 216)], [], am_SH, (g, e4)) (none, am_SH, (g, r))) e4 := by
    show am_Ev sc (d) 254 (15, [(0, .ref 216)], [], am_SH, (g, e4)) (none, am_SH, (g, r))
    obtain ⟨f5, Ef5, h⟩ := am_let_eq h
    refine am_Ev.go hcd 3 (s' := (18, [(0, .ref 216)], [], am_SH, (g, f5))) (by subst Ef5; exact rfl) ?_
    exact am_Ev.cast (a := (none, am_SH, (g, f5))) (by cases h; rfl) (am_Ev.ret hcd rfl)
  refine am_Ev.weak' (am_loop_ok (G := fun (s1 : Int32 × (Nat → Nat → Int32)) => am_Ev sc (d) 254 (2, [(0, .ref 216), (1, .int s1.1)], [], am_SH, (g, s1.2)) (none, am_SH, (g, r))) (Z := fun (e4 : (Nat → Nat → Int32)) => am_Ev sc (d) 254 (15, [(0, .ref 216)], [], am_SH, (g, e4)) (none, am_SH, (g, r))) ?_ am_F (0, f) e4 he4 hK1) (am_sub_cons rfl (am_sub_cons rfl am_sub_nil)) rfl
  intro s1 q1 h hI1 hZ1
  show am_Ev sc (d) 254 (2, [(0, .ref 216), (1, .int s1.1)], [], am_SH, (g, s1.2)) (none, am_SH, (g, r))
  refine am_Ev.go hcd 2 (s' := (4, [(0, .ref 216), (1, .int s1.1)], [.int 69, .int s1.1], am_SH, (g, s1.2))) rfl ?_
  rcases am_ite h with ⟨c12, h⟩ | ⟨c12, h⟩
  · refine am_Ev.t hcd (c := s1.1 < 69) (s1 := (5, [(0, .ref 216), (1, .int s1.1)], [], am_SH, (g, s1.2))) rfl c12 ?_
    refine am_Ev.go hcd 6 (s' := (11, [(0, .ref 216), (1, .int s1.1)], [.int s1.1, .ref 217, .int s1.1, .ref 220], am_SH, (g, s1.2))) rfl ?_
    obtain ⟨c15, h⟩ := am_grd h
    refine am_Ev.t hcd (o := none) (c := am_in s1.1 2008 = true) (s1 := (12, [(0, .ref 216), (1, .int s1.1)], [.int (s1.2 217 s1.1.toNatClampNeg), .int s1.1, .ref 220], am_SH, (g, s1.2))) rfl c15 ?_
    obtain ⟨c18, h⟩ := am_grd h
    obtain ⟨f2, Ef2, h⟩ := am_let_eq h
    refine am_Ev.t hcd (o := none) (c := am_in s1.1 69 = true) (s1 := (13, [(0, .ref 216), (1, .int s1.1)], [], am_SH, (g, f2))) (by subst Ef2; exact rfl) c18 ?_
    obtain ⟨t3, Et3, h⟩ := am_let_eq h
    refine am_Ev.go hcd 1 (s' := (14, [(0, .ref 216), (1, .int t3)], [], am_SH, (g, f2))) (by subst Et3; exact rfl) ?_
    refine am_Ev.go hcd 1 (s' := (2, [(0, .ref 216), (1, .int t3)], [], am_SH, (g, f2))) rfl ?_
    exact am_Ev.weak' (hI1 (t3, f2) (Option.some.inj h).symm) (am_sub_cons rfl (am_sub_cons rfl am_sub_nil)) rfl
  · refine am_Ev.f hcd (c := s1.1 < 69) (s1 := (15, [(0, .ref 216), (1, .int s1.1)], [], am_SH, (g, s1.2))) rfl c12 ?_
    exact am_Ev.weak' (hZ1 s1.2 (Option.some.inj h).symm) (am_sub_cons rfl am_sub_nil) rfl
set_option maxRecDepth 100000 in
set_option maxHeartbeats 4000000 in
theorem m_together_ok {sc : Nat × (Nat → Int32)} (d : Nat) (a0 : Int32) (a1 : Int32) (f g : (Nat → Nat → Int32)) (r : Int32) (h : m_together a0 a1 f = some r) : am_Ev sc (d) 256 (0, [(0, .ref 216), (1, .int a0), (2, .int a1)], [], am_SH, (g, f)) ((some (.int r)), am_SH, (g, f)) := by
  have hcd : am_code 256 = am_c256 := rfl
  unfold m_together at h
  refine am_Ev.go hcd 4 (s' := (4, [(0, .ref 216), (1, .int a0), (2, .int a1), (3, .int 0), (4, .int 0)], [], am_SH, (g, f))) rfl ?_
  refine am_Ev.weak' (am_loop_ok (G := fun (s1 : Int32 × Int32) => am_Ev sc (d) 256 (4, [(0, .ref 216), (1, .int a0), (2, .int a1), (3, .int s1.1), (4, .int s1.2)], [], am_SH, (g, f)) ((some (.int r)), am_SH, (g, f))) (Z := fun (v : Int32) => (((some (.int v)), am_SH, (g, f)) : am_R) = ((some (.int r)), am_SH, (g, f))) ?_ am_F (0, 0) r h rfl) (am_sub_cons rfl (am_sub_cons rfl (am_sub_cons rfl (am_sub_cons rfl (am_sub_cons rfl am_sub_nil))))) rfl
  intro s1 q1 h hI1 hZ1
  show am_Ev sc (d) 256 (4, [(0, .ref 216), (1, .int a0), (2, .int a1), (3, .int s1.1), (4, .int s1.2)], [], am_SH, (g, f)) ((some (.int r)), am_SH, (g, f))
  refine am_Ev.go hcd 2 (s' := (6, [(0, .ref 216), (1, .int a0), (2, .int a1), (3, .int s1.1), (4, .int s1.2)], [.int a1, .int s1.2], am_SH, (g, f))) rfl ?_
  rcases am_ite h with ⟨c6, h⟩ | ⟨c6, h⟩
  · refine am_Ev.t hcd (c := s1.2 < a1) (s1 := (7, [(0, .ref 216), (1, .int a0), (2, .int a1), (3, .int s1.1), (4, .int s1.2)], [], am_SH, (g, f))) rfl c6 ?_
    refine am_Ev.go hcd 6 (s' := (13, [(0, .ref 216), (1, .int a0), (2, .int a1), (3, .int s1.1), (4, .int s1.2)], [.int (a0 + s1.2), .ref 217, .int s1.1], am_SH, (g, f))) rfl ?_
    obtain ⟨c9, h⟩ := am_grd h
    refine am_Ev.t hcd (o := none) (c := am_in (a0 + s1.2) 2008 = true) (s1 := (14, [(0, .ref 216), (1, .int a0), (2, .int a1), (3, .int s1.1), (4, .int s1.2)], [.int (f 217 (a0 + s1.2).toNatClampNeg), .int s1.1], am_SH, (g, f))) rfl c9 ?_
    obtain ⟨t2, Et2, h⟩ := am_let_eq h
    refine am_Ev.go hcd 2 (s' := (16, [(0, .ref 216), (1, .int a0), (2, .int a1), (3, .int t2), (4, .int s1.2)], [], am_SH, (g, f))) (by subst Et2; exact rfl) ?_
    obtain ⟨t3, Et3, h⟩ := am_let_eq h
    refine am_Ev.go hcd 1 (s' := (17, [(0, .ref 216), (1, .int a0), (2, .int a1), (3, .int t2), (4, .int t3)], [], am_SH, (g, f))) (by subst Et3; exact rfl) ?_
    refine am_Ev.go hcd 1 (s' := (4, [(0, .ref 216), (1, .int a0), (2, .int a1), (3, .int t2), (4, .int t3)], [], am_SH, (g, f))) rfl ?_
    exact am_Ev.weak' (hI1 (t2, t3) (Option.some.inj h).symm) (am_sub_cons rfl (am_sub_cons rfl (am_sub_cons rfl (am_sub_cons rfl (am_sub_cons rfl am_sub_nil))))) rfl
  · refine am_Ev.f hcd (c := s1.2 < a1) (s1 := (18, [(0, .ref 216), (1, .int a0), (2, .int a1), (3, .int s1.1), (4, .int s1.2)], [], am_SH, (g, f))) rfl c6 ?_
    refine am_Ev.go hcd 1 (s' := (19, [(0, .ref 216), (1, .int a0), (2, .int a1), (3, .int s1.1), (4, .int s1.2)], [.int s1.1], am_SH, (g, f))) rfl ?_
    exact am_Ev.cast (a := ((some (.int s1.1)), am_SH, (g, f))) (hZ1 _ (Option.some.inj h).symm) (am_Ev.ret hcd rfl)
set_option maxRecDepth 100000 in
set_option maxHeartbeats 4000000 in
theorem m_putsBack_ok {sc : Nat × (Nat → Int32)} (d : Nat)  (f g : (Nat → Nat → Int32)) (r : (Nat → Nat → Int32)) (h : m_putsBack  f = some r) : am_Ev sc (d) 255 (0, [(0, .ref 216)], [], am_SH, (g, f)) (none, am_SH, (g, r)) := by
  have hcd : am_code 255 = am_c255 := rfl
  unfold m_putsBack at h
  refine am_Ev.go hcd 2 (s' := (2, [(0, .ref 216), (1, .int 0)], [], am_SH, (g, f))) rfl ?_
  refine am_Ev.weak' (am_loop_ok (G := fun (s1 : Int32 × (Nat → Nat → Int32)) => am_Ev sc (d) 255 (2, [(0, .ref 216), (1, .int s1.1)], [], am_SH, (g, s1.2)) (none, am_SH, (g, r))) (Z := fun (v : (Nat → Nat → Int32)) => ((none, am_SH, (g, v)) : am_R) = (none, am_SH, (g, r))) ?_ am_F (0, f) r h rfl) (am_sub_cons rfl (am_sub_cons rfl am_sub_nil)) rfl
  intro s1 q1 h hI1 hZ1
  show am_Ev sc (d) 255 (2, [(0, .ref 216), (1, .int s1.1)], [], am_SH, (g, s1.2)) (none, am_SH, (g, r))
  refine am_Ev.go hcd 2 (s' := (4, [(0, .ref 216), (1, .int s1.1)], [.int 69, .int s1.1], am_SH, (g, s1.2))) rfl ?_
  rcases am_ite h with ⟨c6, h⟩ | ⟨c6, h⟩
  · refine am_Ev.t hcd (c := s1.1 < 69) (s1 := (5, [(0, .ref 216), (1, .int s1.1)], [], am_SH, (g, s1.2))) rfl c6 ?_
    refine am_Ev.go hcd 6 (s' := (11, [(0, .ref 216), (1, .int s1.1)], [.int s1.1, .ref 220, .int s1.1, .ref 217], am_SH, (g, s1.2))) rfl ?_
    obtain ⟨c9, h⟩ := am_grd h
    refine am_Ev.t hcd (o := none) (c := am_in s1.1 69 = true) (s1 := (12, [(0, .ref 216), (1, .int s1.1)], [.int (s1.2 220 s1.1.toNatClampNeg), .int s1.1, .ref 217], am_SH, (g, s1.2))) rfl c9 ?_
    obtain ⟨c12, h⟩ := am_grd h
    obtain ⟨f2, Ef2, h⟩ := am_let_eq h
    refine am_Ev.t hcd (o := none) (c := am_in s1.1 2008 = true) (s1 := (13, [(0, .ref 216), (1, .int s1.1)], [], am_SH, (g, f2))) (by subst Ef2; exact rfl) c12 ?_
    obtain ⟨t3, Et3, h⟩ := am_let_eq h
    refine am_Ev.go hcd 1 (s' := (14, [(0, .ref 216), (1, .int t3)], [], am_SH, (g, f2))) (by subst Et3; exact rfl) ?_
    refine am_Ev.go hcd 1 (s' := (2, [(0, .ref 216), (1, .int t3)], [], am_SH, (g, f2))) rfl ?_
    exact am_Ev.weak' (hI1 (t3, f2) (Option.some.inj h).symm) (am_sub_cons rfl (am_sub_cons rfl am_sub_nil)) rfl
  · refine am_Ev.f hcd (c := s1.1 < 69) (s1 := (15, [(0, .ref 216), (1, .int s1.1)], [], am_SH, (g, s1.2))) rfl c6 ?_
    exact am_Ev.cast (a := (none, am_SH, (g, s1.2))) (hZ1 _ (Option.some.inj h).symm) (am_Ev.ret hcd rfl)
set_option maxRecDepth 100000 in
set_option maxHeartbeats 4000000 in
theorem m_goes_ok {sc : Nat × (Nat → Int32)} (d : Nat) (a0 : Int32) (a1 : Int32) (f g : (Nat → Nat → Int32)) (r : Int32 × (Nat → Nat → Int32)) (h : m_goes a0 a1 f = some r) : am_Ev sc (d + 7) 257 (0, [(0, .ref 216), (1, .int a0), (2, .int a1)], [], am_SH, (g, f)) ((some (.int r.1)), am_SH, (g, r.2)) := by
  have hcd : am_code 257 = am_c257 := rfl
  unfold m_goes at h
  refine am_Ev.go hcd 3 (s' := (3, [(0, .ref 216), (1, .int a0), (2, .int a1)], [.int 60, .int 1, .int a0], am_SH, (g, f))) rfl ?_
  refine am_Ev.call hcd (a := 176) (s0 := (0, [(0, .int a0), (1, .int 1), (2, .int 60)], [], am_SH, (g, f))) (q := ((some (.int (am_b (m_isIn a0 1 60)))), am_SH, (g, f))) (s1 := (4, [(0, .ref 216), (1, .int a0), (2, .int a1)], [.int (am_b (m_isIn a0 1 60))], am_SH, (g, f))) rfl rfl (m_isIn_ok (d + 6) a0 1 60 (g, f)) ?_
  rcases am_ite h with ⟨c4, h⟩ | ⟨c4, h⟩
  · refine am_Ev.f hcd (c := am_b (m_isIn a0 1 60) = 0) (s1 := (5, [(0, .ref 216), (1, .int a0), (2, .int a1)], [], am_SH, (g, f))) rfl (am_b_t c4) ?_
    refine am_Ev.go hcd 3 (s' := (8, [(0, .ref 216), (1, .int a0), (2, .int a1)], [.int 3, .int 0, .int a1], am_SH, (g, f))) rfl ?_
    refine am_Ev.call hcd (a := 176) (s0 := (0, [(0, .int a1), (1, .int 0), (2, .int 3)], [], am_SH, (g, f))) (q := ((some (.int (am_b (m_isIn a1 0 3)))), am_SH, (g, f))) (s1 := (9, [(0, .ref 216), (1, .int a0), (2, .int a1)], [.int (am_b (m_isIn a1 0 3))], am_SH, (g, f))) rfl rfl (m_isIn_ok (d + 6) a1 0 3 (g, f)) ?_
    rcases am_ite h with ⟨c8, h⟩ | ⟨c8, h⟩
    · refine am_Ev.f hcd (c := am_b (m_isIn a1 0 3) = 0) (s1 := (12, [(0, .ref 216), (1, .int a0), (2, .int a1)], [], am_SH, (g, f))) rfl (am_b_t c8) ?_
      refine am_Ev.go hcd 1 (s' := (13, [(0, .ref 216), (1, .int a0), (2, .int a1)], [.ref 216], am_SH, (g, f))) rfl ?_
      obtain ⟨p3, hp3, h⟩ := am_bind_some h
      refine am_Ev.call hcd (a := 254) (s0 := (0, [(0, .ref 216)], [], am_SH, (g, f))) (q := (none, am_SH, (g, p3))) (s1 := (14, [(0, .ref 216), (1, .int a0), (2, .int a1)], [], am_SH, (g, p3))) rfl rfl (m_thinks_ok (d + 6)  f g p3 hp3) ?_
      refine am_Ev.go hcd 2 (s' := (16, [(0, .ref 216), (1, .int a0), (2, .int a1), (3, .int 0)], [], am_SH, (g, p3))) rfl ?_
      obtain ⟨e7, he7, h⟩ := am_bind_some h
      have hK4 : (fun (e7 : (Nat → Nat → Int32)) => am_Ev sc (d + 7) 257 (24, [(0, .ref 216), (2, .int a1)], [], am_SH, (g, e7)) ((some (.int r.1)), am_SH, (g, r.2))) e7 := by
        show am_Ev sc (d + 7) 257 (24, [(0, .ref 216), (2, .int a1)], [], am_SH, (g, e7)) ((some (.int r.1)), am_SH, (g, r.2))
        obtain ⟨t11, ht11, kt11⟩ := am_bind_some h
        have hKt11 : am_Ev sc (d + 7) 257 (51, [(0, .ref 216)], [.int t11], am_SH, (g, e7)) ((some (.int r.1)), am_SH, (g, r.2)) := by
          have h := kt11
          refine am_Ev.go hcd 2 (s' := (53, [(0, .ref 216), (3, .int t11)], [.ref 216], am_SH, (g, e7))) rfl ?_
          obtain ⟨p12, hp12, h⟩ := am_bind_some h
          refine am_Ev.call hcd (a := 255) (s0 := (0, [(0, .ref 216)], [], am_SH, (g, e7))) (q := (none, am_SH, (g, p12))) (s1 := (54, [(0, .ref 216), (3, .int t11)], [], am_SH, (g, p12))) rfl rfl (m_putsBack_ok (d + 6)  e7 g p12 hp12) ?_
          refine am_Ev.go hcd 1 (s' := (55, [(0, .ref 216), (3, .int t11)], [.int t11], am_SH, (g, p12))) rfl ?_
          exact am_Ev.cast (a := ((some (.int (t11, p12).1)), am_SH, (g, (t11, p12).2))) (by cases h; rfl) (am_Ev.ret hcd rfl)
        have hLt11 : ∀ tt, tt = t11 → am_Ev sc (d + 7) 257 (51, [(0, .ref 216)], [.int tt], am_SH, (g, e7)) ((some (.int r.1)), am_SH, (g, r.2)) := fun tt htt => by subst htt; exact hKt11
        have h := ht11
        refine am_Ev.go hcd 2 (s' := (26, [(0, .ref 216), (2, .int a1)], [.int 3, .int a1], am_SH, (g, e7))) rfl ?_
        rcases am_ite h with ⟨c27, h⟩ | ⟨c27, h⟩
        · refine am_Ev.t hcd (c := a1 = 3) (s1 := (27, [(0, .ref 216), (2, .int a1)], [], am_SH, (g, e7))) rfl c27 ?_
          refine am_Ev.go hcd 6 (s' := (33, [(0, .ref 216), (2, .int a1)], [.int (e7 217 70), .int 57, .ref 216], am_SH, (g, e7))) rfl ?_
          obtain ⟨p8, hp8, h⟩ := am_bind_some h
          refine am_Ev.call hcd (a := 256) (s0 := (0, [(0, .ref 216), (1, .int 57), (2, .int (e7 217 70))], [], am_SH, (g, e7))) (q := ((some (.int p8)), am_SH, (g, e7))) (s1 := (34, [(0, .ref 216), (2, .int a1)], [.int p8], am_SH, (g, e7))) rfl rfl (m_together_ok (d + 6) 57 (e7 217 70) e7 g p8 hp8) ?_
          refine am_Ev.go hcd 1 (s' := (51, [(0, .ref 216), (2, .int a1)], [.int p8], am_SH, (g, e7))) rfl ?_
          exact am_Ev.weak' (hLt11 p8 (Option.some.inj h)) (am_sub_cons rfl am_sub_nil) rfl
        · refine am_Ev.f hcd (c := a1 = 3) (s1 := (35, [(0, .ref 216), (2, .int a1)], [], am_SH, (g, e7))) rfl c27 ?_
          obtain ⟨t9, ht9, kt9⟩ := am_let_eq h
          have hKt9 : am_Ev sc (d + 7) 257 (46, [(0, .ref 216)], [.int t9, .ref 216], am_SH, (g, e7)) ((some (.int r.1)), am_SH, (g, r.2)) := by
            have h := kt9
            refine am_Ev.go hcd 4 (s' := (50, [(0, .ref 216)], [.int (e7 217 69), .int t9, .ref 216], am_SH, (g, e7))) rfl ?_
            obtain ⟨p10, hp10, h⟩ := am_bind_some h
            refine am_Ev.call hcd (a := 256) (s0 := (0, [(0, .ref 216), (1, .int t9), (2, .int (e7 217 69))], [], am_SH, (g, e7))) (q := ((some (.int p10)), am_SH, (g, e7))) (s1 := (51, [(0, .ref 216)], [.int p10], am_SH, (g, e7))) rfl rfl (m_together_ok (d + 6) t9 (e7 217 69) e7 g p10 hp10) ?_
            exact am_Ev.weak' (hLt11 p10 (Option.some.inj h)) (am_sub_cons rfl am_sub_nil) rfl
          have hLt9 : ∀ tt, tt = t9 → am_Ev sc (d + 7) 257 (46, [(0, .ref 216)], [.int tt, .ref 216], am_SH, (g, e7)) ((some (.int r.1)), am_SH, (g, r.2)) := fun tt htt => by subst htt; exact hKt9
          have h := ht9
          refine am_Ev.go hcd 2 (s' := (37, [(0, .ref 216), (2, .int a1)], [.int a1, .ref 216], am_SH, (g, e7))) rfl ?_
          rcases am_itv h with ⟨c45, h⟩ | ⟨c45, h⟩
          · refine am_Ev.t hcd (c := a1 = 0) (s1 := (38, [(0, .ref 216), (2, .int a1)], [.ref 216], am_SH, (g, e7))) rfl c45 ?_
            refine am_Ev.go hcd 2 (s' := (46, [(0, .ref 216), (2, .int a1)], [.int 9, .ref 216], am_SH, (g, e7))) rfl ?_
            exact am_Ev.weak' (hLt9 9 h.symm) (am_sub_cons rfl am_sub_nil) rfl
          · refine am_Ev.f hcd (c := a1 = 0) (s1 := (40, [(0, .ref 216), (2, .int a1)], [.ref 216], am_SH, (g, e7))) rfl c45 ?_
            refine am_Ev.go hcd 2 (s' := (42, [(0, .ref 216), (2, .int a1)], [.int 1, .int a1, .ref 216], am_SH, (g, e7))) rfl ?_
            rcases am_itv h with ⟨c51, h⟩ | ⟨c51, h⟩
            · refine am_Ev.t hcd (c := a1 = 1) (s1 := (43, [(0, .ref 216), (2, .int a1)], [.ref 216], am_SH, (g, e7))) rfl c51 ?_
              refine am_Ev.go hcd 2 (s' := (46, [(0, .ref 216), (2, .int a1)], [.int 27, .ref 216], am_SH, (g, e7))) rfl ?_
              exact am_Ev.weak' (hLt9 27 h.symm) (am_sub_cons rfl am_sub_nil) rfl
            · refine am_Ev.f hcd (c := a1 = 1) (s1 := (45, [(0, .ref 216), (2, .int a1)], [.ref 216], am_SH, (g, e7))) rfl c51 ?_
              refine am_Ev.go hcd 1 (s' := (46, [(0, .ref 216), (2, .int a1)], [.int 3, .ref 216], am_SH, (g, e7))) rfl ?_
              exact am_Ev.weak' (hLt9 3 h.symm) (am_sub_cons rfl am_sub_nil) rfl
      refine am_Ev.weak' (am_loop_ok (G := fun (s4 : Int32 × (Nat → Nat → Int32)) => am_Ev sc (d + 7) 257 (16, [(0, .ref 216), (1, .int a0), (2, .int a1), (3, .int s4.1)], [], am_SH, (g, s4.2)) ((some (.int r.1)), am_SH, (g, r.2))) (Z := fun (e7 : (Nat → Nat → Int32)) => am_Ev sc (d + 7) 257 (24, [(0, .ref 216), (2, .int a1)], [], am_SH, (g, e7)) ((some (.int r.1)), am_SH, (g, r.2))) ?_ am_F (0, p3) e7 he7 hK4) (am_sub_cons rfl (am_sub_cons rfl (am_sub_cons rfl (am_sub_cons rfl am_sub_nil)))) rfl
      intro s4 q4 h hI4 hZ4
      show am_Ev sc (d + 7) 257 (16, [(0, .ref 216), (1, .int a0), (2, .int a1), (3, .int s4.1)], [], am_SH, (g, s4.2)) ((some (.int r.1)), am_SH, (g, r.2))
      refine am_Ev.go hcd 2 (s' := (18, [(0, .ref 216), (1, .int a0), (2, .int a1), (3, .int s4.1)], [.int a0, .int s4.1], am_SH, (g, s4.2))) rfl ?_
      rcases am_ite h with ⟨c62, h⟩ | ⟨c62, h⟩
      · refine am_Ev.t hcd (c := s4.1 < a0) (s1 := (19, [(0, .ref 216), (1, .int a0), (2, .int a1), (3, .int s4.1)], [], am_SH, (g, s4.2))) rfl c62 ?_
        refine am_Ev.go hcd 1 (s' := (20, [(0, .ref 216), (1, .int a0), (2, .int a1), (3, .int s4.1)], [.ref 216], am_SH, (g, s4.2))) rfl ?_
        obtain ⟨p5, hp5, h⟩ := am_bind_some h
        refine am_Ev.call hcd (a := 248) (s0 := (0, [(0, .ref 216)], [], am_SH, (g, s4.2))) (q := ((some (.int p5.1)), am_SH, (g, p5.2))) (s1 := (21, [(0, .ref 216), (1, .int a0), (2, .int a1), (3, .int s4.1)], [.int p5.1], am_SH, (g, p5.2))) rfl rfl (m_goesBy_ok (d)  s4.2 g p5 hp5) ?_
        obtain ⟨t6, Et6, h⟩ := am_let_eq h
        refine am_Ev.go hcd 2 (s' := (23, [(0, .ref 216), (1, .int a0), (2, .int a1), (3, .int t6)], [], am_SH, (g, p5.2))) (by subst Et6; exact rfl) ?_
        refine am_Ev.go hcd 1 (s' := (16, [(0, .ref 216), (1, .int a0), (2, .int a1), (3, .int t6)], [], am_SH, (g, p5.2))) rfl ?_
        exact am_Ev.weak' (hI4 (t6, p5.2) (Option.some.inj h).symm) (am_sub_cons rfl (am_sub_cons rfl (am_sub_cons rfl (am_sub_cons rfl am_sub_nil)))) rfl
      · refine am_Ev.f hcd (c := s4.1 < a0) (s1 := (24, [(0, .ref 216), (1, .int a0), (2, .int a1), (3, .int s4.1)], [], am_SH, (g, s4.2))) rfl c62 ?_
        exact am_Ev.weak' (hZ4 s4.2 (Option.some.inj h).symm) (am_sub_cons rfl (am_sub_cons rfl am_sub_nil)) rfl
    · refine am_Ev.t hcd (c := am_b (m_isIn a1 0 3) = 0) (s1 := (10, [(0, .ref 216), (1, .int a0), (2, .int a1)], [], am_SH, (g, f))) rfl (am_b_f c8) ?_
      refine am_Ev.go hcd 1 (s' := (11, [(0, .ref 216), (1, .int a0), (2, .int a1)], [.int (-1)], am_SH, (g, f))) rfl ?_
      exact am_Ev.cast (a := ((some (.int ((-1), f).1)), am_SH, (g, ((-1), f).2))) (by cases h; rfl) (am_Ev.ret hcd rfl)
  · refine am_Ev.t hcd (c := am_b (m_isIn a0 1 60) = 0) (s1 := (10, [(0, .ref 216), (1, .int a0), (2, .int a1)], [], am_SH, (g, f))) rfl (am_b_f c4) ?_
    refine am_Ev.go hcd 1 (s' := (11, [(0, .ref 216), (1, .int a0), (2, .int a1)], [.int (-1)], am_SH, (g, f))) rfl ?_
    exact am_Ev.cast (a := ((some (.int ((-1), f).1)), am_SH, (g, ((-1), f).2))) (by cases h; rfl) (am_Ev.ret hcd rfl)
set_option maxRecDepth 100000 in
set_option maxHeartbeats 4000000 in
theorem m_top_ok {sc : Nat × (Nat → Int32)} (d : Nat) (a0 : Int32) (f g : (Nat → Nat → Int32)) (r : Int32 × (Nat → Nat → Int32)) (h : m_top a0 f = some r) : am_Ev sc (d + 7) 258 (0, [(0, .ref 216), (1, .int a0)], [], am_SH, (g, f)) ((some (.int r.1)), am_SH, (g, r.2)) := by
  have hcd : am_code 258 = am_c258 := rfl
  unfold m_top at h
  refine am_Ev.go hcd 2 (s' := (2, [(0, .ref 216), (1, .int a0)], [.int a0, .ref 216], am_SH, (g, f))) rfl ?_
  refine am_Ev.call hcd (a := 181) (s0 := (0, [(0, .ref 216), (1, .int a0)], [], am_SH, (g, f))) (q := ((some (.int (am_b (m_isGlass a0 f)))), am_SH, (g, f))) (s1 := (3, [(0, .ref 216), (1, .int a0)], [.int (am_b (m_isGlass a0 f))], am_SH, (g, f))) rfl rfl (m_isGlass_ok (d + 5) a0 f g) ?_
  rcases am_ite h with ⟨c4, h⟩ | ⟨c4, h⟩
  · refine am_Ev.f hcd (c := am_b (m_isGlass a0 f) = 0) (s1 := (6, [(0, .ref 216), (1, .int a0)], [], am_SH, (g, f))) rfl (am_b_t c4) ?_
    refine am_Ev.go hcd 1 (s' := (7, [(0, .ref 216), (1, .int a0)], [.ref 216], am_SH, (g, f))) rfl ?_
    obtain ⟨p2, hp2, h⟩ := am_bind_some h
    refine am_Ev.call hcd (a := 254) (s0 := (0, [(0, .ref 216)], [], am_SH, (g, f))) (q := (none, am_SH, (g, p2))) (s1 := (8, [(0, .ref 216), (1, .int a0)], [], am_SH, (g, p2))) rfl rfl (m_thinks_ok (d + 6)  f g p2 hp2) ?_
    refine am_Ev.go hcd 2 (s' := (10, [(0, .ref 216), (1, .int a0), (2, .int 0)], [], am_SH, (g, p2))) rfl ?_
    obtain ⟨e6, he6, h⟩ := am_bind_some h
    have hK3 : (fun (e6 : Int32 × (Nat → Nat → Int32)) => am_Ev sc (d + 7) 258 (31, [(0, .ref 216), (1, .int a0), (2, .int e6.1)], [], am_SH, (g, e6.2)) ((some (.int r.1)), am_SH, (g, r.2))) e6 := by
      show am_Ev sc (d + 7) 258 (31, [(0, .ref 216), (1, .int a0), (2, .int e6.1)], [], am_SH, (g, e6.2)) ((some (.int r.1)), am_SH, (g, r.2))
      refine am_Ev.go hcd 5 (s' := (36, [(0, .ref 216), (1, .int a0), (2, .int e6.1)], [.int (27 + a0), .ref 217], am_SH, (g, e6.2))) rfl ?_
      obtain ⟨c13, h⟩ := am_grd h
      refine am_Ev.t hcd (o := none) (c := am_in (27 + a0) 2008 = true) (s1 := (37, [(0, .ref 216), (1, .int a0), (2, .int e6.1)], [.int (e6.2 217 (27 + a0).toNatClampNeg)], am_SH, (g, e6.2))) rfl c13 ?_
      refine am_Ev.go hcd 5 (s' := (42, [(0, .ref 216), (1, .int a0), (2, .int e6.1)], [.int (27 + a0), .ref 220, .int (e6.2 217 (27 + a0).toNatClampNeg)], am_SH, (g, e6.2))) rfl ?_
      obtain ⟨c16, h⟩ := am_grd h
      refine am_Ev.t hcd (o := none) (c := am_in (27 + a0) 69 = true) (s1 := (43, [(0, .ref 216), (1, .int a0), (2, .int e6.1)], [.int (e6.2 220 (27 + a0).toNatClampNeg), .int (e6.2 217 (27 + a0).toNatClampNeg)], am_SH, (g, e6.2))) rfl c16 ?_
      obtain ⟨t7, ht7, kt7⟩ := am_let_eq h
      have hKt7 : am_Ev sc (d + 7) 258 (47, [(0, .ref 216), (2, .int e6.1)], [.int (am_b t7)], am_SH, (g, e6.2)) ((some (.int r.1)), am_SH, (g, r.2)) := by
        have h := kt7
        refine am_Ev.go hcd 2 (s' := (49, [(0, .ref 216), (2, .int e6.1), (3, .int (am_b t7))], [.ref 216], am_SH, (g, e6.2))) rfl ?_
        obtain ⟨p8, hp8, h⟩ := am_bind_some h
        refine am_Ev.call hcd (a := 255) (s0 := (0, [(0, .ref 216)], [], am_SH, (g, e6.2))) (q := (none, am_SH, (g, p8))) (s1 := (50, [(0, .ref 216), (2, .int e6.1), (3, .int (am_b t7))], [], am_SH, (g, p8))) rfl rfl (m_putsBack_ok (d + 6)  e6.2 g p8 hp8) ?_
        refine am_Ev.go hcd 1 (s' := (51, [(0, .ref 216), (2, .int e6.1), (3, .int (am_b t7))], [.int (am_b t7)], am_SH, (g, p8))) rfl ?_
        rcases am_ite h with ⟨c25, h⟩ | ⟨c25, h⟩
        · refine am_Ev.f hcd (c := am_b t7 = 0) (s1 := (52, [(0, .ref 216), (2, .int e6.1), (3, .int (am_b t7))], [], am_SH, (g, p8))) rfl (am_b_t c25) ?_
          refine am_Ev.go hcd 2 (s' := (55, [(0, .ref 216), (2, .int e6.1), (3, .int (am_b t7))], [.int e6.1], am_SH, (g, p8))) rfl ?_
          exact am_Ev.cast (a := ((some (.int (e6.1, p8).1)), am_SH, (g, (e6.1, p8).2))) (by cases h; rfl) (am_Ev.ret hcd rfl)
        · refine am_Ev.t hcd (c := am_b t7 = 0) (s1 := (54, [(0, .ref 216), (2, .int e6.1), (3, .int (am_b t7))], [], am_SH, (g, p8))) rfl (am_b_f c25) ?_
          refine am_Ev.go hcd 1 (s' := (55, [(0, .ref 216), (2, .int e6.1), (3, .int (am_b t7))], [.int (-1)], am_SH, (g, p8))) rfl ?_
          exact am_Ev.cast (a := ((some (.int ((-1), p8).1)), am_SH, (g, ((-1), p8).2))) (by cases h; rfl) (am_Ev.ret hcd rfl)
      have hLt7 : ∀ tt, tt = t7 → am_Ev sc (d + 7) 258 (47, [(0, .ref 216), (2, .int e6.1)], [.int (am_b tt)], am_SH, (g, e6.2)) ((some (.int r.1)), am_SH, (g, r.2)) := fun tt htt => by subst htt; exact hKt7
      have h := ht7
      rcases am_itv h with ⟨c35, h⟩ | ⟨c35, h⟩
      · refine am_Ev.t hcd (c := e6.2 220 (27 + a0).toNatClampNeg < e6.2 217 (27 + a0).toNatClampNeg) (s1 := (44, [(0, .ref 216), (1, .int a0), (2, .int e6.1)], [], am_SH, (g, e6.2))) rfl c35 ?_
        refine am_Ev.go hcd 2 (s' := (47, [(0, .ref 216), (1, .int a0), (2, .int e6.1)], [.int 1], am_SH, (g, e6.2))) rfl ?_
        exact am_Ev.weak' (hLt7 true h.symm) (am_sub_cons rfl (am_sub_cons rfl am_sub_nil)) rfl
      · refine am_Ev.f hcd (c := e6.2 220 (27 + a0).toNatClampNeg < e6.2 217 (27 + a0).toNatClampNeg) (s1 := (46, [(0, .ref 216), (1, .int a0), (2, .int e6.1)], [], am_SH, (g, e6.2))) rfl c35 ?_
        refine am_Ev.go hcd 1 (s' := (47, [(0, .ref 216), (1, .int a0), (2, .int e6.1)], [.int 0], am_SH, (g, e6.2))) rfl ?_
        exact am_Ev.weak' (hLt7 false h.symm) (am_sub_cons rfl (am_sub_cons rfl am_sub_nil)) rfl
    refine am_Ev.weak' (am_loop_ok (G := fun (s3 : Int32 × (Nat → Nat → Int32)) => am_Ev sc (d + 7) 258 (10, [(0, .ref 216), (1, .int a0), (2, .int s3.1)], [], am_SH, (g, s3.2)) ((some (.int r.1)), am_SH, (g, r.2))) (Z := fun (e6 : Int32 × (Nat → Nat → Int32)) => am_Ev sc (d + 7) 258 (31, [(0, .ref 216), (1, .int a0), (2, .int e6.1)], [], am_SH, (g, e6.2)) ((some (.int r.1)), am_SH, (g, r.2))) ?_ am_F (0, p2) e6 he6 hK3) (am_sub_cons rfl (am_sub_cons rfl (am_sub_cons rfl am_sub_nil))) rfl
    intro s3 q3 h hI3 hZ3
    show am_Ev sc (d + 7) 258 (10, [(0, .ref 216), (1, .int a0), (2, .int s3.1)], [], am_SH, (g, s3.2)) ((some (.int r.1)), am_SH, (g, r.2))
    refine am_Ev.go hcd 2 (s' := (12, [(0, .ref 216), (1, .int a0), (2, .int s3.1)], [.int 60, .int s3.1], am_SH, (g, s3.2))) rfl ?_
    rcases am_ite h with ⟨c45, h⟩ | ⟨c45, h⟩
    · refine am_Ev.t hcd (c := s3.1 < 60) (s1 := (13, [(0, .ref 216), (1, .int a0), (2, .int s3.1)], [], am_SH, (g, s3.2))) rfl c45 ?_
      refine am_Ev.go hcd 5 (s' := (18, [(0, .ref 216), (1, .int a0), (2, .int s3.1)], [.int (27 + a0), .ref 217], am_SH, (g, s3.2))) rfl ?_
      obtain ⟨c48, h⟩ := am_grd h
      refine am_Ev.t hcd (o := none) (c := am_in (27 + a0) 2008 = true) (s1 := (19, [(0, .ref 216), (1, .int a0), (2, .int s3.1)], [.int (s3.2 217 (27 + a0).toNatClampNeg)], am_SH, (g, s3.2))) rfl c48 ?_
      refine am_Ev.go hcd 5 (s' := (24, [(0, .ref 216), (1, .int a0), (2, .int s3.1)], [.int (27 + a0), .ref 220, .int (s3.2 217 (27 + a0).toNatClampNeg)], am_SH, (g, s3.2))) rfl ?_
      obtain ⟨c51, h⟩ := am_grd h
      refine am_Ev.t hcd (o := none) (c := am_in (27 + a0) 69 = true) (s1 := (25, [(0, .ref 216), (1, .int a0), (2, .int s3.1)], [.int (s3.2 220 (27 + a0).toNatClampNeg), .int (s3.2 217 (27 + a0).toNatClampNeg)], am_SH, (g, s3.2))) rfl c51 ?_
      rcases am_ite h with ⟨c54, h⟩ | ⟨c54, h⟩
      · refine am_Ev.t hcd (c := s3.2 217 (27 + a0).toNatClampNeg = s3.2 220 (27 + a0).toNatClampNeg) (s1 := (26, [(0, .ref 216), (1, .int a0), (2, .int s3.1)], [], am_SH, (g, s3.2))) rfl c54 ?_
        refine am_Ev.go hcd 1 (s' := (27, [(0, .ref 216), (1, .int a0), (2, .int s3.1)], [.ref 216], am_SH, (g, s3.2))) rfl ?_
        obtain ⟨p4, hp4, h⟩ := am_bind_some h
        refine am_Ev.call hcd (a := 248) (s0 := (0, [(0, .ref 216)], [], am_SH, (g, s3.2))) (q := ((some (.int p4.1)), am_SH, (g, p4.2))) (s1 := (28, [(0, .ref 216), (1, .int a0), (2, .int s3.1)], [.int p4.1], am_SH, (g, p4.2))) rfl rfl (m_goesBy_ok (d)  s3.2 g p4 hp4) ?_
        obtain ⟨t5, Et5, h⟩ := am_let_eq h
        refine am_Ev.go hcd 2 (s' := (30, [(0, .ref 216), (1, .int a0), (2, .int t5)], [], am_SH, (g, p4.2))) (by subst Et5; exact rfl) ?_
        refine am_Ev.go hcd 1 (s' := (10, [(0, .ref 216), (1, .int a0), (2, .int t5)], [], am_SH, (g, p4.2))) rfl ?_
        exact am_Ev.weak' (hI3 (t5, p4.2) (Option.some.inj h).symm) (am_sub_cons rfl (am_sub_cons rfl (am_sub_cons rfl am_sub_nil))) rfl
      · refine am_Ev.f hcd (c := s3.2 217 (27 + a0).toNatClampNeg = s3.2 220 (27 + a0).toNatClampNeg) (s1 := (31, [(0, .ref 216), (1, .int a0), (2, .int s3.1)], [], am_SH, (g, s3.2))) rfl c54 ?_
        exact am_Ev.weak' (hZ3 (s3.1, s3.2) (Option.some.inj h).symm) (am_sub_cons rfl (am_sub_cons rfl (am_sub_cons rfl am_sub_nil))) rfl
    · refine am_Ev.f hcd (c := s3.1 < 60) (s1 := (31, [(0, .ref 216), (1, .int a0), (2, .int s3.1)], [], am_SH, (g, s3.2))) rfl c45 ?_
      exact am_Ev.weak' (hZ3 (s3.1, s3.2) (Option.some.inj h).symm) (am_sub_cons rfl (am_sub_cons rfl (am_sub_cons rfl am_sub_nil))) rfl
  · refine am_Ev.t hcd (c := am_b (m_isGlass a0 f) = 0) (s1 := (4, [(0, .ref 216), (1, .int a0)], [], am_SH, (g, f))) rfl (am_b_f c4) ?_
    refine am_Ev.go hcd 1 (s' := (5, [(0, .ref 216), (1, .int a0)], [.int (-1)], am_SH, (g, f))) rfl ?_
    exact am_Ev.cast (a := ((some (.int ((-1), f).1)), am_SH, (g, ((-1), f).2))) (by cases h; rfl) (am_Ev.ret hcd rfl)
set_option maxRecDepth 100000 in
set_option maxHeartbeats 4000000 in
theorem m_hottest_ok {sc : Nat × (Nat → Int32)} (d : Nat) (a0 : Int32) (a1 : Int32) (f g : (Nat → Nat → Int32)) (r : Int32 × (Nat → Nat → Int32)) (h : m_hottest a0 a1 f = some r) : am_Ev sc (d + 5) 259 (0, [(0, .ref 216), (1, .int a0), (2, .int a1)], [], am_SH, (g, f)) ((some (.int r.1)), am_SH, (g, r.2)) := by
  have hcd : am_code 259 = am_c259 := rfl
  unfold m_hottest at h
  refine am_Ev.go hcd 2 (s' := (2, [(0, .ref 216), (1, .int a0), (2, .int a1)], [.int a0, .ref 216], am_SH, (g, f))) rfl ?_
  refine am_Ev.call hcd (a := 181) (s0 := (0, [(0, .ref 216), (1, .int a0)], [], am_SH, (g, f))) (q := ((some (.int (am_b (m_isGlass a0 f)))), am_SH, (g, f))) (s1 := (3, [(0, .ref 216), (1, .int a0), (2, .int a1)], [.int (am_b (m_isGlass a0 f))], am_SH, (g, f))) rfl rfl (m_isGlass_ok (d + 3) a0 f g) ?_
  rcases am_ite h with ⟨c4, h⟩ | ⟨c4, h⟩
  · refine am_Ev.f hcd (c := am_b (m_isGlass a0 f) = 0) (s1 := (4, [(0, .ref 216), (1, .int a0), (2, .int a1)], [], am_SH, (g, f))) rfl (am_b_t c4) ?_
    refine am_Ev.go hcd 5 (s' := (9, [(0, .ref 216), (1, .int a0), (2, .int a1)], [.int (15 + a0), .ref 217], am_SH, (g, f))) rfl ?_
    obtain ⟨c6, h⟩ := am_grd h
    refine am_Ev.t hcd (o := none) (c := am_in (15 + a0) 2008 = true) (s1 := (10, [(0, .ref 216), (1, .int a0), (2, .int a1)], [.int (f 217 (15 + a0).toNatClampNeg)], am_SH, (g, f))) rfl c6 ?_
    refine am_Ev.go hcd 1 (s' := (11, [(0, .ref 216), (1, .int a0), (2, .int a1)], [.int (-1), .int (f 217 (15 + a0).toNatClampNeg)], am_SH, (g, f))) rfl ?_
    rcases am_ite h with ⟨c9, h⟩ | ⟨c9, h⟩
    · refine am_Ev.t hcd (c := f 217 (15 + a0).toNatClampNeg = (-1)) (s1 := (17, [(0, .ref 216), (1, .int a0), (2, .int a1)], [], am_SH, (g, f))) rfl c9 ?_
      refine am_Ev.go hcd 1 (s' := (18, [(0, .ref 216), (1, .int a0), (2, .int a1)], [.int (-1)], am_SH, (g, f))) rfl ?_
      exact am_Ev.cast (a := ((some (.int ((-1), f).1)), am_SH, (g, ((-1), f).2))) (by cases h; rfl) (am_Ev.ret hcd rfl)
    · refine am_Ev.f hcd (c := f 217 (15 + a0).toNatClampNeg = (-1)) (s1 := (12, [(0, .ref 216), (1, .int a0), (2, .int a1)], [], am_SH, (g, f))) rfl c9 ?_
      refine am_Ev.go hcd 3 (s' := (15, [(0, .ref 216), (1, .int a0), (2, .int a1)], [.int 1, .int 0, .int a1], am_SH, (g, f))) rfl ?_
      refine am_Ev.call hcd (a := 176) (s0 := (0, [(0, .int a1), (1, .int 0), (2, .int 1)], [], am_SH, (g, f))) (q := ((some (.int (am_b (m_isIn a1 0 1)))), am_SH, (g, f))) (s1 := (16, [(0, .ref 216), (1, .int a0), (2, .int a1)], [.int (am_b (m_isIn a1 0 1))], am_SH, (g, f))) rfl rfl (m_isIn_ok (d + 4) a1 0 1 (g, f)) ?_
      rcases am_ite h with ⟨c17, h⟩ | ⟨c17, h⟩
      · refine am_Ev.f hcd (c := am_b (m_isIn a1 0 1) = 0) (s1 := (19, [(0, .ref 216), (1, .int a0), (2, .int a1)], [], am_SH, (g, f))) rfl (am_b_t c17) ?_
        refine am_Ev.go hcd 4 (s' := (23, [(0, .ref 216), (1, .int a0), (2, .int a1), (3, .int 0), (4, .int 1)], [], am_SH, (g, f))) rfl ?_
        obtain ⟨e8, he8, h⟩ := am_bind_some h
        have hK3 : (fun (e8 : Int32 × (Nat → Nat → Int32)) => am_Ev sc (d + 5) 259 (41, [(0, .ref 216), (1, .int a0), (2, .int a1), (3, .int e8.1)], [], am_SH, (g, e8.2)) ((some (.int r.1)), am_SH, (g, r.2))) e8 := by
          show am_Ev sc (d + 5) 259 (41, [(0, .ref 216), (1, .int a0), (2, .int a1), (3, .int e8.1)], [], am_SH, (g, e8.2)) ((some (.int r.1)), am_SH, (g, r.2))
          refine am_Ev.go hcd 1 (s' := (42, [(0, .ref 216), (1, .int a0), (2, .int a1), (3, .int e8.1)], [.int a1], am_SH, (g, e8.2))) rfl ?_
          rcases am_ite h with ⟨c23, h⟩ | ⟨c23, h⟩
          · refine am_Ev.t hcd (c := a1 = 0) (s1 := (43, [(0, .ref 216), (1, .int a0), (2, .int a1), (3, .int e8.1)], [], am_SH, (g, e8.2))) rfl c23 ?_
            refine am_Ev.go hcd 2 (s' := (49, [(0, .ref 216), (1, .int a0), (2, .int a1), (3, .int e8.1)], [.int e8.1], am_SH, (g, e8.2))) rfl ?_
            exact am_Ev.cast (a := ((some (.int (e8.1, e8.2).1)), am_SH, (g, (e8.1, e8.2).2))) (by cases h; rfl) (am_Ev.ret hcd rfl)
          · refine am_Ev.f hcd (c := a1 = 0) (s1 := (45, [(0, .ref 216), (1, .int a0), (2, .int a1), (3, .int e8.1)], [], am_SH, (g, e8.2))) rfl c23 ?_
            refine am_Ev.go hcd 3 (s' := (48, [(0, .ref 216), (1, .int a0), (2, .int a1), (3, .int e8.1)], [.int e8.1, .int a0, .ref 216], am_SH, (g, e8.2))) rfl ?_
            obtain ⟨p9, hp9, h⟩ := am_bind_some h
            refine am_Ev.call hcd (a := 233) (s0 := (0, [(0, .ref 216), (1, .int a0), (2, .int e8.1)], [], am_SH, (g, e8.2))) (q := ((some (.int p9.1)), am_SH, (g, p9.2))) (s1 := (49, [(0, .ref 216), (1, .int a0), (2, .int a1), (3, .int e8.1)], [.int p9.1], am_SH, (g, p9.2))) rfl rfl (m_warmsOf_ok (d) a0 e8.1 e8.2 g p9 hp9) ?_
            exact am_Ev.cast (a := ((some (.int (p9.1, p9.2).1)), am_SH, (g, (p9.1, p9.2).2))) (by cases h; rfl) (am_Ev.ret hcd rfl)
        refine am_Ev.weak' (am_loop_ok (G := fun (s3 : Int32 × Int32 × (Nat → Nat → Int32)) => am_Ev sc (d + 5) 259 (23, [(0, .ref 216), (1, .int a0), (2, .int a1), (3, .int s3.1), (4, .int s3.2.1)], [], am_SH, (g, s3.2.2)) ((some (.int r.1)), am_SH, (g, r.2))) (Z := fun (e8 : Int32 × (Nat → Nat → Int32)) => am_Ev sc (d + 5) 259 (41, [(0, .ref 216), (1, .int a0), (2, .int a1), (3, .int e8.1)], [], am_SH, (g, e8.2)) ((some (.int r.1)), am_SH, (g, r.2))) ?_ am_F (0, 1, f) e8 he8 hK3) (am_sub_cons rfl (am_sub_cons rfl (am_sub_cons rfl (am_sub_cons rfl (am_sub_cons rfl am_sub_nil))))) rfl
        intro s3 q3 h hI3 hZ3
        show am_Ev sc (d + 5) 259 (23, [(0, .ref 216), (1, .int a0), (2, .int a1), (3, .int s3.1), (4, .int s3.2.1)], [], am_SH, (g, s3.2.2)) ((some (.int r.1)), am_SH, (g, r.2))
        refine am_Ev.go hcd 2 (s' := (25, [(0, .ref 216), (1, .int a0), (2, .int a1), (3, .int s3.1), (4, .int s3.2.1)], [.int 16, .int s3.2.1], am_SH, (g, s3.2.2))) rfl ?_
        rcases am_ite h with ⟨c36, h⟩ | ⟨c36, h⟩
        · refine am_Ev.t hcd (c := s3.2.1 < 16) (s1 := (26, [(0, .ref 216), (1, .int a0), (2, .int a1), (3, .int s3.1), (4, .int s3.2.1)], [], am_SH, (g, s3.2.2))) rfl c36 ?_
          refine am_Ev.go hcd 3 (s' := (29, [(0, .ref 216), (1, .int a0), (2, .int a1), (3, .int s3.1), (4, .int s3.2.1)], [.int s3.2.1, .int a0, .ref 216], am_SH, (g, s3.2.2))) rfl ?_
          obtain ⟨p4, hp4, h⟩ := am_bind_some h
          refine am_Ev.call hcd (a := 233) (s0 := (0, [(0, .ref 216), (1, .int a0), (2, .int s3.2.1)], [], am_SH, (g, s3.2.2))) (q := ((some (.int p4.1)), am_SH, (g, p4.2))) (s1 := (30, [(0, .ref 216), (1, .int a0), (2, .int a1), (3, .int s3.1), (4, .int s3.2.1)], [.int p4.1], am_SH, (g, p4.2))) rfl rfl (m_warmsOf_ok (d) a0 s3.2.1 s3.2.2 g p4 hp4) ?_
          refine am_Ev.go hcd 3 (s' := (33, [(0, .ref 216), (1, .int a0), (2, .int a1), (3, .int s3.1), (4, .int s3.2.1)], [.int s3.1, .int a0, .ref 216, .int p4.1], am_SH, (g, p4.2))) rfl ?_
          obtain ⟨p5, hp5, h⟩ := am_bind_some h
          refine am_Ev.call hcd (a := 233) (s0 := (0, [(0, .ref 216), (1, .int a0), (2, .int s3.1)], [], am_SH, (g, p4.2))) (q := ((some (.int p5.1)), am_SH, (g, p5.2))) (s1 := (34, [(0, .ref 216), (1, .int a0), (2, .int a1), (3, .int s3.1), (4, .int s3.2.1)], [.int p5.1, .int p4.1], am_SH, (g, p5.2))) rfl rfl (m_warmsOf_ok (d) a0 s3.1 p4.2 g p5 hp5) ?_
          obtain ⟨t6, ht6, kt6⟩ := am_let_eq h
          have hKt6 : am_Ev sc (d + 5) 259 (38, [(0, .ref 216), (1, .int a0), (2, .int a1), (4, .int s3.2.1)], [.int t6], am_SH, (g, p5.2)) ((some (.int r.1)), am_SH, (g, r.2)) := by
            have h := kt6
            obtain ⟨t7, Et7, h⟩ := am_let_eq h
            refine am_Ev.go hcd 2 (s' := (40, [(0, .ref 216), (1, .int a0), (2, .int a1), (3, .int t6), (4, .int t7)], [], am_SH, (g, p5.2))) (by subst Et7; exact rfl) ?_
            refine am_Ev.go hcd 1 (s' := (23, [(0, .ref 216), (1, .int a0), (2, .int a1), (3, .int t6), (4, .int t7)], [], am_SH, (g, p5.2))) rfl ?_
            exact am_Ev.weak' (hI3 (t6, t7, p5.2) (Option.some.inj h).symm) (am_sub_cons rfl (am_sub_cons rfl (am_sub_cons rfl (am_sub_cons rfl (am_sub_cons rfl am_sub_nil))))) rfl
          have hLt6 : ∀ tt, tt = t6 → am_Ev sc (d + 5) 259 (38, [(0, .ref 216), (1, .int a0), (2, .int a1), (4, .int s3.2.1)], [.int tt], am_SH, (g, p5.2)) ((some (.int r.1)), am_SH, (g, r.2)) := fun tt htt => by subst htt; exact hKt6
          have h := ht6
          rcases am_itv h with ⟨c54, h⟩ | ⟨c54, h⟩
          · refine am_Ev.t hcd (c := p5.1 < p4.1) (s1 := (35, [(0, .ref 216), (1, .int a0), (2, .int a1), (3, .int s3.1), (4, .int s3.2.1)], [], am_SH, (g, p5.2))) rfl c54 ?_
            refine am_Ev.go hcd 2 (s' := (38, [(0, .ref 216), (1, .int a0), (2, .int a1), (3, .int s3.1), (4, .int s3.2.1)], [.int s3.2.1], am_SH, (g, p5.2))) rfl ?_
            exact am_Ev.weak' (hLt6 s3.2.1 h.symm) (am_sub_cons rfl (am_sub_cons rfl (am_sub_cons rfl (am_sub_cons rfl am_sub_nil)))) rfl
          · refine am_Ev.f hcd (c := p5.1 < p4.1) (s1 := (37, [(0, .ref 216), (1, .int a0), (2, .int a1), (3, .int s3.1), (4, .int s3.2.1)], [], am_SH, (g, p5.2))) rfl c54 ?_
            refine am_Ev.go hcd 1 (s' := (38, [(0, .ref 216), (1, .int a0), (2, .int a1), (3, .int s3.1), (4, .int s3.2.1)], [.int s3.1], am_SH, (g, p5.2))) rfl ?_
            exact am_Ev.weak' (hLt6 s3.1 h.symm) (am_sub_cons rfl (am_sub_cons rfl (am_sub_cons rfl (am_sub_cons rfl am_sub_nil)))) rfl
        · refine am_Ev.f hcd (c := s3.2.1 < 16) (s1 := (41, [(0, .ref 216), (1, .int a0), (2, .int a1), (3, .int s3.1), (4, .int s3.2.1)], [], am_SH, (g, s3.2.2))) rfl c36 ?_
          exact am_Ev.weak' (hZ3 (s3.1, s3.2.2) (Option.some.inj h).symm) (am_sub_cons rfl (am_sub_cons rfl (am_sub_cons rfl (am_sub_cons rfl am_sub_nil)))) rfl
      · refine am_Ev.t hcd (c := am_b (m_isIn a1 0 1) = 0) (s1 := (17, [(0, .ref 216), (1, .int a0), (2, .int a1)], [], am_SH, (g, f))) rfl (am_b_f c17) ?_
        refine am_Ev.go hcd 1 (s' := (18, [(0, .ref 216), (1, .int a0), (2, .int a1)], [.int (-1)], am_SH, (g, f))) rfl ?_
        exact am_Ev.cast (a := ((some (.int ((-1), f).1)), am_SH, (g, ((-1), f).2))) (by cases h; rfl) (am_Ev.ret hcd rfl)
  · refine am_Ev.t hcd (c := am_b (m_isGlass a0 f) = 0) (s1 := (17, [(0, .ref 216), (1, .int a0), (2, .int a1)], [], am_SH, (g, f))) rfl (am_b_f c4) ?_
    refine am_Ev.go hcd 1 (s' := (18, [(0, .ref 216), (1, .int a0), (2, .int a1)], [.int (-1)], am_SH, (g, f))) rfl ?_
    exact am_Ev.cast (a := ((some (.int ((-1), f).1)), am_SH, (g, ((-1), f).2))) (by cases h; rfl) (am_Ev.ret hcd rfl)
set_option maxRecDepth 100000 in
set_option maxHeartbeats 4000000 in
theorem m_endsRow_ok {sc : Nat × (Nat → Int32)} (d : Nat) (a0 : Int32) (f g : (Nat → Nat → Int32)) (r : Int32 × (Nat → Nat → Int32)) (h : m_endsRow a0 f = some r) : am_Ev sc (d) 262 (0, [(0, .ref 216), (1, .int a0)], [], am_SH, (g, f)) ((some (.int r.1)), am_SH, (g, r.2)) := by
  have hcd : am_code 262 = am_c262 := rfl
  unfold m_endsRow at h
  refine am_Ev.go hcd 4 (s' := (4, [(0, .ref 216), (1, .int a0)], [.int 0, .int a0, .ref 217], am_SH, (g, f))) rfl ?_
  obtain ⟨c2, h⟩ := am_grd h
  obtain ⟨f1, Ef1, h⟩ := am_let_eq h
  refine am_Ev.t hcd (o := none) (c := am_in a0 2008 = true) (s1 := (5, [(0, .ref 216), (1, .int a0)], [], am_SH, (g, f1))) (by subst Ef1; exact rfl) c2 ?_
  refine am_Ev.go hcd 1 (s' := (6, [(0, .ref 216), (1, .int a0)], [.int 0], am_SH, (g, f1))) rfl ?_
  exact am_Ev.cast (a := ((some (.int (0, f1).1)), am_SH, (g, (0, f1).2))) (by cases h; rfl) (am_Ev.ret hcd rfl)
