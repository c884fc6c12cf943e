set_option maxRecDepth 100000 in
set_option maxHeartbeats 4000000 in
theorem m_shown_ok {sc : Nat × (Nat → Int32)} (d : Nat) (a0 : Int32) (f g : (Nat → Nat → Int32)) (r : Int32 × (Nat → Nat → Int32)) (h : m_shown a0 f = some r) : am_Ev sc (d + 1) 284 (0, [(0, .ref 216), (1, .int a0)], [], am_SH, (g, f)) ((some (.int r.1)), am_SH, (g, r.2)) := by
  have hcd : am_code 284 = am_c284 := rfl
  unfold m_shown at h
  refine am_Ev.go hcd 2 (s' := (2, [(0, .ref 216), (1, .int a0)], [.int (-1), .int a0], am_SH, (g, f))) rfl ?_
  rcases am_ite h with ⟨c2, h⟩ | ⟨c2, h⟩
  · refine am_Ev.t hcd (c := a0 = (-1)) (s1 := (3, [(0, .ref 216), (1, .int a0)], [], am_SH, (g, f))) rfl c2 ?_
    refine am_Ev.go hcd 2 (s' := (5, [(0, .ref 216), (1, .int a0)], [.int 464, .ref 216], am_SH, (g, f))) rfl ?_
    obtain ⟨p1, hp1, h⟩ := am_bind_some h
    refine am_Ev.call hcd (a := 262) (s0 := (0, [(0, .ref 216), (1, .int 464)], [], am_SH, (g, f))) (q := ((some (.int p1.1)), am_SH, (g, p1.2))) (s1 := (6, [(0, .ref 216), (1, .int a0)], [.int p1.1], am_SH, (g, p1.2))) rfl rfl (m_endsRow_ok (d) 464 f g p1 hp1) ?_
    refine am_Ev.go hcd 1 (s' := (19, [(0, .ref 216), (1, .int a0)], [.int p1.1], am_SH, (g, p1.2))) rfl ?_
    exact am_Ev.cast (a := ((some (.int (p1.1, p1.2).1)), am_SH, (g, (p1.1, p1.2).2))) (by cases h; rfl) (am_Ev.ret hcd rfl)
  · refine am_Ev.f hcd (c := a0 = (-1)) (s1 := (7, [(0, .ref 216), (1, .int a0)], [], am_SH, (g, f))) rfl c2 ?_
    refine am_Ev.go hcd 3 (s' := (10, [(0, .ref 216), (1, .int a0)], [.int 65535, .int 0, .int a0], am_SH, (g, f))) rfl ?_
    refine am_Ev.call hcd (a := 176) (s0 := (0, [(0, .int a0), (1, .int 0), (2, .int 65535)], [], am_SH, (g, f))) (q := ((some (.int (am_b (m_isIn a0 0 65535)))), am_SH, (g, f))) (s1 := (11, [(0, .ref 216), (1, .int a0)], [.int (am_b (m_isIn a0 0 65535))], am_SH, (g, f))) rfl rfl (m_isIn_ok (d) a0 0 65535 (g, f)) ?_
    rcases am_ite h with ⟨c13, h⟩ | ⟨c13, h⟩
    · refine am_Ev.f hcd (c := am_b (m_isIn a0 0 65535) = 0) (s1 := (12, [(0, .ref 216), (1, .int a0)], [], am_SH, (g, f))) rfl (am_b_t c13) ?_
      refine am_Ev.go hcd 4 (s' := (16, [(0, .ref 216), (1, .int a0)], [.int a0, .int 8, .int 464, .ref 216], am_SH, (g, f))) rfl ?_
      obtain ⟨p3, hp3, h⟩ := am_bind_some h
      refine am_Ev.call hcd (a := 260) (s0 := (0, [(0, .ref 216), (1, .int 464), (2, .int 8), (3, .int a0)], [], am_SH, (g, f))) (q := ((some (.int p3.1)), am_SH, (g, p3.2))) (s1 := (17, [(0, .ref 216), (1, .int a0)], [.int p3.1], am_SH, (g, p3.2))) rfl rfl (m_tellsOne_ok (d) 464 8 a0 f g p3 hp3) ?_
      refine am_Ev.go hcd 1 (s' := (19, [(0, .ref 216), (1, .int a0)], [.int p3.1], am_SH, (g, p3.2))) rfl ?_
      exact am_Ev.cast (a := ((some (.int (p3.1, p3.2).1)), am_SH, (g, (p3.1, p3.2).2))) (by cases h; rfl) (am_Ev.ret hcd rfl)
    · refine am_Ev.t hcd (c := am_b (m_isIn a0 0 65535) = 0) (s1 := (18, [(0, .ref 216), (1, .int a0)], [], am_SH, (g, f))) rfl (am_b_f c13) ?_
      refine am_Ev.go hcd 1 (s' := (19, [(0, .ref 216), (1, .int a0)], [.int (-1)], am_SH, (g, f))) rfl ?_
      exact am_Ev.cast (a := ((some (.int ((-1), f).1)), am_SH, (g, ((-1), f).2))) (by cases h; rfl) (am_Ev.ret hcd rfl)
set_option maxRecDepth 100000 in
set_option maxHeartbeats 4000000 in
theorem m_laidOn_ok {sc : Nat × (Nat → Int32)} (d : Nat) (a0 : Int32) (f g : (Nat → Nat → Int32)) (r : Int32) (h : m_laidOn a0 f = some r) : am_Ev sc (d) 285 (0, [(0, .ref 216), (1, .int a0)], [], am_SH, (g, f)) ((some (.int r)), am_SH, (g, f)) := by
  have hcd : am_code 285 = am_c285 := rfl
  unfold m_laidOn at h
  refine am_Ev.go hcd 4 (s' := (4, [(0, .ref 216), (1, .int a0), (2, .int 0), (3, .int 0)], [], am_SH, (g, f))) rfl ?_
  refine am_Ev.weak' (am_loop_ok (G := fun (s1 : Int32 × Int32) => am_Ev sc (d) 285 (4, [(0, .ref 216), (1, .int a0), (2, .int s1.1), (3, .int s1.2)], [], am_SH, (g, f)) ((some (.int r)), am_SH, (g, f))) (Z := fun (v : Int32) => (((some (.int v)), am_SH, (g, f)) : am_R) = ((some (.int r)), am_SH, (g, f))) ?_ am_F (0, 0) r h rfl) (am_sub_cons rfl (am_sub_cons rfl (am_sub_cons rfl (am_sub_cons rfl am_sub_nil)))) rfl
  intro s1 q1 h hI1 hZ1
  show am_Ev sc (d) 285 (4, [(0, .ref 216), (1, .int a0), (2, .int s1.1), (3, .int s1.2)], [], am_SH, (g, f)) ((some (.int r)), am_SH, (g, f))
  refine am_Ev.go hcd 5 (s' := (9, [(0, .ref 216), (1, .int a0), (2, .int s1.1), (3, .int s1.2)], [.int (f 217 464), .int s1.2], am_SH, (g, f))) rfl ?_
  rcases am_ite h with ⟨c6, h⟩ | ⟨c6, h⟩
  · refine am_Ev.t hcd (c := s1.2 < f 217 464) (s1 := (10, [(0, .ref 216), (1, .int a0), (2, .int s1.1), (3, .int s1.2)], [], am_SH, (g, f))) rfl c6 ?_
    obtain ⟨t2, ht2, kt2⟩ := am_bind_some h
    have hKt2 : am_Ev sc (d) 285 (26, [(0, .ref 216), (1, .int a0), (3, .int s1.2)], [.int t2, .int s1.1], am_SH, (g, f)) ((some (.int r)), am_SH, (g, f)) := by
      have h := kt2
      obtain ⟨t3, Et3, h⟩ := am_let_eq h
      refine am_Ev.go hcd 2 (s' := (28, [(0, .ref 216), (1, .int a0), (2, .int t3), (3, .int s1.2)], [], am_SH, (g, f))) (by subst Et3; exact rfl) ?_
      obtain ⟨t4, Et4, h⟩ := am_let_eq h
      refine am_Ev.go hcd 1 (s' := (29, [(0, .ref 216), (1, .int a0), (2, .int t3), (3, .int t4)], [], am_SH, (g, f))) (by subst Et4; exact rfl) ?_
      refine am_Ev.go hcd 1 (s' := (4, [(0, .ref 216), (1, .int a0), (2, .int t3), (3, .int t4)], [], am_SH, (g, f))) rfl ?_
      exact am_Ev.weak' (hI1 (t3, t4) (Option.some.inj h).symm) (am_sub_cons rfl (am_sub_cons rfl (am_sub_cons rfl (am_sub_cons rfl am_sub_nil)))) rfl
    have hLt2 : ∀ tt, tt = t2 → am_Ev sc (d) 285 (26, [(0, .ref 216), (1, .int a0), (3, .int s1.2)], [.int tt, .int s1.1], am_SH, (g, f)) ((some (.int r)), am_SH, (g, f)) := fun tt htt => by subst htt; exact hKt2
    have h := ht2
    refine am_Ev.go hcd 7 (s' := (17, [(0, .ref 216), (1, .int a0), (2, .int s1.1), (3, .int s1.2)], [.int 1, .int ((a0 >>> (s1.2 &&& 31)) &&& 1), .int s1.1], am_SH, (g, f))) rfl ?_
    rcases am_ite h with ⟨c20, h⟩ | ⟨c20, h⟩
    · refine am_Ev.t hcd (c := ((a0 >>> (s1.2 &&& 31)) &&& 1) = 1) (s1 := (18, [(0, .ref 216), (1, .int a0), (2, .int s1.1), (3, .int s1.2)], [.int s1.1], am_SH, (g, f))) rfl c20 ?_
      refine am_Ev.go hcd 5 (s' := (23, [(0, .ref 216), (1, .int a0), (2, .int s1.1), (3, .int s1.2)], [.int (465 + s1.2), .ref 217, .int s1.1], am_SH, (g, f))) rfl ?_
      obtain ⟨c23, h⟩ := am_grd h
      refine am_Ev.t hcd (o := none) (c := am_in (465 + s1.2) 2008 = true) (s1 := (24, [(0, .ref 216), (1, .int a0), (2, .int s1.1), (3, .int s1.2)], [.int (f 217 (465 + s1.2).toNatClampNeg), .int s1.1], am_SH, (g, f))) rfl c23 ?_
      refine am_Ev.go hcd 1 (s' := (26, [(0, .ref 216), (1, .int a0), (2, .int s1.1), (3, .int s1.2)], [.int (f 217 (465 + s1.2).toNatClampNeg), .int s1.1], am_SH, (g, f))) rfl ?_
      exact am_Ev.weak' (hLt2 (f 217 (465 + s1.2).toNatClampNeg) (Option.some.inj h)) (am_sub_cons rfl (am_sub_cons rfl (am_sub_cons rfl am_sub_nil))) rfl
    · refine am_Ev.f hcd (c := ((a0 >>> (s1.2 &&& 31)) &&& 1) = 1) (s1 := (25, [(0, .ref 216), (1, .int a0), (2, .int s1.1), (3, .int s1.2)], [.int s1.1], am_SH, (g, f))) rfl c20 ?_
      refine am_Ev.go hcd 1 (s' := (26, [(0, .ref 216), (1, .int a0), (2, .int s1.1), (3, .int s1.2)], [.int 0, .int s1.1], am_SH, (g, f))) rfl ?_
      exact am_Ev.weak' (hLt2 0 (Option.some.inj h)) (am_sub_cons rfl (am_sub_cons rfl (am_sub_cons rfl am_sub_nil))) rfl
  · refine am_Ev.f hcd (c := s1.2 < f 217 464) (s1 := (30, [(0, .ref 216), (1, .int a0), (2, .int s1.1), (3, .int s1.2)], [], am_SH, (g, f))) rfl c6 ?_
    refine am_Ev.go hcd 1 (s' := (31, [(0, .ref 216), (1, .int a0), (2, .int s1.1), (3, .int s1.2)], [.int s1.1], am_SH, (g, f))) rfl ?_
    exact am_Ev.cast (a := ((some (.int s1.1)), am_SH, (g, f))) (hZ1 _ (Option.some.inj h).symm) (am_Ev.ret hcd rfl)
set_option maxRecDepth 100000 in
set_option maxHeartbeats 4000000 in
theorem m_rank_ok {sc : Nat × (Nat → Int32)} (d : Nat)  (f g : (Nat → Nat → Int32)) (r : Int32) (h : m_rank  f = some r) : am_Ev sc (d + 1) 287 (0, [(0, .ref 216)], [], am_SH, (g, f)) ((some (.int r)), am_SH, (g, f)) := by
  have hcd : am_code 287 = am_c287 := rfl
  unfold m_rank at h
  refine am_Ev.go hcd 4 (s' := (4, [(0, .ref 216), (1, .int 0), (2, .int 0)], [], am_SH, (g, f))) rfl ?_
  obtain ⟨e6, he6, h⟩ := am_bind_some h
  have hK1 : (fun (e6 : Int32) => am_Ev sc (d + 1) 287 (24, [(0, .ref 216), (1, .int e6)], [], am_SH, (g, f)) ((some (.int r)), am_SH, (g, f))) e6 := by
    show am_Ev sc (d + 1) 287 (24, [(0, .ref 216), (1, .int e6)], [], am_SH, (g, f)) ((some (.int r)), am_SH, (g, f))
    obtain ⟨t7, Et7, h⟩ := am_let_eq h
    refine am_Ev.go hcd 5 (s' := (29, [(0, .ref 216), (1, .int e6), (2, .int t7)], [], am_SH, (g, f))) (by subst Et7; exact rfl) ?_
    refine am_Ev.weak' (am_loop_ok (G := fun (s8 : Int32 × Int32) => am_Ev sc (d + 1) 287 (29, [(1, .int s8.1), (2, .int s8.2)], [], am_SH, (g, f)) ((some (.int r)), am_SH, (g, f))) (Z := fun (v : Int32) => (((some (.int v)), am_SH, (g, f)) : am_R) = ((some (.int r)), am_SH, (g, f))) ?_ am_F (e6, t7) r h rfl) (am_sub_cons rfl (am_sub_cons rfl am_sub_nil)) rfl
    intro s8 q8 h hI8 hZ8
    show am_Ev sc (d + 1) 287 (29, [(1, .int s8.1), (2, .int s8.2)], [], am_SH, (g, f)) ((some (.int r)), am_SH, (g, f))
    refine am_Ev.go hcd 2 (s' := (31, [(1, .int s8.1), (2, .int s8.2)], [.int 1, .int s8.1], am_SH, (g, f))) rfl ?_
    rcases am_ite h with ⟨c11, h⟩ | ⟨c11, h⟩
    · refine am_Ev.t hcd (c := 1 < s8.1) (s1 := (32, [(1, .int s8.1), (2, .int s8.2)], [], am_SH, (g, f))) rfl c11 ?_
      obtain ⟨t9, Et9, h⟩ := am_let_eq h
      refine am_Ev.go hcd 4 (s' := (36, [(1, .int t9), (2, .int s8.2)], [], am_SH, (g, f))) (by subst Et9; exact rfl) ?_
      obtain ⟨t10, Et10, h⟩ := am_let_eq h
      refine am_Ev.go hcd 1 (s' := (37, [(1, .int t9), (2, .int t10)], [], am_SH, (g, f))) (by subst Et10; exact rfl) ?_
      refine am_Ev.go hcd 1 (s' := (29, [(1, .int t9), (2, .int t10)], [], am_SH, (g, f))) rfl ?_
      exact am_Ev.weak' (hI8 (t9, t10) (Option.some.inj h).symm) (am_sub_cons rfl (am_sub_cons rfl am_sub_nil)) rfl
    · refine am_Ev.f hcd (c := 1 < s8.1) (s1 := (38, [(1, .int s8.1), (2, .int s8.2)], [], am_SH, (g, f))) rfl c11 ?_
      refine am_Ev.go hcd 1 (s' := (39, [(1, .int s8.1), (2, .int s8.2)], [.int s8.2], am_SH, (g, f))) rfl ?_
      exact am_Ev.cast (a := ((some (.int s8.2)), am_SH, (g, f))) (hZ8 _ (Option.some.inj h).symm) (am_Ev.ret hcd rfl)
  refine am_Ev.weak' (am_loop_ok (G := fun (s1 : Int32 × Int32) => am_Ev sc (d + 1) 287 (4, [(0, .ref 216), (1, .int s1.1), (2, .int s1.2)], [], am_SH, (g, f)) ((some (.int r)), am_SH, (g, f))) (Z := fun (e6 : Int32) => am_Ev sc (d + 1) 287 (24, [(0, .ref 216), (1, .int e6)], [], am_SH, (g, f)) ((some (.int r)), am_SH, (g, f))) ?_ am_F (0, 0) e6 he6 hK1) (am_sub_cons rfl (am_sub_cons rfl (am_sub_cons rfl am_sub_nil))) rfl
  intro s1 q1 h hI1 hZ1
  show am_Ev sc (d + 1) 287 (4, [(0, .ref 216), (1, .int s1.1), (2, .int s1.2)], [], am_SH, (g, f)) ((some (.int r)), am_SH, (g, f))
  refine am_Ev.go hcd 7 (s' := (11, [(0, .ref 216), (1, .int s1.1), (2, .int s1.2)], [.int (1 <<< ((f 217 464) &&& 31)), .int s1.2], am_SH, (g, f))) rfl ?_
  rcases am_ite h with ⟨c26, h⟩ | ⟨c26, h⟩
  · refine am_Ev.t hcd (c := s1.2 < (1 <<< ((f 217 464) &&& 31))) (s1 := (12, [(0, .ref 216), (1, .int s1.1), (2, .int s1.2)], [], am_SH, (g, f))) rfl c26 ?_
    refine am_Ev.go hcd 3 (s' := (15, [(0, .ref 216), (1, .int s1.1), (2, .int s1.2)], [.int s1.2, .ref 216, .int s1.1], am_SH, (g, f))) rfl ?_
    obtain ⟨p2, hp2, h⟩ := am_bind_some h
    refine am_Ev.call hcd (a := 285) (s0 := (0, [(0, .ref 216), (1, .int s1.2)], [], am_SH, (g, f))) (q := ((some (.int p2)), am_SH, (g, f))) (s1 := (16, [(0, .ref 216), (1, .int s1.1), (2, .int s1.2)], [.int p2, .int s1.1], am_SH, (g, f))) rfl rfl (m_laidOn_ok (d) s1.2 f g p2 hp2) ?_
    obtain ⟨t3, ht3, kt3⟩ := am_let_eq h
    have hKt3 : am_Ev sc (d + 1) 287 (20, [(0, .ref 216), (2, .int s1.2)], [.int (am_b t3), .int s1.1], am_SH, (g, f)) ((some (.int r)), am_SH, (g, f)) := by
      have h := kt3
      obtain ⟨t4, Et4, h⟩ := am_let_eq h
      refine am_Ev.go hcd 2 (s' := (22, [(0, .ref 216), (1, .int t4), (2, .int s1.2)], [], am_SH, (g, f))) (by subst Et4; exact rfl) ?_
      obtain ⟨t5, Et5, h⟩ := am_let_eq h
      refine am_Ev.go hcd 1 (s' := (23, [(0, .ref 216), (1, .int t4), (2, .int t5)], [], am_SH, (g, f))) (by subst Et5; exact rfl) ?_
      refine am_Ev.go hcd 1 (s' := (4, [(0, .ref 216), (1, .int t4), (2, .int t5)], [], am_SH, (g, f))) rfl ?_
      exact am_Ev.weak' (hI1 (t4, t5) (Option.some.inj h).symm) (am_sub_cons rfl (am_sub_cons rfl (am_sub_cons rfl am_sub_nil))) rfl
    have hLt3 : ∀ tt, tt = t3 → am_Ev sc (d + 1) 287 (20, [(0, .ref 216), (2, .int s1.2)], [.int (am_b tt), .int s1.1], am_SH, (g, f)) ((some (.int r)), am_SH, (g, f)) := fun tt htt => by subst htt; exact hKt3
    have h := ht3
    rcases am_itv h with ⟨c43, h⟩ | ⟨c43, h⟩
    · refine am_Ev.t hcd (c := p2 = 0) (s1 := (17, [(0, .ref 216), (1, .int s1.1), (2, .int s1.2)], [.int s1.1], am_SH, (g, f))) rfl c43 ?_
      refine am_Ev.go hcd 2 (s' := (20, [(0, .ref 216), (1, .int s1.1), (2, .int s1.2)], [.int 1, .int s1.1], am_SH, (g, f))) rfl ?_
      exact am_Ev.weak' (hLt3 true h.symm) (am_sub_cons rfl (am_sub_cons rfl am_sub_nil)) rfl
    · refine am_Ev.f hcd (c := p2 = 0) (s1 := (19, [(0, .ref 216), (1, .int s1.1), (2, .int s1.2)], [.int s1.1], am_SH, (g, f))) rfl c43 ?_
      refine am_Ev.go hcd 1 (s' := (20, [(0, .ref 216), (1, .int s1.1), (2, .int s1.2)], [.int 0, .int s1.1], am_SH, (g, f))) rfl ?_
      exact am_Ev.weak' (hLt3 false h.symm) (am_sub_cons rfl (am_sub_cons rfl am_sub_nil)) rfl
  · refine am_Ev.f hcd (c := s1.2 < (1 <<< ((f 217 464) &&& 31))) (s1 := (24, [(0, .ref 216), (1, .int s1.1), (2, .int s1.2)], [], am_SH, (g, f))) rfl c26 ?_
    exact am_Ev.weak' (hZ1 s1.1 (Option.some.inj h).symm) (am_sub_cons rfl (am_sub_cons rfl am_sub_nil)) rfl
set_option maxRecDepth 100000 in
set_option maxHeartbeats 4000000 in
theorem m_fewestFor_ok {sc : Nat × (Nat → Int32)} (d : Nat) (a0 : Int32) (f g : (Nat → Nat → Int32)) (r : Int32) (h : m_fewestFor a0 f = some r) : am_Ev sc (d + 1) 286 (0, [(0, .ref 216), (1, .int a0)], [], am_SH, (g, f)) ((some (.int r)), am_SH, (g, f)) := by
  have hcd : am_code 286 = am_c286 := rfl
  unfold m_fewestFor at h
  refine am_Ev.go hcd 4 (s' := (4, [(0, .ref 216), (1, .int a0), (2, .int (-1)), (3, .int 0)], [], am_SH, (g, f))) rfl ?_
  refine am_Ev.weak' (am_loop_ok (G := fun (s1 : Int32 × Int32) => am_Ev sc (d + 1) 286 (4, [(0, .ref 216), (1, .int a0), (2, .int s1.1), (3, .int s1.2)], [], am_SH, (g, f)) ((some (.int r)), am_SH, (g, f))) (Z := fun (v : Int32) => (((some (.int v)), am_SH, (g, f)) : am_R) = ((some (.int r)), am_SH, (g, f))) ?_ am_F ((-1), 0) r h rfl) (am_sub_cons rfl (am_sub_cons rfl (am_sub_cons rfl (am_sub_cons rfl am_sub_nil)))) rfl
  intro s1 q1 h hI1 hZ1
  show am_Ev sc (d + 1) 286 (4, [(0, .ref 216), (1, .int a0), (2, .int s1.1), (3, .int s1.2)], [], am_SH, (g, f)) ((some (.int r)), am_SH, (g, f))
  refine am_Ev.go hcd 7 (s' := (11, [(0, .ref 216), (1, .int a0), (2, .int s1.1), (3, .int s1.2)], [.int (1 <<< ((f 217 464) &&& 31)), .int s1.2], am_SH, (g, f))) rfl ?_
  rcases am_ite h with ⟨c6, h⟩ | ⟨c6, h⟩
  · refine am_Ev.t hcd (c := s1.2 < (1 <<< ((f 217 464) &&& 31))) (s1 := (12, [(0, .ref 216), (1, .int a0), (2, .int s1.1), (3, .int s1.2)], [], am_SH, (g, f))) rfl c6 ?_
    refine am_Ev.go hcd 2 (s' := (14, [(0, .ref 216), (1, .int a0), (2, .int s1.1), (3, .int s1.2)], [.int s1.2, .ref 216], am_SH, (g, f))) rfl ?_
    obtain ⟨p2, hp2, h⟩ := am_bind_some h
    refine am_Ev.call hcd (a := 285) (s0 := (0, [(0, .ref 216), (1, .int s1.2)], [], am_SH, (g, f))) (q := ((some (.int p2)), am_SH, (g, f))) (s1 := (15, [(0, .ref 216), (1, .int a0), (2, .int s1.1), (3, .int s1.2)], [.int p2], am_SH, (g, f))) rfl rfl (m_laidOn_ok (d) s1.2 f g p2 hp2) ?_
    obtain ⟨t6, ht6, kt6⟩ := am_bind_some h
    have hKt6 : am_Ev sc (d + 1) 286 (27, [(0, .ref 216), (1, .int a0), (2, .int t6), (3, .int s1.2)], [], am_SH, (g, f)) ((some (.int r)), am_SH, (g, f)) := by
      have h := kt6
      obtain ⟨t7, Et7, h⟩ := am_let_eq h
      refine am_Ev.go hcd 1 (s' := (28, [(0, .ref 216), (1, .int a0), (2, .int t6), (3, .int t7)], [], am_SH, (g, f))) (by subst Et7; exact rfl) ?_
      refine am_Ev.go hcd 1 (s' := (4, [(0, .ref 216), (1, .int a0), (2, .int t6), (3, .int t7)], [], am_SH, (g, f))) rfl ?_
      exact am_Ev.weak' (hI1 (t6, t7) (Option.some.inj h).symm) (am_sub_cons rfl (am_sub_cons rfl (am_sub_cons rfl (am_sub_cons rfl am_sub_nil)))) rfl
    have hLt6 : ∀ tt, tt = t6 → am_Ev sc (d + 1) 286 (27, [(0, .ref 216), (1, .int a0), (2, .int tt), (3, .int s1.2)], [], am_SH, (g, f)) ((some (.int r)), am_SH, (g, f)) := fun tt htt => by subst htt; exact hKt6
    have h := ht6
    refine am_Ev.go hcd 1 (s' := (16, [(0, .ref 216), (1, .int a0), (2, .int s1.1), (3, .int s1.2)], [.int a0, .int p2], am_SH, (g, f))) rfl ?_
    rcases am_ite h with ⟨c21, h⟩ | ⟨c21, h⟩
    · refine am_Ev.t hcd (c := p2 = a0) (s1 := (17, [(0, .ref 216), (1, .int a0), (2, .int s1.1), (3, .int s1.2)], [], am_SH, (g, f))) rfl c21 ?_
      refine am_Ev.go hcd 2 (s' := (19, [(0, .ref 216), (1, .int a0), (2, .int s1.1), (3, .int s1.2)], [.int (-1), .int s1.1], am_SH, (g, f))) rfl ?_
      rcases am_ite h with ⟨c24, h⟩ | ⟨c24, h⟩
      · refine am_Ev.t hcd (c := s1.1 = (-1)) (s1 := (24, [(0, .ref 216), (1, .int a0), (2, .int s1.1), (3, .int s1.2)], [], am_SH, (g, f))) rfl c24 ?_
        refine am_Ev.go hcd 1 (s' := (25, [(0, .ref 216), (1, .int a0), (2, .int s1.1), (3, .int s1.2)], [.int s1.2], am_SH, (g, f))) rfl ?_
        obtain ⟨p3, hp3, h⟩ := am_bind_some h
        refine am_Ev.call hcd (a := 179) (s0 := (0, [(0, .int s1.2)], [], am_SH, (g, f))) (q := ((some (.int p3)), am_SH, (g, f))) (s1 := (26, [(0, .ref 216), (1, .int a0), (2, .int s1.1), (3, .int s1.2)], [.int p3], am_SH, (g, f))) rfl rfl (m_bitsOf_ok (d) s1.2 (g, f) p3 hp3) ?_
        refine am_Ev.go hcd 1 (s' := (27, [(0, .ref 216), (1, .int a0), (2, .int p3), (3, .int s1.2)], [], am_SH, (g, f))) rfl ?_
        exact am_Ev.weak' (hLt6 p3 (Option.some.inj h)) (am_sub_cons rfl (am_sub_cons rfl (am_sub_cons rfl (am_sub_cons rfl am_sub_nil)))) rfl
      · refine am_Ev.f hcd (c := s1.1 = (-1)) (s1 := (20, [(0, .ref 216), (1, .int a0), (2, .int s1.1), (3, .int s1.2)], [], am_SH, (g, f))) rfl c24 ?_
        refine am_Ev.go hcd 1 (s' := (21, [(0, .ref 216), (1, .int a0), (2, .int s1.1), (3, .int s1.2)], [.int s1.2], am_SH, (g, f))) rfl ?_
        obtain ⟨p4, hp4, h⟩ := am_bind_some h
        refine am_Ev.call hcd (a := 179) (s0 := (0, [(0, .int s1.2)], [], am_SH, (g, f))) (q := ((some (.int p4)), am_SH, (g, f))) (s1 := (22, [(0, .ref 216), (1, .int a0), (2, .int s1.1), (3, .int s1.2)], [.int p4], am_SH, (g, f))) rfl rfl (m_bitsOf_ok (d) s1.2 (g, f) p4 hp4) ?_
        refine am_Ev.go hcd 1 (s' := (23, [(0, .ref 216), (1, .int a0), (2, .int s1.1), (3, .int s1.2)], [.int s1.1, .int p4], am_SH, (g, f))) rfl ?_
        rcases am_ite h with ⟨c36, h⟩ | ⟨c36, h⟩
        · refine am_Ev.t hcd (c := p4 < s1.1) (s1 := (24, [(0, .ref 216), (1, .int a0), (2, .int s1.1), (3, .int s1.2)], [], am_SH, (g, f))) rfl c36 ?_
          refine am_Ev.go hcd 1 (s' := (25, [(0, .ref 216), (1, .int a0), (2, .int s1.1), (3, .int s1.2)], [.int s1.2], am_SH, (g, f))) rfl ?_
          obtain ⟨p5, hp5, h⟩ := am_bind_some h
          refine am_Ev.call hcd (a := 179) (s0 := (0, [(0, .int s1.2)], [], am_SH, (g, f))) (q := ((some (.int p5)), am_SH, (g, f))) (s1 := (26, [(0, .ref 216), (1, .int a0), (2, .int s1.1), (3, .int s1.2)], [.int p5], am_SH, (g, f))) rfl rfl (m_bitsOf_ok (d) s1.2 (g, f) p5 hp5) ?_
          refine am_Ev.go hcd 1 (s' := (27, [(0, .ref 216), (1, .int a0), (2, .int p5), (3, .int s1.2)], [], am_SH, (g, f))) rfl ?_
          exact am_Ev.weak' (hLt6 p5 (Option.some.inj h)) (am_sub_cons rfl (am_sub_cons rfl (am_sub_cons rfl (am_sub_cons rfl am_sub_nil)))) rfl
        · refine am_Ev.f hcd (c := p4 < s1.1) (s1 := (27, [(0, .ref 216), (1, .int a0), (2, .int s1.1), (3, .int s1.2)], [], am_SH, (g, f))) rfl c36 ?_
          exact am_Ev.weak' (hLt6 s1.1 (Option.some.inj h)) (am_sub_cons rfl (am_sub_cons rfl (am_sub_cons rfl (am_sub_cons rfl am_sub_nil)))) rfl
    · refine am_Ev.f hcd (c := p2 = a0) (s1 := (27, [(0, .ref 216), (1, .int a0), (2, .int s1.1), (3, .int s1.2)], [], am_SH, (g, f))) rfl c21 ?_
      exact am_Ev.weak' (hLt6 s1.1 (Option.some.inj h)) (am_sub_cons rfl (am_sub_cons rfl (am_sub_cons rfl (am_sub_cons rfl am_sub_nil)))) rfl
  · refine am_Ev.f hcd (c := s1.2 < (1 <<< ((f 217 464) &&& 31))) (s1 := (29, [(0, .ref 216), (1, .int a0), (2, .int s1.1), (3, .int s1.2)], [], am_SH, (g, f))) rfl c6 ?_
    refine am_Ev.go hcd 1 (s' := (30, [(0, .ref 216), (1, .int a0), (2, .int s1.1), (3, .int s1.2)], [.int s1.1], am_SH, (g, f))) rfl ?_
    exact am_Ev.cast (a := ((some (.int s1.1)), am_SH, (g, f))) (hZ1 _ (Option.some.inj h).symm) (am_Ev.ret hcd rfl)
set_option maxRecDepth 100000 in
set_option maxHeartbeats 4000000 in
theorem m_show_ok {sc : Nat × (Nat → Int32)} (d : Nat) (a0 : Int32) (a1 : Int32) (f g : (Nat → Nat → Int32)) (r : Int32) (h : m_show a0 a1 f = some r) : am_Ev sc (d + 2) 288 (0, [(0, .ref 216), (1, .int a0), (2, .int a1)], [], am_SH, (g, f)) ((some (.int r)), am_SH, (g, f)) := by
  have hcd : am_code 288 = am_c288 := rfl
  unfold m_show at h
  refine am_Ev.go hcd 3 (s' := (3, [(0, .ref 216), (1, .int a0), (2, .int a1)], [.int 2, .int 0, .int a1], am_SH, (g, f))) rfl ?_
  refine am_Ev.call hcd (a := 176) (s0 := (0, [(0, .int a1), (1, .int 0), (2, .int 2)], [], am_SH, (g, f))) (q := ((some (.int (am_b (m_isIn a1 0 2)))), am_SH, (g, f))) (s1 := (4, [(0, .ref 216), (1, .int a0), (2, .int a1)], [.int (am_b (m_isIn a1 0 2))], am_SH, (g, f))) rfl rfl (m_isIn_ok (d + 1) a1 0 2 (g, f)) ?_
  rcases am_ite h with ⟨c4, h⟩ | ⟨c4, h⟩
  · refine am_Ev.f hcd (c := am_b (m_isIn a1 0 2) = 0) (s1 := (5, [(0, .ref 216), (1, .int a0), (2, .int a1)], [], am_SH, (g, f))) rfl (am_b_t c4) ?_
    refine am_Ev.go hcd 1 (s' := (6, [(0, .ref 216), (1, .int a0), (2, .int a1)], [.int a1], am_SH, (g, f))) rfl ?_
    rcases am_ite h with ⟨c6, h⟩ | ⟨c6, h⟩
    · refine am_Ev.t hcd (c := 0 < a1) (s1 := (7, [(0, .ref 216), (1, .int a0), (2, .int a1)], [], am_SH, (g, f))) rfl c6 ?_
      refine am_Ev.go hcd 3 (s' := (10, [(0, .ref 216), (1, .int a0), (2, .int a1)], [.int 65535, .int 0, .int a0], am_SH, (g, f))) rfl ?_
      refine am_Ev.call hcd (a := 176) (s0 := (0, [(0, .int a0), (1, .int 0), (2, .int 65535)], [], am_SH, (g, f))) (q := ((some (.int (am_b (m_isIn a0 0 65535)))), am_SH, (g, f))) (s1 := (11, [(0, .ref 216), (1, .int a0), (2, .int a1)], [.int (am_b (m_isIn a0 0 65535))], am_SH, (g, f))) rfl rfl (m_isIn_ok (d + 1) a0 0 65535 (g, f)) ?_
      rcases am_ite h with ⟨c11, h⟩ | ⟨c11, h⟩
      · refine am_Ev.f hcd (c := am_b (m_isIn a0 0 65535) = 0) (s1 := (14, [(0, .ref 216), (1, .int a0), (2, .int a1)], [], am_SH, (g, f))) rfl (am_b_t c11) ?_
        refine am_Ev.go hcd 1 (s' := (15, [(0, .ref 216), (1, .int a0), (2, .int a1)], [.int a1], am_SH, (g, f))) rfl ?_
        rcases am_ite h with ⟨c13, h⟩ | ⟨c13, h⟩
        · refine am_Ev.t hcd (c := a1 = 0) (s1 := (16, [(0, .ref 216), (1, .int a0), (2, .int a1)], [], am_SH, (g, f))) rfl c13 ?_
          refine am_Ev.go hcd 1 (s' := (17, [(0, .ref 216), (1, .int a0), (2, .int a1)], [.ref 216], am_SH, (g, f))) rfl ?_
          obtain ⟨p3, hp3, h⟩ := am_bind_some h
          refine am_Ev.call hcd (a := 287) (s0 := (0, [(0, .ref 216)], [], am_SH, (g, f))) (q := ((some (.int p3)), am_SH, (g, f))) (s1 := (18, [(0, .ref 216), (1, .int a0), (2, .int a1)], [.int p3], am_SH, (g, f))) rfl rfl (m_rank_ok (d)  f g p3 hp3) ?_
          refine am_Ev.go hcd 1 (s' := (34, [(0, .ref 216), (1, .int a0), (2, .int a1)], [.int p3], am_SH, (g, f))) rfl ?_
          exact am_Ev.cast (a := ((some (.int p3)), am_SH, (g, f))) (by cases h; rfl) (am_Ev.ret hcd rfl)
        · refine am_Ev.f hcd (c := a1 = 0) (s1 := (19, [(0, .ref 216), (1, .int a0), (2, .int a1)], [], am_SH, (g, f))) rfl c13 ?_
          refine am_Ev.go hcd 2 (s' := (21, [(0, .ref 216), (1, .int a0), (2, .int a1)], [.int 2, .int a1], am_SH, (g, f))) rfl ?_
          rcases am_ite h with ⟨c22, h⟩ | ⟨c22, h⟩
          · refine am_Ev.t hcd (c := a1 = 2) (s1 := (22, [(0, .ref 216), (1, .int a0), (2, .int a1)], [], am_SH, (g, f))) rfl c22 ?_
            refine am_Ev.go hcd 2 (s' := (24, [(0, .ref 216), (1, .int a0), (2, .int a1)], [.int a0, .ref 216], am_SH, (g, f))) rfl ?_
            obtain ⟨p4, hp4, h⟩ := am_bind_some h
            refine am_Ev.call hcd (a := 286) (s0 := (0, [(0, .ref 216), (1, .int a0)], [], am_SH, (g, f))) (q := ((some (.int p4)), am_SH, (g, f))) (s1 := (25, [(0, .ref 216), (1, .int a0), (2, .int a1)], [.int p4], am_SH, (g, f))) rfl rfl (m_fewestFor_ok (d) a0 f g p4 hp4) ?_
            refine am_Ev.go hcd 1 (s' := (34, [(0, .ref 216), (1, .int a0), (2, .int a1)], [.int p4], am_SH, (g, f))) rfl ?_
            exact am_Ev.cast (a := ((some (.int p4)), am_SH, (g, f))) (by cases h; rfl) (am_Ev.ret hcd rfl)
          · refine am_Ev.f hcd (c := a1 = 2) (s1 := (26, [(0, .ref 216), (1, .int a0), (2, .int a1)], [], am_SH, (g, f))) rfl c22 ?_
            refine am_Ev.go hcd 2 (s' := (28, [(0, .ref 216), (1, .int a0), (2, .int a1)], [.int a0, .ref 216], am_SH, (g, f))) rfl ?_
            obtain ⟨p5, hp5, h⟩ := am_bind_some h
            refine am_Ev.call hcd (a := 286) (s0 := (0, [(0, .ref 216), (1, .int a0)], [], am_SH, (g, f))) (q := ((some (.int p5)), am_SH, (g, f))) (s1 := (29, [(0, .ref 216), (1, .int a0), (2, .int a1)], [.int p5], am_SH, (g, f))) rfl rfl (m_fewestFor_ok (d) a0 f g p5 hp5) ?_
            refine am_Ev.go hcd 1 (s' := (30, [(0, .ref 216), (1, .int a0), (2, .int a1)], [.int (-1), .int p5], am_SH, (g, f))) rfl ?_
            rcases am_ite h with ⟨c34, h⟩ | ⟨c34, h⟩
            · refine am_Ev.t hcd (c := p5 = (-1)) (s1 := (31, [(0, .ref 216), (1, .int a0), (2, .int a1)], [], am_SH, (g, f))) rfl c34 ?_
              refine am_Ev.go hcd 2 (s' := (34, [(0, .ref 216), (1, .int a0), (2, .int a1)], [.int 0], am_SH, (g, f))) rfl ?_
              exact am_Ev.cast (a := ((some (.int 0)), am_SH, (g, f))) (by cases h; rfl) (am_Ev.ret hcd rfl)
            · refine am_Ev.f hcd (c := p5 = (-1)) (s1 := (33, [(0, .ref 216), (1, .int a0), (2, .int a1)], [], am_SH, (g, f))) rfl c34 ?_
              refine am_Ev.go hcd 1 (s' := (34, [(0, .ref 216), (1, .int a0), (2, .int a1)], [.int 1], am_SH, (g, f))) rfl ?_
              exact am_Ev.cast (a := ((some (.int 1)), am_SH, (g, f))) (by cases h; rfl) (am_Ev.ret hcd rfl)
      · refine am_Ev.t hcd (c := am_b (m_isIn a0 0 65535) = 0) (s1 := (12, [(0, .ref 216), (1, .int a0), (2, .int a1)], [], am_SH, (g, f))) rfl (am_b_f c11) ?_
        refine am_Ev.go hcd 1 (s' := (13, [(0, .ref 216), (1, .int a0), (2, .int a1)], [.int (-1)], am_SH, (g, f))) rfl ?_
        exact am_Ev.cast (a := ((some (.int (-1))), am_SH, (g, f))) (by cases h; rfl) (am_Ev.ret hcd rfl)
    · refine am_Ev.f hcd (c := 0 < a1) (s1 := (14, [(0, .ref 216), (1, .int a0), (2, .int a1)], [], am_SH, (g, f))) rfl c6 ?_
      refine am_Ev.go hcd 1 (s' := (15, [(0, .ref 216), (1, .int a0), (2, .int a1)], [.int a1], am_SH, (g, f))) rfl ?_
      rcases am_ite h with ⟨c46, h⟩ | ⟨c46, h⟩
      · refine am_Ev.t hcd (c := a1 = 0) (s1 := (16, [(0, .ref 216), (1, .int a0), (2, .int a1)], [], am_SH, (g, f))) rfl c46 ?_
        refine am_Ev.go hcd 1 (s' := (17, [(0, .ref 216), (1, .int a0), (2, .int a1)], [.ref 216], am_SH, (g, f))) rfl ?_
        obtain ⟨p6, hp6, h⟩ := am_bind_some h
        refine am_Ev.call hcd (a := 287) (s0 := (0, [(0, .ref 216)], [], am_SH, (g, f))) (q := ((some (.int p6)), am_SH, (g, f))) (s1 := (18, [(0, .ref 216), (1, .int a0), (2, .int a1)], [.int p6], am_SH, (g, f))) rfl rfl (m_rank_ok (d)  f g p6 hp6) ?_
        refine am_Ev.go hcd 1 (s' := (34, [(0, .ref 216), (1, .int a0), (2, .int a1)], [.int p6], am_SH, (g, f))) rfl ?_
        exact am_Ev.cast (a := ((some (.int p6)), am_SH, (g, f))) (by cases h; rfl) (am_Ev.ret hcd rfl)
      · refine am_Ev.f hcd (c := a1 = 0) (s1 := (19, [(0, .ref 216), (1, .int a0), (2, .int a1)], [], am_SH, (g, f))) rfl c46 ?_
        refine am_Ev.go hcd 2 (s' := (21, [(0, .ref 216), (1, .int a0), (2, .int a1)], [.int 2, .int a1], am_SH, (g, f))) rfl ?_
        rcases am_ite h with ⟨c55, h⟩ | ⟨c55, h⟩
        · refine am_Ev.t hcd (c := a1 = 2) (s1 := (22, [(0, .ref 216), (1, .int a0), (2, .int a1)], [], am_SH, (g, f))) rfl c55 ?_
          refine am_Ev.go hcd 2 (s' := (24, [(0, .ref 216), (1, .int a0), (2, .int a1)], [.int a0, .ref 216], am_SH, (g, f))) rfl ?_
          obtain ⟨p7, hp7, h⟩ := am_bind_some h
          refine am_Ev.call hcd (a := 286) (s0 := (0, [(0, .ref 216), (1, .int a0)], [], am_SH, (g, f))) (q := ((some (.int p7)), am_SH, (g, f))) (s1 := (25, [(0, .ref 216), (1, .int a0), (2, .int a1)], [.int p7], am_SH, (g, f))) rfl rfl (m_fewestFor_ok (d) a0 f g p7 hp7) ?_
          refine am_Ev.go hcd 1 (s' := (34, [(0, .ref 216), (1, .int a0), (2, .int a1)], [.int p7], am_SH, (g, f))) rfl ?_
          exact am_Ev.cast (a := ((some (.int p7)), am_SH, (g, f))) (by cases h; rfl) (am_Ev.ret hcd rfl)
        · refine am_Ev.f hcd (c := a1 = 2) (s1 := (26, [(0, .ref 216), (1, .int a0), (2, .int a1)], [], am_SH, (g, f))) rfl c55 ?_
          refine am_Ev.go hcd 2 (s' := (28, [(0, .ref 216), (1, .int a0), (2, .int a1)], [.int a0, .ref 216], am_SH, (g, f))) rfl ?_
          obtain ⟨p8, hp8, h⟩ := am_bind_some h
          refine am_Ev.call hcd (a := 286) (s0 := (0, [(0, .ref 216), (1, .int a0)], [], am_SH, (g, f))) (q := ((some (.int p8)), am_SH, (g, f))) (s1 := (29, [(0, .ref 216), (1, .int a0), (2, .int a1)], [.int p8], am_SH, (g, f))) rfl rfl (m_fewestFor_ok (d) a0 f g p8 hp8) ?_
          refine am_Ev.go hcd 1 (s' := (30, [(0, .ref 216), (1, .int a0), (2, .int a1)], [.int (-1), .int p8], am_SH, (g, f))) rfl ?_
          rcases am_ite h with ⟨c67, h⟩ | ⟨c67, h⟩
          · refine am_Ev.t hcd (c := p8 = (-1)) (s1 := (31, [(0, .ref 216), (1, .int a0), (2, .int a1)], [], am_SH, (g, f))) rfl c67 ?_
            refine am_Ev.go hcd 2 (s' := (34, [(0, .ref 216), (1, .int a0), (2, .int a1)], [.int 0], am_SH, (g, f))) rfl ?_
            exact am_Ev.cast (a := ((some (.int 0)), am_SH, (g, f))) (by cases h; rfl) (am_Ev.ret hcd rfl)
          · refine am_Ev.f hcd (c := p8 = (-1)) (s1 := (33, [(0, .ref 216), (1, .int a0), (2, .int a1)], [], am_SH, (g, f))) rfl c67 ?_
            refine am_Ev.go hcd 1 (s' := (34, [(0, .ref 216), (1, .int a0), (2, .int a1)], [.int 1], am_SH, (g, f))) rfl ?_
            exact am_Ev.cast (a := ((some (.int 1)), am_SH, (g, f))) (by cases h; rfl) (am_Ev.ret hcd rfl)
  · refine am_Ev.t hcd (c := am_b (m_isIn a1 0 2) = 0) (s1 := (12, [(0, .ref 216), (1, .int a0), (2, .int a1)], [], am_SH, (g, f))) rfl (am_b_f c4) ?_
    refine am_Ev.go hcd 1 (s' := (13, [(0, .ref 216), (1, .int a0), (2, .int a1)], [.int (-1)], am_SH, (g, f))) rfl ?_
    exact am_Ev.cast (a := ((some (.int (-1))), am_SH, (g, f))) (by cases h; rfl) (am_Ev.ret hcd rfl)
set_option maxRecDepth 100000 in
set_option maxHeartbeats 4000000 in
theorem m_cost_ok {sc : Nat × (Nat → Int32)} (d : Nat) (a0 : Int32) (a1 : Int32) (f g : (Nat → Nat → Int32)) (r : Bool × (Nat → Nat → Int32)) (h : m_cost a0 a1 f = some r) : am_Ev sc (d + 1) 289 (0, [(0, .ref 216), (1, .int a0), (2, .int a1)], [], am_SH, (g, f)) ((some (.int (am_b r.1))), am_SH, (g, r.2)) := by
  have hcd : am_code 289 = am_c289 := rfl
  unfold m_cost at h
  refine am_Ev.go hcd 3 (s' := (3, [(0, .ref 216), (1, .int a0), (2, .int a1)], [.int 7, .int 0, .int a0], am_SH, (g, f))) rfl ?_
  refine am_Ev.call hcd (a := 176) (s0 := (0, [(0, .int a0), (1, .int 0), (2, .int 7)], [], am_SH, (g, f))) (q := ((some (.int (am_b (m_isIn a0 0 7)))), am_SH, (g, f))) (s1 := (4, [(0, .ref 216), (1, .int a0), (2, .int a1)], [.int (am_b (m_isIn a0 0 7))], am_SH, (g, f))) rfl rfl (m_isIn_ok (d) a0 0 7 (g, f)) ?_
  rcases am_ite h with ⟨c4, h⟩ | ⟨c4, h⟩
  · refine am_Ev.f hcd (c := am_b (m_isIn a0 0 7) = 0) (s1 := (5, [(0, .ref 216), (1, .int a0), (2, .int a1)], [], am_SH, (g, f))) rfl (am_b_t c4) ?_
    refine am_Ev.go hcd 3 (s' := (8, [(0, .ref 216), (1, .int a0), (2, .int a1)], [.int 99, .int 0, .int a1], am_SH, (g, f))) rfl ?_
    refine am_Ev.call hcd (a := 176) (s0 := (0, [(0, .int a1), (1, .int 0), (2, .int 99)], [], am_SH, (g, f))) (q := ((some (.int (am_b (m_isIn a1 0 99)))), am_SH, (g, f))) (s1 := (9, [(0, .ref 216), (1, .int a0), (2, .int a1)], [.int (am_b (m_isIn a1 0 99))], am_SH, (g, f))) rfl rfl (m_isIn_ok (d) a1 0 99 (g, f)) ?_
    rcases am_ite h with ⟨c8, h⟩ | ⟨c8, h⟩
    · refine am_Ev.f hcd (c := am_b (m_isIn a1 0 99) = 0) (s1 := (12, [(0, .ref 216), (1, .int a0), (2, .int a1)], [], am_SH, (g, f))) rfl (am_b_t c8) ?_
      refine am_Ev.go hcd 6 (s' := (18, [(0, .ref 216), (1, .int a0), (2, .int a1)], [.int a1, .int (473 + a0), .ref 217], am_SH, (g, f))) rfl ?_
      obtain ⟨c10, h⟩ := am_grd h
      obtain ⟨f3, Ef3, h⟩ := am_let_eq h
      refine am_Ev.t hcd (o := none) (c := am_in (473 + a0) 2008 = true) (s1 := (19, [(0, .ref 216), (1, .int a0), (2, .int a1)], [], am_SH, (g, f3))) (by subst Ef3; exact rfl) c10 ?_
      refine am_Ev.go hcd 1 (s' := (20, [(0, .ref 216), (1, .int a0), (2, .int a1)], [.int 1], am_SH, (g, f3))) rfl ?_
      exact am_Ev.cast (a := ((some (.int (am_b (true, f3).1))), am_SH, (g, (true, f3).2))) (by cases h; rfl) (am_Ev.ret hcd rfl)
    · refine am_Ev.t hcd (c := am_b (m_isIn a1 0 99) = 0) (s1 := (10, [(0, .ref 216), (1, .int a0), (2, .int a1)], [], am_SH, (g, f))) rfl (am_b_f c8) ?_
      refine am_Ev.go hcd 1 (s' := (11, [(0, .ref 216), (1, .int a0), (2, .int a1)], [.int 0], am_SH, (g, f))) rfl ?_
      exact am_Ev.cast (a := ((some (.int (am_b (false, f).1))), am_SH, (g, (false, f).2))) (by cases h; rfl) (am_Ev.ret hcd rfl)
  · refine am_Ev.t hcd (c := am_b (m_isIn a0 0 7) = 0) (s1 := (10, [(0, .ref 216), (1, .int a0), (2, .int a1)], [], am_SH, (g, f))) rfl (am_b_f c4) ?_
    refine am_Ev.go hcd 1 (s' := (11, [(0, .ref 216), (1, .int a0), (2, .int a1)], [.int 0], am_SH, (g, f))) rfl ?_
    exact am_Ev.cast (a := ((some (.int (am_b (false, f).1))), am_SH, (g, (false, f).2))) (by cases h; rfl) (am_Ev.ret hcd rfl)
set_option maxRecDepth 100000 in
set_option maxHeartbeats 4000000 in
theorem m_keptFor_ok {sc : Nat × (Nat → Int32)} (d : Nat) (a0 : Int32) (a1 : Int32) (f g : (Nat → Nat → Int32)) (r : Int32) (h : m_keptFor a0 a1 f = some r) : am_Ev sc (d) 290 (0, [(0, .ref 216), (1, .int a0), (2, .int a1)], [], am_SH, (g, f)) ((some (.int r)), am_SH, (g, f)) := by
  have hcd : am_code 290 = am_c290 := rfl
  unfold m_keptFor at h
  refine am_Ev.go hcd 4 (s' := (4, [(0, .ref 216), (1, .int a0), (2, .int a1), (3, .int a1), (4, .int 0)], [], am_SH, (g, f))) rfl ?_
  refine am_Ev.weak' (am_loop_ok (G := fun (s1 : Int32 × Int32) => am_Ev sc (d) 290 (4, [(0, .ref 216), (1, .int a0), (3, .int s1.1), (4, .int s1.2)], [], am_SH, (g, f)) ((some (.int r)), am_SH, (g, f))) (Z := fun (v : Int32) => (((some (.int v)), am_SH, (g, f)) : am_R) = ((some (.int r)), am_SH, (g, f))) ?_ am_F (a1, 0) r h rfl) (am_sub_cons rfl (am_sub_cons rfl (am_sub_cons rfl (am_sub_cons rfl am_sub_nil)))) rfl
  intro s1 q1 h hI1 hZ1
  show am_Ev sc (d) 290 (4, [(0, .ref 216), (1, .int a0), (3, .int s1.1), (4, .int s1.2)], [], am_SH, (g, f)) ((some (.int r)), am_SH, (g, f))
  refine am_Ev.go hcd 2 (s' := (6, [(0, .ref 216), (1, .int a0), (3, .int s1.1), (4, .int s1.2)], [.int a0, .int s1.2], am_SH, (g, f))) rfl ?_
  rcases am_ite h with ⟨c6, h⟩ | ⟨c6, h⟩
  · refine am_Ev.t hcd (c := s1.2 < a0) (s1 := (7, [(0, .ref 216), (1, .int a0), (3, .int s1.1), (4, .int s1.2)], [], am_SH, (g, f))) rfl c6 ?_
    refine am_Ev.go hcd 6 (s' := (13, [(0, .ref 216), (1, .int a0), (3, .int s1.1), (4, .int s1.2)], [.int (473 + s1.2), .ref 217, .int s1.1], am_SH, (g, f))) rfl ?_
    obtain ⟨c9, h⟩ := am_grd h
    refine am_Ev.t hcd (o := none) (c := am_in (473 + s1.2) 2008 = true) (s1 := (14, [(0, .ref 216), (1, .int a0), (3, .int s1.1), (4, .int s1.2)], [.int (f 217 (473 + s1.2).toNatClampNeg), .int s1.1], am_SH, (g, f))) rfl c9 ?_
    obtain ⟨t2, Et2, h⟩ := am_let_eq h
    refine am_Ev.go hcd 2 (s' := (16, [(0, .ref 216), (1, .int a0), (3, .int t2), (4, .int s1.2)], [], am_SH, (g, f))) (by subst Et2; exact rfl) ?_
    obtain ⟨t3, Et3, h⟩ := am_let_eq h
    refine am_Ev.go hcd 1 (s' := (17, [(0, .ref 216), (1, .int a0), (3, .int t2), (4, .int t3)], [], am_SH, (g, f))) (by subst Et3; exact rfl) ?_
    refine am_Ev.go hcd 1 (s' := (4, [(0, .ref 216), (1, .int a0), (3, .int t2), (4, .int t3)], [], am_SH, (g, f))) rfl ?_
    exact am_Ev.weak' (hI1 (t2, t3) (Option.some.inj h).symm) (am_sub_cons rfl (am_sub_cons rfl (am_sub_cons rfl (am_sub_cons rfl am_sub_nil)))) rfl
  · refine am_Ev.f hcd (c := s1.2 < a0) (s1 := (18, [(0, .ref 216), (1, .int a0), (3, .int s1.1), (4, .int s1.2)], [], am_SH, (g, f))) rfl c6 ?_
    refine am_Ev.go hcd 1 (s' := (19, [(0, .ref 216), (1, .int a0), (3, .int s1.1), (4, .int s1.2)], [.int s1.1], am_SH, (g, f))) rfl ?_
    exact am_Ev.cast (a := ((some (.int s1.1)), am_SH, (g, f))) (hZ1 _ (Option.some.inj h).symm) (am_Ev.ret hcd rfl)
