set_option maxRecDepth 100000 in
set_option maxHeartbeats 4000000 in
theorem m_readsLaw_ok {sc : Nat × (Nat → Int32)} (d : Nat)  (f g : (Nat → Nat → Int32)) (r : Bool × (Nat → Nat → Int32)) (h : m_readsLaw  f = some r) : am_Ev sc (d + 51) 212 (0, [(0, .ref 216)], [], am_SH, (g, f)) ((some (.int (am_b r.1))), am_SH, (g, r.2)) := by
  have hcd : am_code 212 = am_c212 := rfl
  unfold m_readsLaw at h
  obtain ⟨f1, Ef1, h⟩ := am_let_eq h
  refine am_Ev.go hcd 3 (s' := (3, [(0, .ref 216)], [], am_SH, (g, f1))) (by subst Ef1; exact rfl) ?_
  obtain ⟨f2, Ef2, h⟩ := am_let_eq h
  refine am_Ev.go hcd 3 (s' := (6, [(0, .ref 216)], [], am_SH, (g, f2))) (by subst Ef2; exact rfl) ?_
  refine am_Ev.go hcd 2 (s' := (8, [(0, .ref 216), (1, .int 1)], [], am_SH, (g, f2))) rfl ?_
  refine am_Ev.weak' (am_loop_ok (G := fun (s3 : Bool × (Nat → Nat → Int32)) => am_Ev sc (d + 51) 212 (8, [(0, .ref 216), (1, .int (am_b s3.1))], [], am_SH, (g, s3.2)) ((some (.int (am_b r.1))), am_SH, (g, r.2))) (Z := fun (v : Bool × (Nat → Nat → Int32)) => (((some (.int (am_b v.1))), am_SH, (g, v.2)) : am_R) = ((some (.int (am_b r.1))), am_SH, (g, r.2))) ?_ am_F (true, f2) r h rfl) (am_sub_cons rfl (am_sub_cons rfl am_sub_nil)) rfl
  intro s3 q3 h hI3 hZ3
  show am_Ev sc (d + 51) 212 (8, [(0, .ref 216), (1, .int (am_b s3.1))], [], am_SH, (g, s3.2)) ((some (.int (am_b r.1))), am_SH, (g, r.2))
  refine am_Ev.go hcd 1 (s' := (9, [(0, .ref 216), (1, .int (am_b s3.1))], [.int (am_b s3.1)], am_SH, (g, s3.2))) rfl ?_
  rcases am_ite h with ⟨c10, h⟩ | ⟨c10, h⟩
  · refine am_Ev.f hcd (c := am_b s3.1 = 0) (s1 := (10, [(0, .ref 216), (1, .int (am_b s3.1))], [], am_SH, (g, s3.2))) rfl (am_b_t c10) ?_
    refine am_Ev.go hcd 2 (s' := (12, [(0, .ref 216), (1, .int (am_b s3.1))], [.int (s3.2 216 18)], am_SH, (g, s3.2))) rfl ?_
    rcases am_ite h with ⟨c13, h⟩ | ⟨c13, h⟩
    · refine am_Ev.t hcd (c := s3.2 216 18 = 0) (s1 := (27, [(0, .ref 216), (1, .int (am_b s3.1))], [], am_SH, (g, s3.2))) rfl c13 ?_
      refine am_Ev.go hcd 1 (s' := (28, [(0, .ref 216), (1, .int (am_b s3.1))], [.int (am_b s3.1)], am_SH, (g, s3.2))) rfl ?_
      exact am_Ev.cast (a := ((some (.int (am_b (s3.1, s3.2).1))), am_SH, (g, (s3.1, s3.2).2))) (hZ3 _ (Option.some.inj h).symm) (am_Ev.retb hcd rfl)
    · refine am_Ev.f hcd (c := s3.2 216 18 = 0) (s1 := (13, [(0, .ref 216), (1, .int (am_b s3.1))], [], am_SH, (g, s3.2))) rfl c13 ?_
      refine am_Ev.go hcd 1 (s' := (14, [(0, .ref 216), (1, .int (am_b s3.1))], [.ref 216], am_SH, (g, s3.2))) rfl ?_
      obtain ⟨p4, hp4, h⟩ := am_bind_some h
      refine am_Ev.call hcd (a := 211) (s0 := (0, [(0, .ref 216)], [], am_SH, (g, s3.2))) (q := ((some (.int (am_b p4.1))), am_SH, (g, p4.2))) (s1 := (15, [(0, .ref 216), (1, .int (am_b s3.1))], [.int (am_b p4.1)], am_SH, (g, p4.2))) rfl rfl (m_aLine_ok (d)  s3.2 g p4 hp4) ?_
      obtain ⟨t5, ht5, kt5⟩ := am_let_eq h
      have hKt5 : am_Ev sc (d + 51) 212 (24, [(0, .ref 216), (1, .int (am_b p4.1))], [.int (am_b t5), .int (p4.2 216 13), .ref 216], am_SH, (g, p4.2)) ((some (.int (am_b r.1))), am_SH, (g, r.2)) := by
        have h := kt5
        obtain ⟨f6, Ef6, h⟩ := am_let_eq h
        refine am_Ev.go hcd 2 (s' := (26, [(0, .ref 216), (1, .int (am_b p4.1))], [], am_SH, (g, f6))) (by subst Ef6; exact rfl) ?_
        refine am_Ev.go hcd 1 (s' := (8, [(0, .ref 216), (1, .int (am_b p4.1))], [], am_SH, (g, f6))) rfl ?_
        exact am_Ev.weak' (hI3 (p4.1, f6) (Option.some.inj h).symm) (am_sub_cons rfl (am_sub_cons rfl am_sub_nil)) rfl
      have hLt5 : ∀ tt, tt = t5 → am_Ev sc (d + 51) 212 (24, [(0, .ref 216), (1, .int (am_b p4.1))], [.int (am_b tt), .int (p4.2 216 13), .ref 216], am_SH, (g, p4.2)) ((some (.int (am_b r.1))), am_SH, (g, r.2)) := fun tt htt => by subst htt; exact hKt5
      have h := ht5
      refine am_Ev.go hcd 5 (s' := (20, [(0, .ref 216), (1, .int (am_b p4.1))], [.int (am_b p4.1), .int (p4.2 216 13), .ref 216], am_SH, (g, p4.2))) rfl ?_
      rcases am_itv h with ⟨c31, h⟩ | ⟨c31, h⟩
      · refine am_Ev.f hcd (c := am_b p4.1 = 0) (s1 := (21, [(0, .ref 216), (1, .int (am_b p4.1))], [.int (p4.2 216 13), .ref 216], am_SH, (g, p4.2))) rfl (am_b_t c31) ?_
        refine am_Ev.go hcd 2 (s' := (24, [(0, .ref 216), (1, .int (am_b p4.1))], [.int 1, .int (p4.2 216 13), .ref 216], am_SH, (g, p4.2))) rfl ?_
        exact am_Ev.weak' (hLt5 true h.symm) (am_sub_cons rfl (am_sub_cons rfl am_sub_nil)) rfl
      · refine am_Ev.t hcd (c := am_b p4.1 = 0) (s1 := (23, [(0, .ref 216), (1, .int (am_b p4.1))], [.int (p4.2 216 13), .ref 216], am_SH, (g, p4.2))) rfl (am_b_f c31) ?_
        refine am_Ev.go hcd 1 (s' := (24, [(0, .ref 216), (1, .int (am_b p4.1))], [.int 0, .int (p4.2 216 13), .ref 216], am_SH, (g, p4.2))) rfl ?_
        exact am_Ev.weak' (hLt5 false h.symm) (am_sub_cons rfl (am_sub_cons rfl am_sub_nil)) rfl
  · refine am_Ev.t hcd (c := am_b s3.1 = 0) (s1 := (27, [(0, .ref 216), (1, .int (am_b s3.1))], [], am_SH, (g, s3.2))) rfl (am_b_f c10) ?_
    refine am_Ev.go hcd 1 (s' := (28, [(0, .ref 216), (1, .int (am_b s3.1))], [.int (am_b s3.1)], am_SH, (g, s3.2))) rfl ?_
    exact am_Ev.cast (a := ((some (.int (am_b (s3.1, s3.2).1))), am_SH, (g, (s3.1, s3.2).2))) (hZ3 _ (Option.some.inj h).symm) (am_Ev.retb hcd rfl)
set_option maxRecDepth 100000 in
set_option maxHeartbeats 4000000 in
theorem m_number_ok {sc : Nat × (Nat → Int32)} (d : Nat) (a0 : Int32) (a1 : Int32) (a2 : Int32) (f g : (Nat → Nat → Int32)) (r : Bool × (Nat → Nat → Int32)) (h : m_number a0 a1 a2 f = some r) : am_Ev sc (d + 6) 213 (0, [(0, .ref 216), (1, .int a0), (2, .int a1), (3, .int a2)], [], am_SH, (g, f)) ((some (.int (am_b r.1))), am_SH, (g, r.2)) := by
  have hcd : am_code 213 = am_c213 := rfl
  unfold m_number at h
  refine am_Ev.go hcd 3 (s' := (3, [(0, .ref 216), (1, .int a0), (2, .int a1), (3, .int a2)], [.int 2, .int (f 216 18)], am_SH, (g, f))) rfl ?_
  rcases am_ite h with ⟨c2, h⟩ | ⟨c2, h⟩
  · refine am_Ev.t hcd (c := f 216 18 = 2) (s1 := (8, [(0, .ref 216), (1, .int a0), (2, .int a1), (3, .int a2)], [], am_SH, (g, f))) rfl c2 ?_
    refine am_Ev.go hcd 4 (s' := (12, [(0, .ref 216), (1, .int a0), (2, .int a1), (3, .int a2)], [.int a2, .int a1, .int (f 216 20)], am_SH, (g, f))) rfl ?_
    refine am_Ev.call hcd (a := 176) (s0 := (0, [(0, .int (f 216 20)), (1, .int a1), (2, .int a2)], [], am_SH, (g, f))) (q := ((some (.int (am_b (m_isIn (f 216 20) a1 a2)))), am_SH, (g, f))) (s1 := (13, [(0, .ref 216), (1, .int a0), (2, .int a1), (3, .int a2)], [.int (am_b (m_isIn (f 216 20) a1 a2))], am_SH, (g, f))) rfl rfl (m_isIn_ok (d + 5) (f 216 20) a1 a2 (g, f)) ?_
    rcases am_ite h with ⟨c7, h⟩ | ⟨c7, h⟩
    · refine am_Ev.f hcd (c := am_b (m_isIn (f 216 20) a1 a2) = 0) (s1 := (18, [(0, .ref 216), (1, .int a0), (2, .int a1), (3, .int a2)], [], am_SH, (g, f))) rfl (am_b_t c7) ?_
      refine am_Ev.go hcd 5 (s' := (23, [(0, .ref 216), (1, .int a0), (2, .int a1), (3, .int a2)], [.int (f 216 20), .int a0, .ref 223], am_SH, (g, f))) rfl ?_
      obtain ⟨c9, h⟩ := am_grd h
      obtain ⟨f2, Ef2, h⟩ := am_let_eq h
      refine am_Ev.t hcd (o := none) (c := am_in a0 264 = true) (s1 := (24, [(0, .ref 216), (1, .int a0), (2, .int a1), (3, .int a2)], [], am_SH, (g, f2))) (by subst Ef2; exact rfl) c9 ?_
      refine am_Ev.go hcd 1 (s' := (25, [(0, .ref 216), (1, .int a0), (2, .int a1), (3, .int a2)], [.ref 216], am_SH, (g, f2))) rfl ?_
      obtain ⟨p3, hp3, h⟩ := am_bind_some h
      refine am_Ev.call hcd (a := 200) (s0 := (0, [(0, .ref 216)], [], am_SH, (g, f2))) (q := (none, am_SH, (g, p3))) (s1 := (26, [(0, .ref 216), (1, .int a0), (2, .int a1), (3, .int a2)], [], am_SH, (g, p3))) rfl rfl (m_next0_ok (d)  f2 g p3 hp3) ?_
      refine am_Ev.go hcd 1 (s' := (27, [(0, .ref 216), (1, .int a0), (2, .int a1), (3, .int a2)], [.int 1], am_SH, (g, p3))) rfl ?_
      exact am_Ev.cast (a := ((some (.int (am_b (true, p3).1))), am_SH, (g, (true, p3).2))) (by cases h; rfl) (am_Ev.ret hcd rfl)
    · refine am_Ev.t hcd (c := am_b (m_isIn (f 216 20) a1 a2) = 0) (s1 := (14, [(0, .ref 216), (1, .int a0), (2, .int a1), (3, .int a2)], [], am_SH, (g, f))) rfl (am_b_f c7) ?_
      refine am_Ev.go hcd 2 (s' := (16, [(0, .ref 216), (1, .int a0), (2, .int a1), (3, .int a2)], [.int 2, .ref 216], am_SH, (g, f))) rfl ?_
      obtain ⟨p4, Ep4, h⟩ := am_let_eq h
      refine am_Ev.call hcd (a := 201) (s0 := (0, [(0, .ref 216), (1, .int 2)], [], am_SH, (g, f))) (q := ((some (.int (am_b p4.1))), am_SH, (g, p4.2))) (s1 := (17, [(0, .ref 216), (1, .int a0), (2, .int a1), (3, .int a2)], [.int (am_b p4.1)], am_SH, (g, p4.2))) rfl rfl (by subst Ep4; exact m_bad_ok (d + 5) 2 f g) ?_
      exact am_Ev.cast (a := ((some (.int (am_b (p4.1, p4.2).1))), am_SH, (g, (p4.1, p4.2).2))) (by cases h; rfl) (am_Ev.retb hcd rfl)
  · refine am_Ev.f hcd (c := f 216 18 = 2) (s1 := (4, [(0, .ref 216), (1, .int a0), (2, .int a1), (3, .int a2)], [], am_SH, (g, f))) rfl c2 ?_
    refine am_Ev.go hcd 2 (s' := (6, [(0, .ref 216), (1, .int a0), (2, .int a1), (3, .int a2)], [.int 1, .ref 216], am_SH, (g, f))) rfl ?_
    obtain ⟨p5, Ep5, h⟩ := am_let_eq h
    refine am_Ev.call hcd (a := 201) (s0 := (0, [(0, .ref 216), (1, .int 1)], [], am_SH, (g, f))) (q := ((some (.int (am_b p5.1))), am_SH, (g, p5.2))) (s1 := (7, [(0, .ref 216), (1, .int a0), (2, .int a1), (3, .int a2)], [.int (am_b p5.1)], am_SH, (g, p5.2))) rfl rfl (by subst Ep5; exact m_bad_ok (d + 5) 1 f g) ?_
    exact am_Ev.cast (a := ((some (.int (am_b (p5.1, p5.2).1))), am_SH, (g, (p5.1, p5.2).2))) (by cases h; rfl) (am_Ev.retb hcd rfl)
set_option maxRecDepth 100000 in
set_option maxHeartbeats 4000000 in
theorem m_told_ok {sc : Nat × (Nat → Int32)} (d : Nat) (a0 : Int32) (a1 : Int32) (a2 : Int32) (a3 : Int32) (f g : (Nat → Nat → Int32)) (r : Bool × (Nat → Nat → Int32)) (h : m_told a0 a1 a2 a3 f = some r) : am_Ev sc (d + 7) 214 (0, [(0, .ref 216), (1, .int a0), (2, .int a1), (3, .int a2), (4, .int a3)], [], am_SH, (g, f)) ((some (.int (am_b r.1))), am_SH, (g, r.2)) := by
  have hcd : am_code 214 = am_c214 := rfl
  unfold m_told at h
  refine am_Ev.go hcd 2 (s' := (2, [(0, .ref 216), (1, .int a0), (2, .int a1), (3, .int a2), (4, .int a3)], [.int a1, .ref 216], am_SH, (g, f))) rfl ?_
  obtain ⟨p1, hp1, h⟩ := am_bind_some h
  refine am_Ev.call hcd (a := 202) (s0 := (0, [(0, .ref 216), (1, .int a1)], [], am_SH, (g, f))) (q := ((some (.int (am_b p1.1))), am_SH, (g, p1.2))) (s1 := (3, [(0, .ref 216), (1, .int a0), (2, .int a1), (3, .int a2), (4, .int a3)], [.int (am_b p1.1)], am_SH, (g, p1.2))) rfl rfl (m_need_ok (d) a1 f g p1 hp1) ?_
  rcases am_ite h with ⟨c5, h⟩ | ⟨c5, h⟩
  · refine am_Ev.f hcd (c := am_b p1.1 = 0) (s1 := (4, [(0, .ref 216), (1, .int a0), (2, .int a1), (3, .int a2), (4, .int a3)], [], am_SH, (g, p1.2))) rfl (am_b_t c5) ?_
    refine am_Ev.go hcd 4 (s' := (8, [(0, .ref 216), (1, .int a0), (2, .int a1), (3, .int a2), (4, .int a3)], [.int a3, .int a2, .int a0, .ref 216], am_SH, (g, p1.2))) rfl ?_
    obtain ⟨p2, hp2, h⟩ := am_bind_some h
    refine am_Ev.call hcd (a := 213) (s0 := (0, [(0, .ref 216), (1, .int a0), (2, .int a2), (3, .int a3)], [], am_SH, (g, p1.2))) (q := ((some (.int (am_b p2.1))), am_SH, (g, p2.2))) (s1 := (9, [(0, .ref 216), (1, .int a0), (2, .int a1), (3, .int a2), (4, .int a3)], [.int (am_b p2.1)], am_SH, (g, p2.2))) rfl rfl (m_number_ok (d) a0 a2 a3 p1.2 g p2 hp2) ?_
    rcases am_ite h with ⟨c10, h⟩ | ⟨c10, h⟩
    · refine am_Ev.f hcd (c := am_b p2.1 = 0) (s1 := (10, [(0, .ref 216), (1, .int a0), (2, .int a1), (3, .int a2), (4, .int a3)], [], am_SH, (g, p2.2))) rfl (am_b_t c10) ?_
      refine am_Ev.go hcd 2 (s' := (13, [(0, .ref 216), (1, .int a0), (2, .int a1), (3, .int a2), (4, .int a3)], [.int 1], am_SH, (g, p2.2))) rfl ?_
      exact am_Ev.cast (a := ((some (.int (am_b (true, p2.2).1))), am_SH, (g, (true, p2.2).2))) (by cases h; rfl) (am_Ev.ret hcd rfl)
    · refine am_Ev.t hcd (c := am_b p2.1 = 0) (s1 := (12, [(0, .ref 216), (1, .int a0), (2, .int a1), (3, .int a2), (4, .int a3)], [], am_SH, (g, p2.2))) rfl (am_b_f c10) ?_
      refine am_Ev.go hcd 1 (s' := (13, [(0, .ref 216), (1, .int a0), (2, .int a1), (3, .int a2), (4, .int a3)], [.int 0], am_SH, (g, p2.2))) rfl ?_
      exact am_Ev.cast (a := ((some (.int (am_b (false, p2.2).1))), am_SH, (g, (false, p2.2).2))) (by cases h; rfl) (am_Ev.ret hcd rfl)
  · refine am_Ev.t hcd (c := am_b p1.1 = 0) (s1 := (12, [(0, .ref 216), (1, .int a0), (2, .int a1), (3, .int a2), (4, .int a3)], [], am_SH, (g, p1.2))) rfl (am_b_f c5) ?_
    refine am_Ev.go hcd 1 (s' := (13, [(0, .ref 216), (1, .int a0), (2, .int a1), (3, .int a2), (4, .int a3)], [.int 0], am_SH, (g, p1.2))) rfl ?_
    exact am_Ev.cast (a := ((some (.int (am_b (false, p1.2).1))), am_SH, (g, (false, p1.2).2))) (by cases h; rfl) (am_Ev.ret hcd rfl)
set_option maxRecDepth 100000 in
set_option maxHeartbeats 4000000 in
theorem m_aWalk_ok {sc : Nat × (Nat → Int32)} (d : Nat)  (f g : (Nat → Nat → Int32)) (r : Bool × (Nat → Nat → Int32)) (h : m_aWalk  f = some r) : am_Ev sc (d + 8) 215 (0, [(0, .ref 216)], [], am_SH, (g, f)) ((some (.int (am_b r.1))), am_SH, (g, r.2)) := by
  have hcd : am_code 215 = am_c215 := rfl
  unfold m_aWalk at h
  obtain ⟨t1, Et1, h⟩ := am_let_eq h
  refine am_Ev.go hcd 5 (s' := (5, [(0, .ref 216), (1, .int t1)], [], am_SH, (g, f))) (by subst Et1; exact rfl) ?_
  refine am_Ev.go hcd 5 (s' := (10, [(0, .ref 216), (1, .int t1)], [.int 999, .int 0, .int 7, .int t1, .ref 216], am_SH, (g, f))) rfl ?_
  obtain ⟨p2, hp2, h⟩ := am_bind_some h
  refine am_Ev.call hcd (a := 214) (s0 := (0, [(0, .ref 216), (1, .int t1), (2, .int 7), (3, .int 0), (4, .int 999)], [], am_SH, (g, f))) (q := ((some (.int (am_b p2.1))), am_SH, (g, p2.2))) (s1 := (11, [(0, .ref 216), (1, .int t1)], [.int (am_b p2.1)], am_SH, (g, p2.2))) rfl rfl (m_told_ok (d) t1 7 0 999 f g p2 hp2) ?_
  rcases am_ite h with ⟨c7, h⟩ | ⟨c7, h⟩
  · refine am_Ev.f hcd (c := am_b p2.1 = 0) (s1 := (12, [(0, .ref 216), (1, .int t1)], [], am_SH, (g, p2.2))) rfl (am_b_t c7) ?_
    refine am_Ev.go hcd 12 (s' := (24, [(0, .ref 216), (1, .int t1)], [.int ((p2.2 217 69) - 1), .int 0, .int 8, .int (t1 + 1), .ref 216], am_SH, (g, p2.2))) rfl ?_
    obtain ⟨p3, hp3, h⟩ := am_bind_some h
    refine am_Ev.call hcd (a := 214) (s0 := (0, [(0, .ref 216), (1, .int (t1 + 1)), (2, .int 8), (3, .int 0), (4, .int ((p2.2 217 69) - 1))], [], am_SH, (g, p2.2))) (q := ((some (.int (am_b p3.1))), am_SH, (g, p3.2))) (s1 := (25, [(0, .ref 216), (1, .int t1)], [.int (am_b p3.1)], am_SH, (g, p3.2))) rfl rfl (m_told_ok (d) (t1 + 1) 8 0 ((p2.2 217 69) - 1) p2.2 g p3 hp3) ?_
    rcases am_ite h with ⟨c12, h⟩ | ⟨c12, h⟩
    · refine am_Ev.f hcd (c := am_b p3.1 = 0) (s1 := (28, [(0, .ref 216), (1, .int t1)], [], am_SH, (g, p3.2))) rfl (am_b_t c12) ?_
      obtain ⟨t4, Et4, h⟩ := am_let_eq h
      refine am_Ev.go hcd 3 (s' := (31, [(0, .ref 216), (1, .int t1), (2, .int t4)], [], am_SH, (g, p3.2))) (by subst Et4; exact rfl) ?_
      refine am_Ev.go hcd 3 (s' := (34, [(0, .ref 216), (1, .int t1), (2, .int t4)], [.int 14, .int 9, .int t4], am_SH, (g, p3.2))) rfl ?_
      refine am_Ev.call hcd (a := 176) (s0 := (0, [(0, .int t4), (1, .int 9), (2, .int 14)], [], am_SH, (g, p3.2))) (q := ((some (.int (am_b (m_isIn t4 9 14)))), am_SH, (g, p3.2))) (s1 := (35, [(0, .ref 216), (1, .int t1), (2, .int t4)], [.int (am_b (m_isIn t4 9 14))], am_SH, (g, p3.2))) rfl rfl (m_isIn_ok (d + 7) t4 9 14 (g, p3.2)) ?_
      rcases am_ite h with ⟨c18, h⟩ | ⟨c18, h⟩
      · refine am_Ev.f hcd (c := am_b (m_isIn t4 9 14) = 0) (s1 := (40, [(0, .ref 216), (1, .int t1), (2, .int t4)], [], am_SH, (g, p3.2))) rfl (am_b_t c18) ?_
        refine am_Ev.go hcd 6 (s' := (46, [(0, .ref 216), (1, .int t1), (2, .int t4)], [.int t4, .int (t1 + 2), .ref 223], am_SH, (g, p3.2))) rfl ?_
        obtain ⟨c20, h⟩ := am_grd h
        obtain ⟨f6, Ef6, h⟩ := am_let_eq h
        refine am_Ev.t hcd (o := none) (c := am_in (t1 + 2) 264 = true) (s1 := (47, [(0, .ref 216), (1, .int t1), (2, .int t4)], [], am_SH, (g, f6))) (by subst Ef6; exact rfl) c20 ?_
        refine am_Ev.go hcd 1 (s' := (48, [(0, .ref 216), (1, .int t1), (2, .int t4)], [.ref 216], am_SH, (g, f6))) rfl ?_
        obtain ⟨p7, hp7, h⟩ := am_bind_some h
        refine am_Ev.call hcd (a := 200) (s0 := (0, [(0, .ref 216)], [], am_SH, (g, f6))) (q := (none, am_SH, (g, p7))) (s1 := (49, [(0, .ref 216), (1, .int t1), (2, .int t4)], [], am_SH, (g, p7))) rfl rfl (m_next0_ok (d + 2)  f6 g p7 hp7) ?_
        refine am_Ev.go hcd 2 (s' := (51, [(0, .ref 216), (1, .int t1), (2, .int t4)], [.int 9, .int t4], am_SH, (g, p7))) rfl ?_
        rcases am_ite h with ⟨c27, h⟩ | ⟨c27, h⟩
        · refine am_Ev.t hcd (c := t4 = 9) (s1 := (52, [(0, .ref 216), (1, .int t1), (2, .int t4)], [], am_SH, (g, p7))) rfl c27 ?_
          refine am_Ev.go hcd 6 (s' := (58, [(0, .ref 216), (1, .int t1), (2, .int t4)], [.int 15, .int 0, .int (t1 + 3), .ref 216], am_SH, (g, p7))) rfl ?_
          obtain ⟨p8, hp8, h⟩ := am_bind_some h
          refine am_Ev.call hcd (a := 213) (s0 := (0, [(0, .ref 216), (1, .int (t1 + 3)), (2, .int 0), (3, .int 15)], [], am_SH, (g, p7))) (q := ((some (.int (am_b p8.1))), am_SH, (g, p8.2))) (s1 := (59, [(0, .ref 216), (1, .int t1), (2, .int t4)], [.int (am_b p8.1)], am_SH, (g, p8.2))) rfl rfl (m_number_ok (d + 1) (t1 + 3) 0 15 p7 g p8 hp8) ?_
          refine am_Ev.go hcd 1 (s' := (79, [(0, .ref 216), (1, .int t1), (2, .int t4)], [.int (am_b p8.1)], am_SH, (g, p8.2))) rfl ?_
          exact am_Ev.cast (a := ((some (.int (am_b (p8.1, p8.2).1))), am_SH, (g, (p8.1, p8.2).2))) (by cases h; rfl) (am_Ev.retb hcd rfl)
        · refine am_Ev.f hcd (c := t4 = 9) (s1 := (60, [(0, .ref 216), (1, .int t1), (2, .int t4)], [], am_SH, (g, p7))) rfl c27 ?_
          refine am_Ev.go hcd 2 (s' := (62, [(0, .ref 216), (1, .int t1), (2, .int t4)], [.int 13, .int t4], am_SH, (g, p7))) rfl ?_
          rcases am_ite h with ⟨c36, h⟩ | ⟨c36, h⟩
          · refine am_Ev.t hcd (c := t4 = 13) (s1 := (63, [(0, .ref 216), (1, .int t1), (2, .int t4)], [], am_SH, (g, p7))) rfl c36 ?_
            refine am_Ev.go hcd 11 (s' := (74, [(0, .ref 216), (1, .int t1), (2, .int t4)], [.int ((p7 217 70) - 1), .int 0, .int (t1 + 3), .ref 216], am_SH, (g, p7))) rfl ?_
            obtain ⟨p9, hp9, h⟩ := am_bind_some h
            refine am_Ev.call hcd (a := 213) (s0 := (0, [(0, .ref 216), (1, .int (t1 + 3)), (2, .int 0), (3, .int ((p7 217 70) - 1))], [], am_SH, (g, p7))) (q := ((some (.int (am_b p9.1))), am_SH, (g, p9.2))) (s1 := (75, [(0, .ref 216), (1, .int t1), (2, .int t4)], [.int (am_b p9.1)], am_SH, (g, p9.2))) rfl rfl (m_number_ok (d + 1) (t1 + 3) 0 ((p7 217 70) - 1) p7 g p9 hp9) ?_
            rcases am_ite h with ⟨c42, h⟩ | ⟨c42, h⟩
            · refine am_Ev.f hcd (c := am_b p9.1 = 0) (s1 := (76, [(0, .ref 216), (1, .int t1), (2, .int t4)], [], am_SH, (g, p9.2))) rfl (am_b_t c42) ?_
              refine am_Ev.go hcd 2 (s' := (79, [(0, .ref 216), (1, .int t1), (2, .int t4)], [.int 1], am_SH, (g, p9.2))) rfl ?_
              exact am_Ev.cast (a := ((some (.int (am_b (true, p9.2).1))), am_SH, (g, (true, p9.2).2))) (by cases h; rfl) (am_Ev.ret hcd rfl)
            · refine am_Ev.t hcd (c := am_b p9.1 = 0) (s1 := (78, [(0, .ref 216), (1, .int t1), (2, .int t4)], [], am_SH, (g, p9.2))) rfl (am_b_f c42) ?_
              refine am_Ev.go hcd 1 (s' := (79, [(0, .ref 216), (1, .int t1), (2, .int t4)], [.int 0], am_SH, (g, p9.2))) rfl ?_
              exact am_Ev.cast (a := ((some (.int (am_b (false, p9.2).1))), am_SH, (g, (false, p9.2).2))) (by cases h; rfl) (am_Ev.ret hcd rfl)
          · refine am_Ev.f hcd (c := t4 = 13) (s1 := (76, [(0, .ref 216), (1, .int t1), (2, .int t4)], [], am_SH, (g, p7))) rfl c36 ?_
            refine am_Ev.go hcd 2 (s' := (79, [(0, .ref 216), (1, .int t1), (2, .int t4)], [.int 1], am_SH, (g, p7))) rfl ?_
            exact am_Ev.cast (a := ((some (.int (am_b (true, p7).1))), am_SH, (g, (true, p7).2))) (by cases h; rfl) (am_Ev.ret hcd rfl)
      · refine am_Ev.t hcd (c := am_b (m_isIn t4 9 14) = 0) (s1 := (36, [(0, .ref 216), (1, .int t1), (2, .int t4)], [], am_SH, (g, p3.2))) rfl (am_b_f c18) ?_
        refine am_Ev.go hcd 2 (s' := (38, [(0, .ref 216), (1, .int t1), (2, .int t4)], [.int 1, .ref 216], am_SH, (g, p3.2))) rfl ?_
        obtain ⟨p10, Ep10, h⟩ := am_let_eq h
        refine am_Ev.call hcd (a := 201) (s0 := (0, [(0, .ref 216), (1, .int 1)], [], am_SH, (g, p3.2))) (q := ((some (.int (am_b p10.1))), am_SH, (g, p10.2))) (s1 := (39, [(0, .ref 216), (1, .int t1), (2, .int t4)], [.int (am_b p10.1)], am_SH, (g, p10.2))) rfl rfl (by subst Ep10; exact m_bad_ok (d + 7) 1 p3.2 g) ?_
        exact am_Ev.cast (a := ((some (.int (am_b (p10.1, p10.2).1))), am_SH, (g, (p10.1, p10.2).2))) (by cases h; rfl) (am_Ev.retb hcd rfl)
    · refine am_Ev.t hcd (c := am_b p3.1 = 0) (s1 := (26, [(0, .ref 216), (1, .int t1)], [], am_SH, (g, p3.2))) rfl (am_b_f c12) ?_
      refine am_Ev.go hcd 1 (s' := (27, [(0, .ref 216), (1, .int t1)], [.int 0], am_SH, (g, p3.2))) rfl ?_
      exact am_Ev.cast (a := ((some (.int (am_b (false, p3.2).1))), am_SH, (g, (false, p3.2).2))) (by cases h; rfl) (am_Ev.ret hcd rfl)
  · refine am_Ev.t hcd (c := am_b p2.1 = 0) (s1 := (26, [(0, .ref 216), (1, .int t1)], [], am_SH, (g, p2.2))) rfl (am_b_f c7) ?_
    refine am_Ev.go hcd 1 (s' := (27, [(0, .ref 216), (1, .int t1)], [.int 0], am_SH, (g, p2.2))) rfl ?_
    exact am_Ev.cast (a := ((some (.int (am_b (false, p2.2).1))), am_SH, (g, (false, p2.2).2))) (by cases h; rfl) (am_Ev.ret hcd rfl)
set_option maxRecDepth 100000 in
set_option maxHeartbeats 4000000 in
theorem m_aNearness_ok {sc : Nat × (Nat → Int32)} (d : Nat)  (f g : (Nat → Nat → Int32)) (r : Bool × (Nat → Nat → Int32)) (h : m_aNearness  f = some r) : am_Ev sc (d + 8) 216 (0, [(0, .ref 216)], [], am_SH, (g, f)) ((some (.int (am_b r.1))), am_SH, (g, r.2)) := by
  have hcd : am_code 216 = am_c216 := rfl
  unfold m_aNearness at h
  refine am_Ev.go hcd 5 (s' := (5, [(0, .ref 216)], [.int 15, .int 0, .int 15, .int 260, .ref 216], am_SH, (g, f))) rfl ?_
  obtain ⟨p1, hp1, h⟩ := am_bind_some h
  refine am_Ev.call hcd (a := 214) (s0 := (0, [(0, .ref 216), (1, .int 260), (2, .int 15), (3, .int 0), (4, .int 15)], [], am_SH, (g, f))) (q := ((some (.int (am_b p1.1))), am_SH, (g, p1.2))) (s1 := (6, [(0, .ref 216)], [.int (am_b p1.1)], am_SH, (g, p1.2))) rfl rfl (m_told_ok (d) 260 15 0 15 f g p1 hp1) ?_
  rcases am_ite h with ⟨c5, h⟩ | ⟨c5, h⟩
  · refine am_Ev.f hcd (c := am_b p1.1 = 0) (s1 := (7, [(0, .ref 216)], [], am_SH, (g, p1.2))) rfl (am_b_t c5) ?_
    refine am_Ev.go hcd 2 (s' := (9, [(0, .ref 216)], [.int 16, .ref 216], am_SH, (g, p1.2))) rfl ?_
    obtain ⟨p2, hp2, h⟩ := am_bind_some h
    refine am_Ev.call hcd (a := 202) (s0 := (0, [(0, .ref 216), (1, .int 16)], [], am_SH, (g, p1.2))) (q := ((some (.int (am_b p2.1))), am_SH, (g, p2.2))) (s1 := (10, [(0, .ref 216)], [.int (am_b p2.1)], am_SH, (g, p2.2))) rfl rfl (m_need_ok (d + 1) 16 p1.2 g p2 hp2) ?_
    rcases am_ite h with ⟨c10, h⟩ | ⟨c10, h⟩
    · refine am_Ev.f hcd (c := am_b p2.1 = 0) (s1 := (13, [(0, .ref 216)], [], am_SH, (g, p2.2))) rfl (am_b_t c10) ?_
      refine am_Ev.go hcd 3 (s' := (16, [(0, .ref 216)], [.int 2, .int (p2.2 216 18)], am_SH, (g, p2.2))) rfl ?_
      rcases am_ite h with ⟨c12, h⟩ | ⟨c12, h⟩
      · refine am_Ev.t hcd (c := p2.2 216 18 = 2) (s1 := (17, [(0, .ref 216)], [], am_SH, (g, p2.2))) rfl c12 ?_
        refine am_Ev.go hcd 6 (s' := (23, [(0, .ref 216)], [.int (p2.2 223 260), .int (p2.2 216 20)], am_SH, (g, p2.2))) rfl ?_
        rcases am_ite h with ⟨c15, h⟩ | ⟨c15, h⟩
        · refine am_Ev.t hcd (c := p2.2 216 20 = p2.2 223 260) (s1 := (24, [(0, .ref 216)], [], am_SH, (g, p2.2))) rfl c15 ?_
          refine am_Ev.go hcd 2 (s' := (26, [(0, .ref 216)], [.int 2, .ref 216], am_SH, (g, p2.2))) rfl ?_
          obtain ⟨p3, Ep3, h⟩ := am_let_eq h
          refine am_Ev.call hcd (a := 201) (s0 := (0, [(0, .ref 216), (1, .int 2)], [], am_SH, (g, p2.2))) (q := ((some (.int (am_b p3.1))), am_SH, (g, p3.2))) (s1 := (27, [(0, .ref 216)], [.int (am_b p3.1)], am_SH, (g, p3.2))) rfl rfl (by subst Ep3; exact m_bad_ok (d + 7) 2 p2.2 g) ?_
          exact am_Ev.cast (a := ((some (.int (am_b (p3.1, p3.2).1))), am_SH, (g, (p3.1, p3.2).2))) (by cases h; rfl) (am_Ev.retb hcd rfl)
        · refine am_Ev.f hcd (c := p2.2 216 20 = p2.2 223 260) (s1 := (28, [(0, .ref 216)], [], am_SH, (g, p2.2))) rfl c15 ?_
          refine am_Ev.go hcd 4 (s' := (32, [(0, .ref 216)], [.int 15, .int 0, .int 261, .ref 216], am_SH, (g, p2.2))) rfl ?_
          obtain ⟨p4, hp4, h⟩ := am_bind_some h
          refine am_Ev.call hcd (a := 213) (s0 := (0, [(0, .ref 216), (1, .int 261), (2, .int 0), (3, .int 15)], [], am_SH, (g, p2.2))) (q := ((some (.int (am_b p4.1))), am_SH, (g, p4.2))) (s1 := (33, [(0, .ref 216)], [.int (am_b p4.1)], am_SH, (g, p4.2))) rfl rfl (m_number_ok (d + 1) 261 0 15 p2.2 g p4 hp4) ?_
          rcases am_ite h with ⟨c26, h⟩ | ⟨c26, h⟩
          · refine am_Ev.f hcd (c := am_b p4.1 = 0) (s1 := (34, [(0, .ref 216)], [], am_SH, (g, p4.2))) rfl (am_b_t c26) ?_
            refine am_Ev.go hcd 4 (s' := (38, [(0, .ref 216)], [.int 9, .int 1, .int 262, .ref 216], am_SH, (g, p4.2))) rfl ?_
            obtain ⟨p5, hp5, h⟩ := am_bind_some h
            refine am_Ev.call hcd (a := 213) (s0 := (0, [(0, .ref 216), (1, .int 262), (2, .int 1), (3, .int 9)], [], am_SH, (g, p4.2))) (q := ((some (.int (am_b p5.1))), am_SH, (g, p5.2))) (s1 := (39, [(0, .ref 216)], [.int (am_b p5.1)], am_SH, (g, p5.2))) rfl rfl (m_number_ok (d + 1) 262 1 9 p4.2 g p5 hp5) ?_
            rcases am_ite h with ⟨c31, h⟩ | ⟨c31, h⟩
            · refine am_Ev.f hcd (c := am_b p5.1 = 0) (s1 := (42, [(0, .ref 216)], [], am_SH, (g, p5.2))) rfl (am_b_t c31) ?_
              obtain ⟨t6, Et6, h⟩ := am_let_eq h
              refine am_Ev.go hcd 5 (s' := (47, [(0, .ref 216), (1, .int t6)], [], am_SH, (g, p5.2))) (by subst Et6; exact rfl) ?_
              obtain ⟨t7, Et7, h⟩ := am_let_eq h
              refine am_Ev.go hcd 5 (s' := (52, [(0, .ref 216), (1, .int t6), (2, .int t7)], [], am_SH, (g, p5.2))) (by subst Et7; exact rfl) ?_
              refine am_Ev.go hcd 14 (s' := (66, [(0, .ref 216), (1, .int t6), (2, .int t7)], [.int ((16 * t6) + t7), .ref 223, .int ((16 * t6) + t7), .ref 223], am_SH, (g, p5.2))) rfl ?_
              obtain ⟨c37, h⟩ := am_grd h
              refine am_Ev.t hcd (o := none) (c := am_in ((16 * t6) + t7) 264 = true) (s1 := (67, [(0, .ref 216), (1, .int t6), (2, .int t7)], [.int (p5.2 223 ((16 * t6) + t7).toNatClampNeg), .int ((16 * t6) + t7), .ref 223], am_SH, (g, p5.2))) rfl c37 ?_
              refine am_Ev.go hcd 4 (s' := (71, [(0, .ref 216), (1, .int t6), (2, .int t7)], [.int (p5.2 223 262), .int (p5.2 223 ((16 * t6) + t7).toNatClampNeg), .int ((16 * t6) + t7), .ref 223], am_SH, (g, p5.2))) rfl ?_
              refine am_Ev.call hcd (a := 178) (s0 := (0, [(0, .int (p5.2 223 ((16 * t6) + t7).toNatClampNeg)), (1, .int (p5.2 223 262))], [], am_SH, (g, p5.2))) (q := ((some (.int (m_greater (p5.2 223 ((16 * t6) + t7).toNatClampNeg) (p5.2 223 262)))), am_SH, (g, p5.2))) (s1 := (72, [(0, .ref 216), (1, .int t6), (2, .int t7)], [.int (m_greater (p5.2 223 ((16 * t6) + t7).toNatClampNeg) (p5.2 223 262)), .int ((16 * t6) + t7), .ref 223], am_SH, (g, p5.2))) rfl rfl (m_greater_ok (d + 7) (p5.2 223 ((16 * t6) + t7).toNatClampNeg) (p5.2 223 262) (g, p5.2)) ?_
              obtain ⟨c42, h⟩ := am_grd h
              obtain ⟨f9, Ef9, h⟩ := am_let_eq h
              refine am_Ev.t hcd (o := none) (c := am_in ((16 * t6) + t7) 264 = true) (s1 := (73, [(0, .ref 216), (1, .int t6), (2, .int t7)], [], am_SH, (g, f9))) (by subst Ef9; exact rfl) c42 ?_
              refine am_Ev.go hcd 14 (s' := (87, [(0, .ref 216), (1, .int t6), (2, .int t7)], [.int ((16 * t6) + t7), .ref 223, .int ((16 * t7) + t6), .ref 223], am_SH, (g, f9))) rfl ?_
              obtain ⟨c45, h⟩ := am_grd h
              refine am_Ev.t hcd (o := none) (c := am_in ((16 * t6) + t7) 264 = true) (s1 := (88, [(0, .ref 216), (1, .int t6), (2, .int t7)], [.int (f9 223 ((16 * t6) + t7).toNatClampNeg), .int ((16 * t7) + t6), .ref 223], am_SH, (g, f9))) rfl c45 ?_
              obtain ⟨c48, h⟩ := am_grd h
              obtain ⟨f10, Ef10, h⟩ := am_let_eq h
              refine am_Ev.t hcd (o := none) (c := am_in ((16 * t7) + t6) 264 = true) (s1 := (89, [(0, .ref 216), (1, .int t6), (2, .int t7)], [], am_SH, (g, f10))) (by subst Ef10; exact rfl) c48 ?_
              refine am_Ev.go hcd 1 (s' := (90, [(0, .ref 216), (1, .int t6), (2, .int t7)], [.int 1], am_SH, (g, f10))) rfl ?_
              exact am_Ev.cast (a := ((some (.int (am_b (true, f10).1))), am_SH, (g, (true, f10).2))) (by cases h; rfl) (am_Ev.ret hcd rfl)
            · refine am_Ev.t hcd (c := am_b p5.1 = 0) (s1 := (40, [(0, .ref 216)], [], am_SH, (g, p5.2))) rfl (am_b_f c31) ?_
              refine am_Ev.go hcd 1 (s' := (41, [(0, .ref 216)], [.int 0], am_SH, (g, p5.2))) rfl ?_
              exact am_Ev.cast (a := ((some (.int (am_b (false, p5.2).1))), am_SH, (g, (false, p5.2).2))) (by cases h; rfl) (am_Ev.ret hcd rfl)
          · refine am_Ev.t hcd (c := am_b p4.1 = 0) (s1 := (40, [(0, .ref 216)], [], am_SH, (g, p4.2))) rfl (am_b_f c26) ?_
            refine am_Ev.go hcd 1 (s' := (41, [(0, .ref 216)], [.int 0], am_SH, (g, p4.2))) rfl ?_
            exact am_Ev.cast (a := ((some (.int (am_b (false, p4.2).1))), am_SH, (g, (false, p4.2).2))) (by cases h; rfl) (am_Ev.ret hcd rfl)
      · refine am_Ev.f hcd (c := p2.2 216 18 = 2) (s1 := (28, [(0, .ref 216)], [], am_SH, (g, p2.2))) rfl c12 ?_
        refine am_Ev.go hcd 4 (s' := (32, [(0, .ref 216)], [.int 15, .int 0, .int 261, .ref 216], am_SH, (g, p2.2))) rfl ?_
        obtain ⟨p11, hp11, h⟩ := am_bind_some h
        refine am_Ev.call hcd (a := 213) (s0 := (0, [(0, .ref 216), (1, .int 261), (2, .int 0), (3, .int 15)], [], am_SH, (g, p2.2))) (q := ((some (.int (am_b p11.1))), am_SH, (g, p11.2))) (s1 := (33, [(0, .ref 216)], [.int (am_b p11.1)], am_SH, (g, p11.2))) rfl rfl (m_number_ok (d + 1) 261 0 15 p2.2 g p11 hp11) ?_
        rcases am_ite h with ⟨c63, h⟩ | ⟨c63, h⟩
        · refine am_Ev.f hcd (c := am_b p11.1 = 0) (s1 := (34, [(0, .ref 216)], [], am_SH, (g, p11.2))) rfl (am_b_t c63) ?_
          refine am_Ev.go hcd 4 (s' := (38, [(0, .ref 216)], [.int 9, .int 1, .int 262, .ref 216], am_SH, (g, p11.2))) rfl ?_
          obtain ⟨p12, hp12, h⟩ := am_bind_some h
          refine am_Ev.call hcd (a := 213) (s0 := (0, [(0, .ref 216), (1, .int 262), (2, .int 1), (3, .int 9)], [], am_SH, (g, p11.2))) (q := ((some (.int (am_b p12.1))), am_SH, (g, p12.2))) (s1 := (39, [(0, .ref 216)], [.int (am_b p12.1)], am_SH, (g, p12.2))) rfl rfl (m_number_ok (d + 1) 262 1 9 p11.2 g p12 hp12) ?_
          rcases am_ite h with ⟨c68, h⟩ | ⟨c68, h⟩
          · refine am_Ev.f hcd (c := am_b p12.1 = 0) (s1 := (42, [(0, .ref 216)], [], am_SH, (g, p12.2))) rfl (am_b_t c68) ?_
            obtain ⟨t13, Et13, h⟩ := am_let_eq h
            refine am_Ev.go hcd 5 (s' := (47, [(0, .ref 216), (1, .int t13)], [], am_SH, (g, p12.2))) (by subst Et13; exact rfl) ?_
            obtain ⟨t14, Et14, h⟩ := am_let_eq h
            refine am_Ev.go hcd 5 (s' := (52, [(0, .ref 216), (1, .int t13), (2, .int t14)], [], am_SH, (g, p12.2))) (by subst Et14; exact rfl) ?_
            refine am_Ev.go hcd 14 (s' := (66, [(0, .ref 216), (1, .int t13), (2, .int t14)], [.int ((16 * t13) + t14), .ref 223, .int ((16 * t13) + t14), .ref 223], am_SH, (g, p12.2))) rfl ?_
            obtain ⟨c74, h⟩ := am_grd h
            refine am_Ev.t hcd (o := none) (c := am_in ((16 * t13) + t14) 264 = true) (s1 := (67, [(0, .ref 216), (1, .int t13), (2, .int t14)], [.int (p12.2 223 ((16 * t13) + t14).toNatClampNeg), .int ((16 * t13) + t14), .ref 223], am_SH, (g, p12.2))) rfl c74 ?_
            refine am_Ev.go hcd 4 (s' := (71, [(0, .ref 216), (1, .int t13), (2, .int t14)], [.int (p12.2 223 262), .int (p12.2 223 ((16 * t13) + t14).toNatClampNeg), .int ((16 * t13) + t14), .ref 223], am_SH, (g, p12.2))) rfl ?_
            refine am_Ev.call hcd (a := 178) (s0 := (0, [(0, .int (p12.2 223 ((16 * t13) + t14).toNatClampNeg)), (1, .int (p12.2 223 262))], [], am_SH, (g, p12.2))) (q := ((some (.int (m_greater (p12.2 223 ((16 * t13) + t14).toNatClampNeg) (p12.2 223 262)))), am_SH, (g, p12.2))) (s1 := (72, [(0, .ref 216), (1, .int t13), (2, .int t14)], [.int (m_greater (p12.2 223 ((16 * t13) + t14).toNatClampNeg) (p12.2 223 262)), .int ((16 * t13) + t14), .ref 223], am_SH, (g, p12.2))) rfl rfl (m_greater_ok (d + 7) (p12.2 223 ((16 * t13) + t14).toNatClampNeg) (p12.2 223 262) (g, p12.2)) ?_
            obtain ⟨c79, h⟩ := am_grd h
            obtain ⟨f16, Ef16, h⟩ := am_let_eq h
            refine am_Ev.t hcd (o := none) (c := am_in ((16 * t13) + t14) 264 = true) (s1 := (73, [(0, .ref 216), (1, .int t13), (2, .int t14)], [], am_SH, (g, f16))) (by subst Ef16; exact rfl) c79 ?_
            refine am_Ev.go hcd 14 (s' := (87, [(0, .ref 216), (1, .int t13), (2, .int t14)], [.int ((16 * t13) + t14), .ref 223, .int ((16 * t14) + t13), .ref 223], am_SH, (g, f16))) rfl ?_
            obtain ⟨c82, h⟩ := am_grd h
            refine am_Ev.t hcd (o := none) (c := am_in ((16 * t13) + t14) 264 = true) (s1 := (88, [(0, .ref 216), (1, .int t13), (2, .int t14)], [.int (f16 223 ((16 * t13) + t14).toNatClampNeg), .int ((16 * t14) + t13), .ref 223], am_SH, (g, f16))) rfl c82 ?_
            obtain ⟨c85, h⟩ := am_grd h
            obtain ⟨f17, Ef17, h⟩ := am_let_eq h
            refine am_Ev.t hcd (o := none) (c := am_in ((16 * t14) + t13) 264 = true) (s1 := (89, [(0, .ref 216), (1, .int t13), (2, .int t14)], [], am_SH, (g, f17))) (by subst Ef17; exact rfl) c85 ?_
            refine am_Ev.go hcd 1 (s' := (90, [(0, .ref 216), (1, .int t13), (2, .int t14)], [.int 1], am_SH, (g, f17))) rfl ?_
            exact am_Ev.cast (a := ((some (.int (am_b (true, f17).1))), am_SH, (g, (true, f17).2))) (by cases h; rfl) (am_Ev.ret hcd rfl)
          · refine am_Ev.t hcd (c := am_b p12.1 = 0) (s1 := (40, [(0, .ref 216)], [], am_SH, (g, p12.2))) rfl (am_b_f c68) ?_
            refine am_Ev.go hcd 1 (s' := (41, [(0, .ref 216)], [.int 0], am_SH, (g, p12.2))) rfl ?_
            exact am_Ev.cast (a := ((some (.int (am_b (false, p12.2).1))), am_SH, (g, (false, p12.2).2))) (by cases h; rfl) (am_Ev.ret hcd rfl)
        · refine am_Ev.t hcd (c := am_b p11.1 = 0) (s1 := (40, [(0, .ref 216)], [], am_SH, (g, p11.2))) rfl (am_b_f c63) ?_
          refine am_Ev.go hcd 1 (s' := (41, [(0, .ref 216)], [.int 0], am_SH, (g, p11.2))) rfl ?_
          exact am_Ev.cast (a := ((some (.int (am_b (false, p11.2).1))), am_SH, (g, (false, p11.2).2))) (by cases h; rfl) (am_Ev.ret hcd rfl)
    · refine am_Ev.t hcd (c := am_b p2.1 = 0) (s1 := (11, [(0, .ref 216)], [], am_SH, (g, p2.2))) rfl (am_b_f c10) ?_
      refine am_Ev.go hcd 1 (s' := (12, [(0, .ref 216)], [.int 0], am_SH, (g, p2.2))) rfl ?_
      exact am_Ev.cast (a := ((some (.int (am_b (false, p2.2).1))), am_SH, (g, (false, p2.2).2))) (by cases h; rfl) (am_Ev.ret hcd rfl)
  · refine am_Ev.t hcd (c := am_b p1.1 = 0) (s1 := (11, [(0, .ref 216)], [], am_SH, (g, p1.2))) rfl (am_b_f c5) ?_
    refine am_Ev.go hcd 1 (s' := (12, [(0, .ref 216)], [.int 0], am_SH, (g, p1.2))) rfl ?_
    exact am_Ev.cast (a := ((some (.int (am_b (false, p1.2).1))), am_SH, (g, (false, p1.2).2))) (by cases h; rfl) (am_Ev.ret hcd rfl)
set_option maxRecDepth 100000 in
set_option maxHeartbeats 4000000 in
theorem m_aSecret_ok {sc : Nat × (Nat → Int32)} (d : Nat)  (f g : (Nat → Nat → Int32)) (r : Bool × (Nat → Nat → Int32)) (h : m_aSecret  f = some r) : am_Ev sc (d + 8) 217 (0, [(0, .ref 216)], [], am_SH, (g, f)) ((some (.int (am_b r.1))), am_SH, (g, r.2)) := by
  have hcd : am_code 217 = am_c217 := rfl
  unfold m_aSecret at h
  refine am_Ev.go hcd 10 (s' := (10, [(0, .ref 216)], [.int ((f 217 70) - 1), .int 0, .int 17, .int 260, .ref 216], am_SH, (g, f))) rfl ?_
  obtain ⟨p1, hp1, h⟩ := am_bind_some h
  refine am_Ev.call hcd (a := 214) (s0 := (0, [(0, .ref 216), (1, .int 260), (2, .int 17), (3, .int 0), (4, .int ((f 217 70) - 1))], [], am_SH, (g, f))) (q := ((some (.int (am_b p1.1))), am_SH, (g, p1.2))) (s1 := (11, [(0, .ref 216)], [.int (am_b p1.1)], am_SH, (g, p1.2))) rfl rfl (m_told_ok (d) 260 17 0 ((f 217 70) - 1) f g p1 hp1) ?_
  rcases am_ite h with ⟨c5, h⟩ | ⟨c5, h⟩
  · refine am_Ev.f hcd (c := am_b p1.1 = 0) (s1 := (12, [(0, .ref 216)], [], am_SH, (g, p1.2))) rfl (am_b_t c5) ?_
    refine am_Ev.go hcd 5 (s' := (17, [(0, .ref 216)], [.int 15, .int 0, .int 18, .int 261, .ref 216], am_SH, (g, p1.2))) rfl ?_
    obtain ⟨p2, hp2, h⟩ := am_bind_some h
    refine am_Ev.call hcd (a := 214) (s0 := (0, [(0, .ref 216), (1, .int 261), (2, .int 18), (3, .int 0), (4, .int 15)], [], am_SH, (g, p1.2))) (q := ((some (.int (am_b p2.1))), am_SH, (g, p2.2))) (s1 := (18, [(0, .ref 216)], [.int (am_b p2.1)], am_SH, (g, p2.2))) rfl rfl (m_told_ok (d) 261 18 0 15 p1.2 g p2 hp2) ?_
    rcases am_ite h with ⟨c10, h⟩ | ⟨c10, h⟩
    · refine am_Ev.f hcd (c := am_b p2.1 = 0) (s1 := (21, [(0, .ref 216)], [], am_SH, (g, p2.2))) rfl (am_b_t c10) ?_
      obtain ⟨t3, Et3, h⟩ := am_let_eq h
      refine am_Ev.go hcd 7 (s' := (28, [(0, .ref 216), (1, .int t3)], [], am_SH, (g, p2.2))) (by subst Et3; exact rfl) ?_
      refine am_Ev.go hcd 2 (s' := (30, [(0, .ref 216), (1, .int t3), (2, .int 1)], [], am_SH, (g, p2.2))) rfl ?_
      obtain ⟨e11, he11, h⟩ := am_bind_some h
      have hK4 : (fun (v : (Bool × (Nat → Nat → Int32)) ⊕ (Int32 × (Nat → Nat → Int32))) => v.elim (fun (v : Bool × (Nat → Nat → Int32)) => (((some (.int (am_b v.1))), am_SH, (g, v.2)) : am_R) = ((some (.int (am_b r.1))), am_SH, (g, r.2))) (fun (e12 : Int32 × (Nat → Nat → Int32)) => am_Ev sc (d + 8) 217 (62, [(0, .ref 216), (1, .int e12.1)], [], am_SH, (g, e12.2)) ((some (.int (am_b r.1))), am_SH, (g, r.2)))) e11 := by
        cases e11 with
        | inl v => exact (by cases h; rfl)
        | inr e12 =>
          have h := am_elim_r h
          show am_Ev sc (d + 8) 217 (62, [(0, .ref 216), (1, .int e12.1)], [], am_SH, (g, e12.2)) ((some (.int (am_b r.1))), am_SH, (g, r.2))
          refine am_Ev.go hcd 7 (s' := (69, [(0, .ref 216), (1, .int e12.1)], [.int e12.1, .int (e12.2 223 260), .ref 223], am_SH, (g, e12.2))) rfl ?_
          obtain ⟨c22, h⟩ := am_grd h
          obtain ⟨f13, Ef13, h⟩ := am_let_eq h
          refine am_Ev.t hcd (o := none) (c := am_in (e12.2 223 260) 264 = true) (s1 := (70, [(0, .ref 216), (1, .int e12.1)], [], am_SH, (g, f13))) (by subst Ef13; exact rfl) c22 ?_
          refine am_Ev.go hcd 1 (s' := (71, [(0, .ref 216), (1, .int e12.1)], [.int 1], am_SH, (g, f13))) rfl ?_
          exact am_Ev.cast (a := ((some (.int (am_b (true, f13).1))), am_SH, (g, (true, f13).2))) (by cases h; rfl) (am_Ev.ret hcd rfl)
      refine am_Ev.weak' (am_loop_ok (G := fun (s4 : Int32 × Int32 × (Nat → Nat → Int32)) => am_Ev sc (d + 8) 217 (30, [(0, .ref 216), (1, .int s4.1), (2, .int s4.2.1)], [], am_SH, (g, s4.2.2)) ((some (.int (am_b r.1))), am_SH, (g, r.2))) (Z := fun (v : (Bool × (Nat → Nat → Int32)) ⊕ (Int32 × (Nat → Nat → Int32))) => v.elim (fun (v : Bool × (Nat → Nat → Int32)) => (((some (.int (am_b v.1))), am_SH, (g, v.2)) : am_R) = ((some (.int (am_b r.1))), am_SH, (g, r.2))) (fun (e12 : Int32 × (Nat → Nat → Int32)) => am_Ev sc (d + 8) 217 (62, [(0, .ref 216), (1, .int e12.1)], [], am_SH, (g, e12.2)) ((some (.int (am_b r.1))), am_SH, (g, r.2)))) ?_ am_F (t3, 1, p2.2) e11 he11 hK4) (am_sub_cons rfl (am_sub_cons rfl (am_sub_cons rfl am_sub_nil))) rfl
      intro s4 q4 h hI4 hZ4
      show am_Ev sc (d + 8) 217 (30, [(0, .ref 216), (1, .int s4.1), (2, .int s4.2.1)], [], am_SH, (g, s4.2.2)) ((some (.int (am_b r.1))), am_SH, (g, r.2))
      refine am_Ev.go hcd 3 (s' := (33, [(0, .ref 216), (1, .int s4.1), (2, .int s4.2.1)], [.int 2, .int (s4.2.2 216 18)], am_SH, (g, s4.2.2))) rfl ?_
      rcases am_ite h with ⟨c31, h⟩ | ⟨c31, h⟩
      · refine am_Ev.t hcd (c := s4.2.2 216 18 = 2) (s1 := (34, [(0, .ref 216), (1, .int s4.1), (2, .int s4.2.1)], [], am_SH, (g, s4.2.2))) rfl c31 ?_
        refine am_Ev.go hcd 4 (s' := (38, [(0, .ref 216), (1, .int s4.1), (2, .int s4.2.1)], [.int 15, .int 0, .int (s4.2.2 216 20)], am_SH, (g, s4.2.2))) rfl ?_
        refine am_Ev.call hcd (a := 176) (s0 := (0, [(0, .int (s4.2.2 216 20)), (1, .int 0), (2, .int 15)], [], am_SH, (g, s4.2.2))) (q := ((some (.int (am_b (m_isIn (s4.2.2 216 20) 0 15)))), am_SH, (g, s4.2.2))) (s1 := (39, [(0, .ref 216), (1, .int s4.1), (2, .int s4.2.1)], [.int (am_b (m_isIn (s4.2.2 216 20) 0 15))], am_SH, (g, s4.2.2))) rfl rfl (m_isIn_ok (d + 7) (s4.2.2 216 20) 0 15 (g, s4.2.2)) ?_
        rcases am_ite h with ⟨c36, h⟩ | ⟨c36, h⟩
        · refine am_Ev.f hcd (c := am_b (m_isIn (s4.2.2 216 20) 0 15) = 0) (s1 := (44, [(0, .ref 216), (1, .int s4.1), (2, .int s4.2.1)], [], am_SH, (g, s4.2.2))) rfl (am_b_t c36) ?_
          refine am_Ev.go hcd 2 (s' := (46, [(0, .ref 216), (1, .int s4.1), (2, .int s4.2.1)], [.int 6, .int s4.2.1], am_SH, (g, s4.2.2))) rfl ?_
          rcases am_ite h with ⟨c38, h⟩ | ⟨c38, h⟩
          · refine am_Ev.t hcd (c := s4.2.1 = 6) (s1 := (47, [(0, .ref 216), (1, .int s4.1), (2, .int s4.2.1)], [], am_SH, (g, s4.2.2))) rfl c38 ?_
            refine am_Ev.go hcd 2 (s' := (49, [(0, .ref 216), (1, .int s4.1), (2, .int s4.2.1)], [.int 3, .ref 216], am_SH, (g, s4.2.2))) rfl ?_
            obtain ⟨p6, Ep6, h⟩ := am_let_eq h
            refine am_Ev.call hcd (a := 201) (s0 := (0, [(0, .ref 216), (1, .int 3)], [], am_SH, (g, s4.2.2))) (q := ((some (.int (am_b p6.1))), am_SH, (g, p6.2))) (s1 := (50, [(0, .ref 216), (1, .int s4.1), (2, .int s4.2.1)], [.int (am_b p6.1)], am_SH, (g, p6.2))) rfl rfl (by subst Ep6; exact m_bad_ok (d + 7) 3 s4.2.2 g) ?_
            exact am_Ev.cast (a := ((some (.int (am_b (p6.1, p6.2).1))), am_SH, (g, (p6.1, p6.2).2))) (hZ4 _ (Option.some.inj h).symm) (am_Ev.retb hcd rfl)
          · refine am_Ev.f hcd (c := s4.2.1 = 6) (s1 := (51, [(0, .ref 216), (1, .int s4.1), (2, .int s4.2.1)], [], am_SH, (g, s4.2.2))) rfl c38 ?_
            obtain ⟨t7, Et7, h⟩ := am_let_eq h
            refine am_Ev.go hcd 1 (s' := (52, [(0, .ref 216), (1, .int s4.1), (2, .int t7)], [], am_SH, (g, s4.2.2))) (by subst Et7; exact rfl) ?_
            obtain ⟨t8, Et8, h⟩ := am_let_eq h
            refine am_Ev.go hcd 7 (s' := (59, [(0, .ref 216), (1, .int t8), (2, .int t7)], [], am_SH, (g, s4.2.2))) (by subst Et8; exact rfl) ?_
            refine am_Ev.go hcd 1 (s' := (60, [(0, .ref 216), (1, .int t8), (2, .int t7)], [.ref 216], am_SH, (g, s4.2.2))) rfl ?_
            obtain ⟨p9, hp9, h⟩ := am_bind_some h
            refine am_Ev.call hcd (a := 200) (s0 := (0, [(0, .ref 216)], [], am_SH, (g, s4.2.2))) (q := (none, am_SH, (g, p9))) (s1 := (61, [(0, .ref 216), (1, .int t8), (2, .int t7)], [], am_SH, (g, p9))) rfl rfl (m_next0_ok (d + 2)  s4.2.2 g p9 hp9) ?_
            refine am_Ev.go hcd 1 (s' := (30, [(0, .ref 216), (1, .int t8), (2, .int t7)], [], am_SH, (g, p9))) rfl ?_
            exact am_Ev.weak' (hI4 (t8, t7, p9) (Option.some.inj h).symm) (am_sub_cons rfl (am_sub_cons rfl (am_sub_cons rfl am_sub_nil))) rfl
        · refine am_Ev.t hcd (c := am_b (m_isIn (s4.2.2 216 20) 0 15) = 0) (s1 := (40, [(0, .ref 216), (1, .int s4.1), (2, .int s4.2.1)], [], am_SH, (g, s4.2.2))) rfl (am_b_f c36) ?_
          refine am_Ev.go hcd 2 (s' := (42, [(0, .ref 216), (1, .int s4.1), (2, .int s4.2.1)], [.int 2, .ref 216], am_SH, (g, s4.2.2))) rfl ?_
          obtain ⟨p10, Ep10, h⟩ := am_let_eq h
          refine am_Ev.call hcd (a := 201) (s0 := (0, [(0, .ref 216), (1, .int 2)], [], am_SH, (g, s4.2.2))) (q := ((some (.int (am_b p10.1))), am_SH, (g, p10.2))) (s1 := (43, [(0, .ref 216), (1, .int s4.1), (2, .int s4.2.1)], [.int (am_b p10.1)], am_SH, (g, p10.2))) rfl rfl (by subst Ep10; exact m_bad_ok (d + 7) 2 s4.2.2 g) ?_
          exact am_Ev.cast (a := ((some (.int (am_b (p10.1, p10.2).1))), am_SH, (g, (p10.1, p10.2).2))) (hZ4 _ (Option.some.inj h).symm) (am_Ev.retb hcd rfl)
      · refine am_Ev.f hcd (c := s4.2.2 216 18 = 2) (s1 := (62, [(0, .ref 216), (1, .int s4.1), (2, .int s4.2.1)], [], am_SH, (g, s4.2.2))) rfl c31 ?_
        exact am_Ev.weak' (hZ4 (.inr (s4.1, s4.2.2)) (Option.some.inj h).symm) (am_sub_cons rfl (am_sub_cons rfl am_sub_nil)) rfl
    · refine am_Ev.t hcd (c := am_b p2.1 = 0) (s1 := (19, [(0, .ref 216)], [], am_SH, (g, p2.2))) rfl (am_b_f c10) ?_
      refine am_Ev.go hcd 1 (s' := (20, [(0, .ref 216)], [.int 0], am_SH, (g, p2.2))) rfl ?_
      exact am_Ev.cast (a := ((some (.int (am_b (false, p2.2).1))), am_SH, (g, (false, p2.2).2))) (by cases h; rfl) (am_Ev.ret hcd rfl)
  · refine am_Ev.t hcd (c := am_b p1.1 = 0) (s1 := (19, [(0, .ref 216)], [], am_SH, (g, p1.2))) rfl (am_b_f c5) ?_
    refine am_Ev.go hcd 1 (s' := (20, [(0, .ref 216)], [.int 0], am_SH, (g, p1.2))) rfl ?_
    exact am_Ev.cast (a := ((some (.int (am_b (false, p1.2).1))), am_SH, (g, (false, p1.2).2))) (by cases h; rfl) (am_Ev.ret hcd rfl)
set_option maxRecDepth 100000 in
set_option maxHeartbeats 4000000 in
theorem m_aRow_ok {sc : Nat × (Nat → Int32)} (d : Nat)  (f g : (Nat → Nat → Int32)) (r : Bool × (Nat → Nat → Int32)) (h : m_aRow  f = some r) : am_Ev sc (d + 9) 218 (0, [(0, .ref 216)], [], am_SH, (g, f)) ((some (.int (am_b r.1))), am_SH, (g, r.2)) := by
  have hcd : am_code 218 = am_c218 := rfl
  unfold m_aRow at h
  refine am_Ev.go hcd 3 (s' := (3, [(0, .ref 216)], [.int 1, .int (f 216 12)], am_SH, (g, f))) rfl ?_
  rcases am_ite h with ⟨c2, h⟩ | ⟨c2, h⟩
  · refine am_Ev.t hcd (c := f 216 12 = 1) (s1 := (4, [(0, .ref 216)], [], am_SH, (g, f))) rfl c2 ?_
    refine am_Ev.go hcd 1 (s' := (5, [(0, .ref 216)], [.ref 216], am_SH, (g, f))) rfl ?_
    obtain ⟨p1, hp1, h⟩ := am_bind_some h
    refine am_Ev.call hcd (a := 215) (s0 := (0, [(0, .ref 216)], [], am_SH, (g, f))) (q := ((some (.int (am_b p1.1))), am_SH, (g, p1.2))) (s1 := (6, [(0, .ref 216)], [.int (am_b p1.1)], am_SH, (g, p1.2))) rfl rfl (m_aWalk_ok (d)  f g p1 hp1) ?_
    rcases am_ite h with ⟨c8, h⟩ | ⟨c8, h⟩
    · refine am_Ev.f hcd (c := am_b p1.1 = 0) (s1 := (7, [(0, .ref 216)], [], am_SH, (g, p1.2))) rfl (am_b_t c8) ?_
      refine am_Ev.go hcd 3 (s' := (21, [(0, .ref 216)], [.int 159, .ref 216], am_SH, (g, p1.2))) rfl ?_
      obtain ⟨p2, hp2, h⟩ := am_bind_some h
      refine am_Ev.call hcd (a := 202) (s0 := (0, [(0, .ref 216), (1, .int 159)], [], am_SH, (g, p1.2))) (q := ((some (.int (am_b p2.1))), am_SH, (g, p2.2))) (s1 := (22, [(0, .ref 216)], [.int (am_b p2.1)], am_SH, (g, p2.2))) rfl rfl (m_need_ok (d + 2) 159 p1.2 g p2 hp2) ?_
      rcases am_ite h with ⟨c13, h⟩ | ⟨c13, h⟩
      · refine am_Ev.f hcd (c := am_b p2.1 = 0) (s1 := (23, [(0, .ref 216)], [], am_SH, (g, p2.2))) rfl (am_b_t c13) ?_
        refine am_Ev.go hcd 2 (s' := (26, [(0, .ref 216)], [.int 1], am_SH, (g, p2.2))) rfl ?_
        exact am_Ev.cast (a := ((some (.int (am_b (true, p2.2).1))), am_SH, (g, (true, p2.2).2))) (by cases h; rfl) (am_Ev.ret hcd rfl)
      · refine am_Ev.t hcd (c := am_b p2.1 = 0) (s1 := (25, [(0, .ref 216)], [], am_SH, (g, p2.2))) rfl (am_b_f c13) ?_
        refine am_Ev.go hcd 1 (s' := (26, [(0, .ref 216)], [.int 0], am_SH, (g, p2.2))) rfl ?_
        exact am_Ev.cast (a := ((some (.int (am_b (false, p2.2).1))), am_SH, (g, (false, p2.2).2))) (by cases h; rfl) (am_Ev.ret hcd rfl)
    · refine am_Ev.t hcd (c := am_b p1.1 = 0) (s1 := (25, [(0, .ref 216)], [], am_SH, (g, p1.2))) rfl (am_b_f c8) ?_
      refine am_Ev.go hcd 1 (s' := (26, [(0, .ref 216)], [.int 0], am_SH, (g, p1.2))) rfl ?_
      exact am_Ev.cast (a := ((some (.int (am_b (false, p1.2).1))), am_SH, (g, (false, p1.2).2))) (by cases h; rfl) (am_Ev.ret hcd rfl)
  · refine am_Ev.f hcd (c := f 216 12 = 1) (s1 := (8, [(0, .ref 216)], [], am_SH, (g, f))) rfl c2 ?_
    refine am_Ev.go hcd 3 (s' := (11, [(0, .ref 216)], [.int 2, .int (f 216 12)], am_SH, (g, f))) rfl ?_
    rcases am_ite h with ⟨c24, h⟩ | ⟨c24, h⟩
    · refine am_Ev.t hcd (c := f 216 12 = 2) (s1 := (12, [(0, .ref 216)], [], am_SH, (g, f))) rfl c24 ?_
      refine am_Ev.go hcd 1 (s' := (13, [(0, .ref 216)], [.ref 216], am_SH, (g, f))) rfl ?_
      obtain ⟨p3, hp3, h⟩ := am_bind_some h
      refine am_Ev.call hcd (a := 216) (s0 := (0, [(0, .ref 216)], [], am_SH, (g, f))) (q := ((some (.int (am_b p3.1))), am_SH, (g, p3.2))) (s1 := (14, [(0, .ref 216)], [.int (am_b p3.1)], am_SH, (g, p3.2))) rfl rfl (m_aNearness_ok (d)  f g p3 hp3) ?_
      rcases am_ite h with ⟨c30, h⟩ | ⟨c30, h⟩
      · refine am_Ev.f hcd (c := am_b p3.1 = 0) (s1 := (15, [(0, .ref 216)], [], am_SH, (g, p3.2))) rfl (am_b_t c30) ?_
        refine am_Ev.go hcd 3 (s' := (21, [(0, .ref 216)], [.int 159, .ref 216], am_SH, (g, p3.2))) rfl ?_
        obtain ⟨p4, hp4, h⟩ := am_bind_some h
        refine am_Ev.call hcd (a := 202) (s0 := (0, [(0, .ref 216), (1, .int 159)], [], am_SH, (g, p3.2))) (q := ((some (.int (am_b p4.1))), am_SH, (g, p4.2))) (s1 := (22, [(0, .ref 216)], [.int (am_b p4.1)], am_SH, (g, p4.2))) rfl rfl (m_need_ok (d + 2) 159 p3.2 g p4 hp4) ?_
        rcases am_ite h with ⟨c35, h⟩ | ⟨c35, h⟩
        · refine am_Ev.f hcd (c := am_b p4.1 = 0) (s1 := (23, [(0, .ref 216)], [], am_SH, (g, p4.2))) rfl (am_b_t c35) ?_
          refine am_Ev.go hcd 2 (s' := (26, [(0, .ref 216)], [.int 1], am_SH, (g, p4.2))) rfl ?_
          exact am_Ev.cast (a := ((some (.int (am_b (true, p4.2).1))), am_SH, (g, (true, p4.2).2))) (by cases h; rfl) (am_Ev.ret hcd rfl)
        · refine am_Ev.t hcd (c := am_b p4.1 = 0) (s1 := (25, [(0, .ref 216)], [], am_SH, (g, p4.2))) rfl (am_b_f c35) ?_
          refine am_Ev.go hcd 1 (s' := (26, [(0, .ref 216)], [.int 0], am_SH, (g, p4.2))) rfl ?_
          exact am_Ev.cast (a := ((some (.int (am_b (false, p4.2).1))), am_SH, (g, (false, p4.2).2))) (by cases h; rfl) (am_Ev.ret hcd rfl)
      · refine am_Ev.t hcd (c := am_b p3.1 = 0) (s1 := (25, [(0, .ref 216)], [], am_SH, (g, p3.2))) rfl (am_b_f c30) ?_
        refine am_Ev.go hcd 1 (s' := (26, [(0, .ref 216)], [.int 0], am_SH, (g, p3.2))) rfl ?_
        exact am_Ev.cast (a := ((some (.int (am_b (false, p3.2).1))), am_SH, (g, (false, p3.2).2))) (by cases h; rfl) (am_Ev.ret hcd rfl)
    · refine am_Ev.f hcd (c := f 216 12 = 2) (s1 := (16, [(0, .ref 216)], [], am_SH, (g, f))) rfl c24 ?_
      refine am_Ev.go hcd 1 (s' := (17, [(0, .ref 216)], [.ref 216], am_SH, (g, f))) rfl ?_
      obtain ⟨p5, hp5, h⟩ := am_bind_some h
      refine am_Ev.call hcd (a := 217) (s0 := (0, [(0, .ref 216)], [], am_SH, (g, f))) (q := ((some (.int (am_b p5.1))), am_SH, (g, p5.2))) (s1 := (18, [(0, .ref 216)], [.int (am_b p5.1)], am_SH, (g, p5.2))) rfl rfl (m_aSecret_ok (d)  f g p5 hp5) ?_
      rcases am_ite h with ⟨c49, h⟩ | ⟨c49, h⟩
      · refine am_Ev.f hcd (c := am_b p5.1 = 0) (s1 := (19, [(0, .ref 216)], [], am_SH, (g, p5.2))) rfl (am_b_t c49) ?_
        refine am_Ev.go hcd 2 (s' := (21, [(0, .ref 216)], [.int 159, .ref 216], am_SH, (g, p5.2))) rfl ?_
        obtain ⟨p6, hp6, h⟩ := am_bind_some h
        refine am_Ev.call hcd (a := 202) (s0 := (0, [(0, .ref 216), (1, .int 159)], [], am_SH, (g, p5.2))) (q := ((some (.int (am_b p6.1))), am_SH, (g, p6.2))) (s1 := (22, [(0, .ref 216)], [.int (am_b p6.1)], am_SH, (g, p6.2))) rfl rfl (m_need_ok (d + 2) 159 p5.2 g p6 hp6) ?_
        rcases am_ite h with ⟨c54, h⟩ | ⟨c54, h⟩
        · refine am_Ev.f hcd (c := am_b p6.1 = 0) (s1 := (23, [(0, .ref 216)], [], am_SH, (g, p6.2))) rfl (am_b_t c54) ?_
          refine am_Ev.go hcd 2 (s' := (26, [(0, .ref 216)], [.int 1], am_SH, (g, p6.2))) rfl ?_
          exact am_Ev.cast (a := ((some (.int (am_b (true, p6.2).1))), am_SH, (g, (true, p6.2).2))) (by cases h; rfl) (am_Ev.ret hcd rfl)
        · refine am_Ev.t hcd (c := am_b p6.1 = 0) (s1 := (25, [(0, .ref 216)], [], am_SH, (g, p6.2))) rfl (am_b_f c54) ?_
          refine am_Ev.go hcd 1 (s' := (26, [(0, .ref 216)], [.int 0], am_SH, (g, p6.2))) rfl ?_
          exact am_Ev.cast (a := ((some (.int (am_b (false, p6.2).1))), am_SH, (g, (false, p6.2).2))) (by cases h; rfl) (am_Ev.ret hcd rfl)
      · refine am_Ev.t hcd (c := am_b p5.1 = 0) (s1 := (25, [(0, .ref 216)], [], am_SH, (g, p5.2))) rfl (am_b_f c49) ?_
        refine am_Ev.go hcd 1 (s' := (26, [(0, .ref 216)], [.int 0], am_SH, (g, p5.2))) rfl ?_
        exact am_Ev.cast (a := ((some (.int (am_b (false, p5.2).1))), am_SH, (g, (false, p5.2).2))) (by cases h; rfl) (am_Ev.ret hcd rfl)
