set_option maxRecDepth 100000 in
set_option maxHeartbeats 4000000 in
theorem m_is_ok {sc : Nat × (Nat → Int32)} (d : Nat) (a0 : Nat) (f g : (Nat → Nat → Int32)) (r : Bool) (h : m_is a0 f = some r) : am_Ev sc (d + 1) 195 (0, [(0, .ref 216), (1, .retAddr a0)], [], am_SH, (g, f)) ((some (.int (am_b r))), am_SH, (g, f)) := by
  have hcd : am_code 195 = am_c195 := rfl
  unfold m_is at h
  refine am_Ev.go hcd 6 (s' := (6, [(0, .ref 216), (1, .retAddr a0)], [.retAddr a0, .int ((f 216 17) - (f 216 19))], am_SH, (g, f))) rfl ?_
  obtain ⟨c2, h⟩ := am_grd h
  refine am_Ev.jdkt hcd (c := a0 < am_strs.length) (s1 := (7, [(0, .ref 216), (1, .retAddr a0)], [.int (nI (am_tl a0)), .int ((f 216 17) - (f 216 19))], am_SH, (g, f))) rfl c2 ?_
  obtain ⟨t1, ht1, kt1⟩ := am_let_eq h
  have hKt1 : am_Ev sc (d + 1) 195 (11, [(0, .ref 216), (1, .retAddr a0)], [.int (am_b t1)], am_SH, (g, f)) ((some (.int (am_b r))), am_SH, (g, f)) := by
    have h := kt1
    refine am_Ev.go hcd 3 (s' := (14, [(0, .ref 216), (1, .retAddr a0), (2, .int (am_b t1)), (3, .int 0)], [], am_SH, (g, f))) rfl ?_
    refine am_Ev.weak' (am_loop_ok (G := fun (s2 : Bool × Int32) => am_Ev sc (d + 1) 195 (14, [(0, .ref 216), (1, .retAddr a0), (2, .int (am_b s2.1)), (3, .int s2.2)], [], am_SH, (g, f)) ((some (.int (am_b r))), am_SH, (g, f))) (Z := fun (v : Bool) => (((some (.int (am_b v))), am_SH, (g, f)) : am_R) = ((some (.int (am_b r))), am_SH, (g, f))) ?_ am_F (t1, 0) r h rfl) (am_sub_cons rfl (am_sub_cons rfl (am_sub_cons rfl (am_sub_cons rfl am_sub_nil)))) rfl
    intro s2 q2 h hI2 hZ2
    show am_Ev sc (d + 1) 195 (14, [(0, .ref 216), (1, .retAddr a0), (2, .int (am_b s2.1)), (3, .int s2.2)], [], am_SH, (g, f)) ((some (.int (am_b r))), am_SH, (g, f))
    refine am_Ev.go hcd 2 (s' := (16, [(0, .ref 216), (1, .retAddr a0), (2, .int (am_b s2.1)), (3, .int s2.2)], [.retAddr a0, .int s2.2], am_SH, (g, f))) rfl ?_
    obtain ⟨c12, h⟩ := am_grd h
    refine am_Ev.jdkt hcd (c := a0 < am_strs.length) (s1 := (17, [(0, .ref 216), (1, .retAddr a0), (2, .int (am_b s2.1)), (3, .int s2.2)], [.int (nI (am_tl a0)), .int s2.2], am_SH, (g, f))) rfl c12 ?_
    rcases am_ite h with ⟨c15, h⟩ | ⟨c15, h⟩
    · refine am_Ev.t hcd (c := s2.2 < (nI (am_tl a0))) (s1 := (18, [(0, .ref 216), (1, .retAddr a0), (2, .int (am_b s2.1)), (3, .int s2.2)], [], am_SH, (g, f))) rfl c15 ?_
      refine am_Ev.go hcd 1 (s' := (19, [(0, .ref 216), (1, .retAddr a0), (2, .int (am_b s2.1)), (3, .int s2.2)], [.int (am_b s2.1)], am_SH, (g, f))) rfl ?_
      rcases am_ite h with ⟨c17, h⟩ | ⟨c17, h⟩
      · refine am_Ev.f hcd (c := am_b s2.1 = 0) (s1 := (20, [(0, .ref 216), (1, .retAddr a0), (2, .int (am_b s2.1)), (3, .int s2.2)], [], am_SH, (g, f))) rfl (am_b_t c17) ?_
        refine am_Ev.go hcd 6 (s' := (26, [(0, .ref 216), (1, .retAddr a0), (2, .int (am_b s2.1)), (3, .int s2.2)], [.int ((f 216 19) + s2.2), .ref 224], am_SH, (g, f))) rfl ?_
        obtain ⟨c20, h⟩ := am_grd h
        refine am_Ev.t hcd (o := none) (c := am_in ((f 216 19) + s2.2) 400 = true) (s1 := (27, [(0, .ref 216), (1, .retAddr a0), (2, .int (am_b s2.1)), (3, .int s2.2)], [.int (f 224 ((f 216 19) + s2.2).toNatClampNeg)], am_SH, (g, f))) rfl c20 ?_
        refine am_Ev.go hcd 2 (s' := (29, [(0, .ref 216), (1, .retAddr a0), (2, .int (am_b s2.1)), (3, .int s2.2)], [.int s2.2, .retAddr a0, .int (f 224 ((f 216 19) + s2.2).toNatClampNeg)], am_SH, (g, f))) rfl ?_
        obtain ⟨c23, h⟩ := am_grd h
        refine am_Ev.jdkt hcd (c := a0 < am_strs.length ∧ am_in s2.2 (am_tl a0) = true) (s1 := (30, [(0, .ref 216), (1, .retAddr a0), (2, .int (am_b s2.1)), (3, .int s2.2)], [.int (am_tc a0 s2.2.toNatClampNeg), .int (f 224 ((f 216 19) + s2.2).toNatClampNeg)], am_SH, (g, f))) rfl c23 ?_
        obtain ⟨t3, ht3, kt3⟩ := am_let_eq h
        have hKt3 : am_Ev sc (d + 1) 195 (34, [(0, .ref 216), (1, .retAddr a0), (3, .int s2.2)], [.int (am_b t3)], am_SH, (g, f)) ((some (.int (am_b r))), am_SH, (g, f)) := by
          have h := kt3
          obtain ⟨t4, Et4, h⟩ := am_let_eq h
          refine am_Ev.go hcd 2 (s' := (36, [(0, .ref 216), (1, .retAddr a0), (2, .int (am_b t3)), (3, .int t4)], [], am_SH, (g, f))) (by subst Et4; exact rfl) ?_
          refine am_Ev.go hcd 1 (s' := (14, [(0, .ref 216), (1, .retAddr a0), (2, .int (am_b t3)), (3, .int t4)], [], am_SH, (g, f))) rfl ?_
          exact am_Ev.weak' (hI2 (t3, t4) (Option.some.inj h).symm) (am_sub_cons rfl (am_sub_cons rfl (am_sub_cons rfl (am_sub_cons rfl am_sub_nil)))) rfl
        have hLt3 : ∀ tt, tt = t3 → am_Ev sc (d + 1) 195 (34, [(0, .ref 216), (1, .retAddr a0), (3, .int s2.2)], [.int (am_b tt)], am_SH, (g, f)) ((some (.int (am_b r))), am_SH, (g, f)) := fun tt htt => by subst htt; exact hKt3
        have h := ht3
        rcases am_itv h with ⟨c35, h⟩ | ⟨c35, h⟩
        · refine am_Ev.t hcd (c := f 224 ((f 216 19) + s2.2).toNatClampNeg = (am_tc a0 s2.2.toNatClampNeg)) (s1 := (31, [(0, .ref 216), (1, .retAddr a0), (2, .int (am_b s2.1)), (3, .int s2.2)], [], am_SH, (g, f))) rfl c35 ?_
          refine am_Ev.go hcd 2 (s' := (34, [(0, .ref 216), (1, .retAddr a0), (2, .int (am_b s2.1)), (3, .int s2.2)], [.int 1], am_SH, (g, f))) rfl ?_
          exact am_Ev.weak' (hLt3 true h.symm) (am_sub_cons rfl (am_sub_cons rfl (am_sub_cons rfl am_sub_nil))) rfl
        · refine am_Ev.f hcd (c := f 224 ((f 216 19) + s2.2).toNatClampNeg = (am_tc a0 s2.2.toNatClampNeg)) (s1 := (33, [(0, .ref 216), (1, .retAddr a0), (2, .int (am_b s2.1)), (3, .int s2.2)], [], am_SH, (g, f))) rfl c35 ?_
          refine am_Ev.go hcd 1 (s' := (34, [(0, .ref 216), (1, .retAddr a0), (2, .int (am_b s2.1)), (3, .int s2.2)], [.int 0], am_SH, (g, f))) rfl ?_
          exact am_Ev.weak' (hLt3 false h.symm) (am_sub_cons rfl (am_sub_cons rfl (am_sub_cons rfl am_sub_nil))) rfl
      · refine am_Ev.t hcd (c := am_b s2.1 = 0) (s1 := (37, [(0, .ref 216), (1, .retAddr a0), (2, .int (am_b s2.1)), (3, .int s2.2)], [], am_SH, (g, f))) rfl (am_b_f c17) ?_
        refine am_Ev.go hcd 1 (s' := (38, [(0, .ref 216), (1, .retAddr a0), (2, .int (am_b s2.1)), (3, .int s2.2)], [.int (am_b s2.1)], am_SH, (g, f))) rfl ?_
        exact am_Ev.cast (a := ((some (.int (am_b s2.1))), am_SH, (g, f))) (hZ2 _ (Option.some.inj h).symm) (am_Ev.retb hcd rfl)
    · refine am_Ev.f hcd (c := s2.2 < (nI (am_tl a0))) (s1 := (37, [(0, .ref 216), (1, .retAddr a0), (2, .int (am_b s2.1)), (3, .int s2.2)], [], am_SH, (g, f))) rfl c15 ?_
      refine am_Ev.go hcd 1 (s' := (38, [(0, .ref 216), (1, .retAddr a0), (2, .int (am_b s2.1)), (3, .int s2.2)], [.int (am_b s2.1)], am_SH, (g, f))) rfl ?_
      exact am_Ev.cast (a := ((some (.int (am_b s2.1))), am_SH, (g, f))) (hZ2 _ (Option.some.inj h).symm) (am_Ev.retb hcd rfl)
  have hLt1 : ∀ tt, tt = t1 → am_Ev sc (d + 1) 195 (11, [(0, .ref 216), (1, .retAddr a0)], [.int (am_b tt)], am_SH, (g, f)) ((some (.int (am_b r))), am_SH, (g, f)) := fun tt htt => by subst htt; exact hKt1
  have h := ht1
  rcases am_itv h with ⟨c50, h⟩ | ⟨c50, h⟩
  · refine am_Ev.t hcd (c := ((f 216 17) - (f 216 19)) = (nI (am_tl a0))) (s1 := (8, [(0, .ref 216), (1, .retAddr a0)], [], am_SH, (g, f))) rfl c50 ?_
    refine am_Ev.go hcd 2 (s' := (11, [(0, .ref 216), (1, .retAddr a0)], [.int 1], am_SH, (g, f))) rfl ?_
    exact am_Ev.weak' (hLt1 true h.symm) (am_sub_cons rfl (am_sub_cons rfl am_sub_nil)) rfl
  · refine am_Ev.f hcd (c := ((f 216 17) - (f 216 19)) = (nI (am_tl a0))) (s1 := (10, [(0, .ref 216), (1, .retAddr a0)], [], am_SH, (g, f))) rfl c50 ?_
    refine am_Ev.go hcd 1 (s' := (11, [(0, .ref 216), (1, .retAddr a0)], [.int 0], am_SH, (g, f))) rfl ?_
    exact am_Ev.weak' (hLt1 false h.symm) (am_sub_cons rfl (am_sub_cons rfl am_sub_nil)) rfl
set_option maxRecDepth 100000 in
set_option maxHeartbeats 4000000 in
theorem m_asked_ok {sc : Nat × (Nat → Int32)} (d : Nat)  (f g : (Nat → Nat → Int32)) (r : Int32) (h : m_asked  f = some r) : am_Ev sc (d + 2) 196 (0, [(0, .ref 216)], [], am_SH, (g, f)) ((some (.int r)), am_SH, (g, f)) := by
  have hcd : am_code 196 = am_c196 := rfl
  unfold m_asked at h
  refine am_Ev.go hcd 2 (s' := (2, [(0, .ref 216)], [.retAddr 11, .ref 216], am_SH, (g, f))) rfl ?_
  obtain ⟨p1, hp1, h⟩ := am_bind_some h
  refine am_Ev.call hcd (a := 195) (s0 := (0, [(0, .ref 216), (1, .retAddr 11)], [], am_SH, (g, f))) (q := ((some (.int (am_b p1))), am_SH, (g, f))) (s1 := (3, [(0, .ref 216)], [.int (am_b p1)], am_SH, (g, f))) rfl rfl (m_is_ok (d) 11 f g p1 hp1) ?_
  rcases am_ite h with ⟨c5, h⟩ | ⟨c5, h⟩
  · refine am_Ev.f hcd (c := am_b p1 = 0) (s1 := (4, [(0, .ref 216)], [], am_SH, (g, f))) rfl (am_b_t c5) ?_
    refine am_Ev.go hcd 1 (s' := (5, [(0, .ref 216)], [.int 41], am_SH, (g, f))) rfl ?_
    exact am_Ev.cast (a := ((some (.int 41)), am_SH, (g, f))) (by cases h; rfl) (am_Ev.ret hcd rfl)
  · refine am_Ev.t hcd (c := am_b p1 = 0) (s1 := (6, [(0, .ref 216)], [], am_SH, (g, f))) rfl (am_b_f c5) ?_
    refine am_Ev.go hcd 2 (s' := (8, [(0, .ref 216)], [.retAddr 12, .ref 216], am_SH, (g, f))) rfl ?_
    obtain ⟨p2, hp2, h⟩ := am_bind_some h
    refine am_Ev.call hcd (a := 195) (s0 := (0, [(0, .ref 216), (1, .retAddr 12)], [], am_SH, (g, f))) (q := ((some (.int (am_b p2))), am_SH, (g, f))) (s1 := (9, [(0, .ref 216)], [.int (am_b p2)], am_SH, (g, f))) rfl rfl (m_is_ok (d) 12 f g p2 hp2) ?_
    rcases am_ite h with ⟨c13, h⟩ | ⟨c13, h⟩
    · refine am_Ev.f hcd (c := am_b p2 = 0) (s1 := (10, [(0, .ref 216)], [], am_SH, (g, f))) rfl (am_b_t c13) ?_
      refine am_Ev.go hcd 1 (s' := (11, [(0, .ref 216)], [.int 42], am_SH, (g, f))) rfl ?_
      exact am_Ev.cast (a := ((some (.int 42)), am_SH, (g, f))) (by cases h; rfl) (am_Ev.ret hcd rfl)
    · refine am_Ev.t hcd (c := am_b p2 = 0) (s1 := (12, [(0, .ref 216)], [], am_SH, (g, f))) rfl (am_b_f c13) ?_
      refine am_Ev.go hcd 2 (s' := (14, [(0, .ref 216)], [.retAddr 13, .ref 216], am_SH, (g, f))) rfl ?_
      obtain ⟨p3, hp3, h⟩ := am_bind_some h
      refine am_Ev.call hcd (a := 195) (s0 := (0, [(0, .ref 216), (1, .retAddr 13)], [], am_SH, (g, f))) (q := ((some (.int (am_b p3))), am_SH, (g, f))) (s1 := (15, [(0, .ref 216)], [.int (am_b p3)], am_SH, (g, f))) rfl rfl (m_is_ok (d) 13 f g p3 hp3) ?_
      rcases am_ite h with ⟨c21, h⟩ | ⟨c21, h⟩
      · refine am_Ev.f hcd (c := am_b p3 = 0) (s1 := (16, [(0, .ref 216)], [], am_SH, (g, f))) rfl (am_b_t c21) ?_
        refine am_Ev.go hcd 1 (s' := (17, [(0, .ref 216)], [.int 43], am_SH, (g, f))) rfl ?_
        exact am_Ev.cast (a := ((some (.int 43)), am_SH, (g, f))) (by cases h; rfl) (am_Ev.ret hcd rfl)
      · refine am_Ev.t hcd (c := am_b p3 = 0) (s1 := (18, [(0, .ref 216)], [], am_SH, (g, f))) rfl (am_b_f c21) ?_
        refine am_Ev.go hcd 2 (s' := (20, [(0, .ref 216)], [.retAddr 14, .ref 216], am_SH, (g, f))) rfl ?_
        obtain ⟨p4, hp4, h⟩ := am_bind_some h
        refine am_Ev.call hcd (a := 195) (s0 := (0, [(0, .ref 216), (1, .retAddr 14)], [], am_SH, (g, f))) (q := ((some (.int (am_b p4))), am_SH, (g, f))) (s1 := (21, [(0, .ref 216)], [.int (am_b p4)], am_SH, (g, f))) rfl rfl (m_is_ok (d) 14 f g p4 hp4) ?_
        rcases am_ite h with ⟨c29, h⟩ | ⟨c29, h⟩
        · refine am_Ev.f hcd (c := am_b p4 = 0) (s1 := (22, [(0, .ref 216)], [], am_SH, (g, f))) rfl (am_b_t c29) ?_
          refine am_Ev.go hcd 1 (s' := (23, [(0, .ref 216)], [.int 44], am_SH, (g, f))) rfl ?_
          exact am_Ev.cast (a := ((some (.int 44)), am_SH, (g, f))) (by cases h; rfl) (am_Ev.ret hcd rfl)
        · refine am_Ev.t hcd (c := am_b p4 = 0) (s1 := (24, [(0, .ref 216)], [], am_SH, (g, f))) rfl (am_b_f c29) ?_
          refine am_Ev.go hcd 2 (s' := (26, [(0, .ref 216)], [.retAddr 15, .ref 216], am_SH, (g, f))) rfl ?_
          obtain ⟨p5, hp5, h⟩ := am_bind_some h
          refine am_Ev.call hcd (a := 195) (s0 := (0, [(0, .ref 216), (1, .retAddr 15)], [], am_SH, (g, f))) (q := ((some (.int (am_b p5))), am_SH, (g, f))) (s1 := (27, [(0, .ref 216)], [.int (am_b p5)], am_SH, (g, f))) rfl rfl (m_is_ok (d) 15 f g p5 hp5) ?_
          rcases am_ite h with ⟨c37, h⟩ | ⟨c37, h⟩
          · refine am_Ev.f hcd (c := am_b p5 = 0) (s1 := (28, [(0, .ref 216)], [], am_SH, (g, f))) rfl (am_b_t c37) ?_
            refine am_Ev.go hcd 1 (s' := (29, [(0, .ref 216)], [.int 45], am_SH, (g, f))) rfl ?_
            exact am_Ev.cast (a := ((some (.int 45)), am_SH, (g, f))) (by cases h; rfl) (am_Ev.ret hcd rfl)
          · refine am_Ev.t hcd (c := am_b p5 = 0) (s1 := (30, [(0, .ref 216)], [], am_SH, (g, f))) rfl (am_b_f c37) ?_
            refine am_Ev.go hcd 2 (s' := (32, [(0, .ref 216)], [.retAddr 16, .ref 216], am_SH, (g, f))) rfl ?_
            obtain ⟨p6, hp6, h⟩ := am_bind_some h
            refine am_Ev.call hcd (a := 195) (s0 := (0, [(0, .ref 216), (1, .retAddr 16)], [], am_SH, (g, f))) (q := ((some (.int (am_b p6))), am_SH, (g, f))) (s1 := (33, [(0, .ref 216)], [.int (am_b p6)], am_SH, (g, f))) rfl rfl (m_is_ok (d) 16 f g p6 hp6) ?_
            rcases am_ite h with ⟨c45, h⟩ | ⟨c45, h⟩
            · refine am_Ev.f hcd (c := am_b p6 = 0) (s1 := (34, [(0, .ref 216)], [], am_SH, (g, f))) rfl (am_b_t c45) ?_
              refine am_Ev.go hcd 1 (s' := (35, [(0, .ref 216)], [.int 46], am_SH, (g, f))) rfl ?_
              exact am_Ev.cast (a := ((some (.int 46)), am_SH, (g, f))) (by cases h; rfl) (am_Ev.ret hcd rfl)
            · refine am_Ev.t hcd (c := am_b p6 = 0) (s1 := (36, [(0, .ref 216)], [], am_SH, (g, f))) rfl (am_b_f c45) ?_
              refine am_Ev.go hcd 2 (s' := (38, [(0, .ref 216)], [.retAddr 17, .ref 216], am_SH, (g, f))) rfl ?_
              obtain ⟨p7, hp7, h⟩ := am_bind_some h
              refine am_Ev.call hcd (a := 195) (s0 := (0, [(0, .ref 216), (1, .retAddr 17)], [], am_SH, (g, f))) (q := ((some (.int (am_b p7))), am_SH, (g, f))) (s1 := (39, [(0, .ref 216)], [.int (am_b p7)], am_SH, (g, f))) rfl rfl (m_is_ok (d) 17 f g p7 hp7) ?_
              rcases am_ite h with ⟨c53, h⟩ | ⟨c53, h⟩
              · refine am_Ev.f hcd (c := am_b p7 = 0) (s1 := (40, [(0, .ref 216)], [], am_SH, (g, f))) rfl (am_b_t c53) ?_
                refine am_Ev.go hcd 1 (s' := (41, [(0, .ref 216)], [.int 47], am_SH, (g, f))) rfl ?_
                exact am_Ev.cast (a := ((some (.int 47)), am_SH, (g, f))) (by cases h; rfl) (am_Ev.ret hcd rfl)
              · refine am_Ev.t hcd (c := am_b p7 = 0) (s1 := (42, [(0, .ref 216)], [], am_SH, (g, f))) rfl (am_b_f c53) ?_
                refine am_Ev.go hcd 2 (s' := (44, [(0, .ref 216)], [.retAddr 18, .ref 216], am_SH, (g, f))) rfl ?_
                obtain ⟨p8, hp8, h⟩ := am_bind_some h
                refine am_Ev.call hcd (a := 195) (s0 := (0, [(0, .ref 216), (1, .retAddr 18)], [], am_SH, (g, f))) (q := ((some (.int (am_b p8))), am_SH, (g, f))) (s1 := (45, [(0, .ref 216)], [.int (am_b p8)], am_SH, (g, f))) rfl rfl (m_is_ok (d) 18 f g p8 hp8) ?_
                rcases am_ite h with ⟨c61, h⟩ | ⟨c61, h⟩
                · refine am_Ev.f hcd (c := am_b p8 = 0) (s1 := (46, [(0, .ref 216)], [], am_SH, (g, f))) rfl (am_b_t c61) ?_
                  refine am_Ev.go hcd 1 (s' := (47, [(0, .ref 216)], [.int 48], am_SH, (g, f))) rfl ?_
                  exact am_Ev.cast (a := ((some (.int 48)), am_SH, (g, f))) (by cases h; rfl) (am_Ev.ret hcd rfl)
                · refine am_Ev.t hcd (c := am_b p8 = 0) (s1 := (48, [(0, .ref 216)], [], am_SH, (g, f))) rfl (am_b_f c61) ?_
                  refine am_Ev.go hcd 2 (s' := (50, [(0, .ref 216)], [.retAddr 19, .ref 216], am_SH, (g, f))) rfl ?_
                  obtain ⟨p9, hp9, h⟩ := am_bind_some h
                  refine am_Ev.call hcd (a := 195) (s0 := (0, [(0, .ref 216), (1, .retAddr 19)], [], am_SH, (g, f))) (q := ((some (.int (am_b p9))), am_SH, (g, f))) (s1 := (51, [(0, .ref 216)], [.int (am_b p9)], am_SH, (g, f))) rfl rfl (m_is_ok (d) 19 f g p9 hp9) ?_
                  rcases am_ite h with ⟨c69, h⟩ | ⟨c69, h⟩
                  · refine am_Ev.f hcd (c := am_b p9 = 0) (s1 := (52, [(0, .ref 216)], [], am_SH, (g, f))) rfl (am_b_t c69) ?_
                    refine am_Ev.go hcd 1 (s' := (53, [(0, .ref 216)], [.int 49], am_SH, (g, f))) rfl ?_
                    exact am_Ev.cast (a := ((some (.int 49)), am_SH, (g, f))) (by cases h; rfl) (am_Ev.ret hcd rfl)
                  · refine am_Ev.t hcd (c := am_b p9 = 0) (s1 := (54, [(0, .ref 216)], [], am_SH, (g, f))) rfl (am_b_f c69) ?_
                    refine am_Ev.go hcd 2 (s' := (56, [(0, .ref 216)], [.retAddr 20, .ref 216], am_SH, (g, f))) rfl ?_
                    obtain ⟨p10, hp10, h⟩ := am_bind_some h
                    refine am_Ev.call hcd (a := 195) (s0 := (0, [(0, .ref 216), (1, .retAddr 20)], [], am_SH, (g, f))) (q := ((some (.int (am_b p10))), am_SH, (g, f))) (s1 := (57, [(0, .ref 216)], [.int (am_b p10)], am_SH, (g, f))) rfl rfl (m_is_ok (d) 20 f g p10 hp10) ?_
                    rcases am_ite h with ⟨c77, h⟩ | ⟨c77, h⟩
                    · refine am_Ev.f hcd (c := am_b p10 = 0) (s1 := (58, [(0, .ref 216)], [], am_SH, (g, f))) rfl (am_b_t c77) ?_
                      refine am_Ev.go hcd 2 (s' := (61, [(0, .ref 216)], [.int 50], am_SH, (g, f))) rfl ?_
                      exact am_Ev.cast (a := ((some (.int 50)), am_SH, (g, f))) (by cases h; rfl) (am_Ev.ret hcd rfl)
                    · refine am_Ev.t hcd (c := am_b p10 = 0) (s1 := (60, [(0, .ref 216)], [], am_SH, (g, f))) rfl (am_b_f c77) ?_
                      refine am_Ev.go hcd 1 (s' := (61, [(0, .ref 216)], [.int 1], am_SH, (g, f))) rfl ?_
                      exact am_Ev.cast (a := ((some (.int 1)), am_SH, (g, f))) (by cases h; rfl) (am_Ev.ret hcd rfl)
set_option maxRecDepth 100000 in
set_option maxHeartbeats 4000000 in
theorem m_lawWord_ok {sc : Nat × (Nat → Int32)} (d : Nat)  (f g : (Nat → Nat → Int32)) (r : Int32) (h : m_lawWord  f = some r) : am_Ev sc (d + 3) 197 (0, [(0, .ref 216)], [], am_SH, (g, f)) ((some (.int r)), am_SH, (g, f)) := by
  have hcd : am_code 197 = am_c197 := rfl
  unfold m_lawWord at h
  refine am_Ev.go hcd 2 (s' := (2, [(0, .ref 216)], [.retAddr 4, .ref 216], am_SH, (g, f))) rfl ?_
  obtain ⟨p1, hp1, h⟩ := am_bind_some h
  refine am_Ev.call hcd (a := 195) (s0 := (0, [(0, .ref 216), (1, .retAddr 4)], [], am_SH, (g, f))) (q := ((some (.int (am_b p1))), am_SH, (g, f))) (s1 := (3, [(0, .ref 216)], [.int (am_b p1)], am_SH, (g, f))) rfl rfl (m_is_ok (d + 1) 4 f g p1 hp1) ?_
  rcases am_ite h with ⟨c5, h⟩ | ⟨c5, h⟩
  · refine am_Ev.f hcd (c := am_b p1 = 0) (s1 := (4, [(0, .ref 216)], [], am_SH, (g, f))) rfl (am_b_t c5) ?_
    refine am_Ev.go hcd 1 (s' := (5, [(0, .ref 216)], [.int 3], am_SH, (g, f))) rfl ?_
    exact am_Ev.cast (a := ((some (.int 3)), am_SH, (g, f))) (by cases h; rfl) (am_Ev.ret hcd rfl)
  · refine am_Ev.t hcd (c := am_b p1 = 0) (s1 := (6, [(0, .ref 216)], [], am_SH, (g, f))) rfl (am_b_f c5) ?_
    refine am_Ev.go hcd 2 (s' := (8, [(0, .ref 216)], [.retAddr 5, .ref 216], am_SH, (g, f))) rfl ?_
    obtain ⟨p2, hp2, h⟩ := am_bind_some h
    refine am_Ev.call hcd (a := 195) (s0 := (0, [(0, .ref 216), (1, .retAddr 5)], [], am_SH, (g, f))) (q := ((some (.int (am_b p2))), am_SH, (g, f))) (s1 := (9, [(0, .ref 216)], [.int (am_b p2)], am_SH, (g, f))) rfl rfl (m_is_ok (d + 1) 5 f g p2 hp2) ?_
    rcases am_ite h with ⟨c13, h⟩ | ⟨c13, h⟩
    · refine am_Ev.f hcd (c := am_b p2 = 0) (s1 := (10, [(0, .ref 216)], [], am_SH, (g, f))) rfl (am_b_t c13) ?_
      refine am_Ev.go hcd 1 (s' := (11, [(0, .ref 216)], [.int 4], am_SH, (g, f))) rfl ?_
      exact am_Ev.cast (a := ((some (.int 4)), am_SH, (g, f))) (by cases h; rfl) (am_Ev.ret hcd rfl)
    · refine am_Ev.t hcd (c := am_b p2 = 0) (s1 := (12, [(0, .ref 216)], [], am_SH, (g, f))) rfl (am_b_f c13) ?_
      refine am_Ev.go hcd 2 (s' := (14, [(0, .ref 216)], [.retAddr 6, .ref 216], am_SH, (g, f))) rfl ?_
      obtain ⟨p3, hp3, h⟩ := am_bind_some h
      refine am_Ev.call hcd (a := 195) (s0 := (0, [(0, .ref 216), (1, .retAddr 6)], [], am_SH, (g, f))) (q := ((some (.int (am_b p3))), am_SH, (g, f))) (s1 := (15, [(0, .ref 216)], [.int (am_b p3)], am_SH, (g, f))) rfl rfl (m_is_ok (d + 1) 6 f g p3 hp3) ?_
      rcases am_ite h with ⟨c21, h⟩ | ⟨c21, h⟩
      · refine am_Ev.f hcd (c := am_b p3 = 0) (s1 := (16, [(0, .ref 216)], [], am_SH, (g, f))) rfl (am_b_t c21) ?_
        refine am_Ev.go hcd 1 (s' := (17, [(0, .ref 216)], [.int 5], am_SH, (g, f))) rfl ?_
        exact am_Ev.cast (a := ((some (.int 5)), am_SH, (g, f))) (by cases h; rfl) (am_Ev.ret hcd rfl)
      · refine am_Ev.t hcd (c := am_b p3 = 0) (s1 := (18, [(0, .ref 216)], [], am_SH, (g, f))) rfl (am_b_f c21) ?_
        refine am_Ev.go hcd 2 (s' := (20, [(0, .ref 216)], [.retAddr 7, .ref 216], am_SH, (g, f))) rfl ?_
        obtain ⟨p4, hp4, h⟩ := am_bind_some h
        refine am_Ev.call hcd (a := 195) (s0 := (0, [(0, .ref 216), (1, .retAddr 7)], [], am_SH, (g, f))) (q := ((some (.int (am_b p4))), am_SH, (g, f))) (s1 := (21, [(0, .ref 216)], [.int (am_b p4)], am_SH, (g, f))) rfl rfl (m_is_ok (d + 1) 7 f g p4 hp4) ?_
        rcases am_ite h with ⟨c29, h⟩ | ⟨c29, h⟩
        · refine am_Ev.f hcd (c := am_b p4 = 0) (s1 := (22, [(0, .ref 216)], [], am_SH, (g, f))) rfl (am_b_t c29) ?_
          refine am_Ev.go hcd 1 (s' := (23, [(0, .ref 216)], [.int 6], am_SH, (g, f))) rfl ?_
          exact am_Ev.cast (a := ((some (.int 6)), am_SH, (g, f))) (by cases h; rfl) (am_Ev.ret hcd rfl)
        · refine am_Ev.t hcd (c := am_b p4 = 0) (s1 := (24, [(0, .ref 216)], [], am_SH, (g, f))) rfl (am_b_f c29) ?_
          refine am_Ev.go hcd 2 (s' := (26, [(0, .ref 216)], [.retAddr 8, .ref 216], am_SH, (g, f))) rfl ?_
          obtain ⟨p5, hp5, h⟩ := am_bind_some h
          refine am_Ev.call hcd (a := 195) (s0 := (0, [(0, .ref 216), (1, .retAddr 8)], [], am_SH, (g, f))) (q := ((some (.int (am_b p5))), am_SH, (g, f))) (s1 := (27, [(0, .ref 216)], [.int (am_b p5)], am_SH, (g, f))) rfl rfl (m_is_ok (d + 1) 8 f g p5 hp5) ?_
          rcases am_ite h with ⟨c37, h⟩ | ⟨c37, h⟩
          · refine am_Ev.f hcd (c := am_b p5 = 0) (s1 := (28, [(0, .ref 216)], [], am_SH, (g, f))) rfl (am_b_t c37) ?_
            refine am_Ev.go hcd 1 (s' := (29, [(0, .ref 216)], [.int 20], am_SH, (g, f))) rfl ?_
            exact am_Ev.cast (a := ((some (.int 20)), am_SH, (g, f))) (by cases h; rfl) (am_Ev.ret hcd rfl)
          · refine am_Ev.t hcd (c := am_b p5 = 0) (s1 := (30, [(0, .ref 216)], [], am_SH, (g, f))) rfl (am_b_f c37) ?_
            refine am_Ev.go hcd 2 (s' := (32, [(0, .ref 216)], [.retAddr 9, .ref 216], am_SH, (g, f))) rfl ?_
            obtain ⟨p6, hp6, h⟩ := am_bind_some h
            refine am_Ev.call hcd (a := 195) (s0 := (0, [(0, .ref 216), (1, .retAddr 9)], [], am_SH, (g, f))) (q := ((some (.int (am_b p6))), am_SH, (g, f))) (s1 := (33, [(0, .ref 216)], [.int (am_b p6)], am_SH, (g, f))) rfl rfl (m_is_ok (d + 1) 9 f g p6 hp6) ?_
            rcases am_ite h with ⟨c45, h⟩ | ⟨c45, h⟩
            · refine am_Ev.f hcd (c := am_b p6 = 0) (s1 := (34, [(0, .ref 216)], [], am_SH, (g, f))) rfl (am_b_t c45) ?_
              refine am_Ev.go hcd 1 (s' := (35, [(0, .ref 216)], [.int 21], am_SH, (g, f))) rfl ?_
              exact am_Ev.cast (a := ((some (.int 21)), am_SH, (g, f))) (by cases h; rfl) (am_Ev.ret hcd rfl)
            · refine am_Ev.t hcd (c := am_b p6 = 0) (s1 := (36, [(0, .ref 216)], [], am_SH, (g, f))) rfl (am_b_f c45) ?_
              refine am_Ev.go hcd 2 (s' := (38, [(0, .ref 216)], [.retAddr 10, .ref 216], am_SH, (g, f))) rfl ?_
              obtain ⟨p7, hp7, h⟩ := am_bind_some h
              refine am_Ev.call hcd (a := 195) (s0 := (0, [(0, .ref 216), (1, .retAddr 10)], [], am_SH, (g, f))) (q := ((some (.int (am_b p7))), am_SH, (g, f))) (s1 := (39, [(0, .ref 216)], [.int (am_b p7)], am_SH, (g, f))) rfl rfl (m_is_ok (d + 1) 10 f g p7 hp7) ?_
              rcases am_ite h with ⟨c53, h⟩ | ⟨c53, h⟩
              · refine am_Ev.f hcd (c := am_b p7 = 0) (s1 := (40, [(0, .ref 216)], [], am_SH, (g, f))) rfl (am_b_t c53) ?_
                refine am_Ev.go hcd 2 (s' := (44, [(0, .ref 216)], [.int 22], am_SH, (g, f))) rfl ?_
                exact am_Ev.cast (a := ((some (.int 22)), am_SH, (g, f))) (by cases h; rfl) (am_Ev.ret hcd rfl)
              · refine am_Ev.t hcd (c := am_b p7 = 0) (s1 := (42, [(0, .ref 216)], [], am_SH, (g, f))) rfl (am_b_f c53) ?_
                refine am_Ev.go hcd 1 (s' := (43, [(0, .ref 216)], [.ref 216], am_SH, (g, f))) rfl ?_
                obtain ⟨p8, hp8, h⟩ := am_bind_some h
                refine am_Ev.call hcd (a := 196) (s0 := (0, [(0, .ref 216)], [], am_SH, (g, f))) (q := ((some (.int p8)), am_SH, (g, f))) (s1 := (44, [(0, .ref 216)], [.int p8], am_SH, (g, f))) rfl rfl (m_asked_ok (d)  f g p8 hp8) ?_
                exact am_Ev.cast (a := ((some (.int p8)), am_SH, (g, f))) (by cases h; rfl) (am_Ev.ret hcd rfl)
set_option maxRecDepth 100000 in
set_option maxHeartbeats 4000000 in
theorem m_walkWord_ok {sc : Nat × (Nat → Int32)} (d : Nat)  (f g : (Nat → Nat → Int32)) (r : Int32) (h : m_walkWord  f = some r) : am_Ev sc (d + 2) 198 (0, [(0, .ref 216)], [], am_SH, (g, f)) ((some (.int r)), am_SH, (g, f)) := by
  have hcd : am_code 198 = am_c198 := rfl
  unfold m_walkWord at h
  refine am_Ev.go hcd 2 (s' := (2, [(0, .ref 216)], [.retAddr 21, .ref 216], am_SH, (g, f))) rfl ?_
  obtain ⟨p1, hp1, h⟩ := am_bind_some h
  refine am_Ev.call hcd (a := 195) (s0 := (0, [(0, .ref 216), (1, .retAddr 21)], [], am_SH, (g, f))) (q := ((some (.int (am_b p1))), am_SH, (g, f))) (s1 := (3, [(0, .ref 216)], [.int (am_b p1)], am_SH, (g, f))) rfl rfl (m_is_ok (d) 21 f g p1 hp1) ?_
  rcases am_ite h with ⟨c5, h⟩ | ⟨c5, h⟩
  · refine am_Ev.f hcd (c := am_b p1 = 0) (s1 := (4, [(0, .ref 216)], [], am_SH, (g, f))) rfl (am_b_t c5) ?_
    refine am_Ev.go hcd 1 (s' := (5, [(0, .ref 216)], [.int 7], am_SH, (g, f))) rfl ?_
    exact am_Ev.cast (a := ((some (.int 7)), am_SH, (g, f))) (by cases h; rfl) (am_Ev.ret hcd rfl)
  · refine am_Ev.t hcd (c := am_b p1 = 0) (s1 := (6, [(0, .ref 216)], [], am_SH, (g, f))) rfl (am_b_f c5) ?_
    refine am_Ev.go hcd 2 (s' := (8, [(0, .ref 216)], [.retAddr 19, .ref 216], am_SH, (g, f))) rfl ?_
    obtain ⟨p2, hp2, h⟩ := am_bind_some h
    refine am_Ev.call hcd (a := 195) (s0 := (0, [(0, .ref 216), (1, .retAddr 19)], [], am_SH, (g, f))) (q := ((some (.int (am_b p2))), am_SH, (g, f))) (s1 := (9, [(0, .ref 216)], [.int (am_b p2)], am_SH, (g, f))) rfl rfl (m_is_ok (d) 19 f g p2 hp2) ?_
    rcases am_ite h with ⟨c13, h⟩ | ⟨c13, h⟩
    · refine am_Ev.f hcd (c := am_b p2 = 0) (s1 := (10, [(0, .ref 216)], [], am_SH, (g, f))) rfl (am_b_t c13) ?_
      refine am_Ev.go hcd 1 (s' := (11, [(0, .ref 216)], [.int 8], am_SH, (g, f))) rfl ?_
      exact am_Ev.cast (a := ((some (.int 8)), am_SH, (g, f))) (by cases h; rfl) (am_Ev.ret hcd rfl)
    · refine am_Ev.t hcd (c := am_b p2 = 0) (s1 := (12, [(0, .ref 216)], [], am_SH, (g, f))) rfl (am_b_f c13) ?_
      refine am_Ev.go hcd 2 (s' := (14, [(0, .ref 216)], [.retAddr 22, .ref 216], am_SH, (g, f))) rfl ?_
      obtain ⟨p3, hp3, h⟩ := am_bind_some h
      refine am_Ev.call hcd (a := 195) (s0 := (0, [(0, .ref 216), (1, .retAddr 22)], [], am_SH, (g, f))) (q := ((some (.int (am_b p3))), am_SH, (g, f))) (s1 := (15, [(0, .ref 216)], [.int (am_b p3)], am_SH, (g, f))) rfl rfl (m_is_ok (d) 22 f g p3 hp3) ?_
      rcases am_ite h with ⟨c21, h⟩ | ⟨c21, h⟩
      · refine am_Ev.f hcd (c := am_b p3 = 0) (s1 := (16, [(0, .ref 216)], [], am_SH, (g, f))) rfl (am_b_t c21) ?_
        refine am_Ev.go hcd 1 (s' := (17, [(0, .ref 216)], [.int 9], am_SH, (g, f))) rfl ?_
        exact am_Ev.cast (a := ((some (.int 9)), am_SH, (g, f))) (by cases h; rfl) (am_Ev.ret hcd rfl)
      · refine am_Ev.t hcd (c := am_b p3 = 0) (s1 := (18, [(0, .ref 216)], [], am_SH, (g, f))) rfl (am_b_f c21) ?_
        refine am_Ev.go hcd 2 (s' := (20, [(0, .ref 216)], [.retAddr 23, .ref 216], am_SH, (g, f))) rfl ?_
        obtain ⟨p4, hp4, h⟩ := am_bind_some h
        refine am_Ev.call hcd (a := 195) (s0 := (0, [(0, .ref 216), (1, .retAddr 23)], [], am_SH, (g, f))) (q := ((some (.int (am_b p4))), am_SH, (g, f))) (s1 := (21, [(0, .ref 216)], [.int (am_b p4)], am_SH, (g, f))) rfl rfl (m_is_ok (d) 23 f g p4 hp4) ?_
        rcases am_ite h with ⟨c29, h⟩ | ⟨c29, h⟩
        · refine am_Ev.f hcd (c := am_b p4 = 0) (s1 := (22, [(0, .ref 216)], [], am_SH, (g, f))) rfl (am_b_t c29) ?_
          refine am_Ev.go hcd 1 (s' := (23, [(0, .ref 216)], [.int 10], am_SH, (g, f))) rfl ?_
          exact am_Ev.cast (a := ((some (.int 10)), am_SH, (g, f))) (by cases h; rfl) (am_Ev.ret hcd rfl)
        · refine am_Ev.t hcd (c := am_b p4 = 0) (s1 := (24, [(0, .ref 216)], [], am_SH, (g, f))) rfl (am_b_f c29) ?_
          refine am_Ev.go hcd 2 (s' := (26, [(0, .ref 216)], [.retAddr 24, .ref 216], am_SH, (g, f))) rfl ?_
          obtain ⟨p5, hp5, h⟩ := am_bind_some h
          refine am_Ev.call hcd (a := 195) (s0 := (0, [(0, .ref 216), (1, .retAddr 24)], [], am_SH, (g, f))) (q := ((some (.int (am_b p5))), am_SH, (g, f))) (s1 := (27, [(0, .ref 216)], [.int (am_b p5)], am_SH, (g, f))) rfl rfl (m_is_ok (d) 24 f g p5 hp5) ?_
          rcases am_ite h with ⟨c37, h⟩ | ⟨c37, h⟩
          · refine am_Ev.f hcd (c := am_b p5 = 0) (s1 := (28, [(0, .ref 216)], [], am_SH, (g, f))) rfl (am_b_t c37) ?_
            refine am_Ev.go hcd 1 (s' := (29, [(0, .ref 216)], [.int 11], am_SH, (g, f))) rfl ?_
            exact am_Ev.cast (a := ((some (.int 11)), am_SH, (g, f))) (by cases h; rfl) (am_Ev.ret hcd rfl)
          · refine am_Ev.t hcd (c := am_b p5 = 0) (s1 := (30, [(0, .ref 216)], [], am_SH, (g, f))) rfl (am_b_f c37) ?_
            refine am_Ev.go hcd 2 (s' := (32, [(0, .ref 216)], [.retAddr 25, .ref 216], am_SH, (g, f))) rfl ?_
            obtain ⟨p6, hp6, h⟩ := am_bind_some h
            refine am_Ev.call hcd (a := 195) (s0 := (0, [(0, .ref 216), (1, .retAddr 25)], [], am_SH, (g, f))) (q := ((some (.int (am_b p6))), am_SH, (g, f))) (s1 := (33, [(0, .ref 216)], [.int (am_b p6)], am_SH, (g, f))) rfl rfl (m_is_ok (d) 25 f g p6 hp6) ?_
            rcases am_ite h with ⟨c45, h⟩ | ⟨c45, h⟩
            · refine am_Ev.f hcd (c := am_b p6 = 0) (s1 := (34, [(0, .ref 216)], [], am_SH, (g, f))) rfl (am_b_t c45) ?_
              refine am_Ev.go hcd 1 (s' := (35, [(0, .ref 216)], [.int 12], am_SH, (g, f))) rfl ?_
              exact am_Ev.cast (a := ((some (.int 12)), am_SH, (g, f))) (by cases h; rfl) (am_Ev.ret hcd rfl)
            · refine am_Ev.t hcd (c := am_b p6 = 0) (s1 := (36, [(0, .ref 216)], [], am_SH, (g, f))) rfl (am_b_f c45) ?_
              refine am_Ev.go hcd 2 (s' := (38, [(0, .ref 216)], [.retAddr 26, .ref 216], am_SH, (g, f))) rfl ?_
              obtain ⟨p7, hp7, h⟩ := am_bind_some h
              refine am_Ev.call hcd (a := 195) (s0 := (0, [(0, .ref 216), (1, .retAddr 26)], [], am_SH, (g, f))) (q := ((some (.int (am_b p7))), am_SH, (g, f))) (s1 := (39, [(0, .ref 216)], [.int (am_b p7)], am_SH, (g, f))) rfl rfl (m_is_ok (d) 26 f g p7 hp7) ?_
              rcases am_ite h with ⟨c53, h⟩ | ⟨c53, h⟩
              · refine am_Ev.f hcd (c := am_b p7 = 0) (s1 := (40, [(0, .ref 216)], [], am_SH, (g, f))) rfl (am_b_t c53) ?_
                refine am_Ev.go hcd 1 (s' := (41, [(0, .ref 216)], [.int 13], am_SH, (g, f))) rfl ?_
                exact am_Ev.cast (a := ((some (.int 13)), am_SH, (g, f))) (by cases h; rfl) (am_Ev.ret hcd rfl)
              · refine am_Ev.t hcd (c := am_b p7 = 0) (s1 := (42, [(0, .ref 216)], [], am_SH, (g, f))) rfl (am_b_f c53) ?_
                refine am_Ev.go hcd 2 (s' := (44, [(0, .ref 216)], [.retAddr 27, .ref 216], am_SH, (g, f))) rfl ?_
                obtain ⟨p8, hp8, h⟩ := am_bind_some h
                refine am_Ev.call hcd (a := 195) (s0 := (0, [(0, .ref 216), (1, .retAddr 27)], [], am_SH, (g, f))) (q := ((some (.int (am_b p8))), am_SH, (g, f))) (s1 := (45, [(0, .ref 216)], [.int (am_b p8)], am_SH, (g, f))) rfl rfl (m_is_ok (d) 27 f g p8 hp8) ?_
                rcases am_ite h with ⟨c61, h⟩ | ⟨c61, h⟩
                · refine am_Ev.f hcd (c := am_b p8 = 0) (s1 := (46, [(0, .ref 216)], [], am_SH, (g, f))) rfl (am_b_t c61) ?_
                  refine am_Ev.go hcd 2 (s' := (49, [(0, .ref 216)], [.int 14], am_SH, (g, f))) rfl ?_
                  exact am_Ev.cast (a := ((some (.int 14)), am_SH, (g, f))) (by cases h; rfl) (am_Ev.ret hcd rfl)
                · refine am_Ev.t hcd (c := am_b p8 = 0) (s1 := (48, [(0, .ref 216)], [], am_SH, (g, f))) rfl (am_b_f c61) ?_
                  refine am_Ev.go hcd 1 (s' := (49, [(0, .ref 216)], [.int 1], am_SH, (g, f))) rfl ?_
                  exact am_Ev.cast (a := ((some (.int 1)), am_SH, (g, f))) (by cases h; rfl) (am_Ev.ret hcd rfl)
set_option maxRecDepth 100000 in
set_option maxHeartbeats 4000000 in
theorem m_wordOf_ok {sc : Nat × (Nat → Int32)} (d : Nat)  (f g : (Nat → Nat → Int32)) (r : Int32) (h : m_wordOf  f = some r) : am_Ev sc (d + 4) 199 (0, [(0, .ref 216)], [], am_SH, (g, f)) ((some (.int r)), am_SH, (g, f)) := by
  have hcd : am_code 199 = am_c199 := rfl
  unfold m_wordOf at h
  refine am_Ev.go hcd 2 (s' := (2, [(0, .ref 216)], [.int (f 216 12)], am_SH, (g, f))) rfl ?_
  refine am_Ev.one hcd (s' := (am_swt (f 216 12) [(0, 3), (1, 6), (2, 9)] 23, [(0, .ref 216)], [], am_SH, (g, f))) rfl ?_
  rcases am_ite h with ⟨c4, h⟩ | ⟨c4, h⟩
  · rw [am_swt_t c4]
    refine am_Ev.go hcd 1 (s' := (4, [(0, .ref 216)], [.ref 216], am_SH, (g, f))) rfl ?_
    obtain ⟨p1, hp1, h⟩ := am_bind_some h
    refine am_Ev.call hcd (a := 197) (s0 := (0, [(0, .ref 216)], [], am_SH, (g, f))) (q := ((some (.int p1)), am_SH, (g, f))) (s1 := (5, [(0, .ref 216)], [.int p1], am_SH, (g, f))) rfl rfl (m_lawWord_ok (d)  f g p1 hp1) ?_
    exact am_Ev.cast (a := ((some (.int p1)), am_SH, (g, f))) (by cases h; rfl) (am_Ev.ret hcd rfl)
  rw [am_swt_f c4]
  rcases am_ite h with ⟨c11, h⟩ | ⟨c11, h⟩
  · rw [am_swt_t c11]
    refine am_Ev.go hcd 1 (s' := (7, [(0, .ref 216)], [.ref 216], am_SH, (g, f))) rfl ?_
    obtain ⟨p2, hp2, h⟩ := am_bind_some h
    refine am_Ev.call hcd (a := 198) (s0 := (0, [(0, .ref 216)], [], am_SH, (g, f))) (q := ((some (.int p2)), am_SH, (g, f))) (s1 := (8, [(0, .ref 216)], [.int p2], am_SH, (g, f))) rfl rfl (m_walkWord_ok (d + 1)  f g p2 hp2) ?_
    exact am_Ev.cast (a := ((some (.int p2)), am_SH, (g, f))) (by cases h; rfl) (am_Ev.ret hcd rfl)
  rw [am_swt_f c11]
  rcases am_ite h with ⟨c18, h⟩ | ⟨c18, h⟩
  · rw [am_swt_t c18]
    refine am_Ev.go hcd 2 (s' := (11, [(0, .ref 216)], [.retAddr 28, .ref 216], am_SH, (g, f))) rfl ?_
    obtain ⟨p3, hp3, h⟩ := am_bind_some h
    refine am_Ev.call hcd (a := 195) (s0 := (0, [(0, .ref 216), (1, .retAddr 28)], [], am_SH, (g, f))) (q := ((some (.int (am_b p3))), am_SH, (g, f))) (s1 := (12, [(0, .ref 216)], [.int (am_b p3)], am_SH, (g, f))) rfl rfl (m_is_ok (d + 2) 28 f g p3 hp3) ?_
    rcases am_ite h with ⟨c23, h⟩ | ⟨c23, h⟩
    · refine am_Ev.f hcd (c := am_b p3 = 0) (s1 := (13, [(0, .ref 216)], [], am_SH, (g, f))) rfl (am_b_t c23) ?_
      refine am_Ev.go hcd 2 (s' := (22, [(0, .ref 216)], [.int 15], am_SH, (g, f))) rfl ?_
      exact am_Ev.cast (a := ((some (.int 15)), am_SH, (g, f))) (by cases h; rfl) (am_Ev.ret hcd rfl)
    · refine am_Ev.t hcd (c := am_b p3 = 0) (s1 := (15, [(0, .ref 216)], [], am_SH, (g, f))) rfl (am_b_f c23) ?_
      refine am_Ev.go hcd 2 (s' := (17, [(0, .ref 216)], [.retAddr 11, .ref 216], am_SH, (g, f))) rfl ?_
      obtain ⟨p4, hp4, h⟩ := am_bind_some h
      refine am_Ev.call hcd (a := 195) (s0 := (0, [(0, .ref 216), (1, .retAddr 11)], [], am_SH, (g, f))) (q := ((some (.int (am_b p4))), am_SH, (g, f))) (s1 := (18, [(0, .ref 216)], [.int (am_b p4)], am_SH, (g, f))) rfl rfl (m_is_ok (d + 2) 11 f g p4 hp4) ?_
      rcases am_ite h with ⟨c31, h⟩ | ⟨c31, h⟩
      · refine am_Ev.f hcd (c := am_b p4 = 0) (s1 := (19, [(0, .ref 216)], [], am_SH, (g, f))) rfl (am_b_t c31) ?_
        refine am_Ev.go hcd 2 (s' := (22, [(0, .ref 216)], [.int 16], am_SH, (g, f))) rfl ?_
        exact am_Ev.cast (a := ((some (.int 16)), am_SH, (g, f))) (by cases h; rfl) (am_Ev.ret hcd rfl)
      · refine am_Ev.t hcd (c := am_b p4 = 0) (s1 := (21, [(0, .ref 216)], [], am_SH, (g, f))) rfl (am_b_f c31) ?_
        refine am_Ev.go hcd 1 (s' := (22, [(0, .ref 216)], [.int 1], am_SH, (g, f))) rfl ?_
        exact am_Ev.cast (a := ((some (.int 1)), am_SH, (g, f))) (by cases h; rfl) (am_Ev.ret hcd rfl)
  rw [am_swt_f c18]
  rw [am_swt_n]
  refine am_Ev.go hcd 2 (s' := (25, [(0, .ref 216)], [.retAddr 29, .ref 216], am_SH, (g, f))) rfl ?_
  obtain ⟨p5, hp5, h⟩ := am_bind_some h
  refine am_Ev.call hcd (a := 195) (s0 := (0, [(0, .ref 216), (1, .retAddr 29)], [], am_SH, (g, f))) (q := ((some (.int (am_b p5))), am_SH, (g, f))) (s1 := (26, [(0, .ref 216)], [.int (am_b p5)], am_SH, (g, f))) rfl rfl (m_is_ok (d + 2) 29 f g p5 hp5) ?_
  rcases am_ite h with ⟨c43, h⟩ | ⟨c43, h⟩
  · refine am_Ev.f hcd (c := am_b p5 = 0) (s1 := (27, [(0, .ref 216)], [], am_SH, (g, f))) rfl (am_b_t c43) ?_
    refine am_Ev.go hcd 2 (s' := (36, [(0, .ref 216)], [.int 17], am_SH, (g, f))) rfl ?_
    exact am_Ev.cast (a := ((some (.int 17)), am_SH, (g, f))) (by cases h; rfl) (am_Ev.ret hcd rfl)
  · refine am_Ev.t hcd (c := am_b p5 = 0) (s1 := (29, [(0, .ref 216)], [], am_SH, (g, f))) rfl (am_b_f c43) ?_
    refine am_Ev.go hcd 2 (s' := (31, [(0, .ref 216)], [.retAddr 16, .ref 216], am_SH, (g, f))) rfl ?_
    obtain ⟨p6, hp6, h⟩ := am_bind_some h
    refine am_Ev.call hcd (a := 195) (s0 := (0, [(0, .ref 216), (1, .retAddr 16)], [], am_SH, (g, f))) (q := ((some (.int (am_b p6))), am_SH, (g, f))) (s1 := (32, [(0, .ref 216)], [.int (am_b p6)], am_SH, (g, f))) rfl rfl (m_is_ok (d + 2) 16 f g p6 hp6) ?_
    rcases am_ite h with ⟨c51, h⟩ | ⟨c51, h⟩
    · refine am_Ev.f hcd (c := am_b p6 = 0) (s1 := (33, [(0, .ref 216)], [], am_SH, (g, f))) rfl (am_b_t c51) ?_
      refine am_Ev.go hcd 2 (s' := (36, [(0, .ref 216)], [.int 18], am_SH, (g, f))) rfl ?_
      exact am_Ev.cast (a := ((some (.int 18)), am_SH, (g, f))) (by cases h; rfl) (am_Ev.ret hcd rfl)
    · refine am_Ev.t hcd (c := am_b p6 = 0) (s1 := (35, [(0, .ref 216)], [], am_SH, (g, f))) rfl (am_b_f c51) ?_
      refine am_Ev.go hcd 1 (s' := (36, [(0, .ref 216)], [.int 1], am_SH, (g, f))) rfl ?_
      exact am_Ev.cast (a := ((some (.int 1)), am_SH, (g, f))) (by cases h; rfl) (am_Ev.ret hcd rfl)
set_option maxRecDepth 100000 in
set_option maxHeartbeats 4000000 in
theorem m_isDigit_ok {sc : Nat × (Nat → Int32)} (d : Nat) (a0 : Int32) (hp : am_H) : am_Ev sc (d + 1) 194 (0, [(0, .int a0)], [], am_SH, hp) ((some (.int (am_b (m_isDigit a0)))), am_SH, hp) := by
  have hcd : am_code 194 = am_c194 := rfl
  obtain ⟨r, h⟩ : ∃ r, r = m_isDigit a0 := ⟨_, rfl⟩
  rw [← h]
  unfold m_isDigit at h
  refine am_Ev.go hcd 3 (s' := (3, [(0, .int a0)], [.int 57, .int 48, .int a0], am_SH, hp)) rfl ?_
  refine am_Ev.call hcd (a := 176) (s0 := (0, [(0, .int a0), (1, .int 48), (2, .int 57)], [], am_SH, hp)) (q := ((some (.int (am_b (m_isIn a0 48 57)))), am_SH, hp)) (s1 := (4, [(0, .int a0)], [.int (am_b (m_isIn a0 48 57))], am_SH, hp)) rfl rfl (m_isIn_ok (d) a0 48 57 hp) ?_
  exact am_Ev.cast (a := ((some (.int (am_b (m_isIn a0 48 57)))), am_SH, hp)) (by subst h; rfl) (am_Ev.retb hcd rfl)
