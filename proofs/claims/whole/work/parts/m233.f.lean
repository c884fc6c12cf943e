set_option maxRecDepth 100000 in
set_option maxHeartbeats 4000000 in
theorem m_readsRows_ok {sc : Nat × (Nat → Int32)} (d : Nat)  (f g : (Nat → Nat → Int32)) (r : Bool × (Nat → Nat → Int32)) (h : m_readsRows  f = some r) : am_Ev sc (d + 10) 219 (0, [(0, .ref 216)], [], am_SH, (g, f)) ((some (.int (am_b r.1))), am_SH, (g, r.2)) := by
  have hcd : am_code 219 = am_c219 := rfl
  unfold m_readsRows at h
  obtain ⟨f1, Ef1, h⟩ := am_let_eq h
  refine am_Ev.go hcd 3 (s' := (3, [(0, .ref 216)], [], am_SH, (g, f1))) (by subst Ef1; exact rfl) ?_
  refine am_Ev.go hcd 2 (s' := (5, [(0, .ref 216), (1, .int 0)], [], am_SH, (g, f1))) rfl ?_
  obtain ⟨e5, he5, h⟩ := am_bind_some h
  have hK2 : (fun (e5 : (Nat → Nat → Int32)) => am_Ev sc (d + 10) 219 (15, [(0, .ref 216)], [], am_SH, (g, e5)) ((some (.int (am_b r.1))), am_SH, (g, r.2))) e5 := by
    show am_Ev sc (d + 10) 219 (15, [(0, .ref 216)], [], am_SH, (g, e5)) ((some (.int (am_b r.1))), am_SH, (g, r.2))
    obtain ⟨t6, ht6, kt6⟩ := am_let_eq h
    have hKt6 : am_Ev sc (d + 10) 219 (28, [(0, .ref 216)], [.int t6], am_SH, (g, e5)) ((some (.int (am_b r.1))), am_SH, (g, r.2)) := by
      have h := kt6
      refine am_Ev.go hcd 3 (s' := (31, [(0, .ref 216), (1, .int t6), (2, .int 1)], [], am_SH, (g, e5))) rfl ?_
      obtain ⟨e13, he13, h⟩ := am_bind_some h
      have hK7 : (fun (v : (Bool × (Nat → Nat → Int32)) ⊕ (Bool × (Nat → Nat → Int32))) => v.elim (fun (v : Bool × (Nat → Nat → Int32)) => (((some (.int (am_b v.1))), am_SH, (g, v.2)) : am_R) = ((some (.int (am_b r.1))), am_SH, (g, r.2))) (fun (e14 : Bool × (Nat → Nat → Int32)) => am_Ev sc (d + 10) 219 (66, [(2, .int (am_b e14.1))], [], am_SH, (g, e14.2)) ((some (.int (am_b r.1))), am_SH, (g, r.2)))) e13 := by
        cases e13 with
        | inl v => exact (by cases h; rfl)
        | inr e14 =>
          have h := am_elim_r h
          show am_Ev sc (d + 10) 219 (66, [(2, .int (am_b e14.1))], [], am_SH, (g, e14.2)) ((some (.int (am_b r.1))), am_SH, (g, r.2))
          refine am_Ev.go hcd 1 (s' := (67, [(2, .int (am_b e14.1))], [.int (am_b e14.1)], am_SH, (g, e14.2))) rfl ?_
          exact am_Ev.cast (a := ((some (.int (am_b (e14.1, e14.2).1))), am_SH, (g, (e14.1, e14.2).2))) (by cases h; rfl) (am_Ev.retb hcd rfl)
      refine am_Ev.weak' (am_loop_ok (G := fun (s7 : Bool × (Nat → Nat → Int32)) => am_Ev sc (d + 10) 219 (31, [(0, .ref 216), (1, .int t6), (2, .int (am_b s7.1))], [], am_SH, (g, s7.2)) ((some (.int (am_b r.1))), am_SH, (g, r.2))) (Z := fun (v : (Bool × (Nat → Nat → Int32)) ⊕ (Bool × (Nat → Nat → Int32))) => v.elim (fun (v : Bool × (Nat → Nat → Int32)) => (((some (.int (am_b v.1))), am_SH, (g, v.2)) : am_R) = ((some (.int (am_b r.1))), am_SH, (g, r.2))) (fun (e14 : Bool × (Nat → Nat → Int32)) => am_Ev sc (d + 10) 219 (66, [(2, .int (am_b e14.1))], [], am_SH, (g, e14.2)) ((some (.int (am_b r.1))), am_SH, (g, r.2)))) ?_ am_F (true, e5) e13 he13 hK7) (am_sub_cons rfl (am_sub_cons rfl (am_sub_cons rfl am_sub_nil))) rfl
      intro s7 q7 h hI7 hZ7
      show am_Ev sc (d + 10) 219 (31, [(0, .ref 216), (1, .int t6), (2, .int (am_b s7.1))], [], am_SH, (g, s7.2)) ((some (.int (am_b r.1))), am_SH, (g, r.2))
      refine am_Ev.go hcd 1 (s' := (32, [(0, .ref 216), (1, .int t6), (2, .int (am_b s7.1))], [.int (am_b s7.1)], am_SH, (g, s7.2))) rfl ?_
      rcases am_ite h with ⟨c24, h⟩ | ⟨c24, h⟩
      · refine am_Ev.f hcd (c := am_b s7.1 = 0) (s1 := (33, [(0, .ref 216), (1, .int t6), (2, .int (am_b s7.1))], [], am_SH, (g, s7.2))) rfl (am_b_t c24) ?_
        refine am_Ev.go hcd 2 (s' := (35, [(0, .ref 216), (1, .int t6), (2, .int (am_b s7.1))], [.int (s7.2 216 18)], am_SH, (g, s7.2))) rfl ?_
        rcases am_ite h with ⟨c27, h⟩ | ⟨c27, h⟩
        · refine am_Ev.t hcd (c := s7.2 216 18 = 0) (s1 := (66, [(0, .ref 216), (1, .int t6), (2, .int (am_b s7.1))], [], am_SH, (g, s7.2))) rfl c27 ?_
          exact am_Ev.weak' (hZ7 (.inr (s7.1, s7.2)) (Option.some.inj h).symm) (am_sub_cons rfl am_sub_nil) rfl
        · refine am_Ev.f hcd (c := s7.2 216 18 = 0) (s1 := (36, [(0, .ref 216), (1, .int t6), (2, .int (am_b s7.1))], [], am_SH, (g, s7.2))) rfl c27 ?_
          refine am_Ev.go hcd 3 (s' := (39, [(0, .ref 216), (1, .int t6), (2, .int (am_b s7.1))], [.int t6, .int (s7.2 216 18)], am_SH, (g, s7.2))) rfl ?_
          rcases am_ite h with ⟨c32, h⟩ | ⟨c32, h⟩
          · refine am_Ev.t hcd (c := s7.2 216 18 = t6) (s1 := (44, [(0, .ref 216), (1, .int t6), (2, .int (am_b s7.1))], [], am_SH, (g, s7.2))) rfl c32 ?_
            refine am_Ev.go hcd 3 (s' := (47, [(0, .ref 216), (1, .int t6), (2, .int (am_b s7.1))], [.int 16, .int (s7.2 216 15)], am_SH, (g, s7.2))) rfl ?_
            rcases am_ite h with ⟨c35, h⟩ | ⟨c35, h⟩
            · refine am_Ev.t hcd (c := s7.2 216 15 = 16) (s1 := (48, [(0, .ref 216), (1, .int t6), (2, .int (am_b s7.1))], [], am_SH, (g, s7.2))) rfl c35 ?_
              refine am_Ev.go hcd 2 (s' := (50, [(0, .ref 216), (1, .int t6), (2, .int (am_b s7.1))], [.int 3, .ref 216], am_SH, (g, s7.2))) rfl ?_
              obtain ⟨p8, Ep8, h⟩ := am_let_eq h
              refine am_Ev.call hcd (a := 201) (s0 := (0, [(0, .ref 216), (1, .int 3)], [], am_SH, (g, s7.2))) (q := ((some (.int (am_b p8.1))), am_SH, (g, p8.2))) (s1 := (51, [(0, .ref 216), (1, .int t6), (2, .int (am_b s7.1))], [.int (am_b p8.1)], am_SH, (g, p8.2))) rfl rfl (by subst Ep8; exact m_bad_ok (d + 9) 3 s7.2 g) ?_
              exact am_Ev.cast (a := ((some (.int (am_b (p8.1, p8.2).1))), am_SH, (g, (p8.1, p8.2).2))) (hZ7 _ (Option.some.inj h).symm) (am_Ev.retb hcd rfl)
            · refine am_Ev.f hcd (c := s7.2 216 15 = 16) (s1 := (52, [(0, .ref 216), (1, .int t6), (2, .int (am_b s7.1))], [], am_SH, (g, s7.2))) rfl c35 ?_
              refine am_Ev.go hcd 1 (s' := (53, [(0, .ref 216), (1, .int t6), (2, .int (am_b s7.1))], [.ref 216], am_SH, (g, s7.2))) rfl ?_
              obtain ⟨p9, hp9, h⟩ := am_bind_some h
              refine am_Ev.call hcd (a := 218) (s0 := (0, [(0, .ref 216)], [], am_SH, (g, s7.2))) (q := ((some (.int (am_b p9.1))), am_SH, (g, p9.2))) (s1 := (54, [(0, .ref 216), (1, .int t6), (2, .int (am_b s7.1))], [.int (am_b p9.1)], am_SH, (g, p9.2))) rfl rfl (m_aRow_ok (d)  s7.2 g p9 hp9) ?_
              obtain ⟨t10, ht10, kt10⟩ := am_let_eq h
              have hKt10 : am_Ev sc (d + 10) 219 (63, [(0, .ref 216), (1, .int t6), (2, .int (am_b p9.1))], [.int (am_b t10), .int (p9.2 216 15), .ref 216], am_SH, (g, p9.2)) ((some (.int (am_b r.1))), am_SH, (g, r.2)) := by
                have h := kt10
                obtain ⟨f11, Ef11, h⟩ := am_let_eq h
                refine am_Ev.go hcd 2 (s' := (65, [(0, .ref 216), (1, .int t6), (2, .int (am_b p9.1))], [], am_SH, (g, f11))) (by subst Ef11; exact rfl) ?_
                refine am_Ev.go hcd 1 (s' := (31, [(0, .ref 216), (1, .int t6), (2, .int (am_b p9.1))], [], am_SH, (g, f11))) rfl ?_
                exact am_Ev.weak' (hI7 (p9.1, f11) (Option.some.inj h).symm) (am_sub_cons rfl (am_sub_cons rfl (am_sub_cons rfl am_sub_nil))) rfl
              have hLt10 : ∀ tt, tt = t10 → am_Ev sc (d + 10) 219 (63, [(0, .ref 216), (1, .int t6), (2, .int (am_b p9.1))], [.int (am_b tt), .int (p9.2 216 15), .ref 216], am_SH, (g, p9.2)) ((some (.int (am_b r.1))), am_SH, (g, r.2)) := fun tt htt => by subst htt; exact hKt10
              have h := ht10
              refine am_Ev.go hcd 5 (s' := (59, [(0, .ref 216), (1, .int t6), (2, .int (am_b p9.1))], [.int (am_b p9.1), .int (p9.2 216 15), .ref 216], am_SH, (g, p9.2))) rfl ?_
              rcases am_itv h with ⟨c55, h⟩ | ⟨c55, h⟩
              · refine am_Ev.f hcd (c := am_b p9.1 = 0) (s1 := (60, [(0, .ref 216), (1, .int t6), (2, .int (am_b p9.1))], [.int (p9.2 216 15), .ref 216], am_SH, (g, p9.2))) rfl (am_b_t c55) ?_
                refine am_Ev.go hcd 2 (s' := (63, [(0, .ref 216), (1, .int t6), (2, .int (am_b p9.1))], [.int 1, .int (p9.2 216 15), .ref 216], am_SH, (g, p9.2))) rfl ?_
                exact am_Ev.weak' (hLt10 true h.symm) (am_sub_cons rfl (am_sub_cons rfl (am_sub_cons rfl am_sub_nil))) rfl
              · refine am_Ev.t hcd (c := am_b p9.1 = 0) (s1 := (62, [(0, .ref 216), (1, .int t6), (2, .int (am_b p9.1))], [.int (p9.2 216 15), .ref 216], am_SH, (g, p9.2))) rfl (am_b_f c55) ?_
                refine am_Ev.go hcd 1 (s' := (63, [(0, .ref 216), (1, .int t6), (2, .int (am_b p9.1))], [.int 0, .int (p9.2 216 15), .ref 216], am_SH, (g, p9.2))) rfl ?_
                exact am_Ev.weak' (hLt10 false h.symm) (am_sub_cons rfl (am_sub_cons rfl (am_sub_cons rfl am_sub_nil))) rfl
          · refine am_Ev.f hcd (c := s7.2 216 18 = t6) (s1 := (40, [(0, .ref 216), (1, .int t6), (2, .int (am_b s7.1))], [], am_SH, (g, s7.2))) rfl c32 ?_
            refine am_Ev.go hcd 2 (s' := (42, [(0, .ref 216), (1, .int t6), (2, .int (am_b s7.1))], [.int 1, .ref 216], am_SH, (g, s7.2))) rfl ?_
            obtain ⟨p12, Ep12, h⟩ := am_let_eq h
            refine am_Ev.call hcd (a := 201) (s0 := (0, [(0, .ref 216), (1, .int 1)], [], am_SH, (g, s7.2))) (q := ((some (.int (am_b p12.1))), am_SH, (g, p12.2))) (s1 := (43, [(0, .ref 216), (1, .int t6), (2, .int (am_b s7.1))], [.int (am_b p12.1)], am_SH, (g, p12.2))) rfl rfl (by subst Ep12; exact m_bad_ok (d + 9) 1 s7.2 g) ?_
            exact am_Ev.cast (a := ((some (.int (am_b (p12.1, p12.2).1))), am_SH, (g, (p12.1, p12.2).2))) (hZ7 _ (Option.some.inj h).symm) (am_Ev.retb hcd rfl)
      · refine am_Ev.t hcd (c := am_b s7.1 = 0) (s1 := (66, [(0, .ref 216), (1, .int t6), (2, .int (am_b s7.1))], [], am_SH, (g, s7.2))) rfl (am_b_f c24) ?_
        exact am_Ev.weak' (hZ7 (.inr (s7.1, s7.2)) (Option.some.inj h).symm) (am_sub_cons rfl am_sub_nil) rfl
    have hLt6 : ∀ tt, tt = t6 → am_Ev sc (d + 10) 219 (28, [(0, .ref 216)], [.int tt], am_SH, (g, e5)) ((some (.int (am_b r.1))), am_SH, (g, r.2)) := fun tt htt => by subst htt; exact hKt6
    have h := ht6
    refine am_Ev.go hcd 3 (s' := (18, [(0, .ref 216)], [.int 1, .int (e5 216 12)], am_SH, (g, e5))) rfl ?_
    rcases am_itv h with ⟨c72, h⟩ | ⟨c72, h⟩
    · refine am_Ev.t hcd (c := e5 216 12 = 1) (s1 := (19, [(0, .ref 216)], [], am_SH, (g, e5))) rfl c72 ?_
      refine am_Ev.go hcd 2 (s' := (28, [(0, .ref 216)], [.int 7], am_SH, (g, e5))) rfl ?_
      exact am_Ev.weak' (hLt6 7 h.symm) (am_sub_cons rfl am_sub_nil) rfl
    · refine am_Ev.f hcd (c := e5 216 12 = 1) (s1 := (21, [(0, .ref 216)], [], am_SH, (g, e5))) rfl c72 ?_
      refine am_Ev.go hcd 3 (s' := (24, [(0, .ref 216)], [.int 2, .int (e5 216 12)], am_SH, (g, e5))) rfl ?_
      rcases am_itv h with ⟨c78, h⟩ | ⟨c78, h⟩
      · refine am_Ev.t hcd (c := e5 216 12 = 2) (s1 := (25, [(0, .ref 216)], [], am_SH, (g, e5))) rfl c78 ?_
        refine am_Ev.go hcd 2 (s' := (28, [(0, .ref 216)], [.int 15], am_SH, (g, e5))) rfl ?_
        exact am_Ev.weak' (hLt6 15 h.symm) (am_sub_cons rfl am_sub_nil) rfl
      · refine am_Ev.f hcd (c := e5 216 12 = 2) (s1 := (27, [(0, .ref 216)], [], am_SH, (g, e5))) rfl c78 ?_
        refine am_Ev.go hcd 1 (s' := (28, [(0, .ref 216)], [.int 17], am_SH, (g, e5))) rfl ?_
        exact am_Ev.weak' (hLt6 17 h.symm) (am_sub_cons rfl am_sub_nil) rfl
  refine am_Ev.weak' (am_loop_ok (G := fun (s2 : Int32 × (Nat → Nat → Int32)) => am_Ev sc (d + 10) 219 (5, [(0, .ref 216), (1, .int s2.1)], [], am_SH, (g, s2.2)) ((some (.int (am_b r.1))), am_SH, (g, r.2))) (Z := fun (e5 : (Nat → Nat → Int32)) => am_Ev sc (d + 10) 219 (15, [(0, .ref 216)], [], am_SH, (g, e5)) ((some (.int (am_b r.1))), am_SH, (g, r.2))) ?_ am_F (0, f1) e5 he5 hK2) (am_sub_cons rfl (am_sub_cons rfl am_sub_nil)) rfl
  intro s2 q2 h hI2 hZ2
  show am_Ev sc (d + 10) 219 (5, [(0, .ref 216), (1, .int s2.1)], [], am_SH, (g, s2.2)) ((some (.int (am_b r.1))), am_SH, (g, r.2))
  refine am_Ev.go hcd 2 (s' := (7, [(0, .ref 216), (1, .int s2.1)], [.int 256, .int s2.1], am_SH, (g, s2.2))) rfl ?_
  rcases am_ite h with ⟨c89, h⟩ | ⟨c89, h⟩
  · refine am_Ev.t hcd (c := s2.1 < 256) (s1 := (8, [(0, .ref 216), (1, .int s2.1)], [], am_SH, (g, s2.2))) rfl c89 ?_
    refine am_Ev.go hcd 4 (s' := (12, [(0, .ref 216), (1, .int s2.1)], [.int 0, .int s2.1, .ref 223], am_SH, (g, s2.2))) rfl ?_
    obtain ⟨c92, h⟩ := am_grd h
    obtain ⟨f3, Ef3, h⟩ := am_let_eq h
    refine am_Ev.t hcd (o := none) (c := am_in s2.1 264 = true) (s1 := (13, [(0, .ref 216), (1, .int s2.1)], [], am_SH, (g, f3))) (by subst Ef3; exact rfl) c92 ?_
    obtain ⟨t4, Et4, h⟩ := am_let_eq h
    refine am_Ev.go hcd 1 (s' := (14, [(0, .ref 216), (1, .int t4)], [], am_SH, (g, f3))) (by subst Et4; exact rfl) ?_
    refine am_Ev.go hcd 1 (s' := (5, [(0, .ref 216), (1, .int t4)], [], am_SH, (g, f3))) rfl ?_
    exact am_Ev.weak' (hI2 (t4, f3) (Option.some.inj h).symm) (am_sub_cons rfl (am_sub_cons rfl am_sub_nil)) rfl
  · refine am_Ev.f hcd (c := s2.1 < 256) (s1 := (15, [(0, .ref 216), (1, .int s2.1)], [], am_SH, (g, s2.2))) rfl c89 ?_
    exact am_Ev.weak' (hZ2 s2.2 (Option.some.inj h).symm) (am_sub_cons rfl am_sub_nil) rfl
set_option maxRecDepth 100000 in
set_option maxHeartbeats 4000000 in
theorem m_putsLaw_ok {sc : Nat × (Nat → Int32)} (d : Nat)  (f g : (Nat → Nat → Int32)) (r : Int32 × (Nat → Nat → Int32)) (h : m_putsLaw  f = some r) : am_Ev sc (d) 220 (0, [(0, .ref 216)], [], am_SH, (g, f)) ((some (.int r.1)), am_SH, (g, r.2)) := by
  have hcd : am_code 220 = am_c220 := rfl
  unfold m_putsLaw at h
  obtain ⟨f1, Ef1, h⟩ := am_let_eq h
  refine am_Ev.go hcd 6 (s' := (6, [(0, .ref 216)], [], am_SH, (g, f1))) (by subst Ef1; exact rfl) ?_
  refine am_Ev.go hcd 2 (s' := (8, [(0, .ref 216), (1, .int 0)], [], am_SH, (g, f1))) rfl ?_
  obtain ⟨e8, he8, h⟩ := am_bind_some h
  have hK2 : (fun (e8 : (Nat → Nat → Int32)) => am_Ev sc (d) 220 (68, [(0, .ref 216)], [], am_SH, (g, e8)) ((some (.int r.1)), am_SH, (g, r.2))) e8 := by
    show am_Ev sc (d) 220 (68, [(0, .ref 216)], [], am_SH, (g, e8)) ((some (.int r.1)), am_SH, (g, r.2))
    refine am_Ev.go hcd 2 (s' := (70, [(0, .ref 216), (1, .int 0)], [], am_SH, (g, e8))) rfl ?_
    refine am_Ev.weak' (am_loop_ok (G := fun (s9 : Int32 × (Nat → Nat → Int32)) => am_Ev sc (d) 220 (70, [(0, .ref 216), (1, .int s9.1)], [], am_SH, (g, s9.2)) ((some (.int r.1)), am_SH, (g, r.2))) (Z := fun (v : Int32 × (Nat → Nat → Int32)) => (((some (.int v.1)), am_SH, (g, v.2)) : am_R) = ((some (.int r.1)), am_SH, (g, r.2))) ?_ am_F (0, e8) r h rfl) (am_sub_cons rfl (am_sub_cons rfl am_sub_nil)) rfl
    intro s9 q9 h hI9 hZ9
    show am_Ev sc (d) 220 (70, [(0, .ref 216), (1, .int s9.1)], [], am_SH, (g, s9.2)) ((some (.int r.1)), am_SH, (g, r.2))
    refine am_Ev.go hcd 5 (s' := (75, [(0, .ref 216), (1, .int s9.1)], [.int (2 * (s9.2 216 14)), .int s9.1], am_SH, (g, s9.2))) rfl ?_
    rcases am_ite h with ⟨c12, h⟩ | ⟨c12, h⟩
    · refine am_Ev.t hcd (c := s9.1 < (2 * (s9.2 216 14))) (s1 := (76, [(0, .ref 216), (1, .int s9.1)], [], am_SH, (g, s9.2))) rfl c12 ?_
      refine am_Ev.go hcd 8 (s' := (84, [(0, .ref 216), (1, .int s9.1)], [.int s9.1, .ref 222, .int (1188 + s9.1), .ref 217], am_SH, (g, s9.2))) rfl ?_
      obtain ⟨c15, h⟩ := am_grd h
      refine am_Ev.t hcd (o := none) (c := am_in s9.1 820 = true) (s1 := (85, [(0, .ref 216), (1, .int s9.1)], [.int (s9.2 222 s9.1.toNatClampNeg), .int (1188 + s9.1), .ref 217], am_SH, (g, s9.2))) rfl c15 ?_
      obtain ⟨c18, h⟩ := am_grd h
      obtain ⟨f10, Ef10, h⟩ := am_let_eq h
      refine am_Ev.t hcd (o := none) (c := am_in (1188 + s9.1) 2008 = true) (s1 := (86, [(0, .ref 216), (1, .int s9.1)], [], am_SH, (g, f10))) (by subst Ef10; exact rfl) c18 ?_
      obtain ⟨t11, Et11, h⟩ := am_let_eq h
      refine am_Ev.go hcd 1 (s' := (87, [(0, .ref 216), (1, .int t11)], [], am_SH, (g, f10))) (by subst Et11; exact rfl) ?_
      refine am_Ev.go hcd 1 (s' := (70, [(0, .ref 216), (1, .int t11)], [], am_SH, (g, f10))) rfl ?_
      exact am_Ev.weak' (hI9 (t11, f10) (Option.some.inj h).symm) (am_sub_cons rfl (am_sub_cons rfl am_sub_nil)) rfl
    · refine am_Ev.f hcd (c := s9.1 < (2 * (s9.2 216 14))) (s1 := (88, [(0, .ref 216), (1, .int s9.1)], [], am_SH, (g, s9.2))) rfl c12 ?_
      refine am_Ev.go hcd 2 (s' := (90, [(0, .ref 216), (1, .int s9.1)], [.int (s9.2 216 13)], am_SH, (g, s9.2))) rfl ?_
      exact am_Ev.cast (a := ((some (.int (s9.2 216 13, s9.2).1)), am_SH, (g, (s9.2 216 13, s9.2).2))) (hZ9 _ (Option.some.inj h).symm) (am_Ev.ret hcd rfl)
  refine am_Ev.weak' (am_loop_ok (G := fun (s2 : Int32 × (Nat → Nat → Int32)) => am_Ev sc (d) 220 (8, [(0, .ref 216), (1, .int s2.1)], [], am_SH, (g, s2.2)) ((some (.int r.1)), am_SH, (g, r.2))) (Z := fun (e8 : (Nat → Nat → Int32)) => am_Ev sc (d) 220 (68, [(0, .ref 216)], [], am_SH, (g, e8)) ((some (.int r.1)), am_SH, (g, r.2))) ?_ am_F (0, f1) e8 he8 hK2) (am_sub_cons rfl (am_sub_cons rfl am_sub_nil)) rfl
  intro s2 q2 h hI2 hZ2
  show am_Ev sc (d) 220 (8, [(0, .ref 216), (1, .int s2.1)], [], am_SH, (g, s2.2)) ((some (.int r.1)), am_SH, (g, r.2))
  refine am_Ev.go hcd 3 (s' := (11, [(0, .ref 216), (1, .int s2.1)], [.int (s2.2 216 13), .int s2.1], am_SH, (g, s2.2))) rfl ?_
  rcases am_ite h with ⟨c31, h⟩ | ⟨c31, h⟩
  · refine am_Ev.t hcd (c := s2.1 < s2.2 216 13) (s1 := (12, [(0, .ref 216), (1, .int s2.1)], [], am_SH, (g, s2.2))) rfl c31 ?_
    refine am_Ev.go hcd 10 (s' := (22, [(0, .ref 216), (1, .int s2.1)], [.int (4 * s2.1), .ref 221, .int (1124 + s2.1), .ref 217], am_SH, (g, s2.2))) rfl ?_
    obtain ⟨c34, h⟩ := am_grd h
    refine am_Ev.t hcd (o := none) (c := am_in (4 * s2.1) 64 = true) (s1 := (23, [(0, .ref 216), (1, .int s2.1)], [.int (s2.2 221 (4 * s2.1).toNatClampNeg), .int (1124 + s2.1), .ref 217], am_SH, (g, s2.2))) rfl c34 ?_
    obtain ⟨c37, h⟩ := am_grd h
    obtain ⟨f3, Ef3, h⟩ := am_let_eq h
    refine am_Ev.t hcd (o := none) (c := am_in (1124 + s2.1) 2008 = true) (s1 := (24, [(0, .ref 216), (1, .int s2.1)], [], am_SH, (g, f3))) (by subst Ef3; exact rfl) c37 ?_
    refine am_Ev.go hcd 12 (s' := (36, [(0, .ref 216), (1, .int s2.1)], [.int ((4 * s2.1) + 1), .ref 221, .int (1140 + s2.1), .ref 217], am_SH, (g, f3))) rfl ?_
    obtain ⟨c40, h⟩ := am_grd h
    refine am_Ev.t hcd (o := none) (c := am_in ((4 * s2.1) + 1) 64 = true) (s1 := (37, [(0, .ref 216), (1, .int s2.1)], [.int (f3 221 ((4 * s2.1) + 1).toNatClampNeg), .int (1140 + s2.1), .ref 217], am_SH, (g, f3))) rfl c40 ?_
    obtain ⟨c43, h⟩ := am_grd h
    obtain ⟨f4, Ef4, h⟩ := am_let_eq h
    refine am_Ev.t hcd (o := none) (c := am_in (1140 + s2.1) 2008 = true) (s1 := (38, [(0, .ref 216), (1, .int s2.1)], [], am_SH, (g, f4))) (by subst Ef4; exact rfl) c43 ?_
    refine am_Ev.go hcd 12 (s' := (50, [(0, .ref 216), (1, .int s2.1)], [.int ((4 * s2.1) + 2), .ref 221, .int (1156 + s2.1), .ref 217], am_SH, (g, f4))) rfl ?_
    obtain ⟨c46, h⟩ := am_grd h
    refine am_Ev.t hcd (o := none) (c := am_in ((4 * s2.1) + 2) 64 = true) (s1 := (51, [(0, .ref 216), (1, .int s2.1)], [.int (f4 221 ((4 * s2.1) + 2).toNatClampNeg), .int (1156 + s2.1), .ref 217], am_SH, (g, f4))) rfl c46 ?_
    obtain ⟨c49, h⟩ := am_grd h
    obtain ⟨f5, Ef5, h⟩ := am_let_eq h
    refine am_Ev.t hcd (o := none) (c := am_in (1156 + s2.1) 2008 = true) (s1 := (52, [(0, .ref 216), (1, .int s2.1)], [], am_SH, (g, f5))) (by subst Ef5; exact rfl) c49 ?_
    refine am_Ev.go hcd 12 (s' := (64, [(0, .ref 216), (1, .int s2.1)], [.int ((4 * s2.1) + 3), .ref 221, .int (1172 + s2.1), .ref 217], am_SH, (g, f5))) rfl ?_
    obtain ⟨c52, h⟩ := am_grd h
    refine am_Ev.t hcd (o := none) (c := am_in ((4 * s2.1) + 3) 64 = true) (s1 := (65, [(0, .ref 216), (1, .int s2.1)], [.int (f5 221 ((4 * s2.1) + 3).toNatClampNeg), .int (1172 + s2.1), .ref 217], am_SH, (g, f5))) rfl c52 ?_
    obtain ⟨c55, h⟩ := am_grd h
    obtain ⟨f6, Ef6, h⟩ := am_let_eq h
    refine am_Ev.t hcd (o := none) (c := am_in (1172 + s2.1) 2008 = true) (s1 := (66, [(0, .ref 216), (1, .int s2.1)], [], am_SH, (g, f6))) (by subst Ef6; exact rfl) c55 ?_
    obtain ⟨t7, Et7, h⟩ := am_let_eq h
    refine am_Ev.go hcd 1 (s' := (67, [(0, .ref 216), (1, .int t7)], [], am_SH, (g, f6))) (by subst Et7; exact rfl) ?_
    refine am_Ev.go hcd 1 (s' := (8, [(0, .ref 216), (1, .int t7)], [], am_SH, (g, f6))) rfl ?_
    exact am_Ev.weak' (hI2 (t7, f6) (Option.some.inj h).symm) (am_sub_cons rfl (am_sub_cons rfl am_sub_nil)) rfl
  · refine am_Ev.f hcd (c := s2.1 < s2.2 216 13) (s1 := (68, [(0, .ref 216), (1, .int s2.1)], [], am_SH, (g, s2.2))) rfl c31 ?_
    exact am_Ev.weak' (hZ2 s2.2 (Option.some.inj h).symm) (am_sub_cons rfl am_sub_nil) rfl
set_option maxRecDepth 100000 in
set_option maxHeartbeats 4000000 in
theorem m_puts_ok {sc : Nat × (Nat → Int32)} (d : Nat) (a0 : Int32) (a1 : Int32) (a2 : Int32) (f g : (Nat → Nat → Int32)) (r : Int32 × (Nat → Nat → Int32)) (h : m_puts a0 a1 a2 f = some r) : am_Ev sc (d) 221 (0, [(0, .ref 216), (1, .int a0), (2, .int a1), (3, .int a2)], [], am_SH, (g, f)) ((some (.int r.1)), am_SH, (g, r.2)) := by
  have hcd : am_code 221 = am_c221 := rfl
  unfold m_puts at h
  refine am_Ev.go hcd 5 (s' := (5, [(0, .ref 216), (1, .int a0), (2, .int a1), (3, .int a2)], [.int (f 216 15), .int a0, .ref 217], am_SH, (g, f))) rfl ?_
  obtain ⟨c2, h⟩ := am_grd h
  obtain ⟨f1, Ef1, h⟩ := am_let_eq h
  refine am_Ev.t hcd (o := none) (c := am_in a0 2008 = true) (s1 := (6, [(0, .ref 216), (1, .int a0), (2, .int a1), (3, .int a2)], [], am_SH, (g, f1))) (by subst Ef1; exact rfl) c2 ?_
  refine am_Ev.go hcd 2 (s' := (8, [(0, .ref 216), (1, .int a0), (2, .int a1), (3, .int a2), (4, .int 0)], [], am_SH, (g, f1))) rfl ?_
  refine am_Ev.weak' (am_loop_ok (G := fun (s2 : Int32 × (Nat → Nat → Int32)) => am_Ev sc (d) 221 (8, [(0, .ref 216), (2, .int a1), (3, .int a2), (4, .int s2.1)], [], am_SH, (g, s2.2)) ((some (.int r.1)), am_SH, (g, r.2))) (Z := fun (v : Int32 × (Nat → Nat → Int32)) => (((some (.int v.1)), am_SH, (g, v.2)) : am_R) = ((some (.int r.1)), am_SH, (g, r.2))) ?_ am_F (0, f1) r h rfl) (am_sub_cons rfl (am_sub_cons rfl (am_sub_cons rfl (am_sub_cons rfl am_sub_nil)))) rfl
  intro s2 q2 h hI2 hZ2
  show am_Ev sc (d) 221 (8, [(0, .ref 216), (2, .int a1), (3, .int a2), (4, .int s2.1)], [], am_SH, (g, s2.2)) ((some (.int r.1)), am_SH, (g, r.2))
  refine am_Ev.go hcd 2 (s' := (10, [(0, .ref 216), (2, .int a1), (3, .int a2), (4, .int s2.1)], [.int a2, .int s2.1], am_SH, (g, s2.2))) rfl ?_
  rcases am_ite h with ⟨c10, h⟩ | ⟨c10, h⟩
  · refine am_Ev.t hcd (c := s2.1 < a2) (s1 := (11, [(0, .ref 216), (2, .int a1), (3, .int a2), (4, .int s2.1)], [], am_SH, (g, s2.2))) rfl c10 ?_
    refine am_Ev.go hcd 8 (s' := (19, [(0, .ref 216), (2, .int a1), (3, .int a2), (4, .int s2.1)], [.int s2.1, .ref 223, .int (a1 + s2.1), .ref 217], am_SH, (g, s2.2))) rfl ?_
    obtain ⟨c13, h⟩ := am_grd h
    refine am_Ev.t hcd (o := none) (c := am_in s2.1 264 = true) (s1 := (20, [(0, .ref 216), (2, .int a1), (3, .int a2), (4, .int s2.1)], [.int (s2.2 223 s2.1.toNatClampNeg), .int (a1 + s2.1), .ref 217], am_SH, (g, s2.2))) rfl c13 ?_
    obtain ⟨c16, h⟩ := am_grd h
    obtain ⟨f3, Ef3, h⟩ := am_let_eq h
    refine am_Ev.t hcd (o := none) (c := am_in (a1 + s2.1) 2008 = true) (s1 := (21, [(0, .ref 216), (2, .int a1), (3, .int a2), (4, .int s2.1)], [], am_SH, (g, f3))) (by subst Ef3; exact rfl) c16 ?_
    obtain ⟨t4, Et4, h⟩ := am_let_eq h
    refine am_Ev.go hcd 1 (s' := (22, [(0, .ref 216), (2, .int a1), (3, .int a2), (4, .int t4)], [], am_SH, (g, f3))) (by subst Et4; exact rfl) ?_
    refine am_Ev.go hcd 1 (s' := (8, [(0, .ref 216), (2, .int a1), (3, .int a2), (4, .int t4)], [], am_SH, (g, f3))) rfl ?_
    exact am_Ev.weak' (hI2 (t4, f3) (Option.some.inj h).symm) (am_sub_cons rfl (am_sub_cons rfl (am_sub_cons rfl (am_sub_cons rfl am_sub_nil)))) rfl
  · refine am_Ev.f hcd (c := s2.1 < a2) (s1 := (23, [(0, .ref 216), (2, .int a1), (3, .int a2), (4, .int s2.1)], [], am_SH, (g, s2.2))) rfl c10 ?_
    refine am_Ev.go hcd 2 (s' := (25, [(0, .ref 216), (2, .int a1), (3, .int a2), (4, .int s2.1)], [.int (s2.2 216 15)], am_SH, (g, s2.2))) rfl ?_
    exact am_Ev.cast (a := ((some (.int (s2.2 216 15, s2.2).1)), am_SH, (g, (s2.2 216 15, s2.2).2))) (hZ2 _ (Option.some.inj h).symm) (am_Ev.ret hcd rfl)
set_option maxRecDepth 100000 in
set_option maxHeartbeats 4000000 in
theorem m_putsText_ok {sc : Nat × (Nat → Int32)} (d : Nat) (a0 : Int32) (f g : (Nat → Nat → Int32)) (r : Int32 × (Nat → Nat → Int32)) (h : m_putsText a0 f = some r) : am_Ev sc (d + 1) 222 (0, [(0, .ref 216), (1, .int a0)], [], am_SH, (g, f)) ((some (.int r.1)), am_SH, (g, r.2)) := by
  have hcd : am_code 222 = am_c222 := rfl
  unfold m_putsText at h
  refine am_Ev.go hcd 1 (s' := (1, [(0, .ref 216), (1, .int a0)], [.int a0], am_SH, (g, f))) rfl ?_
  rcases am_ite h with ⟨c2, h⟩ | ⟨c2, h⟩
  · refine am_Ev.t hcd (c := a0 = 0) (s1 := (2, [(0, .ref 216), (1, .int a0)], [], am_SH, (g, f))) rfl c2 ?_
    refine am_Ev.go hcd 1 (s' := (3, [(0, .ref 216), (1, .int a0)], [.ref 216], am_SH, (g, f))) rfl ?_
    obtain ⟨p1, hp1, h⟩ := am_bind_some h
    refine am_Ev.call hcd (a := 220) (s0 := (0, [(0, .ref 216)], [], am_SH, (g, f))) (q := ((some (.int p1.1)), am_SH, (g, p1.2))) (s1 := (4, [(0, .ref 216), (1, .int a0)], [.int p1.1], am_SH, (g, p1.2))) rfl rfl (m_putsLaw_ok (d)  f g p1 hp1) ?_
    exact am_Ev.cast (a := ((some (.int (p1.1, p1.2).1)), am_SH, (g, (p1.1, p1.2).2))) (by cases h; rfl) (am_Ev.ret hcd rfl)
  · refine am_Ev.f hcd (c := a0 = 0) (s1 := (5, [(0, .ref 216), (1, .int a0)], [], am_SH, (g, f))) rfl c2 ?_
    refine am_Ev.go hcd 2 (s' := (7, [(0, .ref 216), (1, .int a0)], [.int 2, .int a0], am_SH, (g, f))) rfl ?_
    rcases am_ite h with ⟨c10, h⟩ | ⟨c10, h⟩
    · refine am_Ev.t hcd (c := a0 = 2) (s1 := (8, [(0, .ref 216), (1, .int a0)], [], am_SH, (g, f))) rfl c10 ?_
      refine am_Ev.go hcd 4 (s' := (12, [(0, .ref 216), (1, .int a0)], [.int 256, .int 87, .int 73, .ref 216], am_SH, (g, f))) rfl ?_
      obtain ⟨p2, hp2, h⟩ := am_bind_some h
      refine am_Ev.call hcd (a := 221) (s0 := (0, [(0, .ref 216), (1, .int 73), (2, .int 87), (3, .int 256)], [], am_SH, (g, f))) (q := ((some (.int p2.1)), am_SH, (g, p2.2))) (s1 := (13, [(0, .ref 216), (1, .int a0)], [.int p2.1], am_SH, (g, p2.2))) rfl rfl (m_puts_ok (d) 73 87 256 f g p2 hp2) ?_
      exact am_Ev.cast (a := ((some (.int (p2.1, p2.2).1)), am_SH, (g, (p2.1, p2.2).2))) (by cases h; rfl) (am_Ev.ret hcd rfl)
    · refine am_Ev.f hcd (c := a0 = 2) (s1 := (14, [(0, .ref 216), (1, .int a0)], [], am_SH, (g, f))) rfl c10 ?_
      refine am_Ev.go hcd 1 (s' := (15, [(0, .ref 216), (1, .int a0)], [.ref 216], am_SH, (g, f))) rfl ?_
      obtain ⟨p3, Ep3, h⟩ := am_let_eq h
      refine am_Ev.call hcd (a := 184) (s0 := (0, [(0, .ref 216)], [], am_SH, (g, f))) (q := (none, am_SH, (g, p3))) (s1 := (16, [(0, .ref 216), (1, .int a0)], [], am_SH, (g, p3))) rfl rfl (by subst Ep3; exact m_forgets_ok (d)  f g) ?_
      refine am_Ev.go hcd 2 (s' := (18, [(0, .ref 216), (1, .int a0)], [.int 1, .int a0], am_SH, (g, p3))) rfl ?_
      rcases am_ite h with ⟨c21, h⟩ | ⟨c21, h⟩
      · refine am_Ev.t hcd (c := a0 = 1) (s1 := (19, [(0, .ref 216), (1, .int a0)], [], am_SH, (g, p3))) rfl c21 ?_
        refine am_Ev.go hcd 7 (s' := (26, [(0, .ref 216), (1, .int a0)], [.int (4 * (p3 216 15)), .int 343, .int 72, .ref 216], am_SH, (g, p3))) rfl ?_
        obtain ⟨p4, hp4, h⟩ := am_bind_some h
        refine am_Ev.call hcd (a := 221) (s0 := (0, [(0, .ref 216), (1, .int 72), (2, .int 343), (3, .int (4 * (p3 216 15)))], [], am_SH, (g, p3))) (q := ((some (.int p4.1)), am_SH, (g, p4.2))) (s1 := (27, [(0, .ref 216), (1, .int a0)], [.int p4.1], am_SH, (g, p4.2))) rfl rfl (m_puts_ok (d) 72 343 (4 * (p3 216 15)) p3 g p4 hp4) ?_
        refine am_Ev.go hcd 1 (s' := (33, [(0, .ref 216), (1, .int a0)], [.int p4.1], am_SH, (g, p4.2))) rfl ?_
        exact am_Ev.cast (a := ((some (.int (p4.1, p4.2).1)), am_SH, (g, (p4.1, p4.2).2))) (by cases h; rfl) (am_Ev.ret hcd rfl)
      · refine am_Ev.f hcd (c := a0 = 1) (s1 := (28, [(0, .ref 216), (1, .int a0)], [], am_SH, (g, p3))) rfl c21 ?_
        refine am_Ev.go hcd 4 (s' := (32, [(0, .ref 216), (1, .int a0)], [.int 12, .int 75, .int 74, .ref 216], am_SH, (g, p3))) rfl ?_
        obtain ⟨p5, hp5, h⟩ := am_bind_some h
        refine am_Ev.call hcd (a := 221) (s0 := (0, [(0, .ref 216), (1, .int 74), (2, .int 75), (3, .int 12)], [], am_SH, (g, p3))) (q := ((some (.int p5.1)), am_SH, (g, p5.2))) (s1 := (33, [(0, .ref 216), (1, .int a0)], [.int p5.1], am_SH, (g, p5.2))) rfl rfl (m_puts_ok (d) 74 75 12 p3 g p5 hp5) ?_
        exact am_Ev.cast (a := ((some (.int (p5.1, p5.2).1)), am_SH, (g, (p5.1, p5.2).2))) (by cases h; rfl) (am_Ev.ret hcd rfl)
set_option maxRecDepth 100000 in
set_option maxHeartbeats 4000000 in
theorem m_text_ok {sc : Nat × (Nat → Int32)} (d : Nat) (a0 : Int32) (f g : (Nat → Nat → Int32)) (r : Int32 × (Nat → Nat → Int32)) (h : m_text a0 f = some r) : am_Ev sc (d + 52) 223 (0, [(0, .ref 216), (1, .int a0)], [], am_SH, (g, f)) ((some (.int r.1)), am_SH, (g, r.2)) := by
  have hcd : am_code 223 = am_c223 := rfl
  unfold m_text at h
  obtain ⟨f1, Ef1, h⟩ := am_let_eq h
  refine am_Ev.go hcd 3 (s' := (3, [(0, .ref 216), (1, .int a0)], [], am_SH, (g, f1))) (by subst Ef1; exact rfl) ?_
  obtain ⟨f2, Ef2, h⟩ := am_let_eq h
  refine am_Ev.go hcd 3 (s' := (6, [(0, .ref 216), (1, .int a0)], [], am_SH, (g, f2))) (by subst Ef2; exact rfl) ?_
  refine am_Ev.go hcd 3 (s' := (9, [(0, .ref 216), (1, .int a0)], [.int 3, .int 0, .int a0], am_SH, (g, f2))) rfl ?_
  refine am_Ev.call hcd (a := 176) (s0 := (0, [(0, .int a0), (1, .int 0), (2, .int 3)], [], am_SH, (g, f2))) (q := ((some (.int (am_b (m_isIn a0 0 3)))), am_SH, (g, f2))) (s1 := (10, [(0, .ref 216), (1, .int a0)], [.int (am_b (m_isIn a0 0 3))], am_SH, (g, f2))) rfl rfl (m_isIn_ok (d + 51) a0 0 3 (g, f2)) ?_
  rcases am_ite h with ⟨c8, h⟩ | ⟨c8, h⟩
  · refine am_Ev.f hcd (c := am_b (m_isIn a0 0 3) = 0) (s1 := (16, [(0, .ref 216), (1, .int a0)], [], am_SH, (g, f2))) rfl (am_b_t c8) ?_
    obtain ⟨f4, Ef4, h⟩ := am_let_eq h
    refine am_Ev.go hcd 3 (s' := (19, [(0, .ref 216), (1, .int a0)], [], am_SH, (g, f4))) (by subst Ef4; exact rfl) ?_
    obtain ⟨f5, Ef5, h⟩ := am_let_eq h
    refine am_Ev.go hcd 3 (s' := (22, [(0, .ref 216), (1, .int a0)], [], am_SH, (g, f5))) (by subst Ef5; exact rfl) ?_
    obtain ⟨f6, Ef6, h⟩ := am_let_eq h
    refine am_Ev.go hcd 3 (s' := (25, [(0, .ref 216), (1, .int a0)], [], am_SH, (g, f6))) (by subst Ef6; exact rfl) ?_
    refine am_Ev.go hcd 1 (s' := (26, [(0, .ref 216), (1, .int a0)], [.ref 216], am_SH, (g, f6))) rfl ?_
    obtain ⟨p7, hp7, h⟩ := am_bind_some h
    refine am_Ev.call hcd (a := 200) (s0 := (0, [(0, .ref 216)], [], am_SH, (g, f6))) (q := (none, am_SH, (g, p7))) (s1 := (27, [(0, .ref 216), (1, .int a0)], [], am_SH, (g, p7))) rfl rfl (m_next0_ok (d + 46)  f6 g p7 hp7) ?_
    obtain ⟨t10, ht10, kt10⟩ := am_bind_some h
    have hKt10 : am_Ev sc (d + 52) 223 (34, [(0, .ref 216), (1, .int a0)], [.int (am_b t10.1)], am_SH, (g, t10.2)) ((some (.int r.1)), am_SH, (g, r.2)) := by
      have h := kt10
      obtain ⟨f11, Ef11, h⟩ := am_let_eq h
      refine am_Ev.go hcd 4 (s' := (38, [(0, .ref 216), (1, .int a0), (2, .int (am_b t10.1))], [], am_SH, (g, f11))) (by subst Ef11; exact rfl) ?_
      refine am_Ev.go hcd 1 (s' := (39, [(0, .ref 216), (1, .int a0), (2, .int (am_b t10.1))], [.int (am_b t10.1)], am_SH, (g, f11))) rfl ?_
      rcases am_ite h with ⟨c24, h⟩ | ⟨c24, h⟩
      · refine am_Ev.f hcd (c := am_b t10.1 = 0) (s1 := (40, [(0, .ref 216), (1, .int a0), (2, .int (am_b t10.1))], [], am_SH, (g, f11))) rfl (am_b_t c24) ?_
        refine am_Ev.go hcd 2 (s' := (42, [(0, .ref 216), (1, .int a0), (2, .int (am_b t10.1))], [.int a0, .ref 216], am_SH, (g, f11))) rfl ?_
        obtain ⟨p12, hp12, h⟩ := am_bind_some h
        refine am_Ev.call hcd (a := 222) (s0 := (0, [(0, .ref 216), (1, .int a0)], [], am_SH, (g, f11))) (q := ((some (.int p12.1)), am_SH, (g, p12.2))) (s1 := (43, [(0, .ref 216), (1, .int a0), (2, .int (am_b t10.1))], [.int p12.1], am_SH, (g, p12.2))) rfl rfl (m_putsText_ok (d + 50) a0 f11 g p12 hp12) ?_
        exact am_Ev.cast (a := ((some (.int (p12.1, p12.2).1)), am_SH, (g, (p12.1, p12.2).2))) (by cases h; rfl) (am_Ev.ret hcd rfl)
      · refine am_Ev.t hcd (c := am_b t10.1 = 0) (s1 := (44, [(0, .ref 216), (1, .int a0), (2, .int (am_b t10.1))], [], am_SH, (g, f11))) rfl (am_b_f c24) ?_
        obtain ⟨f13, Ef13, h⟩ := am_let_eq h
        refine am_Ev.go hcd 4 (s' := (48, [(0, .ref 216), (1, .int a0), (2, .int (am_b t10.1))], [], am_SH, (g, f13))) (by subst Ef13; exact rfl) ?_
        obtain ⟨f14, Ef14, h⟩ := am_let_eq h
        refine am_Ev.go hcd 4 (s' := (52, [(0, .ref 216), (1, .int a0), (2, .int (am_b t10.1))], [], am_SH, (g, f14))) (by subst Ef14; exact rfl) ?_
        refine am_Ev.go hcd 1 (s' := (53, [(0, .ref 216), (1, .int a0), (2, .int (am_b t10.1))], [.int (-1)], am_SH, (g, f14))) rfl ?_
        exact am_Ev.cast (a := ((some (.int ((-1), f14).1)), am_SH, (g, ((-1), f14).2))) (by cases h; rfl) (am_Ev.ret hcd rfl)
    have hLt10 : ∀ tt, tt = t10 → am_Ev sc (d + 52) 223 (34, [(0, .ref 216), (1, .int a0)], [.int (am_b tt.1)], am_SH, (g, tt.2)) ((some (.int r.1)), am_SH, (g, r.2)) := fun tt htt => by subst htt; exact hKt10
    have h := ht10
    refine am_Ev.go hcd 1 (s' := (28, [(0, .ref 216), (1, .int a0)], [.int a0], am_SH, (g, p7))) rfl ?_
    rcases am_ite h with ⟨c40, h⟩ | ⟨c40, h⟩
    · refine am_Ev.t hcd (c := a0 = 0) (s1 := (29, [(0, .ref 216), (1, .int a0)], [], am_SH, (g, p7))) rfl c40 ?_
      refine am_Ev.go hcd 1 (s' := (30, [(0, .ref 216), (1, .int a0)], [.ref 216], am_SH, (g, p7))) rfl ?_
      obtain ⟨p8, hp8, h⟩ := am_bind_some h
      refine am_Ev.call hcd (a := 212) (s0 := (0, [(0, .ref 216)], [], am_SH, (g, p7))) (q := ((some (.int (am_b p8.1))), am_SH, (g, p8.2))) (s1 := (31, [(0, .ref 216), (1, .int a0)], [.int (am_b p8.1)], am_SH, (g, p8.2))) rfl rfl (m_readsLaw_ok (d)  p7 g p8 hp8) ?_
      refine am_Ev.go hcd 1 (s' := (34, [(0, .ref 216), (1, .int a0)], [.int (am_b p8.1)], am_SH, (g, p8.2))) rfl ?_
      exact am_Ev.weak' (hLt10 (p8.1, p8.2) (Option.some.inj h)) (am_sub_cons rfl (am_sub_cons rfl am_sub_nil)) rfl
    · refine am_Ev.f hcd (c := a0 = 0) (s1 := (32, [(0, .ref 216), (1, .int a0)], [], am_SH, (g, p7))) rfl c40 ?_
      refine am_Ev.go hcd 1 (s' := (33, [(0, .ref 216), (1, .int a0)], [.ref 216], am_SH, (g, p7))) rfl ?_
      obtain ⟨p9, hp9, h⟩ := am_bind_some h
      refine am_Ev.call hcd (a := 219) (s0 := (0, [(0, .ref 216)], [], am_SH, (g, p7))) (q := ((some (.int (am_b p9.1))), am_SH, (g, p9.2))) (s1 := (34, [(0, .ref 216), (1, .int a0)], [.int (am_b p9.1)], am_SH, (g, p9.2))) rfl rfl (m_readsRows_ok (d + 41)  p7 g p9 hp9) ?_
      exact am_Ev.weak' (hLt10 (p9.1, p9.2) (Option.some.inj h)) (am_sub_cons rfl (am_sub_cons rfl am_sub_nil)) rfl
  · refine am_Ev.t hcd (c := am_b (m_isIn a0 0 3) = 0) (s1 := (11, [(0, .ref 216), (1, .int a0)], [], am_SH, (g, f2))) rfl (am_b_f c8) ?_
    obtain ⟨f15, Ef15, h⟩ := am_let_eq h
    refine am_Ev.go hcd 3 (s' := (14, [(0, .ref 216), (1, .int a0)], [], am_SH, (g, f15))) (by subst Ef15; exact rfl) ?_
    refine am_Ev.go hcd 1 (s' := (15, [(0, .ref 216), (1, .int a0)], [.int (-1)], am_SH, (g, f15))) rfl ?_
    exact am_Ev.cast (a := ((some (.int ((-1), f15).1)), am_SH, (g, ((-1), f15).2))) (by cases h; rfl) (am_Ev.ret hcd rfl)
set_option maxRecDepth 100000 in
set_option maxHeartbeats 4000000 in
theorem m_fault_ok {sc : Nat × (Nat → Int32)} (d : Nat) (a0 : Int32) (f g : (Nat → Nat → Int32)) : am_Ev sc (d) 224 (0, [(0, .ref 216), (1, .int a0)], [], am_SH, (g, f)) ((some (.int (m_fault a0 f))), am_SH, (g, f)) := by
  have hcd : am_code 224 = am_c224 := rfl
  obtain ⟨r, h⟩ : ∃ r, r = m_fault a0 f := ⟨_, rfl⟩
  rw [← h]
  unfold m_fault at h
  refine am_Ev.go hcd 1 (s' := (1, [(0, .ref 216), (1, .int a0)], [.int a0], am_SH, (g, f))) rfl ?_
  rcases am_itv h with ⟨c4, h⟩ | ⟨c4, h⟩
  · refine am_Ev.t hcd (c := a0 = 0) (s1 := (2, [(0, .ref 216), (1, .int a0)], [], am_SH, (g, f))) rfl c4 ?_
    refine am_Ev.go hcd 3 (s' := (12, [(0, .ref 216), (1, .int a0)], [.int (f 216 23)], am_SH, (g, f))) rfl ?_
    exact am_Ev.cast (a := ((some (.int (f 216 23 : Int32))), am_SH, (g, f))) (by subst h; rfl) (am_Ev.ret hcd rfl)
  · refine am_Ev.f hcd (c := a0 = 0) (s1 := (5, [(0, .ref 216), (1, .int a0)], [], am_SH, (g, f))) rfl c4 ?_
    refine am_Ev.go hcd 2 (s' := (7, [(0, .ref 216), (1, .int a0)], [.int 1, .int a0], am_SH, (g, f))) rfl ?_
    rcases am_itv h with ⟨c10, h⟩ | ⟨c10, h⟩
    · refine am_Ev.t hcd (c := a0 = 1) (s1 := (8, [(0, .ref 216), (1, .int a0)], [], am_SH, (g, f))) rfl c10 ?_
      refine am_Ev.go hcd 3 (s' := (12, [(0, .ref 216), (1, .int a0)], [.int (f 216 25)], am_SH, (g, f))) rfl ?_
      exact am_Ev.cast (a := ((some (.int (f 216 25 : Int32))), am_SH, (g, f))) (by subst h; rfl) (am_Ev.ret hcd rfl)
    · refine am_Ev.f hcd (c := a0 = 1) (s1 := (11, [(0, .ref 216), (1, .int a0)], [], am_SH, (g, f))) rfl c10 ?_
      refine am_Ev.go hcd 1 (s' := (12, [(0, .ref 216), (1, .int a0)], [.int (-1)], am_SH, (g, f))) rfl ?_
      exact am_Ev.cast (a := ((some (.int (-1))), am_SH, (g, f))) (by subst h; rfl) (am_Ev.ret hcd rfl)
set_option maxRecDepth 100000 in
set_option maxHeartbeats 4000000 in
theorem m_of_ok {sc : Nat × (Nat → Int32)} (d : Nat) (a0 : Int32) (a1 : Int32) (f g : (Nat → Nat → Int32)) (r : Int32 × (Nat → Nat → Int32)) (h : m_of a0 a1 f = some r) : am_Ev sc (d + 5) 250 (0, [(0, .ref 216), (1, .int a0), (2, .int a1)], [], am_SH, (g, f)) ((some (.int r.1)), am_SH, (g, r.2)) := by
  have hcd : am_code 250 = am_c250 := rfl
  unfold m_of at h
  refine am_Ev.go hcd 2 (s' := (2, [(0, .ref 216), (1, .int a0), (2, .int a1)], [.int a0, .ref 216], am_SH, (g, f))) rfl ?_
  refine am_Ev.call hcd (a := 181) (s0 := (0, [(0, .ref 216), (1, .int a0)], [], am_SH, (g, f))) (q := ((some (.int (am_b (m_isGlass a0 f)))), am_SH, (g, f))) (s1 := (3, [(0, .ref 216), (1, .int a0), (2, .int a1)], [.int (am_b (m_isGlass a0 f))], am_SH, (g, f))) rfl rfl (m_isGlass_ok (d + 3) a0 f g) ?_
  rcases am_ite h with ⟨c4, h⟩ | ⟨c4, h⟩
  · refine am_Ev.f hcd (c := am_b (m_isGlass a0 f) = 0) (s1 := (6, [(0, .ref 216), (1, .int a0), (2, .int a1)], [], am_SH, (g, f))) rfl (am_b_t c4) ?_
    refine am_Ev.go hcd 1 (s' := (7, [(0, .ref 216), (1, .int a0), (2, .int a1)], [.int a1], am_SH, (g, f))) rfl ?_
    refine am_Ev.one hcd (s' := (am_swt a1 [(0, 8), (1, 15), (2, 22), (3, 29), (4, 36), (5, 43), (6, 53), (7, 57), (8, 61)] 71, [(0, .ref 216), (1, .int a0), (2, .int a1)], [], am_SH, (g, f))) rfl ?_
    rcases am_ite h with ⟨c8, h⟩ | ⟨c8, h⟩
    · rw [am_swt_t c8]
      refine am_Ev.go hcd 5 (s' := (13, [(0, .ref 216), (1, .int a0), (2, .int a1)], [.int (3 + a0), .ref 217], am_SH, (g, f))) rfl ?_
      obtain ⟨c10, h⟩ := am_grd h
      refine am_Ev.t hcd (o := none) (c := am_in (3 + a0) 2008 = true) (s1 := (14, [(0, .ref 216), (1, .int a0), (2, .int a1)], [.int (f 217 (3 + a0).toNatClampNeg)], am_SH, (g, f))) rfl c10 ?_
      exact am_Ev.cast (a := ((some (.int (f 217 (3 + a0).toNatClampNeg, f).1)), am_SH, (g, (f 217 (3 + a0).toNatClampNeg, f).2))) (by cases h; rfl) (am_Ev.ret hcd rfl)
    rw [am_swt_f c8]
    rcases am_ite h with ⟨c15, h⟩ | ⟨c15, h⟩
    · rw [am_swt_t c15]
      refine am_Ev.go hcd 5 (s' := (20, [(0, .ref 216), (1, .int a0), (2, .int a1)], [.int (9 + a0), .ref 217], am_SH, (g, f))) rfl ?_
      obtain ⟨c17, h⟩ := am_grd h
      refine am_Ev.t hcd (o := none) (c := am_in (9 + a0) 2008 = true) (s1 := (21, [(0, .ref 216), (1, .int a0), (2, .int a1)], [.int (f 217 (9 + a0).toNatClampNeg)], am_SH, (g, f))) rfl c17 ?_
      exact am_Ev.cast (a := ((some (.int (f 217 (9 + a0).toNatClampNeg, f).1)), am_SH, (g, (f 217 (9 + a0).toNatClampNeg, f).2))) (by cases h; rfl) (am_Ev.ret hcd rfl)
    rw [am_swt_f c15]
    rcases am_ite h with ⟨c22, h⟩ | ⟨c22, h⟩
    · rw [am_swt_t c22]
      refine am_Ev.go hcd 5 (s' := (27, [(0, .ref 216), (1, .int a0), (2, .int a1)], [.int (15 + a0), .ref 217], am_SH, (g, f))) rfl ?_
      obtain ⟨c24, h⟩ := am_grd h
      refine am_Ev.t hcd (o := none) (c := am_in (15 + a0) 2008 = true) (s1 := (28, [(0, .ref 216), (1, .int a0), (2, .int a1)], [.int (f 217 (15 + a0).toNatClampNeg)], am_SH, (g, f))) rfl c24 ?_
      exact am_Ev.cast (a := ((some (.int (f 217 (15 + a0).toNatClampNeg, f).1)), am_SH, (g, (f 217 (15 + a0).toNatClampNeg, f).2))) (by cases h; rfl) (am_Ev.ret hcd rfl)
    rw [am_swt_f c22]
    rcases am_ite h with ⟨c29, h⟩ | ⟨c29, h⟩
    · rw [am_swt_t c29]
      refine am_Ev.go hcd 5 (s' := (34, [(0, .ref 216), (1, .int a0), (2, .int a1)], [.int (21 + a0), .ref 217], am_SH, (g, f))) rfl ?_
      obtain ⟨c31, h⟩ := am_grd h
      refine am_Ev.t hcd (o := none) (c := am_in (21 + a0) 2008 = true) (s1 := (35, [(0, .ref 216), (1, .int a0), (2, .int a1)], [.int (f 217 (21 + a0).toNatClampNeg)], am_SH, (g, f))) rfl c31 ?_
      exact am_Ev.cast (a := ((some (.int (f 217 (21 + a0).toNatClampNeg, f).1)), am_SH, (g, (f 217 (21 + a0).toNatClampNeg, f).2))) (by cases h; rfl) (am_Ev.ret hcd rfl)
    rw [am_swt_f c29]
    rcases am_ite h with ⟨c36, h⟩ | ⟨c36, h⟩
    · rw [am_swt_t c36]
      refine am_Ev.go hcd 5 (s' := (41, [(0, .ref 216), (1, .int a0), (2, .int a1)], [.int (27 + a0), .ref 217], am_SH, (g, f))) rfl ?_
      obtain ⟨c38, h⟩ := am_grd h
      refine am_Ev.t hcd (o := none) (c := am_in (27 + a0) 2008 = true) (s1 := (42, [(0, .ref 216), (1, .int a0), (2, .int a1)], [.int (f 217 (27 + a0).toNatClampNeg)], am_SH, (g, f))) rfl c38 ?_
      exact am_Ev.cast (a := ((some (.int (f 217 (27 + a0).toNatClampNeg, f).1)), am_SH, (g, (f 217 (27 + a0).toNatClampNeg, f).2))) (by cases h; rfl) (am_Ev.ret hcd rfl)
    rw [am_swt_f c36]
    rcases am_ite h with ⟨c43, h⟩ | ⟨c43, h⟩
    · rw [am_swt_t c43]
      refine am_Ev.go hcd 7 (s' := (50, [(0, .ref 216), (1, .int a0), (2, .int a1)], [.int (21 + a0), .ref 217, .int a0, .ref 216], am_SH, (g, f))) rfl ?_
      obtain ⟨c45, h⟩ := am_grd h
      refine am_Ev.t hcd (o := none) (c := am_in (21 + a0) 2008 = true) (s1 := (51, [(0, .ref 216), (1, .int a0), (2, .int a1)], [.int (f 217 (21 + a0).toNatClampNeg), .int a0, .ref 216], am_SH, (g, f))) rfl c45 ?_
      obtain ⟨p2, hp2, h⟩ := am_bind_some h
      refine am_Ev.call hcd (a := 233) (s0 := (0, [(0, .ref 216), (1, .int a0), (2, .int (f 217 (21 + a0).toNatClampNeg))], [], am_SH, (g, f))) (q := ((some (.int p2.1)), am_SH, (g, p2.2))) (s1 := (52, [(0, .ref 216), (1, .int a0), (2, .int a1)], [.int p2.1], am_SH, (g, p2.2))) rfl rfl (m_warmsOf_ok (d) a0 (f 217 (21 + a0).toNatClampNeg) f g p2 hp2) ?_
      exact am_Ev.cast (a := ((some (.int (p2.1, p2.2).1)), am_SH, (g, (p2.1, p2.2).2))) (by cases h; rfl) (am_Ev.ret hcd rfl)
    rw [am_swt_f c43]
    rcases am_ite h with ⟨c52, h⟩ | ⟨c52, h⟩
    · rw [am_swt_t c52]
      refine am_Ev.go hcd 2 (s' := (55, [(0, .ref 216), (1, .int a0), (2, .int a1)], [.int a0, .ref 216], am_SH, (g, f))) rfl ?_
      obtain ⟨p3, hp3, h⟩ := am_bind_some h
      refine am_Ev.call hcd (a := 234) (s0 := (0, [(0, .ref 216), (1, .int a0)], [], am_SH, (g, f))) (q := ((some (.int p3.1)), am_SH, (g, p3.2))) (s1 := (56, [(0, .ref 216), (1, .int a0), (2, .int a1)], [.int p3.1], am_SH, (g, p3.2))) rfl rfl (m_slipsOf_ok (d) a0 f g p3 hp3) ?_
      exact am_Ev.cast (a := ((some (.int (p3.1, p3.2).1)), am_SH, (g, (p3.1, p3.2).2))) (by cases h; rfl) (am_Ev.ret hcd rfl)
    rw [am_swt_f c52]
    rcases am_ite h with ⟨c59, h⟩ | ⟨c59, h⟩
    · rw [am_swt_t c59]
      refine am_Ev.go hcd 2 (s' := (59, [(0, .ref 216), (1, .int a0), (2, .int a1)], [.int a0, .ref 216], am_SH, (g, f))) rfl ?_
      obtain ⟨p4, hp4, h⟩ := am_bind_some h
      refine am_Ev.call hcd (a := 235) (s0 := (0, [(0, .ref 216), (1, .int a0)], [], am_SH, (g, f))) (q := ((some (.int p4.1)), am_SH, (g, p4.2))) (s1 := (60, [(0, .ref 216), (1, .int a0), (2, .int a1)], [.int p4.1], am_SH, (g, p4.2))) rfl rfl (m_coolsOf_ok (d) a0 f g p4 hp4) ?_
      exact am_Ev.cast (a := ((some (.int (p4.1, p4.2).1)), am_SH, (g, (p4.1, p4.2).2))) (by cases h; rfl) (am_Ev.ret hcd rfl)
    rw [am_swt_f c59]
    rcases am_ite h with ⟨c66, h⟩ | ⟨c66, h⟩
    · rw [am_swt_t c66]
      refine am_Ev.go hcd 7 (s' := (68, [(0, .ref 216), (1, .int a0), (2, .int a1)], [.int (21 + a0), .ref 217, .int a0, .ref 216], am_SH, (g, f))) rfl ?_
      obtain ⟨c68, h⟩ := am_grd h
      refine am_Ev.t hcd (o := none) (c := am_in (21 + a0) 2008 = true) (s1 := (69, [(0, .ref 216), (1, .int a0), (2, .int a1)], [.int (f 217 (21 + a0).toNatClampNeg), .int a0, .ref 216], am_SH, (g, f))) rfl c68 ?_
      obtain ⟨p5, hp5, h⟩ := am_bind_some h
      refine am_Ev.call hcd (a := 231) (s0 := (0, [(0, .ref 216), (1, .int a0), (2, .int (f 217 (21 + a0).toNatClampNeg))], [], am_SH, (g, f))) (q := ((some (.int p5)), am_SH, (g, f))) (s1 := (70, [(0, .ref 216), (1, .int a0), (2, .int a1)], [.int p5], am_SH, (g, f))) rfl rfl (m_nearOf_ok (d + 2) a0 (f 217 (21 + a0).toNatClampNeg) f g p5 hp5) ?_
      exact am_Ev.cast (a := ((some (.int (p5, f).1)), am_SH, (g, (p5, f).2))) (by cases h; rfl) (am_Ev.ret hcd rfl)
    rw [am_swt_f c66]
    rw [am_swt_n]
    refine am_Ev.go hcd 1 (s' := (72, [(0, .ref 216), (1, .int a0), (2, .int a1)], [.int (-2)], am_SH, (g, f))) rfl ?_
    exact am_Ev.cast (a := ((some (.int ((-2), f).1)), am_SH, (g, ((-2), f).2))) (by cases h; rfl) (am_Ev.ret hcd rfl)
  · refine am_Ev.t hcd (c := am_b (m_isGlass a0 f) = 0) (s1 := (4, [(0, .ref 216), (1, .int a0), (2, .int a1)], [], am_SH, (g, f))) rfl (am_b_f c4) ?_
    refine am_Ev.go hcd 1 (s' := (5, [(0, .ref 216), (1, .int a0), (2, .int a1)], [.int (-2)], am_SH, (g, f))) rfl ?_
    exact am_Ev.cast (a := ((some (.int ((-2), f).1)), am_SH, (g, ((-2), f).2))) (by cases h; rfl) (am_Ev.ret hcd rfl)
