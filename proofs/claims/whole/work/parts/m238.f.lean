set_option maxRecDepth 100000 in
set_option maxHeartbeats 4000000 in
theorem m_cool_ok {sc : Nat × (Nat → Int32)} (d : Nat) (a0 : Int32) (a1 : Int32) (f g : (Nat → Nat → Int32)) (r : Int32 × (Nat → Nat → Int32)) (h : m_cool a0 a1 f = some r) : am_Ev sc (d + 1) 280 (0, [(0, .ref 216), (1, .int a0), (2, .int a1)], [], am_SH, (g, f)) ((some (.int r.1)), am_SH, (g, r.2)) := by
  have hcd : am_code 280 = am_c280 := rfl
  unfold m_cool at h
  refine am_Ev.go hcd 3 (s' := (3, [(0, .ref 216), (1, .int a0), (2, .int a1)], [.int 99, .int 0, .int a0], am_SH, (g, f))) rfl ?_
  refine am_Ev.call hcd (a := 176) (s0 := (0, [(0, .int a0), (1, .int 0), (2, .int 99)], [], am_SH, (g, f))) (q := ((some (.int (am_b (m_isIn a0 0 99)))), am_SH, (g, f))) (s1 := (4, [(0, .ref 216), (1, .int a0), (2, .int a1)], [.int (am_b (m_isIn a0 0 99))], am_SH, (g, f))) rfl rfl (m_isIn_ok (d) a0 0 99 (g, f)) ?_
  rcases am_ite h with ⟨c4, h⟩ | ⟨c4, h⟩
  · refine am_Ev.f hcd (c := am_b (m_isIn a0 0 99) = 0) (s1 := (5, [(0, .ref 216), (1, .int a0), (2, .int a1)], [], am_SH, (g, f))) rfl (am_b_t c4) ?_
    refine am_Ev.go hcd 3 (s' := (8, [(0, .ref 216), (1, .int a0), (2, .int a1)], [.int 99, .int 0, .int a1], am_SH, (g, f))) rfl ?_
    refine am_Ev.call hcd (a := 176) (s0 := (0, [(0, .int a1), (1, .int 0), (2, .int 99)], [], am_SH, (g, f))) (q := ((some (.int (am_b (m_isIn a1 0 99)))), am_SH, (g, f))) (s1 := (9, [(0, .ref 216), (1, .int a0), (2, .int a1)], [.int (am_b (m_isIn a1 0 99))], am_SH, (g, f))) rfl rfl (m_isIn_ok (d) a1 0 99 (g, f)) ?_
    rcases am_ite h with ⟨c8, h⟩ | ⟨c8, h⟩
    · refine am_Ev.f hcd (c := am_b (m_isIn a1 0 99) = 0) (s1 := (12, [(0, .ref 216), (1, .int a0), (2, .int a1)], [], am_SH, (g, f))) rfl (am_b_t c8) ?_
      refine am_Ev.go hcd 2 (s' := (14, [(0, .ref 216), (1, .int a0), (2, .int a1), (3, .int 0)], [], am_SH, (g, f))) rfl ?_
      obtain ⟨e6, he6, h⟩ := am_bind_some h
      have hK3 : (fun (e6 : (Nat → Nat → Int32)) => am_Ev sc (d + 1) 280 (24, [(0, .ref 216), (1, .int a0), (2, .int a1)], [], am_SH, (g, e6)) ((some (.int r.1)), am_SH, (g, r.2))) e6 := by
        show am_Ev sc (d + 1) 280 (24, [(0, .ref 216), (1, .int a0), (2, .int a1)], [], am_SH, (g, e6)) ((some (.int r.1)), am_SH, (g, r.2))
        refine am_Ev.go hcd 4 (s' := (28, [(0, .ref 216), (1, .int a0), (2, .int a1)], [.int 0, .int a0, .ref 230], am_SH, (g, e6))) rfl ?_
        obtain ⟨c14, h⟩ := am_grd h
        obtain ⟨f7, Ef7, h⟩ := am_let_eq h
        refine am_Ev.t hcd (o := none) (c := am_in a0 100 = true) (s1 := (29, [(0, .ref 216), (1, .int a0), (2, .int a1)], [], am_SH, (g, f7))) (by subst Ef7; exact rfl) c14 ?_
        obtain ⟨f8, Ef8, h⟩ := am_let_eq h
        refine am_Ev.go hcd 5 (s' := (34, [(0, .ref 216), (1, .int a0), (2, .int a1)], [], am_SH, (g, f8))) (by subst Ef8; exact rfl) ?_
        refine am_Ev.go hcd 4 (s' := (38, [(0, .ref 216), (1, .int a0), (2, .int a1), (3, .int 1), (4, .int 0)], [], am_SH, (g, f8))) rfl ?_
        obtain ⟨e20, he20, h⟩ := am_bind_some h
        have hK9 : (fun (e20 : (Nat → Nat → Int32)) => am_Ev sc (d + 1) 280 (92, [(0, .ref 216), (2, .int a1)], [], am_SH, (g, e20)) ((some (.int r.1)), am_SH, (g, r.2))) e20 := by
          show am_Ev sc (d + 1) 280 (92, [(0, .ref 216), (2, .int a1)], [], am_SH, (g, e20)) ((some (.int r.1)), am_SH, (g, r.2))
          refine am_Ev.go hcd 3 (s' := (95, [(0, .ref 216), (2, .int a1)], [.int a1, .ref 230], am_SH, (g, e20))) rfl ?_
          obtain ⟨c24, h⟩ := am_grd h
          refine am_Ev.t hcd (o := none) (c := am_in a1 100 = true) (s1 := (96, [(0, .ref 216), (2, .int a1)], [.int (e20 230 a1.toNatClampNeg)], am_SH, (g, e20))) rfl c24 ?_
          exact am_Ev.cast (a := ((some (.int (e20 230 a1.toNatClampNeg, e20).1)), am_SH, (g, (e20 230 a1.toNatClampNeg, e20).2))) (by cases h; rfl) (am_Ev.ret hcd rfl)
        refine am_Ev.weak' (am_loop_ok (G := fun (s9 : Int32 × Int32 × (Nat → Nat → Int32)) => am_Ev sc (d + 1) 280 (38, [(0, .ref 216), (2, .int a1), (3, .int s9.1), (4, .int s9.2.1)], [], am_SH, (g, s9.2.2)) ((some (.int r.1)), am_SH, (g, r.2))) (Z := fun (e20 : (Nat → Nat → Int32)) => am_Ev sc (d + 1) 280 (92, [(0, .ref 216), (2, .int a1)], [], am_SH, (g, e20)) ((some (.int r.1)), am_SH, (g, r.2))) ?_ am_F (1, 0, f8) e20 he20 hK9) (am_sub_cons rfl (am_sub_cons rfl (am_sub_cons rfl (am_sub_cons rfl am_sub_nil)))) rfl
        intro s9 q9 h hI9 hZ9
        show am_Ev sc (d + 1) 280 (38, [(0, .ref 216), (2, .int a1), (3, .int s9.1), (4, .int s9.2.1)], [], am_SH, (g, s9.2.2)) ((some (.int r.1)), am_SH, (g, r.2))
        refine am_Ev.go hcd 2 (s' := (40, [(0, .ref 216), (2, .int a1), (3, .int s9.1), (4, .int s9.2.1)], [.int s9.1, .int s9.2.1], am_SH, (g, s9.2.2))) rfl ?_
        rcases am_ite h with ⟨c31, h⟩ | ⟨c31, h⟩
        · refine am_Ev.t hcd (c := s9.2.1 < s9.1) (s1 := (41, [(0, .ref 216), (2, .int a1), (3, .int s9.1), (4, .int s9.2.1)], [], am_SH, (g, s9.2.2))) rfl c31 ?_
          refine am_Ev.go hcd 2 (s' := (43, [(0, .ref 216), (2, .int a1), (3, .int s9.1), (4, .int s9.2.1), (5, .int 0)], [], am_SH, (g, s9.2.2))) rfl ?_
          obtain ⟨e18, he18, h⟩ := am_bind_some h
          have hK10 : (fun (e18 : Int32 × (Nat → Nat → Int32)) => am_Ev sc (d + 1) 280 (90, [(0, .ref 216), (2, .int a1), (3, .int e18.1), (4, .int s9.2.1)], [], am_SH, (g, e18.2)) ((some (.int r.1)), am_SH, (g, r.2))) e18 := by
            show am_Ev sc (d + 1) 280 (90, [(0, .ref 216), (2, .int a1), (3, .int e18.1), (4, .int s9.2.1)], [], am_SH, (g, e18.2)) ((some (.int r.1)), am_SH, (g, r.2))
            obtain ⟨t19, Et19, h⟩ := am_let_eq h
            refine am_Ev.go hcd 1 (s' := (91, [(0, .ref 216), (2, .int a1), (3, .int e18.1), (4, .int t19)], [], am_SH, (g, e18.2))) (by subst Et19; exact rfl) ?_
            refine am_Ev.go hcd 1 (s' := (38, [(0, .ref 216), (2, .int a1), (3, .int e18.1), (4, .int t19)], [], am_SH, (g, e18.2))) rfl ?_
            exact am_Ev.weak' (hI9 (e18.1, t19, e18.2) (Option.some.inj h).symm) (am_sub_cons rfl (am_sub_cons rfl (am_sub_cons rfl (am_sub_cons rfl am_sub_nil)))) rfl
          refine am_Ev.weak' (am_loop_ok (G := fun (s10 : Int32 × Int32 × (Nat → Nat → Int32)) => am_Ev sc (d + 1) 280 (43, [(0, .ref 216), (2, .int a1), (3, .int s10.1), (4, .int s9.2.1), (5, .int s10.2.1)], [], am_SH, (g, s10.2.2)) ((some (.int r.1)), am_SH, (g, r.2))) (Z := fun (e18 : Int32 × (Nat → Nat → Int32)) => am_Ev sc (d + 1) 280 (90, [(0, .ref 216), (2, .int a1), (3, .int e18.1), (4, .int s9.2.1)], [], am_SH, (g, e18.2)) ((some (.int r.1)), am_SH, (g, r.2))) ?_ am_F (s9.1, 0, s9.2.2) e18 he18 hK10) (am_sub_cons rfl (am_sub_cons rfl (am_sub_cons rfl (am_sub_cons rfl (am_sub_cons rfl am_sub_nil))))) rfl
          intro s10 q10 h hI10 hZ10
          show am_Ev sc (d + 1) 280 (43, [(0, .ref 216), (2, .int a1), (3, .int s10.1), (4, .int s9.2.1), (5, .int s10.2.1)], [], am_SH, (g, s10.2.2)) ((some (.int r.1)), am_SH, (g, r.2))
          refine am_Ev.go hcd 5 (s' := (48, [(0, .ref 216), (2, .int a1), (3, .int s10.1), (4, .int s9.2.1), (5, .int s10.2.1)], [.int (s10.2.2 217 446), .int s10.2.1], am_SH, (g, s10.2.2))) rfl ?_
          rcases am_ite h with ⟨c45, h⟩ | ⟨c45, h⟩
          · refine am_Ev.t hcd (c := s10.2.1 < s10.2.2 217 446) (s1 := (49, [(0, .ref 216), (2, .int a1), (3, .int s10.1), (4, .int s9.2.1), (5, .int s10.2.1)], [], am_SH, (g, s10.2.2))) rfl c45 ?_
            refine am_Ev.go hcd 5 (s' := (54, [(0, .ref 216), (2, .int a1), (3, .int s10.1), (4, .int s9.2.1), (5, .int s10.2.1)], [.int s9.2.1, .ref 231, .int s10.2.1, .ref 216], am_SH, (g, s10.2.2))) rfl ?_
            obtain ⟨c48, h⟩ := am_grd h
            refine am_Ev.t hcd (o := none) (c := am_in s9.2.1 100 = true) (s1 := (55, [(0, .ref 216), (2, .int a1), (3, .int s10.1), (4, .int s9.2.1), (5, .int s10.2.1)], [.int (s10.2.2 231 s9.2.1.toNatClampNeg), .int s10.2.1, .ref 216], am_SH, (g, s10.2.2))) rfl c48 ?_
            obtain ⟨p11, hp11, h⟩ := am_bind_some h
            refine am_Ev.call hcd (a := 279) (s0 := (0, [(0, .ref 216), (1, .int s10.2.1), (2, .int (s10.2.2 231 s9.2.1.toNatClampNeg))], [], am_SH, (g, s10.2.2))) (q := ((some (.int p11)), am_SH, (g, s10.2.2))) (s1 := (56, [(0, .ref 216), (2, .int a1), (3, .int s10.1), (4, .int s9.2.1), (5, .int s10.2.1)], [.int p11], am_SH, (g, s10.2.2))) rfl rfl (m_heatBy_ok (d) s10.2.1 (s10.2.2 231 s9.2.1.toNatClampNeg) s10.2.2 g p11 hp11) ?_
            refine am_Ev.go hcd 4 (s' := (60, [(0, .ref 216), (2, .int a1), (3, .int s10.1), (4, .int s9.2.1), (5, .int s10.2.1), (6, .int p11)], [.int 99, .int 0, .int p11], am_SH, (g, s10.2.2))) rfl ?_
            refine am_Ev.call hcd (a := 176) (s0 := (0, [(0, .int p11), (1, .int 0), (2, .int 99)], [], am_SH, (g, s10.2.2))) (q := ((some (.int (am_b (m_isIn p11 0 99)))), am_SH, (g, s10.2.2))) (s1 := (61, [(0, .ref 216), (2, .int a1), (3, .int s10.1), (4, .int s9.2.1), (5, .int s10.2.1), (6, .int p11)], [.int (am_b (m_isIn p11 0 99))], am_SH, (g, s10.2.2))) rfl rfl (m_isIn_ok (d) p11 0 99 (g, s10.2.2)) ?_
            obtain ⟨t16, ht16, kt16⟩ := am_bind_some h
            have hKt16 : am_Ev sc (d + 1) 280 (88, [(0, .ref 216), (2, .int a1), (3, .int t16.1), (4, .int s9.2.1), (5, .int s10.2.1)], [], am_SH, (g, t16.2)) ((some (.int r.1)), am_SH, (g, r.2)) := by
              have h := kt16
              obtain ⟨t17, Et17, h⟩ := am_let_eq h
              refine am_Ev.go hcd 1 (s' := (89, [(0, .ref 216), (2, .int a1), (3, .int t16.1), (4, .int s9.2.1), (5, .int t17)], [], am_SH, (g, t16.2))) (by subst Et17; exact rfl) ?_
              refine am_Ev.go hcd 1 (s' := (43, [(0, .ref 216), (2, .int a1), (3, .int t16.1), (4, .int s9.2.1), (5, .int t17)], [], am_SH, (g, t16.2))) rfl ?_
              exact am_Ev.weak' (hI10 (t16.1, t17, t16.2) (Option.some.inj h).symm) (am_sub_cons rfl (am_sub_cons rfl (am_sub_cons rfl (am_sub_cons rfl (am_sub_cons rfl am_sub_nil))))) rfl
            have hLt16 : ∀ tt, tt = t16 → am_Ev sc (d + 1) 280 (88, [(0, .ref 216), (2, .int a1), (3, .int tt.1), (4, .int s9.2.1), (5, .int s10.2.1)], [], am_SH, (g, tt.2)) ((some (.int r.1)), am_SH, (g, r.2)) := fun tt htt => by subst htt; exact hKt16
            have h := ht16
            rcases am_ite h with ⟨c64, h⟩ | ⟨c64, h⟩
            · refine am_Ev.f hcd (c := am_b (m_isIn p11 0 99) = 0) (s1 := (62, [(0, .ref 216), (2, .int a1), (3, .int s10.1), (4, .int s9.2.1), (5, .int s10.2.1), (6, .int p11)], [], am_SH, (g, s10.2.2))) rfl (am_b_t c64) ?_
              refine am_Ev.go hcd 3 (s' := (65, [(0, .ref 216), (2, .int a1), (3, .int s10.1), (4, .int s9.2.1), (5, .int s10.2.1), (6, .int p11)], [.int p11, .ref 230], am_SH, (g, s10.2.2))) rfl ?_
              obtain ⟨c66, h⟩ := am_grd h
              refine am_Ev.t hcd (o := none) (c := am_in p11 100 = true) (s1 := (66, [(0, .ref 216), (2, .int a1), (3, .int s10.1), (4, .int s9.2.1), (5, .int s10.2.1), (6, .int p11)], [.int (s10.2.2 230 p11.toNatClampNeg)], am_SH, (g, s10.2.2))) rfl c66 ?_
              refine am_Ev.go hcd 1 (s' := (67, [(0, .ref 216), (2, .int a1), (3, .int s10.1), (4, .int s9.2.1), (5, .int s10.2.1), (6, .int p11)], [.int (-1), .int (s10.2.2 230 p11.toNatClampNeg)], am_SH, (g, s10.2.2))) rfl ?_
              rcases am_ite h with ⟨c69, h⟩ | ⟨c69, h⟩
              · refine am_Ev.t hcd (c := s10.2.2 230 p11.toNatClampNeg = (-1)) (s1 := (69, [(0, .ref 216), (2, .int a1), (3, .int s10.1), (4, .int s9.2.1), (5, .int s10.2.1), (6, .int p11)], [], am_SH, (g, s10.2.2))) rfl c69 ?_
                refine am_Ev.go hcd 8 (s' := (77, [(0, .ref 216), (2, .int a1), (3, .int s10.1), (4, .int s9.2.1), (5, .int s10.2.1), (6, .int p11)], [.int s9.2.1, .ref 231, .ref 230, .int p11, .ref 230], am_SH, (g, s10.2.2))) rfl ?_
                obtain ⟨c72, h⟩ := am_grd h
                refine am_Ev.t hcd (o := none) (c := am_in s9.2.1 100 = true) (s1 := (78, [(0, .ref 216), (2, .int a1), (3, .int s10.1), (4, .int s9.2.1), (5, .int s10.2.1), (6, .int p11)], [.int (s10.2.2 231 s9.2.1.toNatClampNeg), .ref 230, .int p11, .ref 230], am_SH, (g, s10.2.2))) rfl c72 ?_
                obtain ⟨c75, h⟩ := am_grd h
                refine am_Ev.t hcd (o := none) (c := am_in (s10.2.2 231 s9.2.1.toNatClampNeg) 100 = true) (s1 := (79, [(0, .ref 216), (2, .int a1), (3, .int s10.1), (4, .int s9.2.1), (5, .int s10.2.1), (6, .int p11)], [.int (s10.2.2 230 (s10.2.2 231 s9.2.1.toNatClampNeg).toNatClampNeg), .int p11, .ref 230], am_SH, (g, s10.2.2))) rfl c75 ?_
                refine am_Ev.go hcd 2 (s' := (81, [(0, .ref 216), (2, .int a1), (3, .int s10.1), (4, .int s9.2.1), (5, .int s10.2.1), (6, .int p11)], [.int ((s10.2.2 230 (s10.2.2 231 s9.2.1.toNatClampNeg).toNatClampNeg) + 1), .int p11, .ref 230], am_SH, (g, s10.2.2))) rfl ?_
                obtain ⟨c77, h⟩ := am_grd h
                obtain ⟨f13, Ef13, h⟩ := am_let_eq h
                refine am_Ev.t hcd (o := none) (c := am_in p11 100 = true) (s1 := (82, [(0, .ref 216), (2, .int a1), (3, .int s10.1), (4, .int s9.2.1), (5, .int s10.2.1), (6, .int p11)], [], am_SH, (g, f13))) (by subst Ef13; exact rfl) c77 ?_
                refine am_Ev.go hcd 4 (s' := (86, [(0, .ref 216), (2, .int a1), (3, .int s10.1), (4, .int s9.2.1), (5, .int s10.2.1), (6, .int p11)], [.int p11, .int s10.1, .ref 231], am_SH, (g, f13))) rfl ?_
                obtain ⟨c81, h⟩ := am_grd h
                obtain ⟨f14, Ef14, h⟩ := am_let_eq h
                refine am_Ev.t hcd (o := none) (c := am_in s10.1 100 = true) (s1 := (87, [(0, .ref 216), (2, .int a1), (3, .int s10.1), (4, .int s9.2.1), (5, .int s10.2.1), (6, .int p11)], [], am_SH, (g, f14))) (by subst Ef14; exact rfl) c81 ?_
                obtain ⟨t15, Et15, h⟩ := am_let_eq h
                refine am_Ev.go hcd 1 (s' := (88, [(0, .ref 216), (2, .int a1), (3, .int t15), (4, .int s9.2.1), (5, .int s10.2.1), (6, .int p11)], [], am_SH, (g, f14))) (by subst Et15; exact rfl) ?_
                exact am_Ev.weak' (hLt16 (t15, f14) (Option.some.inj h)) (am_sub_cons rfl (am_sub_cons rfl (am_sub_cons rfl (am_sub_cons rfl (am_sub_cons rfl am_sub_nil))))) rfl
              · refine am_Ev.f hcd (c := s10.2.2 230 p11.toNatClampNeg = (-1)) (s1 := (68, [(0, .ref 216), (2, .int a1), (3, .int s10.1), (4, .int s9.2.1), (5, .int s10.2.1), (6, .int p11)], [], am_SH, (g, s10.2.2))) rfl c69 ?_
                refine am_Ev.go hcd 1 (s' := (88, [(0, .ref 216), (2, .int a1), (3, .int s10.1), (4, .int s9.2.1), (5, .int s10.2.1), (6, .int p11)], [], am_SH, (g, s10.2.2))) rfl ?_
                exact am_Ev.weak' (hLt16 (s10.1, s10.2.2) (Option.some.inj h)) (am_sub_cons rfl (am_sub_cons rfl (am_sub_cons rfl (am_sub_cons rfl (am_sub_cons rfl am_sub_nil))))) rfl
            · refine am_Ev.t hcd (c := am_b (m_isIn p11 0 99) = 0) (s1 := (88, [(0, .ref 216), (2, .int a1), (3, .int s10.1), (4, .int s9.2.1), (5, .int s10.2.1), (6, .int p11)], [], am_SH, (g, s10.2.2))) rfl (am_b_f c64) ?_
              exact am_Ev.weak' (hLt16 (s10.1, s10.2.2) (Option.some.inj h)) (am_sub_cons rfl (am_sub_cons rfl (am_sub_cons rfl (am_sub_cons rfl (am_sub_cons rfl am_sub_nil))))) rfl
          · refine am_Ev.f hcd (c := s10.2.1 < s10.2.2 217 446) (s1 := (90, [(0, .ref 216), (2, .int a1), (3, .int s10.1), (4, .int s9.2.1), (5, .int s10.2.1)], [], am_SH, (g, s10.2.2))) rfl c45 ?_
            exact am_Ev.weak' (hZ10 (s10.1, s10.2.2) (Option.some.inj h).symm) (am_sub_cons rfl (am_sub_cons rfl (am_sub_cons rfl (am_sub_cons rfl am_sub_nil)))) rfl
        · refine am_Ev.f hcd (c := s9.2.1 < s9.1) (s1 := (92, [(0, .ref 216), (2, .int a1), (3, .int s9.1), (4, .int s9.2.1)], [], am_SH, (g, s9.2.2))) rfl c31 ?_
          exact am_Ev.weak' (hZ9 s9.2.2 (Option.some.inj h).symm) (am_sub_cons rfl (am_sub_cons rfl am_sub_nil)) rfl
      refine am_Ev.weak' (am_loop_ok (G := fun (s3 : Int32 × (Nat → Nat → Int32)) => am_Ev sc (d + 1) 280 (14, [(0, .ref 216), (1, .int a0), (2, .int a1), (3, .int s3.1)], [], am_SH, (g, s3.2)) ((some (.int r.1)), am_SH, (g, r.2))) (Z := fun (e6 : (Nat → Nat → Int32)) => am_Ev sc (d + 1) 280 (24, [(0, .ref 216), (1, .int a0), (2, .int a1)], [], am_SH, (g, e6)) ((some (.int r.1)), am_SH, (g, r.2))) ?_ am_F (0, f) e6 he6 hK3) (am_sub_cons rfl (am_sub_cons rfl (am_sub_cons rfl (am_sub_cons rfl am_sub_nil)))) rfl
      intro s3 q3 h hI3 hZ3
      show am_Ev sc (d + 1) 280 (14, [(0, .ref 216), (1, .int a0), (2, .int a1), (3, .int s3.1)], [], am_SH, (g, s3.2)) ((some (.int r.1)), am_SH, (g, r.2))
      refine am_Ev.go hcd 2 (s' := (16, [(0, .ref 216), (1, .int a0), (2, .int a1), (3, .int s3.1)], [.int 100, .int s3.1], am_SH, (g, s3.2))) rfl ?_
      rcases am_ite h with ⟨c100, h⟩ | ⟨c100, h⟩
      · refine am_Ev.t hcd (c := s3.1 < 100) (s1 := (17, [(0, .ref 216), (1, .int a0), (2, .int a1), (3, .int s3.1)], [], am_SH, (g, s3.2))) rfl c100 ?_
        refine am_Ev.go hcd 4 (s' := (21, [(0, .ref 216), (1, .int a0), (2, .int a1), (3, .int s3.1)], [.int (-1), .int s3.1, .ref 230], am_SH, (g, s3.2))) rfl ?_
        obtain ⟨c103, h⟩ := am_grd h
        obtain ⟨f4, Ef4, h⟩ := am_let_eq h
        refine am_Ev.t hcd (o := none) (c := am_in s3.1 100 = true) (s1 := (22, [(0, .ref 216), (1, .int a0), (2, .int a1), (3, .int s3.1)], [], am_SH, (g, f4))) (by subst Ef4; exact rfl) c103 ?_
        obtain ⟨t5, Et5, h⟩ := am_let_eq h
        refine am_Ev.go hcd 1 (s' := (23, [(0, .ref 216), (1, .int a0), (2, .int a1), (3, .int t5)], [], am_SH, (g, f4))) (by subst Et5; exact rfl) ?_
        refine am_Ev.go hcd 1 (s' := (14, [(0, .ref 216), (1, .int a0), (2, .int a1), (3, .int t5)], [], am_SH, (g, f4))) rfl ?_
        exact am_Ev.weak' (hI3 (t5, f4) (Option.some.inj h).symm) (am_sub_cons rfl (am_sub_cons rfl (am_sub_cons rfl (am_sub_cons rfl am_sub_nil)))) rfl
      · refine am_Ev.f hcd (c := s3.1 < 100) (s1 := (24, [(0, .ref 216), (1, .int a0), (2, .int a1), (3, .int s3.1)], [], am_SH, (g, s3.2))) rfl c100 ?_
        exact am_Ev.weak' (hZ3 s3.2 (Option.some.inj h).symm) (am_sub_cons rfl (am_sub_cons rfl (am_sub_cons rfl am_sub_nil))) rfl
    · refine am_Ev.t hcd (c := am_b (m_isIn a1 0 99) = 0) (s1 := (10, [(0, .ref 216), (1, .int a0), (2, .int a1)], [], am_SH, (g, f))) rfl (am_b_f c8) ?_
      refine am_Ev.go hcd 1 (s' := (11, [(0, .ref 216), (1, .int a0), (2, .int a1)], [.int (-1)], am_SH, (g, f))) rfl ?_
      exact am_Ev.cast (a := ((some (.int ((-1), f).1)), am_SH, (g, ((-1), f).2))) (by cases h; rfl) (am_Ev.ret hcd rfl)
  · refine am_Ev.t hcd (c := am_b (m_isIn a0 0 99) = 0) (s1 := (10, [(0, .ref 216), (1, .int a0), (2, .int a1)], [], am_SH, (g, f))) rfl (am_b_f c4) ?_
    refine am_Ev.go hcd 1 (s' := (11, [(0, .ref 216), (1, .int a0), (2, .int a1)], [.int (-1)], am_SH, (g, f))) rfl ?_
    exact am_Ev.cast (a := ((some (.int ((-1), f).1)), am_SH, (g, ((-1), f).2))) (by cases h; rfl) (am_Ev.ret hcd rfl)
set_option maxRecDepth 100000 in
set_option maxHeartbeats 4000000 in
theorem m_tellsOne_ok {sc : Nat × (Nat → Int32)} (d : Nat) (a0 : Int32) (a1 : Int32) (a2 : Int32) (f g : (Nat → Nat → Int32)) (r : Int32 × (Nat → Nat → Int32)) (h : m_tellsOne a0 a1 a2 f = some r) : am_Ev sc (d) 260 (0, [(0, .ref 216), (1, .int a0), (2, .int a1), (3, .int a2)], [], am_SH, (g, f)) ((some (.int r.1)), am_SH, (g, r.2)) := by
  have hcd : am_code 260 = am_c260 := rfl
  unfold m_tellsOne at h
  refine am_Ev.go hcd 3 (s' := (3, [(0, .ref 216), (1, .int a0), (2, .int a1), (3, .int a2)], [.int a0, .ref 217], am_SH, (g, f))) rfl ?_
  obtain ⟨c2, h⟩ := am_grd h
  refine am_Ev.t hcd (o := none) (c := am_in a0 2008 = true) (s1 := (4, [(0, .ref 216), (1, .int a0), (2, .int a1), (3, .int a2)], [.int (f 217 a0.toNatClampNeg)], am_SH, (g, f))) rfl c2 ?_
  refine am_Ev.go hcd 1 (s' := (5, [(0, .ref 216), (1, .int a0), (2, .int a1), (3, .int a2)], [.int a1, .int (f 217 a0.toNatClampNeg)], am_SH, (g, f))) rfl ?_
  rcases am_ite h with ⟨c5, h⟩ | ⟨c5, h⟩
  · refine am_Ev.t hcd (c := f 217 a0.toNatClampNeg = a1) (s1 := (6, [(0, .ref 216), (1, .int a0), (2, .int a1), (3, .int a2)], [], am_SH, (g, f))) rfl c5 ?_
    refine am_Ev.go hcd 1 (s' := (7, [(0, .ref 216), (1, .int a0), (2, .int a1), (3, .int a2)], [.int (-1)], am_SH, (g, f))) rfl ?_
    exact am_Ev.cast (a := ((some (.int ((-1), f).1)), am_SH, (g, ((-1), f).2))) (by cases h; rfl) (am_Ev.ret hcd rfl)
  · refine am_Ev.f hcd (c := f 217 a0.toNatClampNeg = a1) (s1 := (8, [(0, .ref 216), (1, .int a0), (2, .int a1), (3, .int a2)], [], am_SH, (g, f))) rfl c5 ?_
    refine am_Ev.go hcd 8 (s' := (16, [(0, .ref 216), (1, .int a0), (2, .int a1), (3, .int a2)], [.int a0, .ref 217, .int (a0 + 1), .ref 217], am_SH, (g, f))) rfl ?_
    obtain ⟨c11, h⟩ := am_grd h
    refine am_Ev.t hcd (o := none) (c := am_in a0 2008 = true) (s1 := (17, [(0, .ref 216), (1, .int a0), (2, .int a1), (3, .int a2)], [.int (f 217 a0.toNatClampNeg), .int (a0 + 1), .ref 217], am_SH, (g, f))) rfl c11 ?_
    refine am_Ev.go hcd 2 (s' := (19, [(0, .ref 216), (1, .int a0), (2, .int a1), (3, .int a2)], [.int a2, .int ((a0 + 1) + (f 217 a0.toNatClampNeg)), .ref 217], am_SH, (g, f))) rfl ?_
    obtain ⟨c14, h⟩ := am_grd h
    obtain ⟨f1, Ef1, h⟩ := am_let_eq h
    refine am_Ev.t hcd (o := none) (c := am_in ((a0 + 1) + (f 217 a0.toNatClampNeg)) 2008 = true) (s1 := (20, [(0, .ref 216), (1, .int a0), (2, .int a1), (3, .int a2)], [], am_SH, (g, f1))) (by subst Ef1; exact rfl) c14 ?_
    refine am_Ev.go hcd 4 (s' := (24, [(0, .ref 216), (1, .int a0), (2, .int a1), (3, .int a2)], [.int a0, .ref 217, .int a0, .ref 217], am_SH, (g, f1))) rfl ?_
    obtain ⟨c18, h⟩ := am_grd h
    refine am_Ev.t hcd (o := none) (c := am_in a0 2008 = true) (s1 := (25, [(0, .ref 216), (1, .int a0), (2, .int a1), (3, .int a2)], [.int (f1 217 a0.toNatClampNeg), .int a0, .ref 217], am_SH, (g, f1))) rfl c18 ?_
    refine am_Ev.go hcd 2 (s' := (27, [(0, .ref 216), (1, .int a0), (2, .int a1), (3, .int a2)], [.int ((f1 217 a0.toNatClampNeg) + 1), .int a0, .ref 217], am_SH, (g, f1))) rfl ?_
    obtain ⟨c21, h⟩ := am_grd h
    obtain ⟨f2, Ef2, h⟩ := am_let_eq h
    refine am_Ev.t hcd (o := none) (c := am_in a0 2008 = true) (s1 := (28, [(0, .ref 216), (1, .int a0), (2, .int a1), (3, .int a2)], [], am_SH, (g, f2))) (by subst Ef2; exact rfl) c21 ?_
    refine am_Ev.go hcd 3 (s' := (31, [(0, .ref 216), (1, .int a0), (2, .int a1), (3, .int a2)], [.int a0, .ref 217], am_SH, (g, f2))) rfl ?_
    obtain ⟨c25, h⟩ := am_grd h
    refine am_Ev.t hcd (o := none) (c := am_in a0 2008 = true) (s1 := (32, [(0, .ref 216), (1, .int a0), (2, .int a1), (3, .int a2)], [.int (f2 217 a0.toNatClampNeg)], am_SH, (g, f2))) rfl c25 ?_
    exact am_Ev.cast (a := ((some (.int (f2 217 a0.toNatClampNeg, f2).1)), am_SH, (g, (f2 217 a0.toNatClampNeg, f2).2))) (by cases h; rfl) (am_Ev.ret hcd rfl)
set_option maxRecDepth 100000 in
set_option maxHeartbeats 4000000 in
theorem m_coal_ok {sc : Nat × (Nat → Int32)} (d : Nat) (a0 : Int32) (f g : (Nat → Nat → Int32)) (r : Int32 × (Nat → Nat → Int32)) (h : m_coal a0 f = some r) : am_Ev sc (d + 1) 281 (0, [(0, .ref 216), (1, .int a0)], [], am_SH, (g, f)) ((some (.int r.1)), am_SH, (g, r.2)) := by
  have hcd : am_code 281 = am_c281 := rfl
  unfold m_coal at h
  refine am_Ev.go hcd 2 (s' := (2, [(0, .ref 216), (1, .int a0)], [.int (-1), .int a0], am_SH, (g, f))) rfl ?_
  rcases am_ite h with ⟨c2, h⟩ | ⟨c2, h⟩
  · refine am_Ev.t hcd (c := a0 = (-1)) (s1 := (3, [(0, .ref 216), (1, .int a0)], [], am_SH, (g, f))) rfl c2 ?_
    refine am_Ev.go hcd 2 (s' := (5, [(0, .ref 216), (1, .int a0)], [.int 459, .ref 216], am_SH, (g, f))) rfl ?_
    obtain ⟨p1, hp1, h⟩ := am_bind_some h
    refine am_Ev.call hcd (a := 262) (s0 := (0, [(0, .ref 216), (1, .int 459)], [], am_SH, (g, f))) (q := ((some (.int p1.1)), am_SH, (g, p1.2))) (s1 := (6, [(0, .ref 216), (1, .int a0)], [.int p1.1], am_SH, (g, p1.2))) rfl rfl (m_endsRow_ok (d) 459 f g p1 hp1) ?_
    refine am_Ev.go hcd 1 (s' := (19, [(0, .ref 216), (1, .int a0)], [.int p1.1], am_SH, (g, p1.2))) rfl ?_
    exact am_Ev.cast (a := ((some (.int (p1.1, p1.2).1)), am_SH, (g, (p1.1, p1.2).2))) (by cases h; rfl) (am_Ev.ret hcd rfl)
  · refine am_Ev.f hcd (c := a0 = (-1)) (s1 := (7, [(0, .ref 216), (1, .int a0)], [], am_SH, (g, f))) rfl c2 ?_
    refine am_Ev.go hcd 3 (s' := (10, [(0, .ref 216), (1, .int a0)], [.int 40, .int 1, .int a0], am_SH, (g, f))) rfl ?_
    refine am_Ev.call hcd (a := 176) (s0 := (0, [(0, .int a0), (1, .int 1), (2, .int 40)], [], am_SH, (g, f))) (q := ((some (.int (am_b (m_isIn a0 1 40)))), am_SH, (g, f))) (s1 := (11, [(0, .ref 216), (1, .int a0)], [.int (am_b (m_isIn a0 1 40))], am_SH, (g, f))) rfl rfl (m_isIn_ok (d) a0 1 40 (g, f)) ?_
    rcases am_ite h with ⟨c13, h⟩ | ⟨c13, h⟩
    · refine am_Ev.f hcd (c := am_b (m_isIn a0 1 40) = 0) (s1 := (12, [(0, .ref 216), (1, .int a0)], [], am_SH, (g, f))) rfl (am_b_t c13) ?_
      refine am_Ev.go hcd 4 (s' := (16, [(0, .ref 216), (1, .int a0)], [.int a0, .int 4, .int 459, .ref 216], am_SH, (g, f))) rfl ?_
      obtain ⟨p3, hp3, h⟩ := am_bind_some h
      refine am_Ev.call hcd (a := 260) (s0 := (0, [(0, .ref 216), (1, .int 459), (2, .int 4), (3, .int a0)], [], am_SH, (g, f))) (q := ((some (.int p3.1)), am_SH, (g, p3.2))) (s1 := (17, [(0, .ref 216), (1, .int a0)], [.int p3.1], am_SH, (g, p3.2))) rfl rfl (m_tellsOne_ok (d) 459 4 a0 f g p3 hp3) ?_
      refine am_Ev.go hcd 1 (s' := (19, [(0, .ref 216), (1, .int a0)], [.int p3.1], am_SH, (g, p3.2))) rfl ?_
      exact am_Ev.cast (a := ((some (.int (p3.1, p3.2).1)), am_SH, (g, (p3.1, p3.2).2))) (by cases h; rfl) (am_Ev.ret hcd rfl)
    · refine am_Ev.t hcd (c := am_b (m_isIn a0 1 40) = 0) (s1 := (18, [(0, .ref 216), (1, .int a0)], [], am_SH, (g, f))) rfl (am_b_f c13) ?_
      refine am_Ev.go hcd 1 (s' := (19, [(0, .ref 216), (1, .int a0)], [.int (-1)], am_SH, (g, f))) rfl ?_
      exact am_Ev.cast (a := ((some (.int ((-1), f).1)), am_SH, (g, ((-1), f).2))) (by cases h; rfl) (am_Ev.ret hcd rfl)
set_option maxRecDepth 100000 in
set_option maxHeartbeats 4000000 in
theorem m_layWorth_ok {sc : Nat × (Nat → Int32)} (d : Nat)  (f g : (Nat → Nat → Int32)) (r : (Nat → Nat → Int32)) (h : m_layWorth  f = some r) : am_Ev sc (d) 282 (0, [(0, .ref 216)], [], am_SH, (g, f)) (none, am_SH, (g, r)) := by
  have hcd : am_code 282 = am_c282 := rfl
  unfold m_layWorth at h
  refine am_Ev.go hcd 2 (s' := (2, [(0, .ref 216), (1, .int 0)], [], am_SH, (g, f))) rfl ?_
  refine am_Ev.weak' (am_loop_ok (G := fun (s1 : Int32 × (Nat → Nat → Int32)) => am_Ev sc (d) 282 (2, [(0, .ref 216), (1, .int s1.1)], [], am_SH, (g, s1.2)) (none, am_SH, (g, r))) (Z := fun (v : (Nat → Nat → Int32)) => ((none, am_SH, (g, v)) : am_R) = (none, am_SH, (g, r))) ?_ am_F (0, f) r h rfl) (am_sub_cons rfl (am_sub_cons rfl am_sub_nil)) rfl
  intro s1 q1 h hI1 hZ1
  show am_Ev sc (d) 282 (2, [(0, .ref 216), (1, .int s1.1)], [], am_SH, (g, s1.2)) (none, am_SH, (g, r))
  refine am_Ev.go hcd 2 (s' := (4, [(0, .ref 216), (1, .int s1.1)], [.int 41, .int s1.1], am_SH, (g, s1.2))) rfl ?_
  rcases am_ite h with ⟨c6, h⟩ | ⟨c6, h⟩
  · refine am_Ev.t hcd (c := s1.1 < 41) (s1 := (5, [(0, .ref 216), (1, .int s1.1)], [], am_SH, (g, s1.2))) rfl c6 ?_
    obtain ⟨t2, Et2, h⟩ := am_let_eq h
    refine am_Ev.go hcd 2 (s' := (7, [(0, .ref 216), (1, .int s1.1), (2, .long t2)], [], am_SH, (g, s1.2))) (by subst Et2; exact rfl) ?_
    refine am_Ev.go hcd 2 (s' := (9, [(0, .ref 216), (1, .int s1.1), (2, .long t2), (4, .int 1)], [], am_SH, (g, s1.2))) rfl ?_
    obtain ⟨e6, he6, h⟩ := am_bind_some h
    have hK3 : (fun (e6 : Int64) => am_Ev sc (d) 282 (32, [(0, .ref 216), (1, .int s1.1), (2, .long e6)], [], am_SH, (g, s1.2)) (none, am_SH, (g, r))) e6 := by
      show am_Ev sc (d) 282 (32, [(0, .ref 216), (1, .int s1.1), (2, .long e6)], [], am_SH, (g, s1.2)) (none, am_SH, (g, r))
      refine am_Ev.go hcd 2 (s' := (34, [(0, .ref 216), (1, .int s1.1), (2, .long e6), (4, .int 0)], [], am_SH, (g, s1.2))) rfl ?_
      obtain ⟨e9, he9, h⟩ := am_bind_some h
      have hK7 : (fun (e9 : Int32) => am_Ev sc (d) 282 (44, [(0, .ref 216), (1, .int s1.1), (4, .int e9)], [], am_SH, (g, s1.2)) (none, am_SH, (g, r))) e9 := by
        show am_Ev sc (d) 282 (44, [(0, .ref 216), (1, .int s1.1), (4, .int e9)], [], am_SH, (g, s1.2)) (none, am_SH, (g, r))
        refine am_Ev.go hcd 4 (s' := (48, [(0, .ref 216), (1, .int s1.1), (4, .int e9)], [.int e9, .int s1.1, .ref 232], am_SH, (g, s1.2))) rfl ?_
        obtain ⟨c19, h⟩ := am_grd h
        obtain ⟨f10, Ef10, h⟩ := am_let_eq h
        refine am_Ev.t hcd (o := none) (c := am_in s1.1 41 = true) (s1 := (49, [(0, .ref 216), (1, .int s1.1), (4, .int e9)], [], am_SH, (g, f10))) (by subst Ef10; exact rfl) c19 ?_
        obtain ⟨t11, Et11, h⟩ := am_let_eq h
        refine am_Ev.go hcd 1 (s' := (50, [(0, .ref 216), (1, .int t11), (4, .int e9)], [], am_SH, (g, f10))) (by subst Et11; exact rfl) ?_
        refine am_Ev.go hcd 1 (s' := (2, [(0, .ref 216), (1, .int t11), (4, .int e9)], [], am_SH, (g, f10))) rfl ?_
        exact am_Ev.weak' (hI1 (t11, f10) (Option.some.inj h).symm) (am_sub_cons rfl (am_sub_cons rfl am_sub_nil)) rfl
      refine am_Ev.weak' (am_loop_ok (G := fun (s7 : Int32) => am_Ev sc (d) 282 (34, [(0, .ref 216), (1, .int s1.1), (2, .long e6), (4, .int s7)], [], am_SH, (g, s1.2)) (none, am_SH, (g, r))) (Z := fun (e9 : Int32) => am_Ev sc (d) 282 (44, [(0, .ref 216), (1, .int s1.1), (4, .int e9)], [], am_SH, (g, s1.2)) (none, am_SH, (g, r))) ?_ am_F 0 e9 he9 hK7) (am_sub_cons rfl (am_sub_cons rfl (am_sub_cons rfl (am_sub_cons rfl am_sub_nil)))) rfl
      intro s7 q7 h hI7 hZ7
      show am_Ev sc (d) 282 (34, [(0, .ref 216), (1, .int s1.1), (2, .long e6), (4, .int s7)], [], am_SH, (g, s1.2)) (none, am_SH, (g, r))
      refine am_Ev.go hcd 7 (s' := (41, [(0, .ref 216), (1, .int s1.1), (2, .long e6), (4, .int s7)], [.int (am_lcmp ((e6 >>> (s7.toInt64 &&& 63)) &&& ((1 : Int32).toInt64)) ((1 : Int32).toInt64))], am_SH, (g, s1.2))) rfl ?_
      rcases am_ite h with ⟨c30, h⟩ | ⟨c30, h⟩
      · refine am_Ev.t hcd (c := (am_lcmp ((e6 >>> (s7.toInt64 &&& 63)) &&& ((1 : Int32).toInt64)) ((1 : Int32).toInt64)) = 0) (s1 := (42, [(0, .ref 216), (1, .int s1.1), (2, .long e6), (4, .int s7)], [], am_SH, (g, s1.2))) rfl c30 ?_
        obtain ⟨t8, Et8, h⟩ := am_let_eq h
        refine am_Ev.go hcd 1 (s' := (43, [(0, .ref 216), (1, .int s1.1), (2, .long e6), (4, .int t8)], [], am_SH, (g, s1.2))) (by subst Et8; exact rfl) ?_
        refine am_Ev.go hcd 1 (s' := (34, [(0, .ref 216), (1, .int s1.1), (2, .long e6), (4, .int t8)], [], am_SH, (g, s1.2))) rfl ?_
        exact am_Ev.weak' (hI7 t8 (Option.some.inj h).symm) (am_sub_cons rfl (am_sub_cons rfl (am_sub_cons rfl (am_sub_cons rfl am_sub_nil)))) rfl
      · refine am_Ev.f hcd (c := (am_lcmp ((e6 >>> (s7.toInt64 &&& 63)) &&& ((1 : Int32).toInt64)) ((1 : Int32).toInt64)) = 0) (s1 := (44, [(0, .ref 216), (1, .int s1.1), (2, .long e6), (4, .int s7)], [], am_SH, (g, s1.2))) rfl c30 ?_
        exact am_Ev.weak' (hZ7 s7 (Option.some.inj h).symm) (am_sub_cons rfl (am_sub_cons rfl (am_sub_cons rfl am_sub_nil))) rfl
    refine am_Ev.weak' (am_loop_ok (G := fun (s3 : Int64 × Int32) => am_Ev sc (d) 282 (9, [(0, .ref 216), (1, .int s1.1), (2, .long s3.1), (4, .int s3.2)], [], am_SH, (g, s1.2)) (none, am_SH, (g, r))) (Z := fun (e6 : Int64) => am_Ev sc (d) 282 (32, [(0, .ref 216), (1, .int s1.1), (2, .long e6)], [], am_SH, (g, s1.2)) (none, am_SH, (g, r))) ?_ am_F (t2, 1) e6 he6 hK3) (am_sub_cons rfl (am_sub_cons rfl (am_sub_cons rfl (am_sub_cons rfl am_sub_nil)))) rfl
    intro s3 q3 h hI3 hZ3
    show am_Ev sc (d) 282 (9, [(0, .ref 216), (1, .int s1.1), (2, .long s3.1), (4, .int s3.2)], [], am_SH, (g, s1.2)) (none, am_SH, (g, r))
    refine am_Ev.go hcd 4 (s' := (13, [(0, .ref 216), (1, .int s1.1), (2, .long s3.1), (4, .int s3.2)], [.int s1.1, .int (2 * s3.2)], am_SH, (g, s1.2))) rfl ?_
    rcases am_ite h with ⟨c42, h⟩ | ⟨c42, h⟩
    · refine am_Ev.t hcd (c := (2 * s3.2) < s1.1) (s1 := (14, [(0, .ref 216), (1, .int s1.1), (2, .long s3.1), (4, .int s3.2)], [], am_SH, (g, s1.2))) rfl c42 ?_
      refine am_Ev.go hcd 5 (s' := (19, [(0, .ref 216), (1, .int s1.1), (2, .long s3.1), (4, .int s3.2)], [.int s3.2, .ref 232, .long ((1 : Int32).toInt64), .long s3.1], am_SH, (g, s1.2))) rfl ?_
      obtain ⟨c45, h⟩ := am_grd h
      refine am_Ev.t hcd (o := none) (c := am_in s3.2 41 = true) (s1 := (20, [(0, .ref 216), (1, .int s1.1), (2, .long s3.1), (4, .int s3.2)], [.int (s1.2 232 s3.2.toNatClampNeg), .long ((1 : Int32).toInt64), .long s3.1], am_SH, (g, s1.2))) rfl c45 ?_
      refine am_Ev.go hcd 5 (s' := (25, [(0, .ref 216), (1, .int s1.1), (2, .long s3.1), (4, .int s3.2)], [.int (s1.1 - s3.2), .ref 232, .int (s1.2 232 s3.2.toNatClampNeg), .long ((1 : Int32).toInt64), .long s3.1], am_SH, (g, s1.2))) rfl ?_
      obtain ⟨c48, h⟩ := am_grd h
      refine am_Ev.t hcd (o := none) (c := am_in (s1.1 - s3.2) 41 = true) (s1 := (26, [(0, .ref 216), (1, .int s1.1), (2, .long s3.1), (4, .int s3.2)], [.int (s1.2 232 (s1.1 - s3.2).toNatClampNeg), .int (s1.2 232 s3.2.toNatClampNeg), .long ((1 : Int32).toInt64), .long s3.1], am_SH, (g, s1.2))) rfl c48 ?_
      obtain ⟨t4, Et4, h⟩ := am_let_eq h
      refine am_Ev.go hcd 4 (s' := (30, [(0, .ref 216), (1, .int s1.1), (2, .long t4), (4, .int s3.2)], [], am_SH, (g, s1.2))) (by subst Et4; exact rfl) ?_
      obtain ⟨t5, Et5, h⟩ := am_let_eq h
      refine am_Ev.go hcd 1 (s' := (31, [(0, .ref 216), (1, .int s1.1), (2, .long t4), (4, .int t5)], [], am_SH, (g, s1.2))) (by subst Et5; exact rfl) ?_
      refine am_Ev.go hcd 1 (s' := (9, [(0, .ref 216), (1, .int s1.1), (2, .long t4), (4, .int t5)], [], am_SH, (g, s1.2))) rfl ?_
      exact am_Ev.weak' (hI3 (t4, t5) (Option.some.inj h).symm) (am_sub_cons rfl (am_sub_cons rfl (am_sub_cons rfl (am_sub_cons rfl am_sub_nil)))) rfl
    · refine am_Ev.f hcd (c := (2 * s3.2) < s1.1) (s1 := (32, [(0, .ref 216), (1, .int s1.1), (2, .long s3.1), (4, .int s3.2)], [], am_SH, (g, s1.2))) rfl c42 ?_
      exact am_Ev.weak' (hZ3 s3.1 (Option.some.inj h).symm) (am_sub_cons rfl (am_sub_cons rfl (am_sub_cons rfl am_sub_nil))) rfl
  · refine am_Ev.f hcd (c := s1.1 < 41) (s1 := (51, [(0, .ref 216), (1, .int s1.1)], [], am_SH, (g, s1.2))) rfl c6 ?_
    exact am_Ev.cast (a := (none, am_SH, (g, s1.2))) (hZ1 _ (Option.some.inj h).symm) (am_Ev.ret hcd rfl)
set_option maxRecDepth 100000 in
set_option maxHeartbeats 4000000 in
theorem m_coals_ok {sc : Nat × (Nat → Int32)} (d : Nat) (a0 : Int32) (f g : (Nat → Nat → Int32)) (r : Int32 × (Nat → Nat → Int32)) (h : m_coals a0 f = some r) : am_Ev sc (d + 1) 283 (0, [(0, .ref 216), (1, .int a0)], [], am_SH, (g, f)) ((some (.int r.1)), am_SH, (g, r.2)) := by
  have hcd : am_code 283 = am_c283 := rfl
  unfold m_coals at h
  refine am_Ev.go hcd 3 (s' := (3, [(0, .ref 216), (1, .int a0)], [.int 1, .int 0, .int a0], am_SH, (g, f))) rfl ?_
  refine am_Ev.call hcd (a := 176) (s0 := (0, [(0, .int a0), (1, .int 0), (2, .int 1)], [], am_SH, (g, f))) (q := ((some (.int (am_b (m_isIn a0 0 1)))), am_SH, (g, f))) (s1 := (4, [(0, .ref 216), (1, .int a0)], [.int (am_b (m_isIn a0 0 1))], am_SH, (g, f))) rfl rfl (m_isIn_ok (d) a0 0 1 (g, f)) ?_
  rcases am_ite h with ⟨c4, h⟩ | ⟨c4, h⟩
  · refine am_Ev.f hcd (c := am_b (m_isIn a0 0 1) = 0) (s1 := (7, [(0, .ref 216), (1, .int a0)], [], am_SH, (g, f))) rfl (am_b_t c4) ?_
    refine am_Ev.go hcd 1 (s' := (8, [(0, .ref 216), (1, .int a0)], [.ref 216], am_SH, (g, f))) rfl ?_
    obtain ⟨p2, hp2, h⟩ := am_bind_some h
    refine am_Ev.call hcd (a := 282) (s0 := (0, [(0, .ref 216)], [], am_SH, (g, f))) (q := (none, am_SH, (g, p2))) (s1 := (9, [(0, .ref 216), (1, .int a0)], [], am_SH, (g, p2))) rfl rfl (m_layWorth_ok (d)  f g p2 hp2) ?_
    refine am_Ev.go hcd 4 (s' := (13, [(0, .ref 216), (1, .int a0), (2, .int 0), (3, .int 0)], [], am_SH, (g, p2))) rfl ?_
    obtain ⟨e6, he6, h⟩ := am_bind_some h
    have hK3 : (fun (e6 : Int32) => am_Ev sc (d + 1) 283 (33, [(0, .ref 216), (1, .int a0), (2, .int e6)], [], am_SH, (g, p2)) ((some (.int r.1)), am_SH, (g, r.2))) e6 := by
      show am_Ev sc (d + 1) 283 (33, [(0, .ref 216), (1, .int a0), (2, .int e6)], [], am_SH, (g, p2)) ((some (.int r.1)), am_SH, (g, r.2))
      refine am_Ev.go hcd 2 (s' := (35, [(0, .ref 216), (1, .int a0), (2, .int e6), (3, .int 0)], [], am_SH, (g, p2))) rfl ?_
      obtain ⟨e15, he15, h⟩ := am_bind_some h
      have hK7 : (fun (v : (Int32 × (Nat → Nat → Int32)) ⊕ (Unit)) => v.elim (fun (v : Int32 × (Nat → Nat → Int32)) => (((some (.int v.1)), am_SH, (g, v.2)) : am_R) = ((some (.int r.1)), am_SH, (g, r.2))) (fun (e16 : Unit) => am_Ev sc (d + 1) 283 (84, [], [], am_SH, (g, p2)) ((some (.int r.1)), am_SH, (g, r.2)))) e15 := by
        cases e15 with
        | inl v => exact (by cases h; rfl)
        | inr e16 =>
          have h := am_elim_r h
          show am_Ev sc (d + 1) 283 (84, [], [], am_SH, (g, p2)) ((some (.int r.1)), am_SH, (g, r.2))
          refine am_Ev.go hcd 1 (s' := (85, [], [.int (-1)], am_SH, (g, p2))) rfl ?_
          exact am_Ev.cast (a := ((some (.int ((-1), p2).1)), am_SH, (g, ((-1), p2).2))) (by cases h; rfl) (am_Ev.ret hcd rfl)
      refine am_Ev.weak' (am_loop_ok (G := fun (s7 : Int32) => am_Ev sc (d + 1) 283 (35, [(0, .ref 216), (1, .int a0), (2, .int e6), (3, .int s7)], [], am_SH, (g, p2)) ((some (.int r.1)), am_SH, (g, r.2))) (Z := fun (v : (Int32 × (Nat → Nat → Int32)) ⊕ (Unit)) => v.elim (fun (v : Int32 × (Nat → Nat → Int32)) => (((some (.int v.1)), am_SH, (g, v.2)) : am_R) = ((some (.int r.1)), am_SH, (g, r.2))) (fun (e16 : Unit) => am_Ev sc (d + 1) 283 (84, [], [], am_SH, (g, p2)) ((some (.int r.1)), am_SH, (g, r.2)))) ?_ am_F 0 e15 he15 hK7) (am_sub_cons rfl (am_sub_cons rfl (am_sub_cons rfl (am_sub_cons rfl am_sub_nil)))) rfl
      intro s7 q7 h hI7 hZ7
      show am_Ev sc (d + 1) 283 (35, [(0, .ref 216), (1, .int a0), (2, .int e6), (3, .int s7)], [], am_SH, (g, p2)) ((some (.int r.1)), am_SH, (g, r.2))
      refine am_Ev.go hcd 5 (s' := (40, [(0, .ref 216), (1, .int a0), (2, .int e6), (3, .int s7)], [.int (p2 217 459), .int s7], am_SH, (g, p2))) rfl ?_
      rcases am_ite h with ⟨c26, h⟩ | ⟨c26, h⟩
      · refine am_Ev.t hcd (c := s7 < p2 217 459) (s1 := (41, [(0, .ref 216), (1, .int a0), (2, .int e6), (3, .int s7)], [], am_SH, (g, p2))) rfl c26 ?_
        refine am_Ev.go hcd 5 (s' := (46, [(0, .ref 216), (1, .int a0), (2, .int e6), (3, .int s7)], [.int (460 + s7), .ref 217], am_SH, (g, p2))) rfl ?_
        obtain ⟨c29, h⟩ := am_grd h
        refine am_Ev.t hcd (o := none) (c := am_in (460 + s7) 2008 = true) (s1 := (47, [(0, .ref 216), (1, .int a0), (2, .int e6), (3, .int s7)], [.int (p2 217 (460 + s7).toNatClampNeg)], am_SH, (g, p2))) rfl c29 ?_
        obtain ⟨t8, Et8, h⟩ := am_let_eq h
        refine am_Ev.go hcd 1 (s' := (48, [(0, .ref 216), (1, .int a0), (2, .int e6), (3, .int s7), (4, .int t8)], [], am_SH, (g, p2))) (by subst Et8; exact rfl) ?_
        refine am_Ev.go hcd 2 (s' := (50, [(0, .ref 216), (1, .int a0), (2, .int e6), (3, .int s7), (4, .int t8), (5, .int 1)], [], am_SH, (g, p2))) rfl ?_
        obtain ⟨e12, he12, h⟩ := am_bind_some h
        have hK9 : (fun (v : (Int32 × (Nat → Nat → Int32)) ⊕ (Unit)) => v.elim (fun (v : Int32 × (Nat → Nat → Int32)) => (((some (.int v.1)), am_SH, (g, v.2)) : am_R) = ((some (.int r.1)), am_SH, (g, r.2))) (fun (e13 : Unit) => am_Ev sc (d + 1) 283 (82, [(0, .ref 216), (1, .int a0), (2, .int e6), (3, .int s7)], [], am_SH, (g, p2)) ((some (.int r.1)), am_SH, (g, r.2)))) e12 := by
          cases e12 with
          | inl v => exact (hZ7 _ (Option.some.inj h).symm)
          | inr e13 =>
            have h := am_elim_r h
            show am_Ev sc (d + 1) 283 (82, [(0, .ref 216), (1, .int a0), (2, .int e6), (3, .int s7)], [], am_SH, (g, p2)) ((some (.int r.1)), am_SH, (g, r.2))
            obtain ⟨t14, Et14, h⟩ := am_let_eq h
            refine am_Ev.go hcd 1 (s' := (83, [(0, .ref 216), (1, .int a0), (2, .int e6), (3, .int t14)], [], am_SH, (g, p2))) (by subst Et14; exact rfl) ?_
            refine am_Ev.go hcd 1 (s' := (35, [(0, .ref 216), (1, .int a0), (2, .int e6), (3, .int t14)], [], am_SH, (g, p2))) rfl ?_
            exact am_Ev.weak' (hI7 t14 (Option.some.inj h).symm) (am_sub_cons rfl (am_sub_cons rfl (am_sub_cons rfl (am_sub_cons rfl am_sub_nil)))) rfl
        refine am_Ev.weak' (am_loop_ok (G := fun (s9 : Int32) => am_Ev sc (d + 1) 283 (50, [(0, .ref 216), (1, .int a0), (2, .int e6), (3, .int s7), (4, .int t8), (5, .int s9)], [], am_SH, (g, p2)) ((some (.int r.1)), am_SH, (g, r.2))) (Z := fun (v : (Int32 × (Nat → Nat → Int32)) ⊕ (Unit)) => v.elim (fun (v : Int32 × (Nat → Nat → Int32)) => (((some (.int v.1)), am_SH, (g, v.2)) : am_R) = ((some (.int r.1)), am_SH, (g, r.2))) (fun (e13 : Unit) => am_Ev sc (d + 1) 283 (82, [(0, .ref 216), (1, .int a0), (2, .int e6), (3, .int s7)], [], am_SH, (g, p2)) ((some (.int r.1)), am_SH, (g, r.2)))) ?_ am_F 1 e12 he12 hK9) (am_sub_cons rfl (am_sub_cons rfl (am_sub_cons rfl (am_sub_cons rfl (am_sub_cons rfl (am_sub_cons rfl am_sub_nil)))))) rfl
        intro s9 q9 h hI9 hZ9
        show am_Ev sc (d + 1) 283 (50, [(0, .ref 216), (1, .int a0), (2, .int e6), (3, .int s7), (4, .int t8), (5, .int s9)], [], am_SH, (g, p2)) ((some (.int r.1)), am_SH, (g, r.2))
        refine am_Ev.go hcd 4 (s' := (54, [(0, .ref 216), (1, .int a0), (2, .int e6), (3, .int s7), (4, .int t8), (5, .int s9)], [.int t8, .int (2 * s9)], am_SH, (g, p2))) rfl ?_
        rcases am_ite h with ⟨c49, h⟩ | ⟨c49, h⟩
        · refine am_Ev.t hcd (c := (2 * s9) < t8) (s1 := (55, [(0, .ref 216), (1, .int a0), (2, .int e6), (3, .int s7), (4, .int t8), (5, .int s9)], [], am_SH, (g, p2))) rfl c49 ?_
          refine am_Ev.go hcd 4 (s' := (59, [(0, .ref 216), (1, .int a0), (2, .int e6), (3, .int s7), (4, .int t8), (5, .int s9)], [.int t8, .ref 232, .int e6], am_SH, (g, p2))) rfl ?_
          obtain ⟨c52, h⟩ := am_grd h
          refine am_Ev.t hcd (o := none) (c := am_in t8 41 = true) (s1 := (60, [(0, .ref 216), (1, .int a0), (2, .int e6), (3, .int s7), (4, .int t8), (5, .int s9)], [.int (p2 232 t8.toNatClampNeg), .int e6], am_SH, (g, p2))) rfl c52 ?_
          refine am_Ev.go hcd 4 (s' := (64, [(0, .ref 216), (1, .int a0), (2, .int e6), (3, .int s7), (4, .int t8), (5, .int s9)], [.int s9, .ref 232, .int (e6 ^^^ (p2 232 t8.toNatClampNeg))], am_SH, (g, p2))) rfl ?_
          obtain ⟨c55, h⟩ := am_grd h
          refine am_Ev.t hcd (o := none) (c := am_in s9 41 = true) (s1 := (65, [(0, .ref 216), (1, .int a0), (2, .int e6), (3, .int s7), (4, .int t8), (5, .int s9)], [.int (p2 232 s9.toNatClampNeg), .int (e6 ^^^ (p2 232 t8.toNatClampNeg))], am_SH, (g, p2))) rfl c55 ?_
          refine am_Ev.go hcd 6 (s' := (71, [(0, .ref 216), (1, .int a0), (2, .int e6), (3, .int s7), (4, .int t8), (5, .int s9)], [.int (t8 - s9), .ref 232, .int ((e6 ^^^ (p2 232 t8.toNatClampNeg)) ^^^ (p2 232 s9.toNatClampNeg))], am_SH, (g, p2))) rfl ?_
          obtain ⟨c58, h⟩ := am_grd h
          refine am_Ev.t hcd (o := none) (c := am_in (t8 - s9) 41 = true) (s1 := (72, [(0, .ref 216), (1, .int a0), (2, .int e6), (3, .int s7), (4, .int t8), (5, .int s9)], [.int (p2 232 (t8 - s9).toNatClampNeg), .int ((e6 ^^^ (p2 232 t8.toNatClampNeg)) ^^^ (p2 232 s9.toNatClampNeg))], am_SH, (g, p2))) rfl c58 ?_
          refine am_Ev.go hcd 1 (s' := (73, [(0, .ref 216), (1, .int a0), (2, .int e6), (3, .int s7), (4, .int t8), (5, .int s9)], [.int (((e6 ^^^ (p2 232 t8.toNatClampNeg)) ^^^ (p2 232 s9.toNatClampNeg)) ^^^ (p2 232 (t8 - s9).toNatClampNeg))], am_SH, (g, p2))) rfl ?_
          rcases am_ite h with ⟨c61, h⟩ | ⟨c61, h⟩
          · refine am_Ev.t hcd (c := (((e6 ^^^ (p2 232 t8.toNatClampNeg)) ^^^ (p2 232 s9.toNatClampNeg)) ^^^ (p2 232 (t8 - s9).toNatClampNeg)) = 0) (s1 := (74, [(0, .ref 216), (1, .int a0), (2, .int e6), (3, .int s7), (4, .int t8), (5, .int s9)], [], am_SH, (g, p2))) rfl c61 ?_
            obtain ⟨t10, ht10, kt10⟩ := am_let_eq h
            have hKt10 : am_Ev sc (d + 1) 283 (79, [], [.int t10], am_SH, (g, p2)) ((some (.int r.1)), am_SH, (g, r.2)) := by
              have h := kt10
              exact am_Ev.cast (a := ((some (.int (t10, p2).1)), am_SH, (g, (t10, p2).2))) (hZ9 _ (Option.some.inj h).symm) (am_Ev.ret hcd rfl)
            have hLt10 : ∀ tt, tt = t10 → am_Ev sc (d + 1) 283 (79, [], [.int tt], am_SH, (g, p2)) ((some (.int r.1)), am_SH, (g, r.2)) := fun tt htt => by subst htt; exact hKt10
            have h := ht10
            refine am_Ev.go hcd 1 (s' := (75, [(0, .ref 216), (1, .int a0), (2, .int e6), (3, .int s7), (4, .int t8), (5, .int s9)], [.int a0], am_SH, (g, p2))) rfl ?_
            rcases am_itv h with ⟨c70, h⟩ | ⟨c70, h⟩
            · refine am_Ev.t hcd (c := a0 = 0) (s1 := (76, [(0, .ref 216), (1, .int a0), (2, .int e6), (3, .int s7), (4, .int t8), (5, .int s9)], [], am_SH, (g, p2))) rfl c70 ?_
              refine am_Ev.go hcd 2 (s' := (79, [(0, .ref 216), (1, .int a0), (2, .int e6), (3, .int s7), (4, .int t8), (5, .int s9)], [.int s7], am_SH, (g, p2))) rfl ?_
              exact am_Ev.weak' (hLt10 s7 h.symm) am_sub_nil rfl
            · refine am_Ev.f hcd (c := a0 = 0) (s1 := (78, [(0, .ref 216), (1, .int a0), (2, .int e6), (3, .int s7), (4, .int t8), (5, .int s9)], [], am_SH, (g, p2))) rfl c70 ?_
              refine am_Ev.go hcd 1 (s' := (79, [(0, .ref 216), (1, .int a0), (2, .int e6), (3, .int s7), (4, .int t8), (5, .int s9)], [.int s9], am_SH, (g, p2))) rfl ?_
              exact am_Ev.weak' (hLt10 s9 h.symm) am_sub_nil rfl
          · refine am_Ev.f hcd (c := (((e6 ^^^ (p2 232 t8.toNatClampNeg)) ^^^ (p2 232 s9.toNatClampNeg)) ^^^ (p2 232 (t8 - s9).toNatClampNeg)) = 0) (s1 := (80, [(0, .ref 216), (1, .int a0), (2, .int e6), (3, .int s7), (4, .int t8), (5, .int s9)], [], am_SH, (g, p2))) rfl c61 ?_
            obtain ⟨t11, Et11, h⟩ := am_let_eq h
            refine am_Ev.go hcd 1 (s' := (81, [(0, .ref 216), (1, .int a0), (2, .int e6), (3, .int s7), (4, .int t8), (5, .int t11)], [], am_SH, (g, p2))) (by subst Et11; exact rfl) ?_
            refine am_Ev.go hcd 1 (s' := (50, [(0, .ref 216), (1, .int a0), (2, .int e6), (3, .int s7), (4, .int t8), (5, .int t11)], [], am_SH, (g, p2))) rfl ?_
            exact am_Ev.weak' (hI9 t11 (Option.some.inj h).symm) (am_sub_cons rfl (am_sub_cons rfl (am_sub_cons rfl (am_sub_cons rfl (am_sub_cons rfl (am_sub_cons rfl am_sub_nil)))))) rfl
        · refine am_Ev.f hcd (c := (2 * s9) < t8) (s1 := (82, [(0, .ref 216), (1, .int a0), (2, .int e6), (3, .int s7), (4, .int t8), (5, .int s9)], [], am_SH, (g, p2))) rfl c49 ?_
          exact am_Ev.weak' (hZ9 (.inr ()) (Option.some.inj h).symm) (am_sub_cons rfl (am_sub_cons rfl (am_sub_cons rfl (am_sub_cons rfl am_sub_nil)))) rfl
      · refine am_Ev.f hcd (c := s7 < p2 217 459) (s1 := (84, [(0, .ref 216), (1, .int a0), (2, .int e6), (3, .int s7)], [], am_SH, (g, p2))) rfl c26 ?_
        exact am_Ev.weak' (hZ7 (.inr ()) (Option.some.inj h).symm) am_sub_nil rfl
    refine am_Ev.weak' (am_loop_ok (G := fun (s3 : Int32 × Int32) => am_Ev sc (d + 1) 283 (13, [(0, .ref 216), (1, .int a0), (2, .int s3.1), (3, .int s3.2)], [], am_SH, (g, p2)) ((some (.int r.1)), am_SH, (g, r.2))) (Z := fun (e6 : Int32) => am_Ev sc (d + 1) 283 (33, [(0, .ref 216), (1, .int a0), (2, .int e6)], [], am_SH, (g, p2)) ((some (.int r.1)), am_SH, (g, r.2))) ?_ am_F (0, 0) e6 he6 hK3) (am_sub_cons rfl (am_sub_cons rfl (am_sub_cons rfl (am_sub_cons rfl am_sub_nil)))) rfl
    intro s3 q3 h hI3 hZ3
    show am_Ev sc (d + 1) 283 (13, [(0, .ref 216), (1, .int a0), (2, .int s3.1), (3, .int s3.2)], [], am_SH, (g, p2)) ((some (.int r.1)), am_SH, (g, r.2))
    refine am_Ev.go hcd 5 (s' := (18, [(0, .ref 216), (1, .int a0), (2, .int s3.1), (3, .int s3.2)], [.int (p2 217 459), .int s3.2], am_SH, (g, p2))) rfl ?_
    rcases am_ite h with ⟨c90, h⟩ | ⟨c90, h⟩
    · refine am_Ev.t hcd (c := s3.2 < p2 217 459) (s1 := (19, [(0, .ref 216), (1, .int a0), (2, .int s3.1), (3, .int s3.2)], [], am_SH, (g, p2))) rfl c90 ?_
      refine am_Ev.go hcd 8 (s' := (27, [(0, .ref 216), (1, .int a0), (2, .int s3.1), (3, .int s3.2)], [.int (460 + s3.2), .ref 217, .ref 232, .int s3.1], am_SH, (g, p2))) rfl ?_
      obtain ⟨c93, h⟩ := am_grd h
      refine am_Ev.t hcd (o := none) (c := am_in (460 + s3.2) 2008 = true) (s1 := (28, [(0, .ref 216), (1, .int a0), (2, .int s3.1), (3, .int s3.2)], [.int (p2 217 (460 + s3.2).toNatClampNeg), .ref 232, .int s3.1], am_SH, (g, p2))) rfl c93 ?_
      obtain ⟨c96, h⟩ := am_grd h
      refine am_Ev.t hcd (o := none) (c := am_in (p2 217 (460 + s3.2).toNatClampNeg) 41 = true) (s1 := (29, [(0, .ref 216), (1, .int a0), (2, .int s3.1), (3, .int s3.2)], [.int (p2 232 (p2 217 (460 + s3.2).toNatClampNeg).toNatClampNeg), .int s3.1], am_SH, (g, p2))) rfl c96 ?_
      obtain ⟨t4, Et4, h⟩ := am_let_eq h
      refine am_Ev.go hcd 2 (s' := (31, [(0, .ref 216), (1, .int a0), (2, .int t4), (3, .int s3.2)], [], am_SH, (g, p2))) (by subst Et4; exact rfl) ?_
      obtain ⟨t5, Et5, h⟩ := am_let_eq h
      refine am_Ev.go hcd 1 (s' := (32, [(0, .ref 216), (1, .int a0), (2, .int t4), (3, .int t5)], [], am_SH, (g, p2))) (by subst Et5; exact rfl) ?_
      refine am_Ev.go hcd 1 (s' := (13, [(0, .ref 216), (1, .int a0), (2, .int t4), (3, .int t5)], [], am_SH, (g, p2))) rfl ?_
      exact am_Ev.weak' (hI3 (t4, t5) (Option.some.inj h).symm) (am_sub_cons rfl (am_sub_cons rfl (am_sub_cons rfl (am_sub_cons rfl am_sub_nil)))) rfl
    · refine am_Ev.f hcd (c := s3.2 < p2 217 459) (s1 := (33, [(0, .ref 216), (1, .int a0), (2, .int s3.1), (3, .int s3.2)], [], am_SH, (g, p2))) rfl c90 ?_
      exact am_Ev.weak' (hZ3 s3.1 (Option.some.inj h).symm) (am_sub_cons rfl (am_sub_cons rfl (am_sub_cons rfl am_sub_nil))) rfl
  · refine am_Ev.t hcd (c := am_b (m_isIn a0 0 1) = 0) (s1 := (5, [(0, .ref 216), (1, .int a0)], [], am_SH, (g, f))) rfl (am_b_f c4) ?_
    refine am_Ev.go hcd 1 (s' := (6, [(0, .ref 216), (1, .int a0)], [.int (-1)], am_SH, (g, f))) rfl ?_
    exact am_Ev.cast (a := ((some (.int ((-1), f).1)), am_SH, (g, ((-1), f).2))) (by cases h; rfl) (am_Ev.ret hcd rfl)
