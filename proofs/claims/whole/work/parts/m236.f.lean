set_option maxRecDepth 100000 in
set_option maxHeartbeats 4000000 in
theorem m_words_ok {sc : Nat × (Nat → Int32)} (d : Nat) (a0 : Int32) (a1 : Int32) (f g : (Nat → Nat → Int32)) (r : Int32 × (Nat → Nat → Int32)) (h : m_words a0 a1 f = some r) : am_Ev sc (d + 4) 268 (0, [(0, .ref 216), (1, .int a0), (2, .int a1)], [], am_SH, (g, f)) ((some (.int r.1)), am_SH, (g, r.2)) := by
  have hcd : am_code 268 = am_c268 := rfl
  unfold m_words at h
  refine am_Ev.go hcd 3 (s' := (3, [(0, .ref 216), (1, .int a0), (2, .int a1)], [.int 65535, .int 0, .int a0], am_SH, (g, f))) rfl ?_
  refine am_Ev.call hcd (a := 176) (s0 := (0, [(0, .int a0), (1, .int 0), (2, .int 65535)], [], am_SH, (g, f))) (q := ((some (.int (am_b (m_isIn a0 0 65535)))), am_SH, (g, f))) (s1 := (4, [(0, .ref 216), (1, .int a0), (2, .int a1)], [.int (am_b (m_isIn a0 0 65535))], am_SH, (g, f))) rfl rfl (m_isIn_ok (d + 3) a0 0 65535 (g, f)) ?_
  rcases am_ite h with ⟨c4, h⟩ | ⟨c4, h⟩
  · refine am_Ev.f hcd (c := am_b (m_isIn a0 0 65535) = 0) (s1 := (5, [(0, .ref 216), (1, .int a0), (2, .int a1)], [], am_SH, (g, f))) rfl (am_b_t c4) ?_
    refine am_Ev.go hcd 1 (s' := (6, [(0, .ref 216), (1, .int a0), (2, .int a1)], [.int a0], am_SH, (g, f))) rfl ?_
    obtain ⟨p2, hp2, h⟩ := am_bind_some h
    refine am_Ev.call hcd (a := 179) (s0 := (0, [(0, .int a0)], [], am_SH, (g, f))) (q := ((some (.int p2)), am_SH, (g, f))) (s1 := (7, [(0, .ref 216), (1, .int a0), (2, .int a1)], [.int p2], am_SH, (g, f))) rfl rfl (m_bitsOf_ok (d + 3) a0 (g, f) p2 hp2) ?_
    refine am_Ev.go hcd 1 (s' := (8, [(0, .ref 216), (1, .int a0), (2, .int a1)], [.int 8, .int p2], am_SH, (g, f))) rfl ?_
    rcases am_ite h with ⟨c9, h⟩ | ⟨c9, h⟩
    · refine am_Ev.t hcd (c := 8 < p2) (s1 := (14, [(0, .ref 216), (1, .int a0), (2, .int a1)], [], am_SH, (g, f))) rfl c9 ?_
      refine am_Ev.go hcd 1 (s' := (15, [(0, .ref 216), (1, .int a0), (2, .int a1)], [.int (-1)], am_SH, (g, f))) rfl ?_
      exact am_Ev.cast (a := ((some (.int ((-1), f).1)), am_SH, (g, ((-1), f).2))) (by cases h; rfl) (am_Ev.ret hcd rfl)
    · refine am_Ev.f hcd (c := 8 < p2) (s1 := (9, [(0, .ref 216), (1, .int a0), (2, .int a1)], [], am_SH, (g, f))) rfl c9 ?_
      refine am_Ev.go hcd 3 (s' := (12, [(0, .ref 216), (1, .int a0), (2, .int a1)], [.int 1, .int 0, .int a1], am_SH, (g, f))) rfl ?_
      refine am_Ev.call hcd (a := 176) (s0 := (0, [(0, .int a1), (1, .int 0), (2, .int 1)], [], am_SH, (g, f))) (q := ((some (.int (am_b (m_isIn a1 0 1)))), am_SH, (g, f))) (s1 := (13, [(0, .ref 216), (1, .int a0), (2, .int a1)], [.int (am_b (m_isIn a1 0 1))], am_SH, (g, f))) rfl rfl (m_isIn_ok (d + 3) a1 0 1 (g, f)) ?_
      rcases am_ite h with ⟨c17, h⟩ | ⟨c17, h⟩
      · refine am_Ev.f hcd (c := am_b (m_isIn a1 0 1) = 0) (s1 := (16, [(0, .ref 216), (1, .int a0), (2, .int a1)], [], am_SH, (g, f))) rfl (am_b_t c17) ?_
        refine am_Ev.go hcd 4 (s' := (20, [(0, .ref 216), (1, .int a0), (2, .int a1), (3, .int 0), (4, .int 0)], [], am_SH, (g, f))) rfl ?_
        obtain ⟨e9, he9, h⟩ := am_bind_some h
        have hK4 : (fun (e9 : Int32 × (Nat → Nat → Int32)) => am_Ev sc (d + 4) 268 (38, [(0, .ref 216), (2, .int a1), (3, .int e9.1)], [], am_SH, (g, e9.2)) ((some (.int r.1)), am_SH, (g, r.2))) e9 := by
          show am_Ev sc (d + 4) 268 (38, [(0, .ref 216), (2, .int a1), (3, .int e9.1)], [], am_SH, (g, e9.2)) ((some (.int r.1)), am_SH, (g, r.2))
          refine am_Ev.go hcd 2 (s' := (40, [(0, .ref 216), (2, .int a1), (3, .int e9.1)], [.int 2, .int e9.1], am_SH, (g, e9.2))) rfl ?_
          rcases am_ite h with ⟨c23, h⟩ | ⟨c23, h⟩
          · refine am_Ev.t hcd (c := e9.1 < 2) (s1 := (41, [(0, .ref 216), (2, .int a1), (3, .int e9.1)], [], am_SH, (g, e9.2))) rfl c23 ?_
            refine am_Ev.go hcd 2 (s' := (43, [(0, .ref 216), (2, .int a1), (3, .int e9.1)], [.int 1, .int e9.1], am_SH, (g, e9.2))) rfl ?_
            rcases am_ite h with ⟨c26, h⟩ | ⟨c26, h⟩
            · refine am_Ev.t hcd (c := e9.1 = 1) (s1 := (44, [(0, .ref 216), (2, .int a1), (3, .int e9.1)], [], am_SH, (g, e9.2))) rfl c26 ?_
              refine am_Ev.go hcd 1 (s' := (45, [(0, .ref 216), (2, .int a1), (3, .int e9.1)], [.int a1], am_SH, (g, e9.2))) rfl ?_
              rcases am_ite h with ⟨c29, h⟩ | ⟨c29, h⟩
              · refine am_Ev.t hcd (c := a1 = 0) (s1 := (46, [(0, .ref 216), (2, .int a1), (3, .int e9.1)], [], am_SH, (g, e9.2))) rfl c29 ?_
                refine am_Ev.go hcd 2 (s' := (49, [(0, .ref 216), (2, .int a1), (3, .int e9.1)], [.int 0], am_SH, (g, e9.2))) rfl ?_
                exact am_Ev.cast (a := ((some (.int (0, e9.2).1)), am_SH, (g, (0, e9.2).2))) (by cases h; rfl) (am_Ev.ret hcd rfl)
              · refine am_Ev.f hcd (c := a1 = 0) (s1 := (48, [(0, .ref 216), (2, .int a1), (3, .int e9.1)], [], am_SH, (g, e9.2))) rfl c29 ?_
                refine am_Ev.go hcd 1 (s' := (49, [(0, .ref 216), (2, .int a1), (3, .int e9.1)], [.int (-1)], am_SH, (g, e9.2))) rfl ?_
                exact am_Ev.cast (a := ((some (.int ((-1), e9.2).1)), am_SH, (g, ((-1), e9.2).2))) (by cases h; rfl) (am_Ev.ret hcd rfl)
            · refine am_Ev.f hcd (c := e9.1 = 1) (s1 := (48, [(0, .ref 216), (2, .int a1), (3, .int e9.1)], [], am_SH, (g, e9.2))) rfl c26 ?_
              refine am_Ev.go hcd 1 (s' := (49, [(0, .ref 216), (2, .int a1), (3, .int e9.1)], [.int (-1)], am_SH, (g, e9.2))) rfl ?_
              exact am_Ev.cast (a := ((some (.int ((-1), e9.2).1)), am_SH, (g, ((-1), e9.2).2))) (by cases h; rfl) (am_Ev.ret hcd rfl)
          · refine am_Ev.f hcd (c := e9.1 < 2) (s1 := (50, [(0, .ref 216), (2, .int a1), (3, .int e9.1)], [], am_SH, (g, e9.2))) rfl c23 ?_
            refine am_Ev.go hcd 2 (s' := (52, [(0, .ref 216), (2, .int a1), (3, .int e9.1), (4, .int 1)], [], am_SH, (g, e9.2))) rfl ?_
            obtain ⟨e17, he17, h⟩ := am_bind_some h
            have hK10 : (fun (e17 : (Nat → Nat → Int32)) => am_Ev sc (d + 4) 268 (77, [(0, .ref 216), (2, .int a1), (3, .int e9.1)], [], am_SH, (g, e17)) ((some (.int r.1)), am_SH, (g, r.2))) e17 := by
              show am_Ev sc (d + 4) 268 (77, [(0, .ref 216), (2, .int a1), (3, .int e9.1)], [], am_SH, (g, e17)) ((some (.int r.1)), am_SH, (g, r.2))
              refine am_Ev.go hcd 1 (s' := (78, [(0, .ref 216), (2, .int a1), (3, .int e9.1)], [.int a1], am_SH, (g, e17))) rfl ?_
              rcases am_ite h with ⟨c45, h⟩ | ⟨c45, h⟩
              · refine am_Ev.t hcd (c := a1 = 0) (s1 := (79, [(0, .ref 216), (2, .int a1), (3, .int e9.1)], [], am_SH, (g, e17))) rfl c45 ?_
                refine am_Ev.go hcd 7 (s' := (86, [(0, .ref 216), (2, .int a1), (3, .int e9.1)], [.int ((1 <<< (e9.1 &&& 31)) - 1), .ref 228], am_SH, (g, e17))) rfl ?_
                obtain ⟨c48, h⟩ := am_grd h
                refine am_Ev.t hcd (o := none) (c := am_in ((1 <<< (e9.1 &&& 31)) - 1) 256 = true) (s1 := (87, [(0, .ref 216), (2, .int a1), (3, .int e9.1)], [.int (e17 228 ((1 <<< (e9.1 &&& 31)) - 1).toNatClampNeg)], am_SH, (g, e17))) rfl c48 ?_
                refine am_Ev.go hcd 1 (s' := (96, [(0, .ref 216), (2, .int a1), (3, .int e9.1)], [.int (e17 228 ((1 <<< (e9.1 &&& 31)) - 1).toNatClampNeg)], am_SH, (g, e17))) rfl ?_
                exact am_Ev.cast (a := ((some (.int (e17 228 ((1 <<< (e9.1 &&& 31)) - 1).toNatClampNeg, e17).1)), am_SH, (g, (e17 228 ((1 <<< (e9.1 &&& 31)) - 1).toNatClampNeg, e17).2))) (by cases h; rfl) (am_Ev.ret hcd rfl)
              · refine am_Ev.f hcd (c := a1 = 0) (s1 := (88, [(0, .ref 216), (2, .int a1), (3, .int e9.1)], [], am_SH, (g, e17))) rfl c45 ?_
                refine am_Ev.go hcd 7 (s' := (95, [(0, .ref 216), (2, .int a1), (3, .int e9.1)], [.int e9.1, .int ((1 <<< (e9.1 &&& 31)) - 1), .ref 216], am_SH, (g, e17))) rfl ?_
                obtain ⟨p18, hp18, h⟩ := am_bind_some h
                refine am_Ev.call hcd (a := 267) (s0 := (0, [(0, .ref 216), (1, .int ((1 <<< (e9.1 &&& 31)) - 1)), (2, .int e9.1)], [], am_SH, (g, e17))) (q := ((some (.int p18.1)), am_SH, (g, p18.2))) (s1 := (96, [(0, .ref 216), (2, .int a1), (3, .int e9.1)], [.int p18.1], am_SH, (g, p18.2))) rfl rfl (m_bestWord_ok (d) ((1 <<< (e9.1 &&& 31)) - 1) e9.1 e17 g p18 hp18) ?_
                exact am_Ev.cast (a := ((some (.int (p18.1, p18.2).1)), am_SH, (g, (p18.1, p18.2).2))) (by cases h; rfl) (am_Ev.ret hcd rfl)
            refine am_Ev.weak' (am_loop_ok (G := fun (s10 : Int32 × (Nat → Nat → Int32)) => am_Ev sc (d + 4) 268 (52, [(0, .ref 216), (2, .int a1), (3, .int e9.1), (4, .int s10.1)], [], am_SH, (g, s10.2)) ((some (.int r.1)), am_SH, (g, r.2))) (Z := fun (e17 : (Nat → Nat → Int32)) => am_Ev sc (d + 4) 268 (77, [(0, .ref 216), (2, .int a1), (3, .int e9.1)], [], am_SH, (g, e17)) ((some (.int r.1)), am_SH, (g, r.2))) ?_ am_F (1, e9.2) e17 he17 hK10) (am_sub_cons rfl (am_sub_cons rfl (am_sub_cons rfl (am_sub_cons rfl am_sub_nil)))) rfl
            intro s10 q10 h hI10 hZ10
            show am_Ev sc (d + 4) 268 (52, [(0, .ref 216), (2, .int a1), (3, .int e9.1), (4, .int s10.1)], [], am_SH, (g, s10.2)) ((some (.int r.1)), am_SH, (g, r.2))
            refine am_Ev.go hcd 4 (s' := (56, [(0, .ref 216), (2, .int a1), (3, .int e9.1), (4, .int s10.1)], [.int (1 <<< (e9.1 &&& 31)), .int s10.1], am_SH, (g, s10.2))) rfl ?_
            rcases am_ite h with ⟨c61, h⟩ | ⟨c61, h⟩
            · refine am_Ev.t hcd (c := s10.1 < (1 <<< (e9.1 &&& 31))) (s1 := (57, [(0, .ref 216), (2, .int a1), (3, .int e9.1), (4, .int s10.1)], [], am_SH, (g, s10.2))) rfl c61 ?_
              refine am_Ev.go hcd 4 (s' := (61, [(0, .ref 216), (2, .int a1), (3, .int e9.1), (4, .int s10.1)], [.int s10.1, .int s10.1, .ref 228], am_SH, (g, s10.2))) rfl ?_
              obtain ⟨p11, hp11, h⟩ := am_bind_some h
              refine am_Ev.call hcd (a := 179) (s0 := (0, [(0, .int s10.1)], [], am_SH, (g, s10.2))) (q := ((some (.int p11)), am_SH, (g, s10.2))) (s1 := (62, [(0, .ref 216), (2, .int a1), (3, .int e9.1), (4, .int s10.1)], [.int p11, .int s10.1, .ref 228], am_SH, (g, s10.2))) rfl rfl (m_bitsOf_ok (d + 3) s10.1 (g, s10.2) p11 hp11) ?_
              obtain ⟨t14, ht14, kt14⟩ := am_bind_some h
              have hKt14 : am_Ev sc (d + 4) 268 (74, [(0, .ref 216), (2, .int a1), (3, .int e9.1), (4, .int s10.1)], [.int t14.1, .int s10.1, .ref 228], am_SH, (g, t14.2)) ((some (.int r.1)), am_SH, (g, r.2)) := by
                have h := kt14
                obtain ⟨c70, h⟩ := am_grd h
                obtain ⟨f15, Ef15, h⟩ := am_let_eq h
                refine am_Ev.t hcd (o := none) (c := am_in s10.1 256 = true) (s1 := (75, [(0, .ref 216), (2, .int a1), (3, .int e9.1), (4, .int s10.1)], [], am_SH, (g, f15))) (by subst Ef15; exact rfl) c70 ?_
                obtain ⟨t16, Et16, h⟩ := am_let_eq h
                refine am_Ev.go hcd 1 (s' := (76, [(0, .ref 216), (2, .int a1), (3, .int e9.1), (4, .int t16)], [], am_SH, (g, f15))) (by subst Et16; exact rfl) ?_
                refine am_Ev.go hcd 1 (s' := (52, [(0, .ref 216), (2, .int a1), (3, .int e9.1), (4, .int t16)], [], am_SH, (g, f15))) rfl ?_
                exact am_Ev.weak' (hI10 (t16, f15) (Option.some.inj h).symm) (am_sub_cons rfl (am_sub_cons rfl (am_sub_cons rfl (am_sub_cons rfl am_sub_nil)))) rfl
              have hLt14 : ∀ tt, tt = t14 → am_Ev sc (d + 4) 268 (74, [(0, .ref 216), (2, .int a1), (3, .int e9.1), (4, .int s10.1)], [.int tt.1, .int s10.1, .ref 228], am_SH, (g, tt.2)) ((some (.int r.1)), am_SH, (g, r.2)) := fun tt htt => by subst htt; exact hKt14
              have h := ht14
              refine am_Ev.go hcd 1 (s' := (63, [(0, .ref 216), (2, .int a1), (3, .int e9.1), (4, .int s10.1)], [.int 1, .int p11, .int s10.1, .ref 228], am_SH, (g, s10.2))) rfl ?_
              rcases am_ite h with ⟨c79, h⟩ | ⟨c79, h⟩
              · refine am_Ev.t hcd (c := p11 = 1) (s1 := (64, [(0, .ref 216), (2, .int a1), (3, .int e9.1), (4, .int s10.1)], [.int s10.1, .ref 228], am_SH, (g, s10.2))) rfl c79 ?_
                refine am_Ev.go hcd 2 (s' := (74, [(0, .ref 216), (2, .int a1), (3, .int e9.1), (4, .int s10.1)], [.int 0, .int s10.1, .ref 228], am_SH, (g, s10.2))) rfl ?_
                exact am_Ev.weak' (hLt14 (0, s10.2) (Option.some.inj h)) (am_sub_cons rfl (am_sub_cons rfl (am_sub_cons rfl (am_sub_cons rfl am_sub_nil)))) rfl
              · refine am_Ev.f hcd (c := p11 = 1) (s1 := (66, [(0, .ref 216), (2, .int a1), (3, .int e9.1), (4, .int s10.1)], [.int s10.1, .ref 228], am_SH, (g, s10.2))) rfl c79 ?_
                refine am_Ev.go hcd 6 (s' := (72, [(0, .ref 216), (2, .int a1), (3, .int e9.1), (4, .int s10.1)], [.int e9.1, .int s10.1, .ref 216, .int e9.1, .int s10.1, .ref 216, .int s10.1, .ref 228], am_SH, (g, s10.2))) rfl ?_
                obtain ⟨p12, hp12, h⟩ := am_bind_some h
                refine am_Ev.call hcd (a := 267) (s0 := (0, [(0, .ref 216), (1, .int s10.1), (2, .int e9.1)], [], am_SH, (g, s10.2))) (q := ((some (.int p12.1)), am_SH, (g, p12.2))) (s1 := (73, [(0, .ref 216), (2, .int a1), (3, .int e9.1), (4, .int s10.1)], [.int p12.1, .int e9.1, .int s10.1, .ref 216, .int s10.1, .ref 228], am_SH, (g, p12.2))) rfl rfl (m_bestWord_ok (d) s10.1 e9.1 s10.2 g p12 hp12) ?_
                obtain ⟨p13, hp13, h⟩ := am_bind_some h
                refine am_Ev.call hcd (a := 266) (s0 := (0, [(0, .ref 216), (1, .int s10.1), (2, .int e9.1), (3, .int p12.1)], [], am_SH, (g, p12.2))) (q := ((some (.int p13.1)), am_SH, (g, p13.2))) (s1 := (74, [(0, .ref 216), (2, .int a1), (3, .int e9.1), (4, .int s10.1)], [.int p13.1, .int s10.1, .ref 228], am_SH, (g, p13.2))) rfl rfl (m_wordsBy_ok (d + 1) s10.1 e9.1 p12.1 p12.2 g p13 hp13) ?_
                exact am_Ev.weak' (hLt14 (p13.1, p13.2) (Option.some.inj h)) (am_sub_cons rfl (am_sub_cons rfl (am_sub_cons rfl (am_sub_cons rfl am_sub_nil)))) rfl
            · refine am_Ev.f hcd (c := s10.1 < (1 <<< (e9.1 &&& 31))) (s1 := (77, [(0, .ref 216), (2, .int a1), (3, .int e9.1), (4, .int s10.1)], [], am_SH, (g, s10.2))) rfl c61 ?_
              exact am_Ev.weak' (hZ10 s10.2 (Option.some.inj h).symm) (am_sub_cons rfl (am_sub_cons rfl (am_sub_cons rfl am_sub_nil))) rfl
        refine am_Ev.weak' (am_loop_ok (G := fun (s4 : Int32 × Int32 × (Nat → Nat → Int32)) => am_Ev sc (d + 4) 268 (20, [(0, .ref 216), (1, .int a0), (2, .int a1), (3, .int s4.1), (4, .int s4.2.1)], [], am_SH, (g, s4.2.2)) ((some (.int r.1)), am_SH, (g, r.2))) (Z := fun (e9 : Int32 × (Nat → Nat → Int32)) => am_Ev sc (d + 4) 268 (38, [(0, .ref 216), (2, .int a1), (3, .int e9.1)], [], am_SH, (g, e9.2)) ((some (.int r.1)), am_SH, (g, r.2))) ?_ am_F (0, 0, f) e9 he9 hK4) (am_sub_cons rfl (am_sub_cons rfl (am_sub_cons rfl (am_sub_cons rfl (am_sub_cons rfl am_sub_nil))))) rfl
        intro s4 q4 h hI4 hZ4
        show am_Ev sc (d + 4) 268 (20, [(0, .ref 216), (1, .int a0), (2, .int a1), (3, .int s4.1), (4, .int s4.2.1)], [], am_SH, (g, s4.2.2)) ((some (.int r.1)), am_SH, (g, r.2))
        refine am_Ev.go hcd 2 (s' := (22, [(0, .ref 216), (1, .int a0), (2, .int a1), (3, .int s4.1), (4, .int s4.2.1)], [.int 16, .int s4.2.1], am_SH, (g, s4.2.2))) rfl ?_
        rcases am_ite h with ⟨c96, h⟩ | ⟨c96, h⟩
        · refine am_Ev.t hcd (c := s4.2.1 < 16) (s1 := (23, [(0, .ref 216), (1, .int a0), (2, .int a1), (3, .int s4.1), (4, .int s4.2.1)], [], am_SH, (g, s4.2.2))) rfl c96 ?_
          obtain ⟨t7, ht7, kt7⟩ := am_bind_some h
          have hKt7 : am_Ev sc (d + 4) 268 (36, [(0, .ref 216), (1, .int a0), (2, .int a1), (3, .int t7.1), (4, .int s4.2.1)], [], am_SH, (g, t7.2)) ((some (.int r.1)), am_SH, (g, r.2)) := by
            have h := kt7
            obtain ⟨t8, Et8, h⟩ := am_let_eq h
            refine am_Ev.go hcd 1 (s' := (37, [(0, .ref 216), (1, .int a0), (2, .int a1), (3, .int t7.1), (4, .int t8)], [], am_SH, (g, t7.2))) (by subst Et8; exact rfl) ?_
            refine am_Ev.go hcd 1 (s' := (20, [(0, .ref 216), (1, .int a0), (2, .int a1), (3, .int t7.1), (4, .int t8)], [], am_SH, (g, t7.2))) rfl ?_
            exact am_Ev.weak' (hI4 (t7.1, t8, t7.2) (Option.some.inj h).symm) (am_sub_cons rfl (am_sub_cons rfl (am_sub_cons rfl (am_sub_cons rfl (am_sub_cons rfl am_sub_nil))))) rfl
          have hLt7 : ∀ tt, tt = t7 → am_Ev sc (d + 4) 268 (36, [(0, .ref 216), (1, .int a0), (2, .int a1), (3, .int tt.1), (4, .int s4.2.1)], [], am_SH, (g, tt.2)) ((some (.int r.1)), am_SH, (g, r.2)) := fun tt htt => by subst htt; exact hKt7
          have h := ht7
          refine am_Ev.go hcd 5 (s' := (28, [(0, .ref 216), (1, .int a0), (2, .int a1), (3, .int s4.1), (4, .int s4.2.1)], [.int ((a0 >>> (s4.2.1 &&& 31)) &&& 1)], am_SH, (g, s4.2.2))) rfl ?_
          rcases am_ite h with ⟨c108, h⟩ | ⟨c108, h⟩
          · refine am_Ev.t hcd (c := ((a0 >>> (s4.2.1 &&& 31)) &&& 1) = 0) (s1 := (29, [(0, .ref 216), (1, .int a0), (2, .int a1), (3, .int s4.1), (4, .int s4.2.1)], [], am_SH, (g, s4.2.2))) rfl c108 ?_
            refine am_Ev.go hcd 1 (s' := (36, [(0, .ref 216), (1, .int a0), (2, .int a1), (3, .int s4.1), (4, .int s4.2.1)], [], am_SH, (g, s4.2.2))) rfl ?_
            exact am_Ev.weak' (hLt7 (s4.1, s4.2.2) (Option.some.inj h)) (am_sub_cons rfl (am_sub_cons rfl (am_sub_cons rfl (am_sub_cons rfl (am_sub_cons rfl am_sub_nil))))) rfl
          · refine am_Ev.f hcd (c := ((a0 >>> (s4.2.1 &&& 31)) &&& 1) = 0) (s1 := (30, [(0, .ref 216), (1, .int a0), (2, .int a1), (3, .int s4.1), (4, .int s4.2.1)], [], am_SH, (g, s4.2.2))) rfl c108 ?_
            refine am_Ev.go hcd 4 (s' := (34, [(0, .ref 216), (1, .int a0), (2, .int a1), (3, .int s4.1), (4, .int s4.2.1)], [.int s4.2.1, .int s4.1, .ref 227], am_SH, (g, s4.2.2))) rfl ?_
            obtain ⟨c114, h⟩ := am_grd h
            obtain ⟨f5, Ef5, h⟩ := am_let_eq h
            refine am_Ev.t hcd (o := none) (c := am_in s4.1 8 = true) (s1 := (35, [(0, .ref 216), (1, .int a0), (2, .int a1), (3, .int s4.1), (4, .int s4.2.1)], [], am_SH, (g, f5))) (by subst Ef5; exact rfl) c114 ?_
            obtain ⟨t6, Et6, h⟩ := am_let_eq h
            refine am_Ev.go hcd 1 (s' := (36, [(0, .ref 216), (1, .int a0), (2, .int a1), (3, .int t6), (4, .int s4.2.1)], [], am_SH, (g, f5))) (by subst Et6; exact rfl) ?_
            exact am_Ev.weak' (hLt7 (t6, f5) (Option.some.inj h)) (am_sub_cons rfl (am_sub_cons rfl (am_sub_cons rfl (am_sub_cons rfl (am_sub_cons rfl am_sub_nil))))) rfl
        · refine am_Ev.f hcd (c := s4.2.1 < 16) (s1 := (38, [(0, .ref 216), (1, .int a0), (2, .int a1), (3, .int s4.1), (4, .int s4.2.1)], [], am_SH, (g, s4.2.2))) rfl c96 ?_
          exact am_Ev.weak' (hZ4 (s4.1, s4.2.2) (Option.some.inj h).symm) (am_sub_cons rfl (am_sub_cons rfl (am_sub_cons rfl am_sub_nil))) rfl
      · refine am_Ev.t hcd (c := am_b (m_isIn a1 0 1) = 0) (s1 := (14, [(0, .ref 216), (1, .int a0), (2, .int a1)], [], am_SH, (g, f))) rfl (am_b_f c17) ?_
        refine am_Ev.go hcd 1 (s' := (15, [(0, .ref 216), (1, .int a0), (2, .int a1)], [.int (-1)], am_SH, (g, f))) rfl ?_
        exact am_Ev.cast (a := ((some (.int ((-1), f).1)), am_SH, (g, ((-1), f).2))) (by cases h; rfl) (am_Ev.ret hcd rfl)
  · refine am_Ev.t hcd (c := am_b (m_isIn a0 0 65535) = 0) (s1 := (14, [(0, .ref 216), (1, .int a0), (2, .int a1)], [], am_SH, (g, f))) rfl (am_b_f c4) ?_
    refine am_Ev.go hcd 1 (s' := (15, [(0, .ref 216), (1, .int a0), (2, .int a1)], [.int (-1)], am_SH, (g, f))) rfl ?_
    exact am_Ev.cast (a := ((some (.int ((-1), f).1)), am_SH, (g, ((-1), f).2))) (by cases h; rfl) (am_Ev.ret hcd rfl)
set_option maxRecDepth 100000 in
set_option maxHeartbeats 4000000 in
theorem m_world_ok {sc : Nat × (Nat → Int32)} (d : Nat) (a0 : Int32) (a1 : Int32) (f g : (Nat → Nat → Int32)) (r : Int32 × (Nat → Nat → Int32)) (h : m_world a0 a1 f = some r) : am_Ev sc (d + 1) 269 (0, [(0, .ref 216), (1, .int a0), (2, .int a1)], [], am_SH, (g, f)) ((some (.int r.1)), am_SH, (g, r.2)) := by
  have hcd : am_code 269 = am_c269 := rfl
  unfold m_world at h
  refine am_Ev.go hcd 2 (s' := (2, [(0, .ref 216), (1, .int a0), (2, .int a1)], [.int (-1), .int a0], am_SH, (g, f))) rfl ?_
  rcases am_ite h with ⟨c2, h⟩ | ⟨c2, h⟩
  · refine am_Ev.t hcd (c := a0 = (-1)) (s1 := (3, [(0, .ref 216), (1, .int a0), (2, .int a1)], [], am_SH, (g, f))) rfl c2 ?_
    refine am_Ev.go hcd 2 (s' := (5, [(0, .ref 216), (1, .int a0), (2, .int a1)], [.int 424, .ref 216], am_SH, (g, f))) rfl ?_
    obtain ⟨p1, hp1, h⟩ := am_bind_some h
    refine am_Ev.call hcd (a := 262) (s0 := (0, [(0, .ref 216), (1, .int 424)], [], am_SH, (g, f))) (q := ((some (.int p1.1)), am_SH, (g, p1.2))) (s1 := (6, [(0, .ref 216), (1, .int a0), (2, .int a1)], [.int p1.1], am_SH, (g, p1.2))) rfl rfl (m_endsRow_ok (d) 424 f g p1 hp1) ?_
    refine am_Ev.go hcd 1 (s' := (25, [(0, .ref 216), (1, .int a0), (2, .int a1)], [.int p1.1], am_SH, (g, p1.2))) rfl ?_
    exact am_Ev.cast (a := ((some (.int (p1.1, p1.2).1)), am_SH, (g, (p1.1, p1.2).2))) (by cases h; rfl) (am_Ev.ret hcd rfl)
  · refine am_Ev.f hcd (c := a0 = (-1)) (s1 := (7, [(0, .ref 216), (1, .int a0), (2, .int a1)], [], am_SH, (g, f))) rfl c2 ?_
    refine am_Ev.go hcd 3 (s' := (10, [(0, .ref 216), (1, .int a0), (2, .int a1)], [.int 9, .int 1, .int a0], am_SH, (g, f))) rfl ?_
    refine am_Ev.call hcd (a := 176) (s0 := (0, [(0, .int a0), (1, .int 1), (2, .int 9)], [], am_SH, (g, f))) (q := ((some (.int (am_b (m_isIn a0 1 9)))), am_SH, (g, f))) (s1 := (11, [(0, .ref 216), (1, .int a0), (2, .int a1)], [.int (am_b (m_isIn a0 1 9))], am_SH, (g, f))) rfl rfl (m_isIn_ok (d) a0 1 9 (g, f)) ?_
    rcases am_ite h with ⟨c13, h⟩ | ⟨c13, h⟩
    · refine am_Ev.f hcd (c := am_b (m_isIn a0 1 9) = 0) (s1 := (12, [(0, .ref 216), (1, .int a0), (2, .int a1)], [], am_SH, (g, f))) rfl (am_b_t c13) ?_
      refine am_Ev.go hcd 3 (s' := (15, [(0, .ref 216), (1, .int a0), (2, .int a1)], [.int 255, .int 0, .int a1], am_SH, (g, f))) rfl ?_
      refine am_Ev.call hcd (a := 176) (s0 := (0, [(0, .int a1), (1, .int 0), (2, .int 255)], [], am_SH, (g, f))) (q := ((some (.int (am_b (m_isIn a1 0 255)))), am_SH, (g, f))) (s1 := (16, [(0, .ref 216), (1, .int a0), (2, .int a1)], [.int (am_b (m_isIn a1 0 255))], am_SH, (g, f))) rfl rfl (m_isIn_ok (d) a1 0 255 (g, f)) ?_
      rcases am_ite h with ⟨c17, h⟩ | ⟨c17, h⟩
      · refine am_Ev.f hcd (c := am_b (m_isIn a1 0 255) = 0) (s1 := (17, [(0, .ref 216), (1, .int a0), (2, .int a1)], [], am_SH, (g, f))) rfl (am_b_t c17) ?_
        refine am_Ev.go hcd 5 (s' := (22, [(0, .ref 216), (1, .int a0), (2, .int a1)], [.int a1, .int a0, .int 6, .int 424, .ref 216], am_SH, (g, f))) rfl ?_
        obtain ⟨p4, hp4, h⟩ := am_bind_some h
        refine am_Ev.call hcd (a := 261) (s0 := (0, [(0, .ref 216), (1, .int 424), (2, .int 6), (3, .int a0), (4, .int a1)], [], am_SH, (g, f))) (q := ((some (.int p4.1)), am_SH, (g, p4.2))) (s1 := (23, [(0, .ref 216), (1, .int a0), (2, .int a1)], [.int p4.1], am_SH, (g, p4.2))) rfl rfl (m_tellsTwo_ok (d) 424 6 a0 a1 f g p4 hp4) ?_
        refine am_Ev.go hcd 1 (s' := (25, [(0, .ref 216), (1, .int a0), (2, .int a1)], [.int p4.1], am_SH, (g, p4.2))) rfl ?_
        exact am_Ev.cast (a := ((some (.int (p4.1, p4.2).1)), am_SH, (g, (p4.1, p4.2).2))) (by cases h; rfl) (am_Ev.ret hcd rfl)
      · refine am_Ev.t hcd (c := am_b (m_isIn a1 0 255) = 0) (s1 := (24, [(0, .ref 216), (1, .int a0), (2, .int a1)], [], am_SH, (g, f))) rfl (am_b_f c17) ?_
        refine am_Ev.go hcd 1 (s' := (25, [(0, .ref 216), (1, .int a0), (2, .int a1)], [.int (-1)], am_SH, (g, f))) rfl ?_
        exact am_Ev.cast (a := ((some (.int ((-1), f).1)), am_SH, (g, ((-1), f).2))) (by cases h; rfl) (am_Ev.ret hcd rfl)
    · refine am_Ev.t hcd (c := am_b (m_isIn a0 1 9) = 0) (s1 := (24, [(0, .ref 216), (1, .int a0), (2, .int a1)], [], am_SH, (g, f))) rfl (am_b_f c13) ?_
      refine am_Ev.go hcd 1 (s' := (25, [(0, .ref 216), (1, .int a0), (2, .int a1)], [.int (-1)], am_SH, (g, f))) rfl ?_
      exact am_Ev.cast (a := ((some (.int ((-1), f).1)), am_SH, (g, ((-1), f).2))) (by cases h; rfl) (am_Ev.ret hcd rfl)
set_option maxRecDepth 100000 in
set_option maxHeartbeats 4000000 in
theorem m_likely_ok {sc : Nat × (Nat → Int32)} (d : Nat) (a0 : Int32) (a1 : Int32) (a2 : Int32) (f g : (Nat → Nat → Int32)) (r : Int32) (h : m_likely a0 a1 a2 f = some r) : am_Ev sc (d) 270 (0, [(0, .ref 216), (1, .int a0), (2, .int a1), (3, .int a2)], [], am_SH, (g, f)) ((some (.int r)), am_SH, (g, f)) := by
  have hcd : am_code 270 = am_c270 := rfl
  unfold m_likely at h
  refine am_Ev.go hcd 7 (s' := (7, [(0, .ref 216), (1, .int a0), (2, .int a1), (3, .int a2)], [.int (425 + (2 * a0)), .ref 217], am_SH, (g, f))) rfl ?_
  obtain ⟨c2, h⟩ := am_grd h
  refine am_Ev.t hcd (o := none) (c := am_in (425 + (2 * a0)) 2008 = true) (s1 := (8, [(0, .ref 216), (1, .int a0), (2, .int a1), (3, .int a2)], [.int (f 217 (425 + (2 * a0)).toNatClampNeg)], am_SH, (g, f))) rfl c2 ?_
  obtain ⟨t1, Et1, h⟩ := am_let_eq h
  refine am_Ev.go hcd 1 (s' := (9, [(0, .ref 216), (1, .int a0), (2, .int a1), (3, .int a2), (4, .int t1)], [], am_SH, (g, f))) (by subst Et1; exact rfl) ?_
  refine am_Ev.go hcd 7 (s' := (16, [(0, .ref 216), (1, .int a0), (2, .int a1), (3, .int a2), (4, .int t1)], [.int (426 + (2 * a0)), .ref 217], am_SH, (g, f))) rfl ?_
  obtain ⟨c7, h⟩ := am_grd h
  refine am_Ev.t hcd (o := none) (c := am_in (426 + (2 * a0)) 2008 = true) (s1 := (17, [(0, .ref 216), (1, .int a0), (2, .int a1), (3, .int a2), (4, .int t1)], [.int (f 217 (426 + (2 * a0)).toNatClampNeg)], am_SH, (g, f))) rfl c7 ?_
  obtain ⟨t2, Et2, h⟩ := am_let_eq h
  refine am_Ev.go hcd 3 (s' := (20, [(0, .ref 216), (1, .int a0), (2, .int a1), (3, .int a2), (4, .int t1), (5, .int t2)], [], am_SH, (g, f))) (by subst Et2; exact rfl) ?_
  refine am_Ev.go hcd 2 (s' := (22, [(0, .ref 216), (1, .int a0), (2, .int a1), (3, .int a2), (4, .int t1), (5, .int t2), (6, .int 0)], [], am_SH, (g, f))) rfl ?_
  refine am_Ev.weak' (am_loop_ok (G := fun (s3 : Int32 × Int32) => am_Ev sc (d) 270 (22, [(2, .int a1), (4, .int s3.1), (5, .int t2), (6, .int s3.2)], [], am_SH, (g, f)) ((some (.int r)), am_SH, (g, f))) (Z := fun (v : Int32) => (((some (.int v)), am_SH, (g, f)) : am_R) = ((some (.int r)), am_SH, (g, f))) ?_ am_F (t1, 0) r h rfl) (am_sub_cons rfl (am_sub_cons rfl (am_sub_cons rfl (am_sub_cons rfl am_sub_nil)))) rfl
  intro s3 q3 h hI3 hZ3
  show am_Ev sc (d) 270 (22, [(2, .int a1), (4, .int s3.1), (5, .int t2), (6, .int s3.2)], [], am_SH, (g, f)) ((some (.int r)), am_SH, (g, f))
  refine am_Ev.go hcd 2 (s' := (24, [(2, .int a1), (4, .int s3.1), (5, .int t2), (6, .int s3.2)], [.int 8, .int s3.2], am_SH, (g, f))) rfl ?_
  rcases am_ite h with ⟨c16, h⟩ | ⟨c16, h⟩
  · refine am_Ev.t hcd (c := s3.2 < 8) (s1 := (25, [(2, .int a1), (4, .int s3.1), (5, .int t2), (6, .int s3.2)], [], am_SH, (g, f))) rfl c16 ?_
    obtain ⟨t4, ht4, kt4⟩ := am_let_eq h
    have hKt4 : am_Ev sc (d) 270 (38, [(2, .int a1), (5, .int t2), (6, .int s3.2)], [.int t4, .int s3.1], am_SH, (g, f)) ((some (.int r)), am_SH, (g, f)) := by
      have h := kt4
      obtain ⟨t5, Et5, h⟩ := am_let_eq h
      refine am_Ev.go hcd 2 (s' := (40, [(2, .int a1), (4, .int t5), (5, .int t2), (6, .int s3.2)], [], am_SH, (g, f))) (by subst Et5; exact rfl) ?_
      obtain ⟨t6, Et6, h⟩ := am_let_eq h
      refine am_Ev.go hcd 1 (s' := (41, [(2, .int a1), (4, .int t5), (5, .int t2), (6, .int t6)], [], am_SH, (g, f))) (by subst Et6; exact rfl) ?_
      refine am_Ev.go hcd 1 (s' := (22, [(2, .int a1), (4, .int t5), (5, .int t2), (6, .int t6)], [], am_SH, (g, f))) rfl ?_
      exact am_Ev.weak' (hI3 (t5, t6) (Option.some.inj h).symm) (am_sub_cons rfl (am_sub_cons rfl (am_sub_cons rfl (am_sub_cons rfl am_sub_nil)))) rfl
    have hLt4 : ∀ tt, tt = t4 → am_Ev sc (d) 270 (38, [(2, .int a1), (5, .int t2), (6, .int s3.2)], [.int tt, .int s3.1], am_SH, (g, f)) ((some (.int r)), am_SH, (g, f)) := fun tt htt => by subst htt; exact hKt4
    have h := ht4
    refine am_Ev.go hcd 7 (s' := (32, [(2, .int a1), (4, .int s3.1), (5, .int t2), (6, .int s3.2)], [.int 1, .int ((t2 >>> (s3.2 &&& 31)) &&& 1), .int s3.1], am_SH, (g, f))) rfl ?_
    rcases am_itv h with ⟨c30, h⟩ | ⟨c30, h⟩
    · refine am_Ev.t hcd (c := ((t2 >>> (s3.2 &&& 31)) &&& 1) = 1) (s1 := (33, [(2, .int a1), (4, .int s3.1), (5, .int t2), (6, .int s3.2)], [.int s3.1], am_SH, (g, f))) rfl c30 ?_
      refine am_Ev.go hcd 2 (s' := (38, [(2, .int a1), (4, .int s3.1), (5, .int t2), (6, .int s3.2)], [.int 1, .int s3.1], am_SH, (g, f))) rfl ?_
      exact am_Ev.weak' (hLt4 1 h.symm) (am_sub_cons rfl (am_sub_cons rfl (am_sub_cons rfl am_sub_nil))) rfl
    · refine am_Ev.f hcd (c := ((t2 >>> (s3.2 &&& 31)) &&& 1) = 1) (s1 := (35, [(2, .int a1), (4, .int s3.1), (5, .int t2), (6, .int s3.2)], [.int s3.1], am_SH, (g, f))) rfl c30 ?_
      refine am_Ev.go hcd 3 (s' := (38, [(2, .int a1), (4, .int s3.1), (5, .int t2), (6, .int s3.2)], [.int (a1 - 1), .int s3.1], am_SH, (g, f))) rfl ?_
      exact am_Ev.weak' (hLt4 (a1 - 1) h.symm) (am_sub_cons rfl (am_sub_cons rfl (am_sub_cons rfl am_sub_nil))) rfl
  · refine am_Ev.f hcd (c := s3.2 < 8) (s1 := (42, [(2, .int a1), (4, .int s3.1), (5, .int t2), (6, .int s3.2)], [], am_SH, (g, f))) rfl c16 ?_
    refine am_Ev.go hcd 1 (s' := (43, [(2, .int a1), (4, .int s3.1), (5, .int t2), (6, .int s3.2)], [.int s3.1], am_SH, (g, f))) rfl ?_
    exact am_Ev.cast (a := ((some (.int s3.1)), am_SH, (g, f))) (hZ3 _ (Option.some.inj h).symm) (am_Ev.ret hcd rfl)
set_option maxRecDepth 100000 in
set_option maxHeartbeats 4000000 in
theorem m_common_ok {sc : Nat × (Nat → Int32)} (d : Nat) (a0 : Int32) (a1 : Int32) (hp : am_H) (r : Int32) (h : m_common a0 a1 = some r) : am_Ev sc (d) 180 (0, [(0, .int a0), (1, .int a1)], [], am_SH, hp) ((some (.int r)), am_SH, hp) := by
  have hcd : am_code 180 = am_c180 := rfl
  unfold m_common at h
  refine am_Ev.go hcd 4 (s' := (4, [(0, .int a0), (1, .int a1), (2, .int a0), (3, .int a1)], [], am_SH, hp)) rfl ?_
  refine am_Ev.weak' (am_loop_ok (G := fun (s1 : Int32 × Int32) => am_Ev sc (d) 180 (4, [(2, .int s1.1), (3, .int s1.2)], [], am_SH, hp) ((some (.int r)), am_SH, hp)) (Z := fun (v : Int32) => (((some (.int v)), am_SH, hp) : am_R) = ((some (.int r)), am_SH, hp)) ?_ am_F (a0, a1) r h rfl) (am_sub_cons rfl (am_sub_cons rfl am_sub_nil)) rfl
  intro s1 q1 h hI1 hZ1
  show am_Ev sc (d) 180 (4, [(2, .int s1.1), (3, .int s1.2)], [], am_SH, hp) ((some (.int r)), am_SH, hp)
  refine am_Ev.go hcd 1 (s' := (5, [(2, .int s1.1), (3, .int s1.2)], [.int s1.2], am_SH, hp)) rfl ?_
  rcases am_ite h with ⟨c6, h⟩ | ⟨c6, h⟩
  · refine am_Ev.t hcd (c := s1.2 = 0) (s1 := (15, [(2, .int s1.1), (3, .int s1.2)], [], am_SH, hp)) rfl c6 ?_
    refine am_Ev.go hcd 1 (s' := (16, [(2, .int s1.1), (3, .int s1.2)], [.int s1.1], am_SH, hp)) rfl ?_
    exact am_Ev.cast (a := ((some (.int s1.1)), am_SH, hp)) (hZ1 _ (Option.some.inj h).symm) (am_Ev.ret hcd rfl)
  · refine am_Ev.f hcd (c := s1.2 = 0) (s1 := (6, [(2, .int s1.1), (3, .int s1.2)], [], am_SH, hp)) rfl c6 ?_
    refine am_Ev.go hcd 2 (s' := (8, [(2, .int s1.1), (3, .int s1.2)], [.int s1.2, .int s1.1], am_SH, hp)) rfl ?_
    rcases am_ite h with ⟨c12, h⟩ | ⟨c12, h⟩
    · exact absurd h (by simp)
    · refine am_Ev.f hcd (c := s1.2 = 0) (s1 := (9, [(2, .int s1.1), (3, .int s1.2)], [.int (s1.1 - s1.1 / s1.2 * s1.2)], am_SH, hp)) rfl c12 ?_
      obtain ⟨t2, Et2, h⟩ := am_let_eq h
      refine am_Ev.go hcd 1 (s' := (10, [(2, .int s1.1), (3, .int s1.2), (4, .int t2)], [], am_SH, hp)) (by subst Et2; exact rfl) ?_
      refine am_Ev.go hcd 5 (s' := (4, [(2, .int s1.2), (3, .int t2), (4, .int t2)], [], am_SH, hp)) rfl ?_
      exact am_Ev.weak' (hI1 (s1.2, t2) (Option.some.inj h).symm) (am_sub_cons rfl (am_sub_cons rfl am_sub_nil)) rfl
set_option maxRecDepth 100000 in
set_option maxHeartbeats 4000000 in
theorem m_sure_ok {sc : Nat × (Nat → Int32)} (d : Nat) (a0 : Int32) (a1 : Int32) (a2 : Int32) (f g : (Nat → Nat → Int32)) (r : Int32) (h : m_sure a0 a1 a2 f = some r) : am_Ev sc (d + 1) 271 (0, [(0, .ref 216), (1, .int a0), (2, .int a1), (3, .int a2)], [], am_SH, (g, f)) ((some (.int r)), am_SH, (g, f)) := by
  have hcd : am_code 271 = am_c271 := rfl
  unfold m_sure at h
  obtain ⟨t1, Et1, h⟩ := am_let_eq h
  refine am_Ev.go hcd 4 (s' := (4, [(0, .ref 216), (1, .int a0), (2, .int a1), (3, .int a2), (4, .int t1)], [], am_SH, (g, f))) (by subst Et1; exact rfl) ?_
  refine am_Ev.go hcd 8 (s' := (12, [(0, .ref 216), (1, .int a0), (2, .int a1), (3, .int a2), (4, .int t1)], [.int ((f 217 424) - 1), .int 0, .int a0], am_SH, (g, f))) rfl ?_
  refine am_Ev.call hcd (a := 176) (s0 := (0, [(0, .int a0), (1, .int 0), (2, .int ((f 217 424) - 1))], [], am_SH, (g, f))) (q := ((some (.int (am_b (m_isIn a0 0 ((f 217 424) - 1))))), am_SH, (g, f))) (s1 := (13, [(0, .ref 216), (1, .int a0), (2, .int a1), (3, .int a2), (4, .int t1)], [.int (am_b (m_isIn a0 0 ((f 217 424) - 1)))], am_SH, (g, f))) rfl rfl (m_isIn_ok (d) a0 0 ((f 217 424) - 1) (g, f)) ?_
  rcases am_ite h with ⟨c6, h⟩ | ⟨c6, h⟩
  · refine am_Ev.f hcd (c := am_b (m_isIn a0 0 ((f 217 424) - 1)) = 0) (s1 := (14, [(0, .ref 216), (1, .int a0), (2, .int a1), (3, .int a2), (4, .int t1)], [], am_SH, (g, f))) rfl (am_b_t c6) ?_
    refine am_Ev.go hcd 1 (s' := (15, [(0, .ref 216), (1, .int a0), (2, .int a1), (3, .int a2), (4, .int t1)], [.int a1], am_SH, (g, f))) rfl ?_
    rcases am_ite h with ⟨c8, h⟩ | ⟨c8, h⟩
    · refine am_Ev.t hcd (c := a1 < 0) (s1 := (26, [(0, .ref 216), (1, .int a0), (2, .int a1), (3, .int a2), (4, .int t1)], [], am_SH, (g, f))) rfl c8 ?_
      refine am_Ev.go hcd 1 (s' := (27, [(0, .ref 216), (1, .int a0), (2, .int a1), (3, .int a2), (4, .int t1)], [.int (-1)], am_SH, (g, f))) rfl ?_
      exact am_Ev.cast (a := ((some (.int (-1))), am_SH, (g, f))) (by cases h; rfl) (am_Ev.ret hcd rfl)
    · refine am_Ev.f hcd (c := a1 < 0) (s1 := (16, [(0, .ref 216), (1, .int a0), (2, .int a1), (3, .int a2), (4, .int t1)], [], am_SH, (g, f))) rfl c8 ?_
      refine am_Ev.go hcd 3 (s' := (19, [(0, .ref 216), (1, .int a0), (2, .int a1), (3, .int a2), (4, .int t1)], [.int 8, .int 2, .int t1], am_SH, (g, f))) rfl ?_
      refine am_Ev.call hcd (a := 176) (s0 := (0, [(0, .int t1), (1, .int 2), (2, .int 8)], [], am_SH, (g, f))) (q := ((some (.int (am_b (m_isIn t1 2 8)))), am_SH, (g, f))) (s1 := (20, [(0, .ref 216), (1, .int a0), (2, .int a1), (3, .int a2), (4, .int t1)], [.int (am_b (m_isIn t1 2 8))], am_SH, (g, f))) rfl rfl (m_isIn_ok (d) t1 2 8 (g, f)) ?_
      rcases am_ite h with ⟨c16, h⟩ | ⟨c16, h⟩
      · refine am_Ev.f hcd (c := am_b (m_isIn t1 2 8) = 0) (s1 := (21, [(0, .ref 216), (1, .int a0), (2, .int a1), (3, .int a2), (4, .int t1)], [], am_SH, (g, f))) rfl (am_b_t c16) ?_
        refine am_Ev.go hcd 3 (s' := (24, [(0, .ref 216), (1, .int a0), (2, .int a1), (3, .int a2), (4, .int t1)], [.int 1, .int 0, .int a2], am_SH, (g, f))) rfl ?_
        refine am_Ev.call hcd (a := 176) (s0 := (0, [(0, .int a2), (1, .int 0), (2, .int 1)], [], am_SH, (g, f))) (q := ((some (.int (am_b (m_isIn a2 0 1)))), am_SH, (g, f))) (s1 := (25, [(0, .ref 216), (1, .int a0), (2, .int a1), (3, .int a2), (4, .int t1)], [.int (am_b (m_isIn a2 0 1))], am_SH, (g, f))) rfl rfl (m_isIn_ok (d) a2 0 1 (g, f)) ?_
        rcases am_ite h with ⟨c20, h⟩ | ⟨c20, h⟩
        · refine am_Ev.f hcd (c := am_b (m_isIn a2 0 1) = 0) (s1 := (28, [(0, .ref 216), (1, .int a0), (2, .int a1), (3, .int a2), (4, .int t1)], [], am_SH, (g, f))) rfl (am_b_t c20) ?_
          refine am_Ev.go hcd 4 (s' := (32, [(0, .ref 216), (1, .int a0), (2, .int a1), (3, .int a2), (4, .int t1), (5, .int 0), (6, .int 0)], [], am_SH, (g, f))) rfl ?_
          obtain ⟨e9, he9, h⟩ := am_bind_some h
          have hK5 : (fun (e9 : Int32) => am_Ev sc (d + 1) 271 (50, [(0, .ref 216), (1, .int a0), (2, .int a1), (3, .int a2), (4, .int t1), (5, .int e9)], [], am_SH, (g, f)) ((some (.int r)), am_SH, (g, f))) e9 := by
            show am_Ev sc (d + 1) 271 (50, [(0, .ref 216), (1, .int a0), (2, .int a1), (3, .int a2), (4, .int t1), (5, .int e9)], [], am_SH, (g, f)) ((some (.int r)), am_SH, (g, f))
            refine am_Ev.go hcd 6 (s' := (56, [(0, .ref 216), (1, .int a0), (2, .int a1), (3, .int a2), (4, .int t1), (5, .int e9)], [.int (a1 - a1 / 256 * 256), .int t1, .int a0, .ref 216], am_SH, (g, f))) rfl ?_
            obtain ⟨p10, hp10, h⟩ := am_bind_some h
            refine am_Ev.call hcd (a := 270) (s0 := (0, [(0, .ref 216), (1, .int a0), (2, .int t1), (3, .int (a1 - a1 / 256 * 256))], [], am_SH, (g, f))) (q := ((some (.int p10)), am_SH, (g, f))) (s1 := (57, [(0, .ref 216), (1, .int a0), (2, .int a1), (3, .int a2), (4, .int t1), (5, .int e9)], [.int p10], am_SH, (g, f))) rfl rfl (m_likely_ok (d) a0 t1 (a1 - a1 / 256 * 256) f g p10 hp10) ?_
            refine am_Ev.go hcd 3 (s' := (60, [(0, .ref 216), (1, .int a0), (2, .int a1), (3, .int a2), (4, .int t1), (5, .int e9), (6, .int p10)], [.int e9, .int p10], am_SH, (g, f))) rfl ?_
            obtain ⟨p11, hp11, h⟩ := am_bind_some h
            refine am_Ev.call hcd (a := 180) (s0 := (0, [(0, .int p10), (1, .int e9)], [], am_SH, (g, f))) (q := ((some (.int p11)), am_SH, (g, f))) (s1 := (61, [(0, .ref 216), (1, .int a0), (2, .int a1), (3, .int a2), (4, .int t1), (5, .int e9), (6, .int p10)], [.int p11], am_SH, (g, f))) rfl rfl (m_common_ok (d) p10 e9 (g, f) p11 hp11) ?_
            refine am_Ev.go hcd 2 (s' := (63, [(0, .ref 216), (1, .int a0), (2, .int a1), (3, .int a2), (4, .int t1), (5, .int e9), (6, .int p10), (7, .int p11)], [.int a2], am_SH, (g, f))) rfl ?_
            rcases am_ite h with ⟨c32, h⟩ | ⟨c32, h⟩
            · refine am_Ev.t hcd (c := a2 = 0) (s1 := (64, [(0, .ref 216), (1, .int a0), (2, .int a1), (3, .int a2), (4, .int t1), (5, .int e9), (6, .int p10), (7, .int p11)], [], am_SH, (g, f))) rfl c32 ?_
              refine am_Ev.go hcd 2 (s' := (66, [(0, .ref 216), (1, .int a0), (2, .int a1), (3, .int a2), (4, .int t1), (5, .int e9), (6, .int p10), (7, .int p11)], [.int p11, .int p10], am_SH, (g, f))) rfl ?_
              rcases am_ite h with ⟨c35, h⟩ | ⟨c35, h⟩
              · exact absurd h (by simp)
              · refine am_Ev.f hcd (c := p11 = 0) (s1 := (67, [(0, .ref 216), (1, .int a0), (2, .int a1), (3, .int a2), (4, .int t1), (5, .int e9), (6, .int p10), (7, .int p11)], [.int (p10 / p11)], am_SH, (g, f))) rfl c35 ?_
                refine am_Ev.go hcd 1 (s' := (71, [(0, .ref 216), (1, .int a0), (2, .int a1), (3, .int a2), (4, .int t1), (5, .int e9), (6, .int p10), (7, .int p11)], [.int (p10 / p11)], am_SH, (g, f))) rfl ?_
                exact am_Ev.cast (a := ((some (.int (p10 / p11))), am_SH, (g, f))) (by cases h; rfl) (am_Ev.ret hcd rfl)
            · refine am_Ev.f hcd (c := a2 = 0) (s1 := (68, [(0, .ref 216), (1, .int a0), (2, .int a1), (3, .int a2), (4, .int t1), (5, .int e9), (6, .int p10), (7, .int p11)], [], am_SH, (g, f))) rfl c32 ?_
              refine am_Ev.go hcd 2 (s' := (70, [(0, .ref 216), (1, .int a0), (2, .int a1), (3, .int a2), (4, .int t1), (5, .int e9), (6, .int p10), (7, .int p11)], [.int p11, .int e9], am_SH, (g, f))) rfl ?_
              rcases am_ite h with ⟨c42, h⟩ | ⟨c42, h⟩
              · exact absurd h (by simp)
              · refine am_Ev.f hcd (c := p11 = 0) (s1 := (71, [(0, .ref 216), (1, .int a0), (2, .int a1), (3, .int a2), (4, .int t1), (5, .int e9), (6, .int p10), (7, .int p11)], [.int (e9 / p11)], am_SH, (g, f))) rfl c42 ?_
                exact am_Ev.cast (a := ((some (.int (e9 / p11))), am_SH, (g, f))) (by cases h; rfl) (am_Ev.ret hcd rfl)
          refine am_Ev.weak' (am_loop_ok (G := fun (s5 : Int32 × Int32) => am_Ev sc (d + 1) 271 (32, [(0, .ref 216), (1, .int a0), (2, .int a1), (3, .int a2), (4, .int t1), (5, .int s5.1), (6, .int s5.2)], [], am_SH, (g, f)) ((some (.int r)), am_SH, (g, f))) (Z := fun (e9 : Int32) => am_Ev sc (d + 1) 271 (50, [(0, .ref 216), (1, .int a0), (2, .int a1), (3, .int a2), (4, .int t1), (5, .int e9)], [], am_SH, (g, f)) ((some (.int r)), am_SH, (g, f))) ?_ am_F (0, 0) e9 he9 hK5) (am_sub_cons rfl (am_sub_cons rfl (am_sub_cons rfl (am_sub_cons rfl (am_sub_cons rfl (am_sub_cons rfl (am_sub_cons rfl am_sub_nil))))))) rfl
          intro s5 q5 h hI5 hZ5
          show am_Ev sc (d + 1) 271 (32, [(0, .ref 216), (1, .int a0), (2, .int a1), (3, .int a2), (4, .int t1), (5, .int s5.1), (6, .int s5.2)], [], am_SH, (g, f)) ((some (.int r)), am_SH, (g, f))
          refine am_Ev.go hcd 5 (s' := (37, [(0, .ref 216), (1, .int a0), (2, .int a1), (3, .int a2), (4, .int t1), (5, .int s5.1), (6, .int s5.2)], [.int (f 217 424), .int s5.2], am_SH, (g, f))) rfl ?_
          rcases am_ite h with ⟨c50, h⟩ | ⟨c50, h⟩
          · refine am_Ev.t hcd (c := s5.2 < f 217 424) (s1 := (38, [(0, .ref 216), (1, .int a0), (2, .int a1), (3, .int a2), (4, .int t1), (5, .int s5.1), (6, .int s5.2)], [], am_SH, (g, f))) rfl c50 ?_
            refine am_Ev.go hcd 7 (s' := (45, [(0, .ref 216), (1, .int a0), (2, .int a1), (3, .int a2), (4, .int t1), (5, .int s5.1), (6, .int s5.2)], [.int (a1 - a1 / 256 * 256), .int t1, .int s5.2, .ref 216, .int s5.1], am_SH, (g, f))) rfl ?_
            obtain ⟨p6, hp6, h⟩ := am_bind_some h
            refine am_Ev.call hcd (a := 270) (s0 := (0, [(0, .ref 216), (1, .int s5.2), (2, .int t1), (3, .int (a1 - a1 / 256 * 256))], [], am_SH, (g, f))) (q := ((some (.int p6)), am_SH, (g, f))) (s1 := (46, [(0, .ref 216), (1, .int a0), (2, .int a1), (3, .int a2), (4, .int t1), (5, .int s5.1), (6, .int s5.2)], [.int p6, .int s5.1], am_SH, (g, f))) rfl rfl (m_likely_ok (d) s5.2 t1 (a1 - a1 / 256 * 256) f g p6 hp6) ?_
            obtain ⟨t7, Et7, h⟩ := am_let_eq h
            refine am_Ev.go hcd 2 (s' := (48, [(0, .ref 216), (1, .int a0), (2, .int a1), (3, .int a2), (4, .int t1), (5, .int t7), (6, .int s5.2)], [], am_SH, (g, f))) (by subst Et7; exact rfl) ?_
            obtain ⟨t8, Et8, h⟩ := am_let_eq h
            refine am_Ev.go hcd 1 (s' := (49, [(0, .ref 216), (1, .int a0), (2, .int a1), (3, .int a2), (4, .int t1), (5, .int t7), (6, .int t8)], [], am_SH, (g, f))) (by subst Et8; exact rfl) ?_
            refine am_Ev.go hcd 1 (s' := (32, [(0, .ref 216), (1, .int a0), (2, .int a1), (3, .int a2), (4, .int t1), (5, .int t7), (6, .int t8)], [], am_SH, (g, f))) rfl ?_
            exact am_Ev.weak' (hI5 (t7, t8) (Option.some.inj h).symm) (am_sub_cons rfl (am_sub_cons rfl (am_sub_cons rfl (am_sub_cons rfl (am_sub_cons rfl (am_sub_cons rfl (am_sub_cons rfl am_sub_nil))))))) rfl
          · refine am_Ev.f hcd (c := s5.2 < f 217 424) (s1 := (50, [(0, .ref 216), (1, .int a0), (2, .int a1), (3, .int a2), (4, .int t1), (5, .int s5.1), (6, .int s5.2)], [], am_SH, (g, f))) rfl c50 ?_
            exact am_Ev.weak' (hZ5 s5.1 (Option.some.inj h).symm) (am_sub_cons rfl (am_sub_cons rfl (am_sub_cons rfl (am_sub_cons rfl (am_sub_cons rfl (am_sub_cons rfl am_sub_nil)))))) rfl
        · refine am_Ev.t hcd (c := am_b (m_isIn a2 0 1) = 0) (s1 := (26, [(0, .ref 216), (1, .int a0), (2, .int a1), (3, .int a2), (4, .int t1)], [], am_SH, (g, f))) rfl (am_b_f c20) ?_
          refine am_Ev.go hcd 1 (s' := (27, [(0, .ref 216), (1, .int a0), (2, .int a1), (3, .int a2), (4, .int t1)], [.int (-1)], am_SH, (g, f))) rfl ?_
          exact am_Ev.cast (a := ((some (.int (-1))), am_SH, (g, f))) (by cases h; rfl) (am_Ev.ret hcd rfl)
      · refine am_Ev.t hcd (c := am_b (m_isIn t1 2 8) = 0) (s1 := (26, [(0, .ref 216), (1, .int a0), (2, .int a1), (3, .int a2), (4, .int t1)], [], am_SH, (g, f))) rfl (am_b_f c16) ?_
        refine am_Ev.go hcd 1 (s' := (27, [(0, .ref 216), (1, .int a0), (2, .int a1), (3, .int a2), (4, .int t1)], [.int (-1)], am_SH, (g, f))) rfl ?_
        exact am_Ev.cast (a := ((some (.int (-1))), am_SH, (g, f))) (by cases h; rfl) (am_Ev.ret hcd rfl)
  · refine am_Ev.t hcd (c := am_b (m_isIn a0 0 ((f 217 424) - 1)) = 0) (s1 := (26, [(0, .ref 216), (1, .int a0), (2, .int a1), (3, .int a2), (4, .int t1)], [], am_SH, (g, f))) rfl (am_b_f c6) ?_
    refine am_Ev.go hcd 1 (s' := (27, [(0, .ref 216), (1, .int a0), (2, .int a1), (3, .int a2), (4, .int t1)], [.int (-1)], am_SH, (g, f))) rfl ?_
    exact am_Ev.cast (a := ((some (.int (-1))), am_SH, (g, f))) (by cases h; rfl) (am_Ev.ret hcd rfl)
set_option maxRecDepth 100000 in
set_option maxHeartbeats 4000000 in
theorem m_point_ok {sc : Nat × (Nat → Int32)} (d : Nat) (a0 : Int32) (a1 : Int32) (f g : (Nat → Nat → Int32)) (r : Int32 × (Nat → Nat → Int32)) (h : m_point a0 a1 f = some r) : am_Ev sc (d + 1) 272 (0, [(0, .ref 216), (1, .int a0), (2, .int a1)], [], am_SH, (g, f)) ((some (.int r.1)), am_SH, (g, r.2)) := by
  have hcd : am_code 272 = am_c272 := rfl
  unfold m_point at h
  refine am_Ev.go hcd 2 (s' := (2, [(0, .ref 216), (1, .int a0), (2, .int a1)], [.int (-1), .int a0], am_SH, (g, f))) rfl ?_
  rcases am_ite h with ⟨c2, h⟩ | ⟨c2, h⟩
  · refine am_Ev.t hcd (c := a0 = (-1)) (s1 := (3, [(0, .ref 216), (1, .int a0), (2, .int a1)], [], am_SH, (g, f))) rfl c2 ?_
    refine am_Ev.go hcd 2 (s' := (5, [(0, .ref 216), (1, .int a0), (2, .int a1)], [.int 437, .ref 216], am_SH, (g, f))) rfl ?_
    obtain ⟨p1, hp1, h⟩ := am_bind_some h
    refine am_Ev.call hcd (a := 262) (s0 := (0, [(0, .ref 216), (1, .int 437)], [], am_SH, (g, f))) (q := ((some (.int p1.1)), am_SH, (g, p1.2))) (s1 := (6, [(0, .ref 216), (1, .int a0), (2, .int a1)], [.int p1.1], am_SH, (g, p1.2))) rfl rfl (m_endsRow_ok (d) 437 f g p1 hp1) ?_
    refine am_Ev.go hcd 1 (s' := (25, [(0, .ref 216), (1, .int a0), (2, .int a1)], [.int p1.1], am_SH, (g, p1.2))) rfl ?_
    exact am_Ev.cast (a := ((some (.int (p1.1, p1.2).1)), am_SH, (g, (p1.1, p1.2).2))) (by cases h; rfl) (am_Ev.ret hcd rfl)
  · refine am_Ev.f hcd (c := a0 = (-1)) (s1 := (7, [(0, .ref 216), (1, .int a0), (2, .int a1)], [], am_SH, (g, f))) rfl c2 ?_
    refine am_Ev.go hcd 3 (s' := (10, [(0, .ref 216), (1, .int a0), (2, .int a1)], [.int 9, .int 0, .int a0], am_SH, (g, f))) rfl ?_
    refine am_Ev.call hcd (a := 176) (s0 := (0, [(0, .int a0), (1, .int 0), (2, .int 9)], [], am_SH, (g, f))) (q := ((some (.int (am_b (m_isIn a0 0 9)))), am_SH, (g, f))) (s1 := (11, [(0, .ref 216), (1, .int a0), (2, .int a1)], [.int (am_b (m_isIn a0 0 9))], am_SH, (g, f))) rfl rfl (m_isIn_ok (d) a0 0 9 (g, f)) ?_
    rcases am_ite h with ⟨c13, h⟩ | ⟨c13, h⟩
    · refine am_Ev.f hcd (c := am_b (m_isIn a0 0 9) = 0) (s1 := (12, [(0, .ref 216), (1, .int a0), (2, .int a1)], [], am_SH, (g, f))) rfl (am_b_t c13) ?_
      refine am_Ev.go hcd 3 (s' := (15, [(0, .ref 216), (1, .int a0), (2, .int a1)], [.int 99, .int (-99), .int a1], am_SH, (g, f))) rfl ?_
      refine am_Ev.call hcd (a := 176) (s0 := (0, [(0, .int a1), (1, .int (-99)), (2, .int 99)], [], am_SH, (g, f))) (q := ((some (.int (am_b (m_isIn a1 (-99) 99)))), am_SH, (g, f))) (s1 := (16, [(0, .ref 216), (1, .int a0), (2, .int a1)], [.int (am_b (m_isIn a1 (-99) 99))], am_SH, (g, f))) rfl rfl (m_isIn_ok (d) a1 (-99) 99 (g, f)) ?_
      rcases am_ite h with ⟨c17, h⟩ | ⟨c17, h⟩
      · refine am_Ev.f hcd (c := am_b (m_isIn a1 (-99) 99) = 0) (s1 := (17, [(0, .ref 216), (1, .int a0), (2, .int a1)], [], am_SH, (g, f))) rfl (am_b_t c17) ?_
        refine am_Ev.go hcd 5 (s' := (22, [(0, .ref 216), (1, .int a0), (2, .int a1)], [.int a1, .int a0, .int 4, .int 437, .ref 216], am_SH, (g, f))) rfl ?_
        obtain ⟨p4, hp4, h⟩ := am_bind_some h
        refine am_Ev.call hcd (a := 261) (s0 := (0, [(0, .ref 216), (1, .int 437), (2, .int 4), (3, .int a0), (4, .int a1)], [], am_SH, (g, f))) (q := ((some (.int p4.1)), am_SH, (g, p4.2))) (s1 := (23, [(0, .ref 216), (1, .int a0), (2, .int a1)], [.int p4.1], am_SH, (g, p4.2))) rfl rfl (m_tellsTwo_ok (d) 437 4 a0 a1 f g p4 hp4) ?_
        refine am_Ev.go hcd 1 (s' := (25, [(0, .ref 216), (1, .int a0), (2, .int a1)], [.int p4.1], am_SH, (g, p4.2))) rfl ?_
        exact am_Ev.cast (a := ((some (.int (p4.1, p4.2).1)), am_SH, (g, (p4.1, p4.2).2))) (by cases h; rfl) (am_Ev.ret hcd rfl)
      · refine am_Ev.t hcd (c := am_b (m_isIn a1 (-99) 99) = 0) (s1 := (24, [(0, .ref 216), (1, .int a0), (2, .int a1)], [], am_SH, (g, f))) rfl (am_b_f c17) ?_
        refine am_Ev.go hcd 1 (s' := (25, [(0, .ref 216), (1, .int a0), (2, .int a1)], [.int (-1)], am_SH, (g, f))) rfl ?_
        exact am_Ev.cast (a := ((some (.int ((-1), f).1)), am_SH, (g, ((-1), f).2))) (by cases h; rfl) (am_Ev.ret hcd rfl)
    · refine am_Ev.t hcd (c := am_b (m_isIn a0 0 9) = 0) (s1 := (24, [(0, .ref 216), (1, .int a0), (2, .int a1)], [], am_SH, (g, f))) rfl (am_b_f c13) ?_
      refine am_Ev.go hcd 1 (s' := (25, [(0, .ref 216), (1, .int a0), (2, .int a1)], [.int (-1)], am_SH, (g, f))) rfl ?_
      exact am_Ev.cast (a := ((some (.int ((-1), f).1)), am_SH, (g, ((-1), f).2))) (by cases h; rfl) (am_Ev.ret hcd rfl)
set_option maxRecDepth 100000 in
set_option maxHeartbeats 4000000 in
theorem m_unitAt_ok {sc : Nat × (Nat → Int32)} (d : Nat) (a0 : Int32) (a1 : Int32) (f g : (Nat → Nat → Int32)) (r : Int32) (h : m_unitAt a0 a1 f = some r) : am_Ev sc (d) 274 (0, [(0, .ref 216), (1, .int a0), (2, .int a1)], [], am_SH, (g, f)) ((some (.int r)), am_SH, (g, f)) := by
  have hcd : am_code 274 = am_c274 := rfl
  unfold m_unitAt at h
  refine am_Ev.go hcd 1 (s' := (1, [(0, .ref 216), (1, .int a0), (2, .int a1)], [.int a0], am_SH, (g, f))) rfl ?_
  rcases am_ite h with ⟨c2, h⟩ | ⟨c2, h⟩
  · refine am_Ev.t hcd (c := a0 = 0) (s1 := (2, [(0, .ref 216), (1, .int a0), (2, .int a1)], [], am_SH, (g, f))) rfl c2 ?_
    refine am_Ev.go hcd 7 (s' := (9, [(0, .ref 216), (1, .int a0), (2, .int a1)], [.int (438 + (2 * a1)), .ref 217], am_SH, (g, f))) rfl ?_
    obtain ⟨c5, h⟩ := am_grd h
    refine am_Ev.t hcd (o := none) (c := am_in (438 + (2 * a1)) 2008 = true) (s1 := (10, [(0, .ref 216), (1, .int a0), (2, .int a1)], [.int (f 217 (438 + (2 * a1)).toNatClampNeg)], am_SH, (g, f))) rfl c5 ?_
    refine am_Ev.go hcd 1 (s' := (12, [(0, .ref 216), (1, .int a0), (2, .int a1)], [.int (f 217 (438 + (2 * a1)).toNatClampNeg)], am_SH, (g, f))) rfl ?_
    exact am_Ev.cast (a := ((some (.int (f 217 (438 + (2 * a1)).toNatClampNeg : Int32))), am_SH, (g, f))) (by cases h; rfl) (am_Ev.ret hcd rfl)
  · refine am_Ev.f hcd (c := a0 = 0) (s1 := (11, [(0, .ref 216), (1, .int a0), (2, .int a1)], [], am_SH, (g, f))) rfl c2 ?_
    refine am_Ev.go hcd 1 (s' := (12, [(0, .ref 216), (1, .int a0), (2, .int a1)], [.int a0], am_SH, (g, f))) rfl ?_
    exact am_Ev.cast (a := ((some (.int a0)), am_SH, (g, f))) (by cases h; rfl) (am_Ev.ret hcd rfl)
set_option maxRecDepth 100000 in
set_option maxHeartbeats 4000000 in
theorem m_joined_ok {sc : Nat × (Nat → Int32)} (d : Nat) (a0 : Int32) (a1 : Int32) (a2 : Int32) (hp : am_H) : am_Ev sc (d) 273 (0, [(0, .int a0), (1, .int a1), (2, .int a2)], [], am_SH, hp) ((some (.int (m_joined a0 a1 a2))), am_SH, hp) := by
  have hcd : am_code 273 = am_c273 := rfl
  obtain ⟨r, h⟩ : ∃ r, r = m_joined a0 a1 a2 := ⟨_, rfl⟩
  rw [← h]
  unfold m_joined at h
  refine am_Ev.go hcd 1 (s' := (1, [(0, .int a0), (1, .int a1), (2, .int a2)], [.int a1], am_SH, hp)) rfl ?_
  rcases am_itv h with ⟨c4, h⟩ | ⟨c4, h⟩
  · refine am_Ev.t hcd (c := a1 = 0) (s1 := (2, [(0, .int a0), (1, .int a1), (2, .int a2)], [], am_SH, hp)) rfl c4 ?_
    refine am_Ev.go hcd 4 (s' := (16, [(0, .int a0), (1, .int a1), (2, .int a2)], [.int (a0 + a2)], am_SH, hp)) rfl ?_
    exact am_Ev.cast (a := ((some (.int (a0 + a2))), am_SH, hp)) (by subst h; rfl) (am_Ev.ret hcd rfl)
  · refine am_Ev.f hcd (c := a1 = 0) (s1 := (6, [(0, .int a0), (1, .int a1), (2, .int a2)], [], am_SH, hp)) rfl c4 ?_
    refine am_Ev.go hcd 2 (s' := (8, [(0, .int a0), (1, .int a1), (2, .int a2)], [.int 1, .int a1], am_SH, hp)) rfl ?_
    rcases am_itv h with ⟨c10, h⟩ | ⟨c10, h⟩
    · refine am_Ev.t hcd (c := a1 = 1) (s1 := (9, [(0, .int a0), (1, .int a1), (2, .int a2)], [], am_SH, hp)) rfl c10 ?_
      refine am_Ev.go hcd 4 (s' := (16, [(0, .int a0), (1, .int a1), (2, .int a2)], [.int (a0 - a2)], am_SH, hp)) rfl ?_
      exact am_Ev.cast (a := ((some (.int (a0 - a2))), am_SH, hp)) (by subst h; rfl) (am_Ev.ret hcd rfl)
    · refine am_Ev.f hcd (c := a1 = 1) (s1 := (13, [(0, .int a0), (1, .int a1), (2, .int a2)], [], am_SH, hp)) rfl c10 ?_
      refine am_Ev.go hcd 3 (s' := (16, [(0, .int a0), (1, .int a1), (2, .int a2)], [.int (a0 * a2)], am_SH, hp)) rfl ?_
      exact am_Ev.cast (a := ((some (.int (a0 * a2))), am_SH, hp)) (by subst h; rfl) (am_Ev.ret hcd rfl)
