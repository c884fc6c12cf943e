set_option maxRecDepth 100000 in
set_option maxHeartbeats 4000000 in
theorem m_image_ok {sc : Nat × (Nat → Int32)} (d : Nat) (a0 : Bool) (f g : (Nat → Nat → Int32)) (r : Bool × (Nat → Nat → Int32)) (h : m_image a0 f = some r) : am_Ev sc (d + 1) 308 (0, [(0, .ref 216), (1, .int (am_b a0))], [], am_SH, (g, f)) ((some (.int (am_b r.1))), am_SH, (g, r.2)) := by
  have hcd : am_code 308 = am_c308 := rfl
  unfold m_image at h
  refine am_Ev.go hcd 1 (s' := (1, [(0, .ref 216), (1, .int (am_b a0))], [.int (am_b a0)], am_SH, (g, f))) rfl ?_
  rcases am_ite h with ⟨c2, h⟩ | ⟨c2, h⟩
  · refine am_Ev.f hcd (c := am_b a0 = 0) (s1 := (7, [(0, .ref 216), (1, .int (am_b a0))], [], am_SH, (g, f))) rfl (am_b_t c2) ?_
    refine am_Ev.go hcd 2 (s' := (9, [(0, .ref 216), (1, .int (am_b a0)), (2, .int 0)], [], am_SH, (g, f))) rfl ?_
    obtain ⟨e6, he6, h⟩ := am_bind_some h
    have hK1 : (fun (e6 : (Nat → Nat → Int32)) => am_Ev sc (d + 1) 308 (35, [(0, .ref 216), (1, .int (am_b a0))], [], am_SH, (g, e6)) ((some (.int (am_b r.1))), am_SH, (g, r.2))) e6 := by
      show am_Ev sc (d + 1) 308 (35, [(0, .ref 216), (1, .int (am_b a0))], [], am_SH, (g, e6)) ((some (.int (am_b r.1))), am_SH, (g, r.2))
      obtain ⟨t8, ht8, kt8⟩ := am_let_eq h
      have hKt8 : am_Ev sc (d + 1) 308 (39, [(0, .ref 216)], [], am_SH, (g, t8)) ((some (.int (am_b r.1))), am_SH, (g, r.2)) := by
        have h := kt8
        obtain ⟨f9, Ef9, h⟩ := am_let_eq h
        refine am_Ev.go hcd 3 (s' := (42, [(0, .ref 216)], [], am_SH, (g, f9))) (by subst Ef9; exact rfl) ?_
        refine am_Ev.go hcd 1 (s' := (43, [(0, .ref 216)], [.int 1], am_SH, (g, f9))) rfl ?_
        exact am_Ev.cast (a := ((some (.int (am_b (true, f9).1))), am_SH, (g, (true, f9).2))) (by cases h; rfl) (am_Ev.ret hcd rfl)
      have hLt8 : ∀ tt, tt = t8 → am_Ev sc (d + 1) 308 (39, [(0, .ref 216)], [], am_SH, (g, tt)) ((some (.int (am_b r.1))), am_SH, (g, r.2)) := fun tt htt => by subst htt; exact hKt8
      have h := ht8
      refine am_Ev.go hcd 1 (s' := (36, [(0, .ref 216), (1, .int (am_b a0))], [.int (am_b a0)], am_SH, (g, e6))) rfl ?_
      rcases am_itv h with ⟨c18, h⟩ | ⟨c18, h⟩
      · refine am_Ev.f hcd (c := am_b a0 = 0) (s1 := (39, [(0, .ref 216), (1, .int (am_b a0))], [], am_SH, (g, e6))) rfl (am_b_t c18) ?_
        exact am_Ev.weak' (hLt8 e6 h.symm) (am_sub_cons rfl am_sub_nil) rfl
      · refine am_Ev.t hcd (c := am_b a0 = 0) (s1 := (37, [(0, .ref 216), (1, .int (am_b a0))], [], am_SH, (g, e6))) rfl (am_b_f c18) ?_
        refine am_Ev.go hcd 1 (s' := (38, [(0, .ref 216), (1, .int (am_b a0))], [.ref 216], am_SH, (g, e6))) rfl ?_
        obtain ⟨p7, Ep7, h⟩ := am_let_eq' h
        refine am_Ev.call hcd (a := 184) (s0 := (0, [(0, .ref 216)], [], am_SH, (g, e6))) (q := (none, am_SH, (g, p7))) (s1 := (39, [(0, .ref 216), (1, .int (am_b a0))], [], am_SH, (g, p7))) rfl rfl (by subst Ep7; exact m_forgets_ok (d)  e6 g) ?_
        exact am_Ev.weak' (hLt8 p7 h.symm) (am_sub_cons rfl am_sub_nil) rfl
    refine am_Ev.weak' (am_loop_ok (G := fun (s1 : Int32 × (Nat → Nat → Int32)) => am_Ev sc (d + 1) 308 (9, [(0, .ref 216), (1, .int (am_b a0)), (2, .int s1.1)], [], am_SH, (g, s1.2)) ((some (.int (am_b r.1))), am_SH, (g, r.2))) (Z := fun (e6 : (Nat → Nat → Int32)) => am_Ev sc (d + 1) 308 (35, [(0, .ref 216), (1, .int (am_b a0))], [], am_SH, (g, e6)) ((some (.int (am_b r.1))), am_SH, (g, r.2))) ?_ am_F (0, f) e6 he6 hK1) (am_sub_cons rfl (am_sub_cons rfl (am_sub_cons rfl am_sub_nil))) rfl
    intro s1 q1 h hI1 hZ1
    show am_Ev sc (d + 1) 308 (9, [(0, .ref 216), (1, .int (am_b a0)), (2, .int s1.1)], [], am_SH, (g, s1.2)) ((some (.int (am_b r.1))), am_SH, (g, r.2))
    refine am_Ev.go hcd 4 (s' := (13, [(0, .ref 216), (1, .int (am_b a0)), (2, .int s1.1)], [.int (nI 2008), .int s1.1], am_SH, (g, s1.2))) rfl ?_
    rcases am_ite h with ⟨c30, h⟩ | ⟨c30, h⟩
    · refine am_Ev.t hcd (c := s1.1 < (nI 2008)) (s1 := (14, [(0, .ref 216), (1, .int (am_b a0)), (2, .int s1.1)], [], am_SH, (g, s1.2))) rfl c30 ?_
      obtain ⟨t4, ht4, kt4⟩ := am_bind_some h
      have hKt4 : am_Ev sc (d + 1) 308 (33, [(0, .ref 216), (1, .int (am_b a0)), (2, .int s1.1)], [], am_SH, (g, t4)) ((some (.int (am_b r.1))), am_SH, (g, r.2)) := by
        have h := kt4
        obtain ⟨t5, Et5, h⟩ := am_let_eq h
        refine am_Ev.go hcd 1 (s' := (34, [(0, .ref 216), (1, .int (am_b a0)), (2, .int t5)], [], am_SH, (g, t4))) (by subst Et5; exact rfl) ?_
        refine am_Ev.go hcd 1 (s' := (9, [(0, .ref 216), (1, .int (am_b a0)), (2, .int t5)], [], am_SH, (g, t4))) rfl ?_
        exact am_Ev.weak' (hI1 (t5, t4) (Option.some.inj h).symm) (am_sub_cons rfl (am_sub_cons rfl (am_sub_cons rfl am_sub_nil))) rfl
      have hLt4 : ∀ tt, tt = t4 → am_Ev sc (d + 1) 308 (33, [(0, .ref 216), (1, .int (am_b a0)), (2, .int s1.1)], [], am_SH, (g, tt)) ((some (.int (am_b r.1))), am_SH, (g, r.2)) := fun tt htt => by subst htt; exact hKt4
      have h := ht4
      refine am_Ev.go hcd 1 (s' := (15, [(0, .ref 216), (1, .int (am_b a0)), (2, .int s1.1)], [.int (am_b a0)], am_SH, (g, s1.2))) rfl ?_
      rcases am_ite h with ⟨c42, h⟩ | ⟨c42, h⟩
      · refine am_Ev.f hcd (c := am_b a0 = 0) (s1 := (16, [(0, .ref 216), (1, .int (am_b a0)), (2, .int s1.1)], [], am_SH, (g, s1.2))) rfl (am_b_t c42) ?_
        refine am_Ev.go hcd 6 (s' := (22, [(0, .ref 216), (1, .int (am_b a0)), (2, .int s1.1)], [.int s1.1, .ref 217, .int s1.1, .ref 218], am_SH, (g, s1.2))) rfl ?_
        obtain ⟨c45, h⟩ := am_grd h
        refine am_Ev.t hcd (o := none) (c := am_in s1.1 2008 = true) (s1 := (23, [(0, .ref 216), (1, .int (am_b a0)), (2, .int s1.1)], [.int (s1.2 217 s1.1.toNatClampNeg), .int s1.1, .ref 218], am_SH, (g, s1.2))) rfl c45 ?_
        obtain ⟨c48, h⟩ := am_grd h
        obtain ⟨f2, Ef2, h⟩ := am_let_eq h
        refine am_Ev.t hcd (o := none) (c := am_in s1.1 2008 = true) (s1 := (24, [(0, .ref 216), (1, .int (am_b a0)), (2, .int s1.1)], [], am_SH, (g, f2))) (by subst Ef2; exact rfl) c48 ?_
        refine am_Ev.go hcd 1 (s' := (33, [(0, .ref 216), (1, .int (am_b a0)), (2, .int s1.1)], [], am_SH, (g, f2))) rfl ?_
        exact am_Ev.weak' (hLt4 f2 (Option.some.inj h)) (am_sub_cons rfl (am_sub_cons rfl (am_sub_cons rfl am_sub_nil))) rfl
      · refine am_Ev.t hcd (c := am_b a0 = 0) (s1 := (25, [(0, .ref 216), (1, .int (am_b a0)), (2, .int s1.1)], [], am_SH, (g, s1.2))) rfl (am_b_f c42) ?_
        refine am_Ev.go hcd 6 (s' := (31, [(0, .ref 216), (1, .int (am_b a0)), (2, .int s1.1)], [.int s1.1, .ref 218, .int s1.1, .ref 217], am_SH, (g, s1.2))) rfl ?_
        obtain ⟨c54, h⟩ := am_grd h
        refine am_Ev.t hcd (o := none) (c := am_in s1.1 2008 = true) (s1 := (32, [(0, .ref 216), (1, .int (am_b a0)), (2, .int s1.1)], [.int (s1.2 218 s1.1.toNatClampNeg), .int s1.1, .ref 217], am_SH, (g, s1.2))) rfl c54 ?_
        obtain ⟨c57, h⟩ := am_grd h
        obtain ⟨f3, Ef3, h⟩ := am_let_eq h
        refine am_Ev.t hcd (o := none) (c := am_in s1.1 2008 = true) (s1 := (33, [(0, .ref 216), (1, .int (am_b a0)), (2, .int s1.1)], [], am_SH, (g, f3))) (by subst Ef3; exact rfl) c57 ?_
        exact am_Ev.weak' (hLt4 f3 (Option.some.inj h)) (am_sub_cons rfl (am_sub_cons rfl (am_sub_cons rfl am_sub_nil))) rfl
    · refine am_Ev.f hcd (c := s1.1 < (nI 2008)) (s1 := (35, [(0, .ref 216), (1, .int (am_b a0)), (2, .int s1.1)], [], am_SH, (g, s1.2))) rfl c30 ?_
      exact am_Ev.weak' (hZ1 s1.2 (Option.some.inj h).symm) (am_sub_cons rfl (am_sub_cons rfl am_sub_nil)) rfl
  · refine am_Ev.t hcd (c := am_b a0 = 0) (s1 := (2, [(0, .ref 216), (1, .int (am_b a0))], [], am_SH, (g, f))) rfl (am_b_f c2) ?_
    refine am_Ev.go hcd 2 (s' := (4, [(0, .ref 216), (1, .int (am_b a0))], [.int (f 216 5)], am_SH, (g, f))) rfl ?_
    rcases am_ite h with ⟨c64, h⟩ | ⟨c64, h⟩
    · refine am_Ev.t hcd (c := f 216 5 = 0) (s1 := (5, [(0, .ref 216), (1, .int (am_b a0))], [], am_SH, (g, f))) rfl c64 ?_
      refine am_Ev.go hcd 1 (s' := (6, [(0, .ref 216), (1, .int (am_b a0))], [.int 0], am_SH, (g, f))) rfl ?_
      exact am_Ev.cast (a := ((some (.int (am_b (false, f).1))), am_SH, (g, (false, f).2))) (by cases h; rfl) (am_Ev.ret hcd rfl)
    · refine am_Ev.f hcd (c := f 216 5 = 0) (s1 := (7, [(0, .ref 216), (1, .int (am_b a0))], [], am_SH, (g, f))) rfl c64 ?_
      refine am_Ev.go hcd 2 (s' := (9, [(0, .ref 216), (1, .int (am_b a0)), (2, .int 0)], [], am_SH, (g, f))) rfl ?_
      obtain ⟨e15, he15, h⟩ := am_bind_some h
      have hK10 : (fun (e15 : (Nat → Nat → Int32)) => am_Ev sc (d + 1) 308 (35, [(0, .ref 216), (1, .int (am_b a0))], [], am_SH, (g, e15)) ((some (.int (am_b r.1))), am_SH, (g, r.2))) e15 := by
        show am_Ev sc (d + 1) 308 (35, [(0, .ref 216), (1, .int (am_b a0))], [], am_SH, (g, e15)) ((some (.int (am_b r.1))), am_SH, (g, r.2))
        obtain ⟨t17, ht17, kt17⟩ := am_let_eq h
        have hKt17 : am_Ev sc (d + 1) 308 (39, [(0, .ref 216)], [], am_SH, (g, t17)) ((some (.int (am_b r.1))), am_SH, (g, r.2)) := by
          have h := kt17
          obtain ⟨f18, Ef18, h⟩ := am_let_eq h
          refine am_Ev.go hcd 3 (s' := (42, [(0, .ref 216)], [], am_SH, (g, f18))) (by subst Ef18; exact rfl) ?_
          refine am_Ev.go hcd 1 (s' := (43, [(0, .ref 216)], [.int 1], am_SH, (g, f18))) rfl ?_
          exact am_Ev.cast (a := ((some (.int (am_b (true, f18).1))), am_SH, (g, (true, f18).2))) (by cases h; rfl) (am_Ev.ret hcd rfl)
        have hLt17 : ∀ tt, tt = t17 → am_Ev sc (d + 1) 308 (39, [(0, .ref 216)], [], am_SH, (g, tt)) ((some (.int (am_b r.1))), am_SH, (g, r.2)) := fun tt htt => by subst htt; exact hKt17
        have h := ht17
        refine am_Ev.go hcd 1 (s' := (36, [(0, .ref 216), (1, .int (am_b a0))], [.int (am_b a0)], am_SH, (g, e15))) rfl ?_
        rcases am_itv h with ⟨c83, h⟩ | ⟨c83, h⟩
        · refine am_Ev.f hcd (c := am_b a0 = 0) (s1 := (39, [(0, .ref 216), (1, .int (am_b a0))], [], am_SH, (g, e15))) rfl (am_b_t c83) ?_
          exact am_Ev.weak' (hLt17 e15 h.symm) (am_sub_cons rfl am_sub_nil) rfl
        · refine am_Ev.t hcd (c := am_b a0 = 0) (s1 := (37, [(0, .ref 216), (1, .int (am_b a0))], [], am_SH, (g, e15))) rfl (am_b_f c83) ?_
          refine am_Ev.go hcd 1 (s' := (38, [(0, .ref 216), (1, .int (am_b a0))], [.ref 216], am_SH, (g, e15))) rfl ?_
          obtain ⟨p16, Ep16, h⟩ := am_let_eq' h
          refine am_Ev.call hcd (a := 184) (s0 := (0, [(0, .ref 216)], [], am_SH, (g, e15))) (q := (none, am_SH, (g, p16))) (s1 := (39, [(0, .ref 216), (1, .int (am_b a0))], [], am_SH, (g, p16))) rfl rfl (by subst Ep16; exact m_forgets_ok (d)  e15 g) ?_
          exact am_Ev.weak' (hLt17 p16 h.symm) (am_sub_cons rfl am_sub_nil) rfl
      refine am_Ev.weak' (am_loop_ok (G := fun (s10 : Int32 × (Nat → Nat → Int32)) => am_Ev sc (d + 1) 308 (9, [(0, .ref 216), (1, .int (am_b a0)), (2, .int s10.1)], [], am_SH, (g, s10.2)) ((some (.int (am_b r.1))), am_SH, (g, r.2))) (Z := fun (e15 : (Nat → Nat → Int32)) => am_Ev sc (d + 1) 308 (35, [(0, .ref 216), (1, .int (am_b a0))], [], am_SH, (g, e15)) ((some (.int (am_b r.1))), am_SH, (g, r.2))) ?_ am_F (0, f) e15 he15 hK10) (am_sub_cons rfl (am_sub_cons rfl (am_sub_cons rfl am_sub_nil))) rfl
      intro s10 q10 h hI10 hZ10
      show am_Ev sc (d + 1) 308 (9, [(0, .ref 216), (1, .int (am_b a0)), (2, .int s10.1)], [], am_SH, (g, s10.2)) ((some (.int (am_b r.1))), am_SH, (g, r.2))
      refine am_Ev.go hcd 4 (s' := (13, [(0, .ref 216), (1, .int (am_b a0)), (2, .int s10.1)], [.int (nI 2008), .int s10.1], am_SH, (g, s10.2))) rfl ?_
      rcases am_ite h with ⟨c95, h⟩ | ⟨c95, h⟩
      · refine am_Ev.t hcd (c := s10.1 < (nI 2008)) (s1 := (14, [(0, .ref 216), (1, .int (am_b a0)), (2, .int s10.1)], [], am_SH, (g, s10.2))) rfl c95 ?_
        obtain ⟨t13, ht13, kt13⟩ := am_bind_some h
        have hKt13 : am_Ev sc (d + 1) 308 (33, [(0, .ref 216), (1, .int (am_b a0)), (2, .int s10.1)], [], am_SH, (g, t13)) ((some (.int (am_b r.1))), am_SH, (g, r.2)) := by
          have h := kt13
          obtain ⟨t14, Et14, h⟩ := am_let_eq h
          refine am_Ev.go hcd 1 (s' := (34, [(0, .ref 216), (1, .int (am_b a0)), (2, .int t14)], [], am_SH, (g, t13))) (by subst Et14; exact rfl) ?_
          refine am_Ev.go hcd 1 (s' := (9, [(0, .ref 216), (1, .int (am_b a0)), (2, .int t14)], [], am_SH, (g, t13))) rfl ?_
          exact am_Ev.weak' (hI10 (t14, t13) (Option.some.inj h).symm) (am_sub_cons rfl (am_sub_cons rfl (am_sub_cons rfl am_sub_nil))) rfl
        have hLt13 : ∀ tt, tt = t13 → am_Ev sc (d + 1) 308 (33, [(0, .ref 216), (1, .int (am_b a0)), (2, .int s10.1)], [], am_SH, (g, tt)) ((some (.int (am_b r.1))), am_SH, (g, r.2)) := fun tt htt => by subst htt; exact hKt13
        have h := ht13
        refine am_Ev.go hcd 1 (s' := (15, [(0, .ref 216), (1, .int (am_b a0)), (2, .int s10.1)], [.int (am_b a0)], am_SH, (g, s10.2))) rfl ?_
        rcases am_ite h with ⟨c107, h⟩ | ⟨c107, h⟩
        · refine am_Ev.f hcd (c := am_b a0 = 0) (s1 := (16, [(0, .ref 216), (1, .int (am_b a0)), (2, .int s10.1)], [], am_SH, (g, s10.2))) rfl (am_b_t c107) ?_
          refine am_Ev.go hcd 6 (s' := (22, [(0, .ref 216), (1, .int (am_b a0)), (2, .int s10.1)], [.int s10.1, .ref 217, .int s10.1, .ref 218], am_SH, (g, s10.2))) rfl ?_
          obtain ⟨c110, h⟩ := am_grd h
          refine am_Ev.t hcd (o := none) (c := am_in s10.1 2008 = true) (s1 := (23, [(0, .ref 216), (1, .int (am_b a0)), (2, .int s10.1)], [.int (s10.2 217 s10.1.toNatClampNeg), .int s10.1, .ref 218], am_SH, (g, s10.2))) rfl c110 ?_
          obtain ⟨c113, h⟩ := am_grd h
          obtain ⟨f11, Ef11, h⟩ := am_let_eq h
          refine am_Ev.t hcd (o := none) (c := am_in s10.1 2008 = true) (s1 := (24, [(0, .ref 216), (1, .int (am_b a0)), (2, .int s10.1)], [], am_SH, (g, f11))) (by subst Ef11; exact rfl) c113 ?_
          refine am_Ev.go hcd 1 (s' := (33, [(0, .ref 216), (1, .int (am_b a0)), (2, .int s10.1)], [], am_SH, (g, f11))) rfl ?_
          exact am_Ev.weak' (hLt13 f11 (Option.some.inj h)) (am_sub_cons rfl (am_sub_cons rfl (am_sub_cons rfl am_sub_nil))) rfl
        · refine am_Ev.t hcd (c := am_b a0 = 0) (s1 := (25, [(0, .ref 216), (1, .int (am_b a0)), (2, .int s10.1)], [], am_SH, (g, s10.2))) rfl (am_b_f c107) ?_
          refine am_Ev.go hcd 6 (s' := (31, [(0, .ref 216), (1, .int (am_b a0)), (2, .int s10.1)], [.int s10.1, .ref 218, .int s10.1, .ref 217], am_SH, (g, s10.2))) rfl ?_
          obtain ⟨c119, h⟩ := am_grd h
          refine am_Ev.t hcd (o := none) (c := am_in s10.1 2008 = true) (s1 := (32, [(0, .ref 216), (1, .int (am_b a0)), (2, .int s10.1)], [.int (s10.2 218 s10.1.toNatClampNeg), .int s10.1, .ref 217], am_SH, (g, s10.2))) rfl c119 ?_
          obtain ⟨c122, h⟩ := am_grd h
          obtain ⟨f12, Ef12, h⟩ := am_let_eq h
          refine am_Ev.t hcd (o := none) (c := am_in s10.1 2008 = true) (s1 := (33, [(0, .ref 216), (1, .int (am_b a0)), (2, .int s10.1)], [], am_SH, (g, f12))) (by subst Ef12; exact rfl) c122 ?_
          exact am_Ev.weak' (hLt13 f12 (Option.some.inj h)) (am_sub_cons rfl (am_sub_cons rfl (am_sub_cons rfl am_sub_nil))) rfl
      · refine am_Ev.f hcd (c := s10.1 < (nI 2008)) (s1 := (35, [(0, .ref 216), (1, .int (am_b a0)), (2, .int s10.1)], [], am_SH, (g, s10.2))) rfl c95 ?_
        exact am_Ev.weak' (hZ10 s10.2 (Option.some.inj h).symm) (am_sub_cons rfl (am_sub_cons rfl am_sub_nil)) rfl
set_option maxRecDepth 100000 in
set_option maxHeartbeats 4000000 in
theorem m_haveGlasses_ok {sc : Nat × (Nat → Int32)} (d : Nat)  (f g : (Nat → Nat → Int32)) (r : Int32) (h : m_haveGlasses  f = some r) : am_Ev sc (d) 309 (0, [(0, .ref 216)], [], am_SH, (g, f)) ((some (.int r)), am_SH, (g, f)) := by
  have hcd : am_code 309 = am_c309 := rfl
  unfold m_haveGlasses at h
  refine am_Ev.go hcd 4 (s' := (4, [(0, .ref 216), (1, .int 0), (2, .int 0)], [], am_SH, (g, f))) rfl ?_
  refine am_Ev.weak' (am_loop_ok (G := fun (s1 : Int32 × Int32) => am_Ev sc (d) 309 (4, [(0, .ref 216), (1, .int s1.1), (2, .int s1.2)], [], am_SH, (g, f)) ((some (.int r)), am_SH, (g, f))) (Z := fun (v : Int32) => (((some (.int v)), am_SH, (g, f)) : am_R) = ((some (.int r)), am_SH, (g, f))) ?_ am_F (0, 0) r h rfl) (am_sub_cons rfl (am_sub_cons rfl (am_sub_cons rfl am_sub_nil))) rfl
  intro s1 q1 h hI1 hZ1
  show am_Ev sc (d) 309 (4, [(0, .ref 216), (1, .int s1.1), (2, .int s1.2)], [], am_SH, (g, f)) ((some (.int r)), am_SH, (g, f))
  refine am_Ev.go hcd 5 (s' := (9, [(0, .ref 216), (1, .int s1.1), (2, .int s1.2)], [.int (f 217 69), .int s1.2], am_SH, (g, f))) rfl ?_
  rcases am_ite h with ⟨c6, h⟩ | ⟨c6, h⟩
  · refine am_Ev.t hcd (c := s1.2 < f 217 69) (s1 := (10, [(0, .ref 216), (1, .int s1.1), (2, .int s1.2)], [], am_SH, (g, f))) rfl c6 ?_
    refine am_Ev.go hcd 6 (s' := (16, [(0, .ref 216), (1, .int s1.1), (2, .int s1.2)], [.int (15 + s1.2), .ref 217, .int s1.1], am_SH, (g, f))) rfl ?_
    obtain ⟨c9, h⟩ := am_grd h
    refine am_Ev.t hcd (o := none) (c := am_in (15 + s1.2) 2008 = true) (s1 := (17, [(0, .ref 216), (1, .int s1.1), (2, .int s1.2)], [.int (f 217 (15 + s1.2).toNatClampNeg), .int s1.1], am_SH, (g, f))) rfl c9 ?_
    obtain ⟨t2, ht2, kt2⟩ := am_bind_some h
    have hKt2 : am_Ev sc (d) 309 (29, [(0, .ref 216), (2, .int s1.2)], [.int t2, .int s1.1], am_SH, (g, f)) ((some (.int r)), am_SH, (g, f)) := by
      have h := kt2
      obtain ⟨t3, Et3, h⟩ := am_let_eq h
      refine am_Ev.go hcd 2 (s' := (31, [(0, .ref 216), (1, .int t3), (2, .int s1.2)], [], am_SH, (g, f))) (by subst Et3; exact rfl) ?_
      obtain ⟨t4, Et4, h⟩ := am_let_eq h
      refine am_Ev.go hcd 1 (s' := (32, [(0, .ref 216), (1, .int t3), (2, .int t4)], [], am_SH, (g, f))) (by subst Et4; exact rfl) ?_
      refine am_Ev.go hcd 1 (s' := (4, [(0, .ref 216), (1, .int t3), (2, .int t4)], [], am_SH, (g, f))) rfl ?_
      exact am_Ev.weak' (hI1 (t3, t4) (Option.some.inj h).symm) (am_sub_cons rfl (am_sub_cons rfl (am_sub_cons rfl am_sub_nil))) rfl
    have hLt2 : ∀ tt, tt = t2 → am_Ev sc (d) 309 (29, [(0, .ref 216), (2, .int s1.2)], [.int tt, .int s1.1], am_SH, (g, f)) ((some (.int r)), am_SH, (g, f)) := fun tt htt => by subst htt; exact hKt2
    have h := ht2
    refine am_Ev.go hcd 1 (s' := (18, [(0, .ref 216), (1, .int s1.1), (2, .int s1.2)], [.int (-1), .int (f 217 (15 + s1.2).toNatClampNeg), .int s1.1], am_SH, (g, f))) rfl ?_
    rcases am_ite h with ⟨c23, h⟩ | ⟨c23, h⟩
    · refine am_Ev.t hcd (c := f 217 (15 + s1.2).toNatClampNeg = (-1)) (s1 := (19, [(0, .ref 216), (1, .int s1.1), (2, .int s1.2)], [.int s1.1], am_SH, (g, f))) rfl c23 ?_
      refine am_Ev.go hcd 2 (s' := (29, [(0, .ref 216), (1, .int s1.1), (2, .int s1.2)], [.int 0, .int s1.1], am_SH, (g, f))) rfl ?_
      exact am_Ev.weak' (hLt2 0 (Option.some.inj h)) (am_sub_cons rfl (am_sub_cons rfl am_sub_nil)) rfl
    · refine am_Ev.f hcd (c := f 217 (15 + s1.2).toNatClampNeg = (-1)) (s1 := (21, [(0, .ref 216), (1, .int s1.1), (2, .int s1.2)], [.int s1.1], am_SH, (g, f))) rfl c23 ?_
      refine am_Ev.go hcd 6 (s' := (27, [(0, .ref 216), (1, .int s1.1), (2, .int s1.2)], [.int (15 + s1.2), .ref 217, .int 1, .int s1.1], am_SH, (g, f))) rfl ?_
      obtain ⟨c29, h⟩ := am_grd h
      refine am_Ev.t hcd (o := none) (c := am_in (15 + s1.2) 2008 = true) (s1 := (28, [(0, .ref 216), (1, .int s1.1), (2, .int s1.2)], [.int (f 217 (15 + s1.2).toNatClampNeg), .int 1, .int s1.1], am_SH, (g, f))) rfl c29 ?_
      refine am_Ev.go hcd 1 (s' := (29, [(0, .ref 216), (1, .int s1.1), (2, .int s1.2)], [.int (1 <<< ((f 217 (15 + s1.2).toNatClampNeg) &&& 31)), .int s1.1], am_SH, (g, f))) rfl ?_
      exact am_Ev.weak' (hLt2 (1 <<< ((f 217 (15 + s1.2).toNatClampNeg) &&& 31)) (Option.some.inj h)) (am_sub_cons rfl (am_sub_cons rfl am_sub_nil)) rfl
  · refine am_Ev.f hcd (c := s1.2 < f 217 69) (s1 := (33, [(0, .ref 216), (1, .int s1.1), (2, .int s1.2)], [], am_SH, (g, f))) rfl c6 ?_
    refine am_Ev.go hcd 1 (s' := (34, [(0, .ref 216), (1, .int s1.1), (2, .int s1.2)], [.int s1.1], am_SH, (g, f))) rfl ?_
    exact am_Ev.cast (a := ((some (.int s1.1)), am_SH, (g, f))) (hZ1 _ (Option.some.inj h).symm) (am_Ev.ret hcd rfl)
set_option maxRecDepth 100000 in
set_option maxHeartbeats 4000000 in
theorem m_look_ok {sc : Nat × (Nat → Int32)} (d : Nat) (a0 : Int32) (f g : (Nat → Nat → Int32)) (r : Int32) (h : m_look a0 f = some r) : am_Ev sc (d + 1) 310 (0, [(0, .ref 216), (1, .int a0)], [], am_SH, (g, f)) ((some (.int r)), am_SH, (g, f)) := by
  have hcd : am_code 310 = am_c310 := rfl
  unfold m_look at h
  refine am_Ev.go hcd 1 (s' := (1, [(0, .ref 216), (1, .int a0)], [.int a0], am_SH, (g, f))) rfl ?_
  refine am_Ev.one hcd (s' := (am_swt a0 [(0, 2), (1, 7), (2, 12), (3, 17), (4, 20), (5, 25), (6, 30), (7, 35), (8, 40), (9, 45), (10, 50)] 53, [(0, .ref 216), (1, .int a0)], [], am_SH, (g, f))) rfl ?_
  rcases am_ite h with ⟨c4, h⟩ | ⟨c4, h⟩
  · rw [am_swt_t c4]
    refine am_Ev.go hcd 4 (s' := (6, [(0, .ref 216), (1, .int a0)], [.int (f 217 69)], am_SH, (g, f))) rfl ?_
    exact am_Ev.cast (a := ((some (.int (f 217 69 : Int32))), am_SH, (g, f))) (by cases h; rfl) (am_Ev.ret hcd rfl)
  rw [am_swt_f c4]
  rcases am_ite h with ⟨c9, h⟩ | ⟨c9, h⟩
  · rw [am_swt_t c9]
    refine am_Ev.go hcd 4 (s' := (11, [(0, .ref 216), (1, .int a0)], [.int (f 217 70)], am_SH, (g, f))) rfl ?_
    exact am_Ev.cast (a := ((some (.int (f 217 70 : Int32))), am_SH, (g, f))) (by cases h; rfl) (am_Ev.ret hcd rfl)
  rw [am_swt_f c9]
  rcases am_ite h with ⟨c14, h⟩ | ⟨c14, h⟩
  · rw [am_swt_t c14]
    refine am_Ev.go hcd 4 (s' := (16, [(0, .ref 216), (1, .int a0)], [.int (f 217 0)], am_SH, (g, f))) rfl ?_
    exact am_Ev.cast (a := ((some (.int (f 217 0 : Int32))), am_SH, (g, f))) (by cases h; rfl) (am_Ev.ret hcd rfl)
  rw [am_swt_f c14]
  rcases am_ite h with ⟨c19, h⟩ | ⟨c19, h⟩
  · rw [am_swt_t c19]
    refine am_Ev.go hcd 1 (s' := (18, [(0, .ref 216), (1, .int a0)], [.ref 216], am_SH, (g, f))) rfl ?_
    obtain ⟨p1, hp1, h⟩ := am_bind_some h
    refine am_Ev.call hcd (a := 309) (s0 := (0, [(0, .ref 216)], [], am_SH, (g, f))) (q := ((some (.int p1)), am_SH, (g, f))) (s1 := (19, [(0, .ref 216), (1, .int a0)], [.int p1], am_SH, (g, f))) rfl rfl (m_haveGlasses_ok (d)  f g p1 hp1) ?_
    exact am_Ev.cast (a := ((some (.int p1)), am_SH, (g, f))) (by cases h; rfl) (am_Ev.ret hcd rfl)
  rw [am_swt_f c19]
  rcases am_ite h with ⟨c26, h⟩ | ⟨c26, h⟩
  · rw [am_swt_t c26]
    refine am_Ev.go hcd 4 (s' := (24, [(0, .ref 216), (1, .int a0)], [.int (f 217 2)], am_SH, (g, f))) rfl ?_
    exact am_Ev.cast (a := ((some (.int (f 217 2 : Int32))), am_SH, (g, f))) (by cases h; rfl) (am_Ev.ret hcd rfl)
  rw [am_swt_f c26]
  rcases am_ite h with ⟨c31, h⟩ | ⟨c31, h⟩
  · rw [am_swt_t c31]
    refine am_Ev.go hcd 4 (s' := (29, [(0, .ref 216), (1, .int a0)], [.int (f 217 1)], am_SH, (g, f))) rfl ?_
    exact am_Ev.cast (a := ((some (.int (f 217 1 : Int32))), am_SH, (g, f))) (by cases h; rfl) (am_Ev.ret hcd rfl)
  rw [am_swt_f c31]
  rcases am_ite h with ⟨c36, h⟩ | ⟨c36, h⟩
  · rw [am_swt_t c36]
    refine am_Ev.go hcd 4 (s' := (34, [(0, .ref 216), (1, .int a0)], [.int (f 217 71)], am_SH, (g, f))) rfl ?_
    exact am_Ev.cast (a := ((some (.int (f 217 71 : Int32))), am_SH, (g, f))) (by cases h; rfl) (am_Ev.ret hcd rfl)
  rw [am_swt_f c36]
  rcases am_ite h with ⟨c41, h⟩ | ⟨c41, h⟩
  · rw [am_swt_t c41]
    refine am_Ev.go hcd 4 (s' := (39, [(0, .ref 216), (1, .int a0)], [.int (f 217 72)], am_SH, (g, f))) rfl ?_
    exact am_Ev.cast (a := ((some (.int (f 217 72 : Int32))), am_SH, (g, f))) (by cases h; rfl) (am_Ev.ret hcd rfl)
  rw [am_swt_f c41]
  rcases am_ite h with ⟨c46, h⟩ | ⟨c46, h⟩
  · rw [am_swt_t c46]
    refine am_Ev.go hcd 4 (s' := (44, [(0, .ref 216), (1, .int a0)], [.int (f 217 73)], am_SH, (g, f))) rfl ?_
    exact am_Ev.cast (a := ((some (.int (f 217 73 : Int32))), am_SH, (g, f))) (by cases h; rfl) (am_Ev.ret hcd rfl)
  rw [am_swt_f c46]
  rcases am_ite h with ⟨c51, h⟩ | ⟨c51, h⟩
  · rw [am_swt_t c51]
    refine am_Ev.go hcd 4 (s' := (49, [(0, .ref 216), (1, .int a0)], [.int (f 217 74)], am_SH, (g, f))) rfl ?_
    exact am_Ev.cast (a := ((some (.int (f 217 74 : Int32))), am_SH, (g, f))) (by cases h; rfl) (am_Ev.ret hcd rfl)
  rw [am_swt_f c51]
  rcases am_ite h with ⟨c56, h⟩ | ⟨c56, h⟩
  · rw [am_swt_t c56]
    refine am_Ev.go hcd 2 (s' := (52, [(0, .ref 216), (1, .int a0)], [.int (f 216 4)], am_SH, (g, f))) rfl ?_
    exact am_Ev.cast (a := ((some (.int (f 216 4 : Int32))), am_SH, (g, f))) (by cases h; rfl) (am_Ev.ret hcd rfl)
  rw [am_swt_f c56]
  rw [am_swt_n]
  refine am_Ev.go hcd 1 (s' := (54, [(0, .ref 216), (1, .int a0)], [.int (-1)], am_SH, (g, f))) rfl ?_
  exact am_Ev.cast (a := ((some (.int (-1))), am_SH, (g, f))) (by cases h; rfl) (am_Ev.ret hcd rfl)
