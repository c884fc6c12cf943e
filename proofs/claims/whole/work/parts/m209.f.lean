set_option maxRecDepth 100000 in
set_option maxHeartbeats 4000000 in
theorem xs_readAny_Bok {sc : Nat × (Nat → Int32)} (d : Nat) (r_readAny : Int32 → (Nat → Nat → Int32) → Option (Bool × (Nat → Nat → Int32))) (r_readCondition : Int32 → (Nat → Nat → Int32) → Option (Bool × (Nat → Nat → Int32))) (hreadAny : ∀ (a0 : Int32) (f g : (Nat → Nat → Int32)) (r : Bool × (Nat → Nat → Int32)), r_readAny a0 f = some r → am_Ev sc (d + 2) 103 (0, [(0, .ref 128), (1, .int a0)], [], am_SH, (f, g)) ((some (.int (am_b r.1))), am_SH, (r.2, g))) (hreadCondition : ∀ (a0 : Int32) (f g : (Nat → Nat → Int32)) (r : Bool × (Nat → Nat → Int32)), r_readCondition a0 f = some r → am_Ev sc (d + 2) 104 (0, [(0, .ref 128), (1, .int a0)], [], am_SH, (f, g)) ((some (.int (am_b r.1))), am_SH, (r.2, g))) (a0 : Int32) (f g : (Nat → Nat → Int32)) (r : Bool × (Nat → Nat → Int32)) (h : xs_readAny_B r_readAny r_readCondition a0 f = some r) : am_Ev sc (d + 3) 103 (0, [(0, .ref 128), (1, .int a0)], [], am_SH, (f, g)) ((some (.int (am_b r.1))), am_SH, (r.2, g)) := by
  have hcd : am_code 103 = am_c103 := rfl
  unfold xs_readAny_B at h
  refine am_Ev.go hcd 2 (s' := (2, [(0, .ref 128), (1, .int a0)], [.int a0, .ref 128], am_SH, (f, g))) rfl ?_
  obtain ⟨p1, hp1, h⟩ := am_bind_some h
  refine am_Ev.call hcd (a := 104) (s0 := (0, [(0, .ref 128), (1, .int a0)], [], am_SH, (f, g))) (q := ((some (.int (am_b p1.1))), am_SH, (p1.2, g))) (s1 := (3, [(0, .ref 128), (1, .int a0)], [.int (am_b p1.1)], am_SH, (p1.2, g))) rfl rfl (hreadCondition a0 f g p1 hp1) ?_
  rcases am_ite h with ⟨c5, h⟩ | ⟨c5, h⟩
  · refine am_Ev.f hcd (c := am_b p1.1 = 0) (s1 := (6, [(0, .ref 128), (1, .int a0)], [], am_SH, (p1.2, g))) rfl (am_b_t c5) ?_
    refine am_Ev.go hcd 4 (s' := (10, [(0, .ref 128), (1, .int a0), (2, .int 0), (3, .int 0)], [], am_SH, (p1.2, g))) rfl ?_
    obtain ⟨e25, he25, h⟩ := am_bind_some h
    have hK2 : (fun (v : (Bool × (Nat → Nat → Int32)) ⊕ (Bool × (Nat → Nat → Int32))) => v.elim (fun (v : Bool × (Nat → Nat → Int32)) => (((some (.int (am_b v.1))), am_SH, (v.2, g)) : am_R) = ((some (.int (am_b r.1))), am_SH, (r.2, g))) (fun (e26 : Bool × (Nat → Nat → Int32)) => am_Ev sc (d + 3) 103 (61, [(0, .ref 128), (2, .int (am_b e26.1))], [], am_SH, (e26.2, g)) ((some (.int (am_b r.1))), am_SH, (r.2, g)))) e25 := by
      cases e25 with
      | inl v => exact (by cases h; rfl)
      | inr e26 =>
        have h := am_elim_r h
        show am_Ev sc (d + 3) 103 (61, [(0, .ref 128), (2, .int (am_b e26.1))], [], am_SH, (e26.2, g)) ((some (.int (am_b r.1))), am_SH, (r.2, g))
        refine am_Ev.go hcd 1 (s' := (62, [(0, .ref 128), (2, .int (am_b e26.1))], [.int (am_b e26.1)], am_SH, (e26.2, g))) rfl ?_
        rcases am_ite h with ⟨c15, h⟩ | ⟨c15, h⟩
        · refine am_Ev.f hcd (c := am_b e26.1 = 0) (s1 := (63, [(0, .ref 128), (2, .int (am_b e26.1))], [], am_SH, (e26.2, g))) rfl (am_b_t c15) ?_
          refine am_Ev.go hcd 3 (s' := (66, [(0, .ref 128), (2, .int (am_b e26.1))], [.int 20124, .ref 129], am_SH, (e26.2, g))) rfl ?_
          obtain ⟨p27, hp27, h⟩ := am_bind_some h
          refine am_Ev.call hcd (a := 32) (s0 := (0, [(0, .ref 129), (1, .int 20124)], [], am_SH, (e26.2, g))) (q := (none, am_SH, (p27, g))) (s1 := (67, [(0, .ref 128), (2, .int (am_b e26.1))], [], am_SH, (p27, g))) rfl rfl (xl_emit_129_ok (d + 2) 20124 e26.2 g p27 hp27) ?_
          refine am_Ev.go hcd 1 (s' := (68, [(0, .ref 128), (2, .int (am_b e26.1))], [.int 1], am_SH, (p27, g))) rfl ?_
          exact am_Ev.cast (a := ((some (.int (am_b (true, p27).1))), am_SH, ((true, p27).2, g))) (by cases h; rfl) (am_Ev.ret hcd rfl)
        · refine am_Ev.t hcd (c := am_b e26.1 = 0) (s1 := (67, [(0, .ref 128), (2, .int (am_b e26.1))], [], am_SH, (e26.2, g))) rfl (am_b_f c15) ?_
          refine am_Ev.go hcd 1 (s' := (68, [(0, .ref 128), (2, .int (am_b e26.1))], [.int 1], am_SH, (e26.2, g))) rfl ?_
          exact am_Ev.cast (a := ((some (.int (am_b (true, e26.2).1))), am_SH, ((true, e26.2).2, g))) (by cases h; rfl) (am_Ev.ret hcd rfl)
    refine am_Ev.weak' (am_loop_ok (G := fun (s2 : Bool × Int32 × (Nat → Nat → Int32)) => am_Ev sc (d + 3) 103 (10, [(0, .ref 128), (1, .int a0), (2, .int (am_b s2.1)), (3, .int s2.2.1)], [], am_SH, (s2.2.2, g)) ((some (.int (am_b r.1))), am_SH, (r.2, g))) (Z := fun (v : (Bool × (Nat → Nat → Int32)) ⊕ (Bool × (Nat → Nat → Int32))) => v.elim (fun (v : Bool × (Nat → Nat → Int32)) => (((some (.int (am_b v.1))), am_SH, (v.2, g)) : am_R) = ((some (.int (am_b r.1))), am_SH, (r.2, g))) (fun (e26 : Bool × (Nat → Nat → Int32)) => am_Ev sc (d + 3) 103 (61, [(0, .ref 128), (2, .int (am_b e26.1))], [], am_SH, (e26.2, g)) ((some (.int (am_b r.1))), am_SH, (r.2, g)))) ?_ am_F (false, 0, p1.2) e25 he25 hK2) (am_sub_cons rfl (am_sub_cons rfl (am_sub_cons rfl (am_sub_cons rfl am_sub_nil)))) rfl
    intro s2 q2 h hI2 hZ2
    show am_Ev sc (d + 3) 103 (10, [(0, .ref 128), (1, .int a0), (2, .int (am_b s2.1)), (3, .int s2.2.1)], [], am_SH, (s2.2.2, g)) ((some (.int (am_b r.1))), am_SH, (r.2, g))
    refine am_Ev.go hcd 2 (s' := (12, [(0, .ref 128), (1, .int a0), (2, .int (am_b s2.1)), (3, .int s2.2.1)], [.int 400, .int s2.2.1], am_SH, (s2.2.2, g))) rfl ?_
    rcases am_ite h with ⟨c29, h⟩ | ⟨c29, h⟩
    · refine am_Ev.t hcd (c := s2.2.1 < 400) (s1 := (13, [(0, .ref 128), (1, .int a0), (2, .int (am_b s2.1)), (3, .int s2.2.1)], [], am_SH, (s2.2.2, g))) rfl c29 ?_
      refine am_Ev.go hcd 3 (s' := (16, [(0, .ref 128), (1, .int a0), (2, .int (am_b s2.1)), (3, .int s2.2.1)], [.int 4, .ref 123], am_SH, (s2.2.2, g))) rfl ?_
      refine am_Ev.call hcd (a := 112) (s0 := (0, [(0, .ref 123), (1, .int 4)], [], am_SH, (s2.2.2, g))) (q := ((some (.int (am_b (xt_isWord 4 s2.2.2)))), am_SH, (s2.2.2, g))) (s1 := (17, [(0, .ref 128), (1, .int a0), (2, .int (am_b s2.1)), (3, .int s2.2.1)], [.int (am_b (xt_isWord 4 s2.2.2))], am_SH, (s2.2.2, g))) rfl rfl (xt_isWord_ok (d + 2) 4 s2.2.2 g) ?_
      rcases am_ite h with ⟨c34, h⟩ | ⟨c34, h⟩
      · refine am_Ev.f hcd (c := am_b (xt_isWord 4 s2.2.2) = 0) (s1 := (23, [(0, .ref 128), (1, .int a0), (2, .int (am_b s2.1)), (3, .int s2.2.1)], [], am_SH, (s2.2.2, g))) rfl (am_b_t c34) ?_
        refine am_Ev.go hcd 3 (s' := (26, [(0, .ref 128), (1, .int a0), (2, .int (am_b s2.1)), (3, .int s2.2.1)], [.int 5, .ref 123], am_SH, (s2.2.2, g))) rfl ?_
        refine am_Ev.call hcd (a := 112) (s0 := (0, [(0, .ref 123), (1, .int 5)], [], am_SH, (s2.2.2, g))) (q := ((some (.int (am_b (xt_isWord 5 s2.2.2)))), am_SH, (s2.2.2, g))) (s1 := (27, [(0, .ref 128), (1, .int a0), (2, .int (am_b s2.1)), (3, .int s2.2.1)], [.int (am_b (xt_isWord 5 s2.2.2))], am_SH, (s2.2.2, g))) rfl rfl (xt_isWord_ok (d + 2) 5 s2.2.2 g) ?_
        obtain ⟨t5, Et5, h⟩ := am_let_eq h
        refine am_Ev.go hcd 1 (s' := (28, [(0, .ref 128), (1, .int a0), (2, .int (am_b s2.1)), (3, .int s2.2.1), (4, .int (am_b t5))], [], am_SH, (s2.2.2, g))) (by subst Et5; exact rfl) ?_
        obtain ⟨t7, ht7, kt7⟩ := am_bind_some h
        have hKt7 : am_Ev sc (d + 3) 103 (36, [(0, .ref 128), (1, .int a0), (2, .int (am_b s2.1)), (3, .int s2.2.1), (4, .int (am_b t5))], [], am_SH, (t7, g)) ((some (.int (am_b r.1))), am_SH, (r.2, g)) := by
          have h := kt7
          obtain ⟨t8, ht8, kt8⟩ := am_let_eq h
          have hKt8 : am_Ev sc (d + 3) 103 (43, [(0, .ref 128), (1, .int a0), (3, .int s2.2.1), (4, .int (am_b t5))], [.int (am_b t8)], am_SH, (t7, g)) ((some (.int (am_b r.1))), am_SH, (r.2, g)) := by
            have h := kt8
            refine am_Ev.go hcd 3 (s' := (46, [(0, .ref 128), (1, .int a0), (2, .int (am_b t8)), (3, .int s2.2.1), (4, .int (am_b t5))], [.ref 123], am_SH, (t7, g))) rfl ?_
            obtain ⟨p9, hp9, h⟩ := am_bind_some h
            refine am_Ev.call hcd (a := 111) (s0 := (0, [(0, .ref 123)], [], am_SH, (t7, g))) (q := (none, am_SH, (p9, g))) (s1 := (47, [(0, .ref 128), (1, .int a0), (2, .int (am_b t8)), (3, .int s2.2.1), (4, .int (am_b t5))], [], am_SH, (p9, g))) rfl rfl (xt_advance_ok (d + 2)  t7 g p9 hp9) ?_
            refine am_Ev.go hcd 2 (s' := (49, [(0, .ref 128), (1, .int a0), (2, .int (am_b t8)), (3, .int s2.2.1), (4, .int (am_b t5))], [.int a0, .ref 128], am_SH, (p9, g))) rfl ?_
            obtain ⟨p10, hp10, h⟩ := am_bind_some h
            refine am_Ev.call hcd (a := 104) (s0 := (0, [(0, .ref 128), (1, .int a0)], [], am_SH, (p9, g))) (q := ((some (.int (am_b p10.1))), am_SH, (p10.2, g))) (s1 := (50, [(0, .ref 128), (1, .int a0), (2, .int (am_b t8)), (3, .int s2.2.1), (4, .int (am_b t5))], [.int (am_b p10.1)], am_SH, (p10.2, g))) rfl rfl (hreadCondition a0 p9 g p10 hp10) ?_
            rcases am_ite h with ⟨c52, h⟩ | ⟨c52, h⟩
            · refine am_Ev.f hcd (c := am_b p10.1 = 0) (s1 := (53, [(0, .ref 128), (1, .int a0), (2, .int (am_b t8)), (3, .int s2.2.1), (4, .int (am_b t5))], [], am_SH, (p10.2, g))) rfl (am_b_t c52) ?_
              obtain ⟨t12, ht12, kt12⟩ := am_bind_some h
              have hKt12 : am_Ev sc (d + 3) 103 (59, [(0, .ref 128), (1, .int a0), (2, .int (am_b t8)), (3, .int s2.2.1)], [], am_SH, (t12, g)) ((some (.int (am_b r.1))), am_SH, (r.2, g)) := by
                have h := kt12
                obtain ⟨t13, Et13, h⟩ := am_let_eq h
                refine am_Ev.go hcd 1 (s' := (60, [(0, .ref 128), (1, .int a0), (2, .int (am_b t8)), (3, .int t13)], [], am_SH, (t12, g))) (by subst Et13; exact rfl) ?_
                refine am_Ev.go hcd 1 (s' := (10, [(0, .ref 128), (1, .int a0), (2, .int (am_b t8)), (3, .int t13)], [], am_SH, (t12, g))) rfl ?_
                exact am_Ev.weak' (hI2 (t8, t13, t12) (Option.some.inj h).symm) (am_sub_cons rfl (am_sub_cons rfl (am_sub_cons rfl (am_sub_cons rfl am_sub_nil)))) rfl
              have hLt12 : ∀ tt, tt = t12 → am_Ev sc (d + 3) 103 (59, [(0, .ref 128), (1, .int a0), (2, .int (am_b t8)), (3, .int s2.2.1)], [], am_SH, (tt, g)) ((some (.int (am_b r.1))), am_SH, (r.2, g)) := fun tt htt => by subst htt; exact hKt12
              have h := ht12
              refine am_Ev.go hcd 1 (s' := (54, [(0, .ref 128), (1, .int a0), (2, .int (am_b t8)), (3, .int s2.2.1), (4, .int (am_b t5))], [.int (am_b t5)], am_SH, (p10.2, g))) rfl ?_
              rcases am_ite h with ⟨c63, h⟩ | ⟨c63, h⟩
              · refine am_Ev.f hcd (c := am_b t5 = 0) (s1 := (55, [(0, .ref 128), (1, .int a0), (2, .int (am_b t8)), (3, .int s2.2.1), (4, .int (am_b t5))], [], am_SH, (p10.2, g))) rfl (am_b_t c63) ?_
                refine am_Ev.go hcd 3 (s' := (58, [(0, .ref 128), (1, .int a0), (2, .int (am_b t8)), (3, .int s2.2.1), (4, .int (am_b t5))], [.int 20038, .ref 129], am_SH, (p10.2, g))) rfl ?_
                obtain ⟨p11, hp11, h⟩ := am_bind_some h
                refine am_Ev.call hcd (a := 32) (s0 := (0, [(0, .ref 129), (1, .int 20038)], [], am_SH, (p10.2, g))) (q := (none, am_SH, (p11, g))) (s1 := (59, [(0, .ref 128), (1, .int a0), (2, .int (am_b t8)), (3, .int s2.2.1), (4, .int (am_b t5))], [], am_SH, (p11, g))) rfl rfl (xl_emit_129_ok (d + 2) 20038 p10.2 g p11 hp11) ?_
                exact am_Ev.weak' (hLt12 p11 (Option.some.inj h)) (am_sub_cons rfl (am_sub_cons rfl (am_sub_cons rfl (am_sub_cons rfl am_sub_nil)))) rfl
              · refine am_Ev.t hcd (c := am_b t5 = 0) (s1 := (59, [(0, .ref 128), (1, .int a0), (2, .int (am_b t8)), (3, .int s2.2.1), (4, .int (am_b t5))], [], am_SH, (p10.2, g))) rfl (am_b_f c63) ?_
                exact am_Ev.weak' (hLt12 p10.2 (Option.some.inj h)) (am_sub_cons rfl (am_sub_cons rfl (am_sub_cons rfl (am_sub_cons rfl am_sub_nil)))) rfl
            · refine am_Ev.t hcd (c := am_b p10.1 = 0) (s1 := (51, [(0, .ref 128), (1, .int a0), (2, .int (am_b t8)), (3, .int s2.2.1), (4, .int (am_b t5))], [], am_SH, (p10.2, g))) rfl (am_b_f c52) ?_
              refine am_Ev.go hcd 1 (s' := (52, [(0, .ref 128), (1, .int a0), (2, .int (am_b t8)), (3, .int s2.2.1), (4, .int (am_b t5))], [.int 0], am_SH, (p10.2, g))) rfl ?_
              exact am_Ev.cast (a := ((some (.int (am_b (false, p10.2).1))), am_SH, ((false, p10.2).2, g))) (hZ2 _ (Option.some.inj h).symm) (am_Ev.ret hcd rfl)
          have hLt8 : ∀ tt, tt = t8 → am_Ev sc (d + 3) 103 (43, [(0, .ref 128), (1, .int a0), (3, .int s2.2.1), (4, .int (am_b t5))], [.int (am_b tt)], am_SH, (t7, g)) ((some (.int (am_b r.1))), am_SH, (r.2, g)) := fun tt htt => by subst htt; exact hKt8
          have h := ht8
          refine am_Ev.go hcd 1 (s' := (37, [(0, .ref 128), (1, .int a0), (2, .int (am_b s2.1)), (3, .int s2.2.1), (4, .int (am_b t5))], [.int (am_b s2.1)], am_SH, (t7, g))) rfl ?_
          rcases am_itv h with ⟨c77, h⟩ | ⟨c77, h⟩
          · refine am_Ev.f hcd (c := am_b s2.1 = 0) (s1 := (40, [(0, .ref 128), (1, .int a0), (2, .int (am_b s2.1)), (3, .int s2.2.1), (4, .int (am_b t5))], [], am_SH, (t7, g))) rfl (am_b_t c77) ?_
            refine am_Ev.go hcd 2 (s' := (43, [(0, .ref 128), (1, .int a0), (2, .int (am_b s2.1)), (3, .int s2.2.1), (4, .int (am_b t5))], [.int 1], am_SH, (t7, g))) rfl ?_
            exact am_Ev.weak' (hLt8 true h.symm) (am_sub_cons rfl (am_sub_cons rfl (am_sub_cons rfl (am_sub_cons rfl am_sub_nil)))) rfl
          · refine am_Ev.t hcd (c := am_b s2.1 = 0) (s1 := (38, [(0, .ref 128), (1, .int a0), (2, .int (am_b s2.1)), (3, .int s2.2.1), (4, .int (am_b t5))], [], am_SH, (t7, g))) rfl (am_b_f c77) ?_
            refine am_Ev.go hcd 1 (s' := (39, [(0, .ref 128), (1, .int a0), (2, .int (am_b s2.1)), (3, .int s2.2.1), (4, .int (am_b t5))], [.int (am_b t5)], am_SH, (t7, g))) rfl ?_
            rcases am_itv h with ⟨c83, h⟩ | ⟨c83, h⟩
            · refine am_Ev.f hcd (c := am_b t5 = 0) (s1 := (42, [(0, .ref 128), (1, .int a0), (2, .int (am_b s2.1)), (3, .int s2.2.1), (4, .int (am_b t5))], [], am_SH, (t7, g))) rfl (am_b_t c83) ?_
              refine am_Ev.go hcd 1 (s' := (43, [(0, .ref 128), (1, .int a0), (2, .int (am_b s2.1)), (3, .int s2.2.1), (4, .int (am_b t5))], [.int 0], am_SH, (t7, g))) rfl ?_
              exact am_Ev.weak' (hLt8 false h.symm) (am_sub_cons rfl (am_sub_cons rfl (am_sub_cons rfl (am_sub_cons rfl am_sub_nil)))) rfl
            · refine am_Ev.t hcd (c := am_b t5 = 0) (s1 := (40, [(0, .ref 128), (1, .int a0), (2, .int (am_b s2.1)), (3, .int s2.2.1), (4, .int (am_b t5))], [], am_SH, (t7, g))) rfl (am_b_f c83) ?_
              refine am_Ev.go hcd 2 (s' := (43, [(0, .ref 128), (1, .int a0), (2, .int (am_b s2.1)), (3, .int s2.2.1), (4, .int (am_b t5))], [.int 1], am_SH, (t7, g))) rfl ?_
              exact am_Ev.weak' (hLt8 true h.symm) (am_sub_cons rfl (am_sub_cons rfl (am_sub_cons rfl (am_sub_cons rfl am_sub_nil)))) rfl
        have hLt7 : ∀ tt, tt = t7 → am_Ev sc (d + 3) 103 (36, [(0, .ref 128), (1, .int a0), (2, .int (am_b s2.1)), (3, .int s2.2.1), (4, .int (am_b t5))], [], am_SH, (tt, g)) ((some (.int (am_b r.1))), am_SH, (r.2, g)) := fun tt htt => by subst htt; exact hKt7
        have h := ht7
        refine am_Ev.go hcd 1 (s' := (29, [(0, .ref 128), (1, .int a0), (2, .int (am_b s2.1)), (3, .int s2.2.1), (4, .int (am_b t5))], [.int (am_b t5)], am_SH, (s2.2.2, g))) rfl ?_
        rcases am_ite h with ⟨c93, h⟩ | ⟨c93, h⟩
        · refine am_Ev.f hcd (c := am_b t5 = 0) (s1 := (36, [(0, .ref 128), (1, .int a0), (2, .int (am_b s2.1)), (3, .int s2.2.1), (4, .int (am_b t5))], [], am_SH, (s2.2.2, g))) rfl (am_b_t c93) ?_
          exact am_Ev.weak' (hLt7 s2.2.2 (Option.some.inj h)) (am_sub_cons rfl (am_sub_cons rfl (am_sub_cons rfl (am_sub_cons rfl (am_sub_cons rfl am_sub_nil))))) rfl
        · refine am_Ev.t hcd (c := am_b t5 = 0) (s1 := (30, [(0, .ref 128), (1, .int a0), (2, .int (am_b s2.1)), (3, .int s2.2.1), (4, .int (am_b t5))], [], am_SH, (s2.2.2, g))) rfl (am_b_f c93) ?_
          refine am_Ev.go hcd 1 (s' := (31, [(0, .ref 128), (1, .int a0), (2, .int (am_b s2.1)), (3, .int s2.2.1), (4, .int (am_b t5))], [.int (am_b s2.1)], am_SH, (s2.2.2, g))) rfl ?_
          rcases am_ite h with ⟨c98, h⟩ | ⟨c98, h⟩
          · refine am_Ev.f hcd (c := am_b s2.1 = 0) (s1 := (32, [(0, .ref 128), (1, .int a0), (2, .int (am_b s2.1)), (3, .int s2.2.1), (4, .int (am_b t5))], [], am_SH, (s2.2.2, g))) rfl (am_b_t c98) ?_
            refine am_Ev.go hcd 3 (s' := (35, [(0, .ref 128), (1, .int a0), (2, .int (am_b s2.1)), (3, .int s2.2.1), (4, .int (am_b t5))], [.int 20124, .ref 129], am_SH, (s2.2.2, g))) rfl ?_
            obtain ⟨p6, hp6, h⟩ := am_bind_some h
            refine am_Ev.call hcd (a := 32) (s0 := (0, [(0, .ref 129), (1, .int 20124)], [], am_SH, (s2.2.2, g))) (q := (none, am_SH, (p6, g))) (s1 := (36, [(0, .ref 128), (1, .int a0), (2, .int (am_b s2.1)), (3, .int s2.2.1), (4, .int (am_b t5))], [], am_SH, (p6, g))) rfl rfl (xl_emit_129_ok (d + 2) 20124 s2.2.2 g p6 hp6) ?_
            exact am_Ev.weak' (hLt7 p6 (Option.some.inj h)) (am_sub_cons rfl (am_sub_cons rfl (am_sub_cons rfl (am_sub_cons rfl (am_sub_cons rfl am_sub_nil))))) rfl
          · refine am_Ev.t hcd (c := am_b s2.1 = 0) (s1 := (36, [(0, .ref 128), (1, .int a0), (2, .int (am_b s2.1)), (3, .int s2.2.1), (4, .int (am_b t5))], [], am_SH, (s2.2.2, g))) rfl (am_b_f c98) ?_
            exact am_Ev.weak' (hLt7 s2.2.2 (Option.some.inj h)) (am_sub_cons rfl (am_sub_cons rfl (am_sub_cons rfl (am_sub_cons rfl (am_sub_cons rfl am_sub_nil))))) rfl
      · refine am_Ev.t hcd (c := am_b (xt_isWord 4 s2.2.2) = 0) (s1 := (18, [(0, .ref 128), (1, .int a0), (2, .int (am_b s2.1)), (3, .int s2.2.1)], [], am_SH, (s2.2.2, g))) rfl (am_b_f c34) ?_
        refine am_Ev.go hcd 3 (s' := (21, [(0, .ref 128), (1, .int a0), (2, .int (am_b s2.1)), (3, .int s2.2.1)], [.int 5, .ref 123], am_SH, (s2.2.2, g))) rfl ?_
        refine am_Ev.call hcd (a := 112) (s0 := (0, [(0, .ref 123), (1, .int 5)], [], am_SH, (s2.2.2, g))) (q := ((some (.int (am_b (xt_isWord 5 s2.2.2)))), am_SH, (s2.2.2, g))) (s1 := (22, [(0, .ref 128), (1, .int a0), (2, .int (am_b s2.1)), (3, .int s2.2.1)], [.int (am_b (xt_isWord 5 s2.2.2))], am_SH, (s2.2.2, g))) rfl rfl (xt_isWord_ok (d + 2) 5 s2.2.2 g) ?_
        rcases am_ite h with ⟨c110, h⟩ | ⟨c110, h⟩
        · refine am_Ev.f hcd (c := am_b (xt_isWord 5 s2.2.2) = 0) (s1 := (23, [(0, .ref 128), (1, .int a0), (2, .int (am_b s2.1)), (3, .int s2.2.1)], [], am_SH, (s2.2.2, g))) rfl (am_b_t c110) ?_
          refine am_Ev.go hcd 3 (s' := (26, [(0, .ref 128), (1, .int a0), (2, .int (am_b s2.1)), (3, .int s2.2.1)], [.int 5, .ref 123], am_SH, (s2.2.2, g))) rfl ?_
          refine am_Ev.call hcd (a := 112) (s0 := (0, [(0, .ref 123), (1, .int 5)], [], am_SH, (s2.2.2, g))) (q := ((some (.int (am_b (xt_isWord 5 s2.2.2)))), am_SH, (s2.2.2, g))) (s1 := (27, [(0, .ref 128), (1, .int a0), (2, .int (am_b s2.1)), (3, .int s2.2.1)], [.int (am_b (xt_isWord 5 s2.2.2))], am_SH, (s2.2.2, g))) rfl rfl (xt_isWord_ok (d + 2) 5 s2.2.2 g) ?_
          obtain ⟨t16, Et16, h⟩ := am_let_eq h
          refine am_Ev.go hcd 1 (s' := (28, [(0, .ref 128), (1, .int a0), (2, .int (am_b s2.1)), (3, .int s2.2.1), (4, .int (am_b t16))], [], am_SH, (s2.2.2, g))) (by subst Et16; exact rfl) ?_
          obtain ⟨t18, ht18, kt18⟩ := am_bind_some h
          have hKt18 : am_Ev sc (d + 3) 103 (36, [(0, .ref 128), (1, .int a0), (2, .int (am_b s2.1)), (3, .int s2.2.1), (4, .int (am_b t16))], [], am_SH, (t18, g)) ((some (.int (am_b r.1))), am_SH, (r.2, g)) := by
            have h := kt18
            obtain ⟨t19, ht19, kt19⟩ := am_let_eq h
            have hKt19 : am_Ev sc (d + 3) 103 (43, [(0, .ref 128), (1, .int a0), (3, .int s2.2.1), (4, .int (am_b t16))], [.int (am_b t19)], am_SH, (t18, g)) ((some (.int (am_b r.1))), am_SH, (r.2, g)) := by
              have h := kt19
              refine am_Ev.go hcd 3 (s' := (46, [(0, .ref 128), (1, .int a0), (2, .int (am_b t19)), (3, .int s2.2.1), (4, .int (am_b t16))], [.ref 123], am_SH, (t18, g))) rfl ?_
              obtain ⟨p20, hp20, h⟩ := am_bind_some h
              refine am_Ev.call hcd (a := 111) (s0 := (0, [(0, .ref 123)], [], am_SH, (t18, g))) (q := (none, am_SH, (p20, g))) (s1 := (47, [(0, .ref 128), (1, .int a0), (2, .int (am_b t19)), (3, .int s2.2.1), (4, .int (am_b t16))], [], am_SH, (p20, g))) rfl rfl (xt_advance_ok (d + 2)  t18 g p20 hp20) ?_
              refine am_Ev.go hcd 2 (s' := (49, [(0, .ref 128), (1, .int a0), (2, .int (am_b t19)), (3, .int s2.2.1), (4, .int (am_b t16))], [.int a0, .ref 128], am_SH, (p20, g))) rfl ?_
              obtain ⟨p21, hp21, h⟩ := am_bind_some h
              refine am_Ev.call hcd (a := 104) (s0 := (0, [(0, .ref 128), (1, .int a0)], [], am_SH, (p20, g))) (q := ((some (.int (am_b p21.1))), am_SH, (p21.2, g))) (s1 := (50, [(0, .ref 128), (1, .int a0), (2, .int (am_b t19)), (3, .int s2.2.1), (4, .int (am_b t16))], [.int (am_b p21.1)], am_SH, (p21.2, g))) rfl rfl (hreadCondition a0 p20 g p21 hp21) ?_
              rcases am_ite h with ⟨c128, h⟩ | ⟨c128, h⟩
              · refine am_Ev.f hcd (c := am_b p21.1 = 0) (s1 := (53, [(0, .ref 128), (1, .int a0), (2, .int (am_b t19)), (3, .int s2.2.1), (4, .int (am_b t16))], [], am_SH, (p21.2, g))) rfl (am_b_t c128) ?_
                obtain ⟨t23, ht23, kt23⟩ := am_bind_some h
                have hKt23 : am_Ev sc (d + 3) 103 (59, [(0, .ref 128), (1, .int a0), (2, .int (am_b t19)), (3, .int s2.2.1)], [], am_SH, (t23, g)) ((some (.int (am_b r.1))), am_SH, (r.2, g)) := by
                  have h := kt23
                  obtain ⟨t24, Et24, h⟩ := am_let_eq h
                  refine am_Ev.go hcd 1 (s' := (60, [(0, .ref 128), (1, .int a0), (2, .int (am_b t19)), (3, .int t24)], [], am_SH, (t23, g))) (by subst Et24; exact rfl) ?_
                  refine am_Ev.go hcd 1 (s' := (10, [(0, .ref 128), (1, .int a0), (2, .int (am_b t19)), (3, .int t24)], [], am_SH, (t23, g))) rfl ?_
                  exact am_Ev.weak' (hI2 (t19, t24, t23) (Option.some.inj h).symm) (am_sub_cons rfl (am_sub_cons rfl (am_sub_cons rfl (am_sub_cons rfl am_sub_nil)))) rfl
                have hLt23 : ∀ tt, tt = t23 → am_Ev sc (d + 3) 103 (59, [(0, .ref 128), (1, .int a0), (2, .int (am_b t19)), (3, .int s2.2.1)], [], am_SH, (tt, g)) ((some (.int (am_b r.1))), am_SH, (r.2, g)) := fun tt htt => by subst htt; exact hKt23
                have h := ht23
                refine am_Ev.go hcd 1 (s' := (54, [(0, .ref 128), (1, .int a0), (2, .int (am_b t19)), (3, .int s2.2.1), (4, .int (am_b t16))], [.int (am_b t16)], am_SH, (p21.2, g))) rfl ?_
                rcases am_ite h with ⟨c139, h⟩ | ⟨c139, h⟩
                · refine am_Ev.f hcd (c := am_b t16 = 0) (s1 := (55, [(0, .ref 128), (1, .int a0), (2, .int (am_b t19)), (3, .int s2.2.1), (4, .int (am_b t16))], [], am_SH, (p21.2, g))) rfl (am_b_t c139) ?_
                  refine am_Ev.go hcd 3 (s' := (58, [(0, .ref 128), (1, .int a0), (2, .int (am_b t19)), (3, .int s2.2.1), (4, .int (am_b t16))], [.int 20038, .ref 129], am_SH, (p21.2, g))) rfl ?_
                  obtain ⟨p22, hp22, h⟩ := am_bind_some h
                  refine am_Ev.call hcd (a := 32) (s0 := (0, [(0, .ref 129), (1, .int 20038)], [], am_SH, (p21.2, g))) (q := (none, am_SH, (p22, g))) (s1 := (59, [(0, .ref 128), (1, .int a0), (2, .int (am_b t19)), (3, .int s2.2.1), (4, .int (am_b t16))], [], am_SH, (p22, g))) rfl rfl (xl_emit_129_ok (d + 2) 20038 p21.2 g p22 hp22) ?_
                  exact am_Ev.weak' (hLt23 p22 (Option.some.inj h)) (am_sub_cons rfl (am_sub_cons rfl (am_sub_cons rfl (am_sub_cons rfl am_sub_nil)))) rfl
                · refine am_Ev.t hcd (c := am_b t16 = 0) (s1 := (59, [(0, .ref 128), (1, .int a0), (2, .int (am_b t19)), (3, .int s2.2.1), (4, .int (am_b t16))], [], am_SH, (p21.2, g))) rfl (am_b_f c139) ?_
                  exact am_Ev.weak' (hLt23 p21.2 (Option.some.inj h)) (am_sub_cons rfl (am_sub_cons rfl (am_sub_cons rfl (am_sub_cons rfl am_sub_nil)))) rfl
              · refine am_Ev.t hcd (c := am_b p21.1 = 0) (s1 := (51, [(0, .ref 128), (1, .int a0), (2, .int (am_b t19)), (3, .int s2.2.1), (4, .int (am_b t16))], [], am_SH, (p21.2, g))) rfl (am_b_f c128) ?_
                refine am_Ev.go hcd 1 (s' := (52, [(0, .ref 128), (1, .int a0), (2, .int (am_b t19)), (3, .int s2.2.1), (4, .int (am_b t16))], [.int 0], am_SH, (p21.2, g))) rfl ?_
                exact am_Ev.cast (a := ((some (.int (am_b (false, p21.2).1))), am_SH, ((false, p21.2).2, g))) (hZ2 _ (Option.some.inj h).symm) (am_Ev.ret hcd rfl)
            have hLt19 : ∀ tt, tt = t19 → am_Ev sc (d + 3) 103 (43, [(0, .ref 128), (1, .int a0), (3, .int s2.2.1), (4, .int (am_b t16))], [.int (am_b tt)], am_SH, (t18, g)) ((some (.int (am_b r.1))), am_SH, (r.2, g)) := fun tt htt => by subst htt; exact hKt19
            have h := ht19
            refine am_Ev.go hcd 1 (s' := (37, [(0, .ref 128), (1, .int a0), (2, .int (am_b s2.1)), (3, .int s2.2.1), (4, .int (am_b t16))], [.int (am_b s2.1)], am_SH, (t18, g))) rfl ?_
            rcases am_itv h with ⟨c153, h⟩ | ⟨c153, h⟩
            · refine am_Ev.f hcd (c := am_b s2.1 = 0) (s1 := (40, [(0, .ref 128), (1, .int a0), (2, .int (am_b s2.1)), (3, .int s2.2.1), (4, .int (am_b t16))], [], am_SH, (t18, g))) rfl (am_b_t c153) ?_
              refine am_Ev.go hcd 2 (s' := (43, [(0, .ref 128), (1, .int a0), (2, .int (am_b s2.1)), (3, .int s2.2.1), (4, .int (am_b t16))], [.int 1], am_SH, (t18, g))) rfl ?_
              exact am_Ev.weak' (hLt19 true h.symm) (am_sub_cons rfl (am_sub_cons rfl (am_sub_cons rfl (am_sub_cons rfl am_sub_nil)))) rfl
            · refine am_Ev.t hcd (c := am_b s2.1 = 0) (s1 := (38, [(0, .ref 128), (1, .int a0), (2, .int (am_b s2.1)), (3, .int s2.2.1), (4, .int (am_b t16))], [], am_SH, (t18, g))) rfl (am_b_f c153) ?_
              refine am_Ev.go hcd 1 (s' := (39, [(0, .ref 128), (1, .int a0), (2, .int (am_b s2.1)), (3, .int s2.2.1), (4, .int (am_b t16))], [.int (am_b t16)], am_SH, (t18, g))) rfl ?_
              rcases am_itv h with ⟨c159, h⟩ | ⟨c159, h⟩
              · refine am_Ev.f hcd (c := am_b t16 = 0) (s1 := (42, [(0, .ref 128), (1, .int a0), (2, .int (am_b s2.1)), (3, .int s2.2.1), (4, .int (am_b t16))], [], am_SH, (t18, g))) rfl (am_b_t c159) ?_
                refine am_Ev.go hcd 1 (s' := (43, [(0, .ref 128), (1, .int a0), (2, .int (am_b s2.1)), (3, .int s2.2.1), (4, .int (am_b t16))], [.int 0], am_SH, (t18, g))) rfl ?_
                exact am_Ev.weak' (hLt19 false h.symm) (am_sub_cons rfl (am_sub_cons rfl (am_sub_cons rfl (am_sub_cons rfl am_sub_nil)))) rfl
              · refine am_Ev.t hcd (c := am_b t16 = 0) (s1 := (40, [(0, .ref 128), (1, .int a0), (2, .int (am_b s2.1)), (3, .int s2.2.1), (4, .int (am_b t16))], [], am_SH, (t18, g))) rfl (am_b_f c159) ?_
                refine am_Ev.go hcd 2 (s' := (43, [(0, .ref 128), (1, .int a0), (2, .int (am_b s2.1)), (3, .int s2.2.1), (4, .int (am_b t16))], [.int 1], am_SH, (t18, g))) rfl ?_
                exact am_Ev.weak' (hLt19 true h.symm) (am_sub_cons rfl (am_sub_cons rfl (am_sub_cons rfl (am_sub_cons rfl am_sub_nil)))) rfl
          have hLt18 : ∀ tt, tt = t18 → am_Ev sc (d + 3) 103 (36, [(0, .ref 128), (1, .int a0), (2, .int (am_b s2.1)), (3, .int s2.2.1), (4, .int (am_b t16))], [], am_SH, (tt, g)) ((some (.int (am_b r.1))), am_SH, (r.2, g)) := fun tt htt => by subst htt; exact hKt18
          have h := ht18
          refine am_Ev.go hcd 1 (s' := (29, [(0, .ref 128), (1, .int a0), (2, .int (am_b s2.1)), (3, .int s2.2.1), (4, .int (am_b t16))], [.int (am_b t16)], am_SH, (s2.2.2, g))) rfl ?_
          rcases am_ite h with ⟨c169, h⟩ | ⟨c169, h⟩
          · refine am_Ev.f hcd (c := am_b t16 = 0) (s1 := (36, [(0, .ref 128), (1, .int a0), (2, .int (am_b s2.1)), (3, .int s2.2.1), (4, .int (am_b t16))], [], am_SH, (s2.2.2, g))) rfl (am_b_t c169) ?_
            exact am_Ev.weak' (hLt18 s2.2.2 (Option.some.inj h)) (am_sub_cons rfl (am_sub_cons rfl (am_sub_cons rfl (am_sub_cons rfl (am_sub_cons rfl am_sub_nil))))) rfl
          · refine am_Ev.t hcd (c := am_b t16 = 0) (s1 := (30, [(0, .ref 128), (1, .int a0), (2, .int (am_b s2.1)), (3, .int s2.2.1), (4, .int (am_b t16))], [], am_SH, (s2.2.2, g))) rfl (am_b_f c169) ?_
            refine am_Ev.go hcd 1 (s' := (31, [(0, .ref 128), (1, .int a0), (2, .int (am_b s2.1)), (3, .int s2.2.1), (4, .int (am_b t16))], [.int (am_b s2.1)], am_SH, (s2.2.2, g))) rfl ?_
            rcases am_ite h with ⟨c174, h⟩ | ⟨c174, h⟩
            · refine am_Ev.f hcd (c := am_b s2.1 = 0) (s1 := (32, [(0, .ref 128), (1, .int a0), (2, .int (am_b s2.1)), (3, .int s2.2.1), (4, .int (am_b t16))], [], am_SH, (s2.2.2, g))) rfl (am_b_t c174) ?_
              refine am_Ev.go hcd 3 (s' := (35, [(0, .ref 128), (1, .int a0), (2, .int (am_b s2.1)), (3, .int s2.2.1), (4, .int (am_b t16))], [.int 20124, .ref 129], am_SH, (s2.2.2, g))) rfl ?_
              obtain ⟨p17, hp17, h⟩ := am_bind_some h
              refine am_Ev.call hcd (a := 32) (s0 := (0, [(0, .ref 129), (1, .int 20124)], [], am_SH, (s2.2.2, g))) (q := (none, am_SH, (p17, g))) (s1 := (36, [(0, .ref 128), (1, .int a0), (2, .int (am_b s2.1)), (3, .int s2.2.1), (4, .int (am_b t16))], [], am_SH, (p17, g))) rfl rfl (xl_emit_129_ok (d + 2) 20124 s2.2.2 g p17 hp17) ?_
              exact am_Ev.weak' (hLt18 p17 (Option.some.inj h)) (am_sub_cons rfl (am_sub_cons rfl (am_sub_cons rfl (am_sub_cons rfl (am_sub_cons rfl am_sub_nil))))) rfl
            · refine am_Ev.t hcd (c := am_b s2.1 = 0) (s1 := (36, [(0, .ref 128), (1, .int a0), (2, .int (am_b s2.1)), (3, .int s2.2.1), (4, .int (am_b t16))], [], am_SH, (s2.2.2, g))) rfl (am_b_f c174) ?_
              exact am_Ev.weak' (hLt18 s2.2.2 (Option.some.inj h)) (am_sub_cons rfl (am_sub_cons rfl (am_sub_cons rfl (am_sub_cons rfl (am_sub_cons rfl am_sub_nil))))) rfl
        · refine am_Ev.t hcd (c := am_b (xt_isWord 5 s2.2.2) = 0) (s1 := (61, [(0, .ref 128), (1, .int a0), (2, .int (am_b s2.1)), (3, .int s2.2.1)], [], am_SH, (s2.2.2, g))) rfl (am_b_f c110) ?_
          exact am_Ev.weak' (hZ2 (.inr (s2.1, s2.2.2)) (Option.some.inj h).symm) (am_sub_cons rfl (am_sub_cons rfl am_sub_nil)) rfl
    · refine am_Ev.f hcd (c := s2.2.1 < 400) (s1 := (61, [(0, .ref 128), (1, .int a0), (2, .int (am_b s2.1)), (3, .int s2.2.1)], [], am_SH, (s2.2.2, g))) rfl c29 ?_
      exact am_Ev.weak' (hZ2 (.inr (s2.1, s2.2.2)) (Option.some.inj h).symm) (am_sub_cons rfl (am_sub_cons rfl am_sub_nil)) rfl
  · refine am_Ev.t hcd (c := am_b p1.1 = 0) (s1 := (4, [(0, .ref 128), (1, .int a0)], [], am_SH, (p1.2, g))) rfl (am_b_f c5) ?_
    refine am_Ev.go hcd 1 (s' := (5, [(0, .ref 128), (1, .int a0)], [.int 0], am_SH, (p1.2, g))) rfl ?_
    exact am_Ev.cast (a := ((some (.int (am_b (false, p1.2).1))), am_SH, ((false, p1.2).2, g))) (by cases h; rfl) (am_Ev.ret hcd rfl)
set_option maxRecDepth 100000 in
set_option maxHeartbeats 4000000 in
theorem xs_readCondition_Bok {sc : Nat × (Nat → Int32)} (d : Nat) (r_readAny : Int32 → (Nat → Nat → Int32) → Option (Bool × (Nat → Nat → Int32))) (r_readCondition : Int32 → (Nat → Nat → Int32) → Option (Bool × (Nat → Nat → Int32))) (hreadAny : ∀ (a0 : Int32) (f g : (Nat → Nat → Int32)) (r : Bool × (Nat → Nat → Int32)), r_readAny a0 f = some r → am_Ev sc (d + 2) 103 (0, [(0, .ref 128), (1, .int a0)], [], am_SH, (f, g)) ((some (.int (am_b r.1))), am_SH, (r.2, g))) (hreadCondition : ∀ (a0 : Int32) (f g : (Nat → Nat → Int32)) (r : Bool × (Nat → Nat → Int32)), r_readCondition a0 f = some r → am_Ev sc (d + 2) 104 (0, [(0, .ref 128), (1, .int a0)], [], am_SH, (f, g)) ((some (.int (am_b r.1))), am_SH, (r.2, g))) (a0 : Int32) (f g : (Nat → Nat → Int32)) (r : Bool × (Nat → Nat → Int32)) (h : xs_readCondition_B r_readAny r_readCondition a0 f = some r) : am_Ev sc (d + 3) 104 (0, [(0, .ref 128), (1, .int a0)], [], am_SH, (f, g)) ((some (.int (am_b r.1))), am_SH, (r.2, g)) := by
  have hcd : am_code 104 = am_c104 := rfl
  unfold xs_readCondition_B at h
  refine am_Ev.go hcd 3 (s' := (3, [(0, .ref 128), (1, .int a0)], [.int 6, .ref 123], am_SH, (f, g))) rfl ?_
  refine am_Ev.call hcd (a := 112) (s0 := (0, [(0, .ref 123), (1, .int 6)], [], am_SH, (f, g))) (q := ((some (.int (am_b (xt_isWord 6 f)))), am_SH, (f, g))) (s1 := (4, [(0, .ref 128), (1, .int a0)], [.int (am_b (xt_isWord 6 f))], am_SH, (f, g))) rfl rfl (xt_isWord_ok (d + 2) 6 f g) ?_
  obtain ⟨t2, Et2, h⟩ := am_let_eq h
  refine am_Ev.go hcd 1 (s' := (5, [(0, .ref 128), (1, .int a0), (2, .int (am_b t2))], [], am_SH, (f, g))) (by subst Et2; exact rfl) ?_
  refine am_Ev.go hcd 3 (s' := (8, [(0, .ref 128), (1, .int a0), (2, .int (am_b t2))], [.int 40, .ref 123], am_SH, (f, g))) rfl ?_
  refine am_Ev.call hcd (a := 113) (s0 := (0, [(0, .ref 123), (1, .int 40)], [], am_SH, (f, g))) (q := ((some (.int (am_b (xt_isSign 40 f)))), am_SH, (f, g))) (s1 := (9, [(0, .ref 128), (1, .int a0), (2, .int (am_b t2))], [.int (am_b (xt_isSign 40 f))], am_SH, (f, g))) rfl rfl (xt_isSign_ok (d + 2) 40 f g) ?_
  obtain ⟨t4, Et4, h⟩ := am_let_eq h
  refine am_Ev.go hcd 1 (s' := (10, [(0, .ref 128), (1, .int a0), (2, .int (am_b t2)), (3, .int (am_b t4))], [], am_SH, (f, g))) (by subst Et4; exact rfl) ?_
  refine am_Ev.go hcd 1 (s' := (11, [(0, .ref 128), (1, .int a0), (2, .int (am_b t2)), (3, .int (am_b t4))], [.int (am_b t2)], am_SH, (f, g))) rfl ?_
  rcases am_ite h with ⟨c10, h⟩ | ⟨c10, h⟩
  · refine am_Ev.f hcd (c := am_b t2 = 0) (s1 := (14, [(0, .ref 128), (1, .int a0), (2, .int (am_b t2)), (3, .int (am_b t4))], [], am_SH, (f, g))) rfl (am_b_t c10) ?_
    refine am_Ev.go hcd 2 (s' := (16, [(0, .ref 128), (1, .int a0), (2, .int (am_b t2)), (3, .int (am_b t4))], [.int 8, .int a0], am_SH, (f, g))) rfl ?_
    rcases am_ite h with ⟨c13, h⟩ | ⟨c13, h⟩
    · refine am_Ev.t hcd (c := a0 < 8) (s1 := (21, [(0, .ref 128), (1, .int a0), (2, .int (am_b t2)), (3, .int (am_b t4))], [], am_SH, (f, g))) rfl c13 ?_
      refine am_Ev.go hcd 1 (s' := (22, [(0, .ref 128), (1, .int a0), (2, .int (am_b t2)), (3, .int (am_b t4))], [.int (am_b t2)], am_SH, (f, g))) rfl ?_
      rcases am_ite h with ⟨c16, h⟩ | ⟨c16, h⟩
      · refine am_Ev.f hcd (c := am_b t2 = 0) (s1 := (23, [(0, .ref 128), (1, .int a0), (2, .int (am_b t2)), (3, .int (am_b t4))], [], am_SH, (f, g))) rfl (am_b_t c16) ?_
        refine am_Ev.go hcd 2 (s' := (25, [(0, .ref 128), (1, .int a0), (2, .int (am_b t2)), (3, .int (am_b t4))], [.ref 123], am_SH, (f, g))) rfl ?_
        obtain ⟨p5, hp5, h⟩ := am_bind_some h
        refine am_Ev.call hcd (a := 111) (s0 := (0, [(0, .ref 123)], [], am_SH, (f, g))) (q := (none, am_SH, (p5, g))) (s1 := (26, [(0, .ref 128), (1, .int a0), (2, .int (am_b t2)), (3, .int (am_b t4))], [], am_SH, (p5, g))) rfl rfl (xt_advance_ok (d + 2)  f g p5 hp5) ?_
        refine am_Ev.go hcd 4 (s' := (30, [(0, .ref 128), (1, .int a0), (2, .int (am_b t2)), (3, .int (am_b t4))], [.int (a0 + 1), .ref 128], am_SH, (p5, g))) rfl ?_
        obtain ⟨p6, hp6, h⟩ := am_bind_some h
        refine am_Ev.call hcd (a := 104) (s0 := (0, [(0, .ref 128), (1, .int (a0 + 1))], [], am_SH, (p5, g))) (q := ((some (.int (am_b p6.1))), am_SH, (p6.2, g))) (s1 := (31, [(0, .ref 128), (1, .int a0), (2, .int (am_b t2)), (3, .int (am_b t4))], [.int (am_b p6.1)], am_SH, (p6.2, g))) rfl rfl (hreadCondition (a0 + 1) p5 g p6 hp6) ?_
        refine am_Ev.go hcd 4 (s' := (35, [(0, .ref 128), (1, .int a0), (2, .int (am_b t2)), (3, .int (am_b t4)), (4, .int (am_b p6.1))], [.int 20033, .ref 129], am_SH, (p6.2, g))) rfl ?_
        obtain ⟨p7, hp7, h⟩ := am_bind_some h
        refine am_Ev.call hcd (a := 32) (s0 := (0, [(0, .ref 129), (1, .int 20033)], [], am_SH, (p6.2, g))) (q := (none, am_SH, (p7, g))) (s1 := (36, [(0, .ref 128), (1, .int a0), (2, .int (am_b t2)), (3, .int (am_b t4)), (4, .int (am_b p6.1))], [], am_SH, (p7, g))) rfl rfl (xl_emit_129_ok (d + 2) 20033 p6.2 g p7 hp7) ?_
        refine am_Ev.go hcd 1 (s' := (37, [(0, .ref 128), (1, .int a0), (2, .int (am_b t2)), (3, .int (am_b t4)), (4, .int (am_b p6.1))], [.int (am_b p6.1)], am_SH, (p7, g))) rfl ?_
        exact am_Ev.cast (a := ((some (.int (am_b (p6.1, p7).1))), am_SH, ((p6.1, p7).2, g))) (by cases h; rfl) (am_Ev.retb hcd rfl)
      · refine am_Ev.t hcd (c := am_b t2 = 0) (s1 := (38, [(0, .ref 128), (1, .int a0), (2, .int (am_b t2)), (3, .int (am_b t4))], [], am_SH, (f, g))) rfl (am_b_f c16) ?_
        refine am_Ev.go hcd 1 (s' := (39, [(0, .ref 128), (1, .int a0), (2, .int (am_b t2)), (3, .int (am_b t4))], [.int (am_b t4)], am_SH, (f, g))) rfl ?_
        rcases am_ite h with ⟨c31, h⟩ | ⟨c31, h⟩
        · refine am_Ev.f hcd (c := am_b t4 = 0) (s1 := (40, [(0, .ref 128), (1, .int a0), (2, .int (am_b t2)), (3, .int (am_b t4))], [], am_SH, (f, g))) rfl (am_b_t c31) ?_
          refine am_Ev.go hcd 2 (s' := (42, [(0, .ref 128), (1, .int a0), (2, .int (am_b t2)), (3, .int (am_b t4))], [.ref 123], am_SH, (f, g))) rfl ?_
          obtain ⟨p8, hp8, h⟩ := am_bind_some h
          refine am_Ev.call hcd (a := 111) (s0 := (0, [(0, .ref 123)], [], am_SH, (f, g))) (q := (none, am_SH, (p8, g))) (s1 := (43, [(0, .ref 128), (1, .int a0), (2, .int (am_b t2)), (3, .int (am_b t4))], [], am_SH, (p8, g))) rfl rfl (xt_advance_ok (d + 2)  f g p8 hp8) ?_
          refine am_Ev.go hcd 4 (s' := (47, [(0, .ref 128), (1, .int a0), (2, .int (am_b t2)), (3, .int (am_b t4))], [.int (a0 + 1), .ref 128], am_SH, (p8, g))) rfl ?_
          obtain ⟨p9, hp9, h⟩ := am_bind_some h
          refine am_Ev.call hcd (a := 103) (s0 := (0, [(0, .ref 128), (1, .int (a0 + 1))], [], am_SH, (p8, g))) (q := ((some (.int (am_b p9.1))), am_SH, (p9.2, g))) (s1 := (48, [(0, .ref 128), (1, .int a0), (2, .int (am_b t2)), (3, .int (am_b t4))], [.int (am_b p9.1)], am_SH, (p9.2, g))) rfl rfl (hreadAny (a0 + 1) p8 g p9 hp9) ?_
          rcases am_ite h with ⟨c40, h⟩ | ⟨c40, h⟩
          · refine am_Ev.f hcd (c := am_b p9.1 = 0) (s1 := (49, [(0, .ref 128), (1, .int a0), (2, .int (am_b t2)), (3, .int (am_b t4))], [], am_SH, (p9.2, g))) rfl (am_b_t c40) ?_
            refine am_Ev.go hcd 2 (s' := (51, [(0, .ref 128), (1, .int a0), (2, .int (am_b t2)), (3, .int (am_b t4))], [.int 41, .ref 128], am_SH, (p9.2, g))) rfl ?_
            obtain ⟨p10, hp10, h⟩ := am_bind_some h
            refine am_Ev.call hcd (a := 94) (s0 := (0, [(0, .ref 128), (1, .int 41)], [], am_SH, (p9.2, g))) (q := ((some (.int (am_b p10.1))), am_SH, (p10.2, g))) (s1 := (52, [(0, .ref 128), (1, .int a0), (2, .int (am_b t2)), (3, .int (am_b t4))], [.int (am_b p10.1)], am_SH, (p10.2, g))) rfl rfl (xs_takeSign_ok (d + 1) 41 p9.2 g p10 hp10) ?_
            rcases am_ite h with ⟨c45, h⟩ | ⟨c45, h⟩
            · refine am_Ev.f hcd (c := am_b p10.1 = 0) (s1 := (53, [(0, .ref 128), (1, .int a0), (2, .int (am_b t2)), (3, .int (am_b t4))], [], am_SH, (p10.2, g))) rfl (am_b_t c45) ?_
              refine am_Ev.go hcd 2 (s' := (56, [(0, .ref 128), (1, .int a0), (2, .int (am_b t2)), (3, .int (am_b t4))], [.int 1], am_SH, (p10.2, g))) rfl ?_
              exact am_Ev.cast (a := ((some (.int (am_b (true, p10.2).1))), am_SH, ((true, p10.2).2, g))) (by cases h; rfl) (am_Ev.ret hcd rfl)
            · refine am_Ev.t hcd (c := am_b p10.1 = 0) (s1 := (55, [(0, .ref 128), (1, .int a0), (2, .int (am_b t2)), (3, .int (am_b t4))], [], am_SH, (p10.2, g))) rfl (am_b_f c45) ?_
              refine am_Ev.go hcd 1 (s' := (56, [(0, .ref 128), (1, .int a0), (2, .int (am_b t2)), (3, .int (am_b t4))], [.int 0], am_SH, (p10.2, g))) rfl ?_
              exact am_Ev.cast (a := ((some (.int (am_b (false, p10.2).1))), am_SH, ((false, p10.2).2, g))) (by cases h; rfl) (am_Ev.ret hcd rfl)
          · refine am_Ev.t hcd (c := am_b p9.1 = 0) (s1 := (55, [(0, .ref 128), (1, .int a0), (2, .int (am_b t2)), (3, .int (am_b t4))], [], am_SH, (p9.2, g))) rfl (am_b_f c40) ?_
            refine am_Ev.go hcd 1 (s' := (56, [(0, .ref 128), (1, .int a0), (2, .int (am_b t2)), (3, .int (am_b t4))], [.int 0], am_SH, (p9.2, g))) rfl ?_
            exact am_Ev.cast (a := ((some (.int (am_b (false, p9.2).1))), am_SH, ((false, p9.2).2, g))) (by cases h; rfl) (am_Ev.ret hcd rfl)
        · refine am_Ev.t hcd (c := am_b t4 = 0) (s1 := (57, [(0, .ref 128), (1, .int a0), (2, .int (am_b t2)), (3, .int (am_b t4))], [], am_SH, (f, g))) rfl (am_b_f c31) ?_
          refine am_Ev.go hcd 1 (s' := (58, [(0, .ref 128), (1, .int a0), (2, .int (am_b t2)), (3, .int (am_b t4))], [.ref 128], am_SH, (f, g))) rfl ?_
          obtain ⟨p11, hp11, h⟩ := am_bind_some h
          refine am_Ev.call hcd (a := 105) (s0 := (0, [(0, .ref 128)], [], am_SH, (f, g))) (q := ((some (.int (am_b p11.1))), am_SH, (p11.2, g))) (s1 := (59, [(0, .ref 128), (1, .int a0), (2, .int (am_b t2)), (3, .int (am_b t4))], [.int (am_b p11.1)], am_SH, (p11.2, g))) rfl rfl (xs_readSum_ok (d)  f g p11 hp11) ?_
          rcases am_ite h with ⟨c59, h⟩ | ⟨c59, h⟩
          · refine am_Ev.f hcd (c := am_b p11.1 = 0) (s1 := (62, [(0, .ref 128), (1, .int a0), (2, .int (am_b t2)), (3, .int (am_b t4))], [], am_SH, (p11.2, g))) rfl (am_b_t c59) ?_
            obtain ⟨t12, Et12, h⟩ := am_let_eq h
            refine am_Ev.go hcd 4 (s' := (66, [(0, .ref 128), (1, .int a0), (2, .int (am_b t2)), (3, .int (am_b t4)), (4, .int t12)], [], am_SH, (p11.2, g))) (by subst Et12; exact rfl) ?_
            refine am_Ev.go hcd 3 (s' := (69, [(0, .ref 128), (1, .int a0), (2, .int (am_b t2)), (3, .int (am_b t4)), (4, .int t12)], [.int 60, .ref 123], am_SH, (p11.2, g))) rfl ?_
            refine am_Ev.call hcd (a := 113) (s0 := (0, [(0, .ref 123), (1, .int 60)], [], am_SH, (p11.2, g))) (q := ((some (.int (am_b (xt_isSign 60 p11.2)))), am_SH, (p11.2, g))) (s1 := (70, [(0, .ref 128), (1, .int a0), (2, .int (am_b t2)), (3, .int (am_b t4)), (4, .int t12)], [.int (am_b (xt_isSign 60 p11.2))], am_SH, (p11.2, g))) rfl rfl (xt_isSign_ok (d + 2) 60 p11.2 g) ?_
            rcases am_ite h with ⟨c65, h⟩ | ⟨c65, h⟩
            · refine am_Ev.f hcd (c := am_b (xt_isSign 60 p11.2) = 0) (s1 := (85, [(0, .ref 128), (1, .int a0), (2, .int (am_b t2)), (3, .int (am_b t4)), (4, .int t12)], [], am_SH, (p11.2, g))) rfl (am_b_t c65) ?_
              refine am_Ev.go hcd 2 (s' := (87, [(0, .ref 128), (1, .int a0), (2, .int (am_b t2)), (3, .int (am_b t4)), (4, .int t12)], [.ref 123], am_SH, (p11.2, g))) rfl ?_
              obtain ⟨p14, hp14, h⟩ := am_bind_some h
              refine am_Ev.call hcd (a := 111) (s0 := (0, [(0, .ref 123)], [], am_SH, (p11.2, g))) (q := (none, am_SH, (p14, g))) (s1 := (88, [(0, .ref 128), (1, .int a0), (2, .int (am_b t2)), (3, .int (am_b t4)), (4, .int t12)], [], am_SH, (p14, g))) rfl rfl (xt_advance_ok (d + 2)  p11.2 g p14 hp14) ?_
              refine am_Ev.go hcd 1 (s' := (89, [(0, .ref 128), (1, .int a0), (2, .int (am_b t2)), (3, .int (am_b t4)), (4, .int t12)], [.ref 128], am_SH, (p14, g))) rfl ?_
              obtain ⟨p15, hp15, h⟩ := am_bind_some h
              refine am_Ev.call hcd (a := 105) (s0 := (0, [(0, .ref 128)], [], am_SH, (p14, g))) (q := ((some (.int (am_b p15.1))), am_SH, (p15.2, g))) (s1 := (90, [(0, .ref 128), (1, .int a0), (2, .int (am_b t2)), (3, .int (am_b t4)), (4, .int t12)], [.int (am_b p15.1)], am_SH, (p15.2, g))) rfl rfl (xs_readSum_ok (d)  p14 g p15 hp15) ?_
              refine am_Ev.go hcd 6 (s' := (96, [(0, .ref 128), (1, .int a0), (2, .int (am_b t2)), (3, .int (am_b t4)), (4, .int t12), (5, .int (am_b p15.1))], [.int (20000 + t12), .ref 129], am_SH, (p15.2, g))) rfl ?_
              obtain ⟨p16, hp16, h⟩ := am_bind_some h
              refine am_Ev.call hcd (a := 32) (s0 := (0, [(0, .ref 129), (1, .int (20000 + t12))], [], am_SH, (p15.2, g))) (q := (none, am_SH, (p16, g))) (s1 := (97, [(0, .ref 128), (1, .int a0), (2, .int (am_b t2)), (3, .int (am_b t4)), (4, .int t12), (5, .int (am_b p15.1))], [], am_SH, (p16, g))) rfl rfl (xl_emit_129_ok (d + 2) (20000 + t12) p15.2 g p16 hp16) ?_
              refine am_Ev.go hcd 1 (s' := (98, [(0, .ref 128), (1, .int a0), (2, .int (am_b t2)), (3, .int (am_b t4)), (4, .int t12), (5, .int (am_b p15.1))], [.int (am_b p15.1)], am_SH, (p16, g))) rfl ?_
              exact am_Ev.cast (a := ((some (.int (am_b (p15.1, p16).1))), am_SH, ((p15.1, p16).2, g))) (by cases h; rfl) (am_Ev.retb hcd rfl)
            · refine am_Ev.t hcd (c := am_b (xt_isSign 60 p11.2) = 0) (s1 := (71, [(0, .ref 128), (1, .int a0), (2, .int (am_b t2)), (3, .int (am_b t4)), (4, .int t12)], [], am_SH, (p11.2, g))) rfl (am_b_f c65) ?_
              refine am_Ev.go hcd 3 (s' := (74, [(0, .ref 128), (1, .int a0), (2, .int (am_b t2)), (3, .int (am_b t4)), (4, .int t12)], [.int 61, .ref 123], am_SH, (p11.2, g))) rfl ?_
              refine am_Ev.call hcd (a := 113) (s0 := (0, [(0, .ref 123), (1, .int 61)], [], am_SH, (p11.2, g))) (q := ((some (.int (am_b (xt_isSign 61 p11.2)))), am_SH, (p11.2, g))) (s1 := (75, [(0, .ref 128), (1, .int a0), (2, .int (am_b t2)), (3, .int (am_b t4)), (4, .int t12)], [.int (am_b (xt_isSign 61 p11.2))], am_SH, (p11.2, g))) rfl rfl (xt_isSign_ok (d + 2) 61 p11.2 g) ?_
              rcases am_ite h with ⟨c81, h⟩ | ⟨c81, h⟩
              · refine am_Ev.f hcd (c := am_b (xt_isSign 61 p11.2) = 0) (s1 := (85, [(0, .ref 128), (1, .int a0), (2, .int (am_b t2)), (3, .int (am_b t4)), (4, .int t12)], [], am_SH, (p11.2, g))) rfl (am_b_t c81) ?_
                refine am_Ev.go hcd 2 (s' := (87, [(0, .ref 128), (1, .int a0), (2, .int (am_b t2)), (3, .int (am_b t4)), (4, .int t12)], [.ref 123], am_SH, (p11.2, g))) rfl ?_
                obtain ⟨p18, hp18, h⟩ := am_bind_some h
                refine am_Ev.call hcd (a := 111) (s0 := (0, [(0, .ref 123)], [], am_SH, (p11.2, g))) (q := (none, am_SH, (p18, g))) (s1 := (88, [(0, .ref 128), (1, .int a0), (2, .int (am_b t2)), (3, .int (am_b t4)), (4, .int t12)], [], am_SH, (p18, g))) rfl rfl (xt_advance_ok (d + 2)  p11.2 g p18 hp18) ?_
                refine am_Ev.go hcd 1 (s' := (89, [(0, .ref 128), (1, .int a0), (2, .int (am_b t2)), (3, .int (am_b t4)), (4, .int t12)], [.ref 128], am_SH, (p18, g))) rfl ?_
                obtain ⟨p19, hp19, h⟩ := am_bind_some h
                refine am_Ev.call hcd (a := 105) (s0 := (0, [(0, .ref 128)], [], am_SH, (p18, g))) (q := ((some (.int (am_b p19.1))), am_SH, (p19.2, g))) (s1 := (90, [(0, .ref 128), (1, .int a0), (2, .int (am_b t2)), (3, .int (am_b t4)), (4, .int t12)], [.int (am_b p19.1)], am_SH, (p19.2, g))) rfl rfl (xs_readSum_ok (d)  p18 g p19 hp19) ?_
                refine am_Ev.go hcd 6 (s' := (96, [(0, .ref 128), (1, .int a0), (2, .int (am_b t2)), (3, .int (am_b t4)), (4, .int t12), (5, .int (am_b p19.1))], [.int (20000 + t12), .ref 129], am_SH, (p19.2, g))) rfl ?_
                obtain ⟨p20, hp20, h⟩ := am_bind_some h
                refine am_Ev.call hcd (a := 32) (s0 := (0, [(0, .ref 129), (1, .int (20000 + t12))], [], am_SH, (p19.2, g))) (q := (none, am_SH, (p20, g))) (s1 := (97, [(0, .ref 128), (1, .int a0), (2, .int (am_b t2)), (3, .int (am_b t4)), (4, .int t12), (5, .int (am_b p19.1))], [], am_SH, (p20, g))) rfl rfl (xl_emit_129_ok (d + 2) (20000 + t12) p19.2 g p20 hp20) ?_
                refine am_Ev.go hcd 1 (s' := (98, [(0, .ref 128), (1, .int a0), (2, .int (am_b t2)), (3, .int (am_b t4)), (4, .int t12), (5, .int (am_b p19.1))], [.int (am_b p19.1)], am_SH, (p20, g))) rfl ?_
                exact am_Ev.cast (a := ((some (.int (am_b (p19.1, p20).1))), am_SH, ((p19.1, p20).2, g))) (by cases h; rfl) (am_Ev.retb hcd rfl)
              · refine am_Ev.t hcd (c := am_b (xt_isSign 61 p11.2) = 0) (s1 := (76, [(0, .ref 128), (1, .int a0), (2, .int (am_b t2)), (3, .int (am_b t4)), (4, .int t12)], [], am_SH, (p11.2, g))) rfl (am_b_f c81) ?_
                refine am_Ev.go hcd 3 (s' := (79, [(0, .ref 128), (1, .int a0), (2, .int (am_b t2)), (3, .int (am_b t4)), (4, .int t12)], [.int 62, .ref 123], am_SH, (p11.2, g))) rfl ?_
                refine am_Ev.call hcd (a := 113) (s0 := (0, [(0, .ref 123), (1, .int 62)], [], am_SH, (p11.2, g))) (q := ((some (.int (am_b (xt_isSign 62 p11.2)))), am_SH, (p11.2, g))) (s1 := (80, [(0, .ref 128), (1, .int a0), (2, .int (am_b t2)), (3, .int (am_b t4)), (4, .int t12)], [.int (am_b (xt_isSign 62 p11.2))], am_SH, (p11.2, g))) rfl rfl (xt_isSign_ok (d + 2) 62 p11.2 g) ?_
                rcases am_ite h with ⟨c97, h⟩ | ⟨c97, h⟩
                · refine am_Ev.f hcd (c := am_b (xt_isSign 62 p11.2) = 0) (s1 := (85, [(0, .ref 128), (1, .int a0), (2, .int (am_b t2)), (3, .int (am_b t4)), (4, .int t12)], [], am_SH, (p11.2, g))) rfl (am_b_t c97) ?_
                  refine am_Ev.go hcd 2 (s' := (87, [(0, .ref 128), (1, .int a0), (2, .int (am_b t2)), (3, .int (am_b t4)), (4, .int t12)], [.ref 123], am_SH, (p11.2, g))) rfl ?_
                  obtain ⟨p22, hp22, h⟩ := am_bind_some h
                  refine am_Ev.call hcd (a := 111) (s0 := (0, [(0, .ref 123)], [], am_SH, (p11.2, g))) (q := (none, am_SH, (p22, g))) (s1 := (88, [(0, .ref 128), (1, .int a0), (2, .int (am_b t2)), (3, .int (am_b t4)), (4, .int t12)], [], am_SH, (p22, g))) rfl rfl (xt_advance_ok (d + 2)  p11.2 g p22 hp22) ?_
                  refine am_Ev.go hcd 1 (s' := (89, [(0, .ref 128), (1, .int a0), (2, .int (am_b t2)), (3, .int (am_b t4)), (4, .int t12)], [.ref 128], am_SH, (p22, g))) rfl ?_
                  obtain ⟨p23, hp23, h⟩ := am_bind_some h
                  refine am_Ev.call hcd (a := 105) (s0 := (0, [(0, .ref 128)], [], am_SH, (p22, g))) (q := ((some (.int (am_b p23.1))), am_SH, (p23.2, g))) (s1 := (90, [(0, .ref 128), (1, .int a0), (2, .int (am_b t2)), (3, .int (am_b t4)), (4, .int t12)], [.int (am_b p23.1)], am_SH, (p23.2, g))) rfl rfl (xs_readSum_ok (d)  p22 g p23 hp23) ?_
                  refine am_Ev.go hcd 6 (s' := (96, [(0, .ref 128), (1, .int a0), (2, .int (am_b t2)), (3, .int (am_b t4)), (4, .int t12), (5, .int (am_b p23.1))], [.int (20000 + t12), .ref 129], am_SH, (p23.2, g))) rfl ?_
                  obtain ⟨p24, hp24, h⟩ := am_bind_some h
                  refine am_Ev.call hcd (a := 32) (s0 := (0, [(0, .ref 129), (1, .int (20000 + t12))], [], am_SH, (p23.2, g))) (q := (none, am_SH, (p24, g))) (s1 := (97, [(0, .ref 128), (1, .int a0), (2, .int (am_b t2)), (3, .int (am_b t4)), (4, .int t12), (5, .int (am_b p23.1))], [], am_SH, (p24, g))) rfl rfl (xl_emit_129_ok (d + 2) (20000 + t12) p23.2 g p24 hp24) ?_
                  refine am_Ev.go hcd 1 (s' := (98, [(0, .ref 128), (1, .int a0), (2, .int (am_b t2)), (3, .int (am_b t4)), (4, .int t12), (5, .int (am_b p23.1))], [.int (am_b p23.1)], am_SH, (p24, g))) rfl ?_
                  exact am_Ev.cast (a := ((some (.int (am_b (p23.1, p24).1))), am_SH, ((p23.1, p24).2, g))) (by cases h; rfl) (am_Ev.retb hcd rfl)
                · refine am_Ev.t hcd (c := am_b (xt_isSign 62 p11.2) = 0) (s1 := (81, [(0, .ref 128), (1, .int a0), (2, .int (am_b t2)), (3, .int (am_b t4)), (4, .int t12)], [], am_SH, (p11.2, g))) rfl (am_b_f c97) ?_
                  refine am_Ev.go hcd 2 (s' := (83, [(0, .ref 128), (1, .int a0), (2, .int (am_b t2)), (3, .int (am_b t4)), (4, .int t12)], [.int 1, .ref 128], am_SH, (p11.2, g))) rfl ?_
                  obtain ⟨p25, Ep25, h⟩ := am_let_eq h
                  refine am_Ev.call hcd (a := 92) (s0 := (0, [(0, .ref 128), (1, .int 1)], [], am_SH, (p11.2, g))) (q := ((some (.int (am_b p25.1))), am_SH, (p25.2, g))) (s1 := (84, [(0, .ref 128), (1, .int a0), (2, .int (am_b t2)), (3, .int (am_b t4)), (4, .int t12)], [.int (am_b p25.1)], am_SH, (p25.2, g))) rfl rfl (by subst Ep25; exact xs_refuse_ok (d + 2) 1 p11.2 g) ?_
                  exact am_Ev.cast (a := ((some (.int (am_b (p25.1, p25.2).1))), am_SH, ((p25.1, p25.2).2, g))) (by cases h; rfl) (am_Ev.retb hcd rfl)
          · refine am_Ev.t hcd (c := am_b p11.1 = 0) (s1 := (60, [(0, .ref 128), (1, .int a0), (2, .int (am_b t2)), (3, .int (am_b t4))], [], am_SH, (p11.2, g))) rfl (am_b_f c59) ?_
            refine am_Ev.go hcd 1 (s' := (61, [(0, .ref 128), (1, .int a0), (2, .int (am_b t2)), (3, .int (am_b t4))], [.int 0], am_SH, (p11.2, g))) rfl ?_
            exact am_Ev.cast (a := ((some (.int (am_b (false, p11.2).1))), am_SH, ((false, p11.2).2, g))) (by cases h; rfl) (am_Ev.ret hcd rfl)
    · refine am_Ev.f hcd (c := a0 < 8) (s1 := (17, [(0, .ref 128), (1, .int a0), (2, .int (am_b t2)), (3, .int (am_b t4))], [], am_SH, (f, g))) rfl c13 ?_
      refine am_Ev.go hcd 2 (s' := (19, [(0, .ref 128), (1, .int a0), (2, .int (am_b t2)), (3, .int (am_b t4))], [.int 3, .ref 128], am_SH, (f, g))) rfl ?_
      obtain ⟨p26, Ep26, h⟩ := am_let_eq h
      refine am_Ev.call hcd (a := 92) (s0 := (0, [(0, .ref 128), (1, .int 3)], [], am_SH, (f, g))) (q := ((some (.int (am_b p26.1))), am_SH, (p26.2, g))) (s1 := (20, [(0, .ref 128), (1, .int a0), (2, .int (am_b t2)), (3, .int (am_b t4))], [.int (am_b p26.1)], am_SH, (p26.2, g))) rfl rfl (by subst Ep26; exact xs_refuse_ok (d + 2) 3 f g) ?_
      exact am_Ev.cast (a := ((some (.int (am_b (p26.1, p26.2).1))), am_SH, ((p26.1, p26.2).2, g))) (by cases h; rfl) (am_Ev.retb hcd rfl)
  · refine am_Ev.t hcd (c := am_b t2 = 0) (s1 := (12, [(0, .ref 128), (1, .int a0), (2, .int (am_b t2)), (3, .int (am_b t4))], [], am_SH, (f, g))) rfl (am_b_f c10) ?_
    refine am_Ev.go hcd 1 (s' := (13, [(0, .ref 128), (1, .int a0), (2, .int (am_b t2)), (3, .int (am_b t4))], [.int (am_b t4)], am_SH, (f, g))) rfl ?_
    rcases am_ite h with ⟨c124, h⟩ | ⟨c124, h⟩
    · refine am_Ev.f hcd (c := am_b t4 = 0) (s1 := (14, [(0, .ref 128), (1, .int a0), (2, .int (am_b t2)), (3, .int (am_b t4))], [], am_SH, (f, g))) rfl (am_b_t c124) ?_
      refine am_Ev.go hcd 2 (s' := (16, [(0, .ref 128), (1, .int a0), (2, .int (am_b t2)), (3, .int (am_b t4))], [.int 8, .int a0], am_SH, (f, g))) rfl ?_
      rcases am_ite h with ⟨c127, h⟩ | ⟨c127, h⟩
      · refine am_Ev.t hcd (c := a0 < 8) (s1 := (21, [(0, .ref 128), (1, .int a0), (2, .int (am_b t2)), (3, .int (am_b t4))], [], am_SH, (f, g))) rfl c127 ?_
        refine am_Ev.go hcd 1 (s' := (22, [(0, .ref 128), (1, .int a0), (2, .int (am_b t2)), (3, .int (am_b t4))], [.int (am_b t2)], am_SH, (f, g))) rfl ?_
        rcases am_ite h with ⟨c130, h⟩ | ⟨c130, h⟩
        · refine am_Ev.f hcd (c := am_b t2 = 0) (s1 := (23, [(0, .ref 128), (1, .int a0), (2, .int (am_b t2)), (3, .int (am_b t4))], [], am_SH, (f, g))) rfl (am_b_t c130) ?_
          refine am_Ev.go hcd 2 (s' := (25, [(0, .ref 128), (1, .int a0), (2, .int (am_b t2)), (3, .int (am_b t4))], [.ref 123], am_SH, (f, g))) rfl ?_
          obtain ⟨p27, hp27, h⟩ := am_bind_some h
          refine am_Ev.call hcd (a := 111) (s0 := (0, [(0, .ref 123)], [], am_SH, (f, g))) (q := (none, am_SH, (p27, g))) (s1 := (26, [(0, .ref 128), (1, .int a0), (2, .int (am_b t2)), (3, .int (am_b t4))], [], am_SH, (p27, g))) rfl rfl (xt_advance_ok (d + 2)  f g p27 hp27) ?_
          refine am_Ev.go hcd 4 (s' := (30, [(0, .ref 128), (1, .int a0), (2, .int (am_b t2)), (3, .int (am_b t4))], [.int (a0 + 1), .ref 128], am_SH, (p27, g))) rfl ?_
          obtain ⟨p28, hp28, h⟩ := am_bind_some h
          refine am_Ev.call hcd (a := 104) (s0 := (0, [(0, .ref 128), (1, .int (a0 + 1))], [], am_SH, (p27, g))) (q := ((some (.int (am_b p28.1))), am_SH, (p28.2, g))) (s1 := (31, [(0, .ref 128), (1, .int a0), (2, .int (am_b t2)), (3, .int (am_b t4))], [.int (am_b p28.1)], am_SH, (p28.2, g))) rfl rfl (hreadCondition (a0 + 1) p27 g p28 hp28) ?_
          refine am_Ev.go hcd 4 (s' := (35, [(0, .ref 128), (1, .int a0), (2, .int (am_b t2)), (3, .int (am_b t4)), (4, .int (am_b p28.1))], [.int 20033, .ref 129], am_SH, (p28.2, g))) rfl ?_
          obtain ⟨p29, hp29, h⟩ := am_bind_some h
          refine am_Ev.call hcd (a := 32) (s0 := (0, [(0, .ref 129), (1, .int 20033)], [], am_SH, (p28.2, g))) (q := (none, am_SH, (p29, g))) (s1 := (36, [(0, .ref 128), (1, .int a0), (2, .int (am_b t2)), (3, .int (am_b t4)), (4, .int (am_b p28.1))], [], am_SH, (p29, g))) rfl rfl (xl_emit_129_ok (d + 2) 20033 p28.2 g p29 hp29) ?_
          refine am_Ev.go hcd 1 (s' := (37, [(0, .ref 128), (1, .int a0), (2, .int (am_b t2)), (3, .int (am_b t4)), (4, .int (am_b p28.1))], [.int (am_b p28.1)], am_SH, (p29, g))) rfl ?_
          exact am_Ev.cast (a := ((some (.int (am_b (p28.1, p29).1))), am_SH, ((p28.1, p29).2, g))) (by cases h; rfl) (am_Ev.retb hcd rfl)
        · refine am_Ev.t hcd (c := am_b t2 = 0) (s1 := (38, [(0, .ref 128), (1, .int a0), (2, .int (am_b t2)), (3, .int (am_b t4))], [], am_SH, (f, g))) rfl (am_b_f c130) ?_
          refine am_Ev.go hcd 1 (s' := (39, [(0, .ref 128), (1, .int a0), (2, .int (am_b t2)), (3, .int (am_b t4))], [.int (am_b t4)], am_SH, (f, g))) rfl ?_
          rcases am_ite h with ⟨c145, h⟩ | ⟨c145, h⟩
          · refine am_Ev.f hcd (c := am_b t4 = 0) (s1 := (40, [(0, .ref 128), (1, .int a0), (2, .int (am_b t2)), (3, .int (am_b t4))], [], am_SH, (f, g))) rfl (am_b_t c145) ?_
            refine am_Ev.go hcd 2 (s' := (42, [(0, .ref 128), (1, .int a0), (2, .int (am_b t2)), (3, .int (am_b t4))], [.ref 123], am_SH, (f, g))) rfl ?_
            obtain ⟨p30, hp30, h⟩ := am_bind_some h
            refine am_Ev.call hcd (a := 111) (s0 := (0, [(0, .ref 123)], [], am_SH, (f, g))) (q := (none, am_SH, (p30, g))) (s1 := (43, [(0, .ref 128), (1, .int a0), (2, .int (am_b t2)), (3, .int (am_b t4))], [], am_SH, (p30, g))) rfl rfl (xt_advance_ok (d + 2)  f g p30 hp30) ?_
            refine am_Ev.go hcd 4 (s' := (47, [(0, .ref 128), (1, .int a0), (2, .int (am_b t2)), (3, .int (am_b t4))], [.int (a0 + 1), .ref 128], am_SH, (p30, g))) rfl ?_
            obtain ⟨p31, hp31, h⟩ := am_bind_some h
            refine am_Ev.call hcd (a := 103) (s0 := (0, [(0, .ref 128), (1, .int (a0 + 1))], [], am_SH, (p30, g))) (q := ((some (.int (am_b p31.1))), am_SH, (p31.2, g))) (s1 := (48, [(0, .ref 128), (1, .int a0), (2, .int (am_b t2)), (3, .int (am_b t4))], [.int (am_b p31.1)], am_SH, (p31.2, g))) rfl rfl (hreadAny (a0 + 1) p30 g p31 hp31) ?_
            rcases am_ite h with ⟨c154, h⟩ | ⟨c154, h⟩
            · refine am_Ev.f hcd (c := am_b p31.1 = 0) (s1 := (49, [(0, .ref 128), (1, .int a0), (2, .int (am_b t2)), (3, .int (am_b t4))], [], am_SH, (p31.2, g))) rfl (am_b_t c154) ?_
              refine am_Ev.go hcd 2 (s' := (51, [(0, .ref 128), (1, .int a0), (2, .int (am_b t2)), (3, .int (am_b t4))], [.int 41, .ref 128], am_SH, (p31.2, g))) rfl ?_
              obtain ⟨p32, hp32, h⟩ := am_bind_some h
              refine am_Ev.call hcd (a := 94) (s0 := (0, [(0, .ref 128), (1, .int 41)], [], am_SH, (p31.2, g))) (q := ((some (.int (am_b p32.1))), am_SH, (p32.2, g))) (s1 := (52, [(0, .ref 128), (1, .int a0), (2, .int (am_b t2)), (3, .int (am_b t4))], [.int (am_b p32.1)], am_SH, (p32.2, g))) rfl rfl (xs_takeSign_ok (d + 1) 41 p31.2 g p32 hp32) ?_
              rcases am_ite h with ⟨c159, h⟩ | ⟨c159, h⟩
              · refine am_Ev.f hcd (c := am_b p32.1 = 0) (s1 := (53, [(0, .ref 128), (1, .int a0), (2, .int (am_b t2)), (3, .int (am_b t4))], [], am_SH, (p32.2, g))) rfl (am_b_t c159) ?_
                refine am_Ev.go hcd 2 (s' := (56, [(0, .ref 128), (1, .int a0), (2, .int (am_b t2)), (3, .int (am_b t4))], [.int 1], am_SH, (p32.2, g))) rfl ?_
                exact am_Ev.cast (a := ((some (.int (am_b (true, p32.2).1))), am_SH, ((true, p32.2).2, g))) (by cases h; rfl) (am_Ev.ret hcd rfl)
              · refine am_Ev.t hcd (c := am_b p32.1 = 0) (s1 := (55, [(0, .ref 128), (1, .int a0), (2, .int (am_b t2)), (3, .int (am_b t4))], [], am_SH, (p32.2, g))) rfl (am_b_f c159) ?_
                refine am_Ev.go hcd 1 (s' := (56, [(0, .ref 128), (1, .int a0), (2, .int (am_b t2)), (3, .int (am_b t4))], [.int 0], am_SH, (p32.2, g))) rfl ?_
                exact am_Ev.cast (a := ((some (.int (am_b (false, p32.2).1))), am_SH, ((false, p32.2).2, g))) (by cases h; rfl) (am_Ev.ret hcd rfl)
            · refine am_Ev.t hcd (c := am_b p31.1 = 0) (s1 := (55, [(0, .ref 128), (1, .int a0), (2, .int (am_b t2)), (3, .int (am_b t4))], [], am_SH, (p31.2, g))) rfl (am_b_f c154) ?_
              refine am_Ev.go hcd 1 (s' := (56, [(0, .ref 128), (1, .int a0), (2, .int (am_b t2)), (3, .int (am_b t4))], [.int 0], am_SH, (p31.2, g))) rfl ?_
              exact am_Ev.cast (a := ((some (.int (am_b (false, p31.2).1))), am_SH, ((false, p31.2).2, g))) (by cases h; rfl) (am_Ev.ret hcd rfl)
          · refine am_Ev.t hcd (c := am_b t4 = 0) (s1 := (57, [(0, .ref 128), (1, .int a0), (2, .int (am_b t2)), (3, .int (am_b t4))], [], am_SH, (f, g))) rfl (am_b_f c145) ?_
            refine am_Ev.go hcd 1 (s' := (58, [(0, .ref 128), (1, .int a0), (2, .int (am_b t2)), (3, .int (am_b t4))], [.ref 128], am_SH, (f, g))) rfl ?_
            obtain ⟨p33, hp33, h⟩ := am_bind_some h
            refine am_Ev.call hcd (a := 105) (s0 := (0, [(0, .ref 128)], [], am_SH, (f, g))) (q := ((some (.int (am_b p33.1))), am_SH, (p33.2, g))) (s1 := (59, [(0, .ref 128), (1, .int a0), (2, .int (am_b t2)), (3, .int (am_b t4))], [.int (am_b p33.1)], am_SH, (p33.2, g))) rfl rfl (xs_readSum_ok (d)  f g p33 hp33) ?_
            rcases am_ite h with ⟨c173, h⟩ | ⟨c173, h⟩
            · refine am_Ev.f hcd (c := am_b p33.1 = 0) (s1 := (62, [(0, .ref 128), (1, .int a0), (2, .int (am_b t2)), (3, .int (am_b t4))], [], am_SH, (p33.2, g))) rfl (am_b_t c173) ?_
              obtain ⟨t34, Et34, h⟩ := am_let_eq h
              refine am_Ev.go hcd 4 (s' := (66, [(0, .ref 128), (1, .int a0), (2, .int (am_b t2)), (3, .int (am_b t4)), (4, .int t34)], [], am_SH, (p33.2, g))) (by subst Et34; exact rfl) ?_
              refine am_Ev.go hcd 3 (s' := (69, [(0, .ref 128), (1, .int a0), (2, .int (am_b t2)), (3, .int (am_b t4)), (4, .int t34)], [.int 60, .ref 123], am_SH, (p33.2, g))) rfl ?_
              refine am_Ev.call hcd (a := 113) (s0 := (0, [(0, .ref 123), (1, .int 60)], [], am_SH, (p33.2, g))) (q := ((some (.int (am_b (xt_isSign 60 p33.2)))), am_SH, (p33.2, g))) (s1 := (70, [(0, .ref 128), (1, .int a0), (2, .int (am_b t2)), (3, .int (am_b t4)), (4, .int t34)], [.int (am_b (xt_isSign 60 p33.2))], am_SH, (p33.2, g))) rfl rfl (xt_isSign_ok (d + 2) 60 p33.2 g) ?_
              rcases am_ite h with ⟨c179, h⟩ | ⟨c179, h⟩
              · refine am_Ev.f hcd (c := am_b (xt_isSign 60 p33.2) = 0) (s1 := (85, [(0, .ref 128), (1, .int a0), (2, .int (am_b t2)), (3, .int (am_b t4)), (4, .int t34)], [], am_SH, (p33.2, g))) rfl (am_b_t c179) ?_
                refine am_Ev.go hcd 2 (s' := (87, [(0, .ref 128), (1, .int a0), (2, .int (am_b t2)), (3, .int (am_b t4)), (4, .int t34)], [.ref 123], am_SH, (p33.2, g))) rfl ?_
                obtain ⟨p36, hp36, h⟩ := am_bind_some h
                refine am_Ev.call hcd (a := 111) (s0 := (0, [(0, .ref 123)], [], am_SH, (p33.2, g))) (q := (none, am_SH, (p36, g))) (s1 := (88, [(0, .ref 128), (1, .int a0), (2, .int (am_b t2)), (3, .int (am_b t4)), (4, .int t34)], [], am_SH, (p36, g))) rfl rfl (xt_advance_ok (d + 2)  p33.2 g p36 hp36) ?_
                refine am_Ev.go hcd 1 (s' := (89, [(0, .ref 128), (1, .int a0), (2, .int (am_b t2)), (3, .int (am_b t4)), (4, .int t34)], [.ref 128], am_SH, (p36, g))) rfl ?_
                obtain ⟨p37, hp37, h⟩ := am_bind_some h
                refine am_Ev.call hcd (a := 105) (s0 := (0, [(0, .ref 128)], [], am_SH, (p36, g))) (q := ((some (.int (am_b p37.1))), am_SH, (p37.2, g))) (s1 := (90, [(0, .ref 128), (1, .int a0), (2, .int (am_b t2)), (3, .int (am_b t4)), (4, .int t34)], [.int (am_b p37.1)], am_SH, (p37.2, g))) rfl rfl (xs_readSum_ok (d)  p36 g p37 hp37) ?_
                refine am_Ev.go hcd 6 (s' := (96, [(0, .ref 128), (1, .int a0), (2, .int (am_b t2)), (3, .int (am_b t4)), (4, .int t34), (5, .int (am_b p37.1))], [.int (20000 + t34), .ref 129], am_SH, (p37.2, g))) rfl ?_
                obtain ⟨p38, hp38, h⟩ := am_bind_some h
                refine am_Ev.call hcd (a := 32) (s0 := (0, [(0, .ref 129), (1, .int (20000 + t34))], [], am_SH, (p37.2, g))) (q := (none, am_SH, (p38, g))) (s1 := (97, [(0, .ref 128), (1, .int a0), (2, .int (am_b t2)), (3, .int (am_b t4)), (4, .int t34), (5, .int (am_b p37.1))], [], am_SH, (p38, g))) rfl rfl (xl_emit_129_ok (d + 2) (20000 + t34) p37.2 g p38 hp38) ?_
                refine am_Ev.go hcd 1 (s' := (98, [(0, .ref 128), (1, .int a0), (2, .int (am_b t2)), (3, .int (am_b t4)), (4, .int t34), (5, .int (am_b p37.1))], [.int (am_b p37.1)], am_SH, (p38, g))) rfl ?_
                exact am_Ev.cast (a := ((some (.int (am_b (p37.1, p38).1))), am_SH, ((p37.1, p38).2, g))) (by cases h; rfl) (am_Ev.retb hcd rfl)
              · refine am_Ev.t hcd (c := am_b (xt_isSign 60 p33.2) = 0) (s1 := (71, [(0, .ref 128), (1, .int a0), (2, .int (am_b t2)), (3, .int (am_b t4)), (4, .int t34)], [], am_SH, (p33.2, g))) rfl (am_b_f c179) ?_
                refine am_Ev.go hcd 3 (s' := (74, [(0, .ref 128), (1, .int a0), (2, .int (am_b t2)), (3, .int (am_b t4)), (4, .int t34)], [.int 61, .ref 123], am_SH, (p33.2, g))) rfl ?_
                refine am_Ev.call hcd (a := 113) (s0 := (0, [(0, .ref 123), (1, .int 61)], [], am_SH, (p33.2, g))) (q := ((some (.int (am_b (xt_isSign 61 p33.2)))), am_SH, (p33.2, g))) (s1 := (75, [(0, .ref 128), (1, .int a0), (2, .int (am_b t2)), (3, .int (am_b t4)), (4, .int t34)], [.int (am_b (xt_isSign 61 p33.2))], am_SH, (p33.2, g))) rfl rfl (xt_isSign_ok (d + 2) 61 p33.2 g) ?_
                rcases am_ite h with ⟨c195, h⟩ | ⟨c195, h⟩
                · refine am_Ev.f hcd (c := am_b (xt_isSign 61 p33.2) = 0) (s1 := (85, [(0, .ref 128), (1, .int a0), (2, .int (am_b t2)), (3, .int (am_b t4)), (4, .int t34)], [], am_SH, (p33.2, g))) rfl (am_b_t c195) ?_
                  refine am_Ev.go hcd 2 (s' := (87, [(0, .ref 128), (1, .int a0), (2, .int (am_b t2)), (3, .int (am_b t4)), (4, .int t34)], [.ref 123], am_SH, (p33.2, g))) rfl ?_
                  obtain ⟨p40, hp40, h⟩ := am_bind_some h
                  refine am_Ev.call hcd (a := 111) (s0 := (0, [(0, .ref 123)], [], am_SH, (p33.2, g))) (q := (none, am_SH, (p40, g))) (s1 := (88, [(0, .ref 128), (1, .int a0), (2, .int (am_b t2)), (3, .int (am_b t4)), (4, .int t34)], [], am_SH, (p40, g))) rfl rfl (xt_advance_ok (d + 2)  p33.2 g p40 hp40) ?_
                  refine am_Ev.go hcd 1 (s' := (89, [(0, .ref 128), (1, .int a0), (2, .int (am_b t2)), (3, .int (am_b t4)), (4, .int t34)], [.ref 128], am_SH, (p40, g))) rfl ?_
                  obtain ⟨p41, hp41, h⟩ := am_bind_some h
                  refine am_Ev.call hcd (a := 105) (s0 := (0, [(0, .ref 128)], [], am_SH, (p40, g))) (q := ((some (.int (am_b p41.1))), am_SH, (p41.2, g))) (s1 := (90, [(0, .ref 128), (1, .int a0), (2, .int (am_b t2)), (3, .int (am_b t4)), (4, .int t34)], [.int (am_b p41.1)], am_SH, (p41.2, g))) rfl rfl (xs_readSum_ok (d)  p40 g p41 hp41) ?_
                  refine am_Ev.go hcd 6 (s' := (96, [(0, .ref 128), (1, .int a0), (2, .int (am_b t2)), (3, .int (am_b t4)), (4, .int t34), (5, .int (am_b p41.1))], [.int (20000 + t34), .ref 129], am_SH, (p41.2, g))) rfl ?_
                  obtain ⟨p42, hp42, h⟩ := am_bind_some h
                  refine am_Ev.call hcd (a := 32) (s0 := (0, [(0, .ref 129), (1, .int (20000 + t34))], [], am_SH, (p41.2, g))) (q := (none, am_SH, (p42, g))) (s1 := (97, [(0, .ref 128), (1, .int a0), (2, .int (am_b t2)), (3, .int (am_b t4)), (4, .int t34), (5, .int (am_b p41.1))], [], am_SH, (p42, g))) rfl rfl (xl_emit_129_ok (d + 2) (20000 + t34) p41.2 g p42 hp42) ?_
                  refine am_Ev.go hcd 1 (s' := (98, [(0, .ref 128), (1, .int a0), (2, .int (am_b t2)), (3, .int (am_b t4)), (4, .int t34), (5, .int (am_b p41.1))], [.int (am_b p41.1)], am_SH, (p42, g))) rfl ?_
                  exact am_Ev.cast (a := ((some (.int (am_b (p41.1, p42).1))), am_SH, ((p41.1, p42).2, g))) (by cases h; rfl) (am_Ev.retb hcd rfl)
                · refine am_Ev.t hcd (c := am_b (xt_isSign 61 p33.2) = 0) (s1 := (76, [(0, .ref 128), (1, .int a0), (2, .int (am_b t2)), (3, .int (am_b t4)), (4, .int t34)], [], am_SH, (p33.2, g))) rfl (am_b_f c195) ?_
                  refine am_Ev.go hcd 3 (s' := (79, [(0, .ref 128), (1, .int a0), (2, .int (am_b t2)), (3, .int (am_b t4)), (4, .int t34)], [.int 62, .ref 123], am_SH, (p33.2, g))) rfl ?_
                  refine am_Ev.call hcd (a := 113) (s0 := (0, [(0, .ref 123), (1, .int 62)], [], am_SH, (p33.2, g))) (q := ((some (.int (am_b (xt_isSign 62 p33.2)))), am_SH, (p33.2, g))) (s1 := (80, [(0, .ref 128), (1, .int a0), (2, .int (am_b t2)), (3, .int (am_b t4)), (4, .int t34)], [.int (am_b (xt_isSign 62 p33.2))], am_SH, (p33.2, g))) rfl rfl (xt_isSign_ok (d + 2) 62 p33.2 g) ?_
                  rcases am_ite h with ⟨c211, h⟩ | ⟨c211, h⟩
                  · refine am_Ev.f hcd (c := am_b (xt_isSign 62 p33.2) = 0) (s1 := (85, [(0, .ref 128), (1, .int a0), (2, .int (am_b t2)), (3, .int (am_b t4)), (4, .int t34)], [], am_SH, (p33.2, g))) rfl (am_b_t c211) ?_
                    refine am_Ev.go hcd 2 (s' := (87, [(0, .ref 128), (1, .int a0), (2, .int (am_b t2)), (3, .int (am_b t4)), (4, .int t34)], [.ref 123], am_SH, (p33.2, g))) rfl ?_
                    obtain ⟨p44, hp44, h⟩ := am_bind_some h
                    refine am_Ev.call hcd (a := 111) (s0 := (0, [(0, .ref 123)], [], am_SH, (p33.2, g))) (q := (none, am_SH, (p44, g))) (s1 := (88, [(0, .ref 128), (1, .int a0), (2, .int (am_b t2)), (3, .int (am_b t4)), (4, .int t34)], [], am_SH, (p44, g))) rfl rfl (xt_advance_ok (d + 2)  p33.2 g p44 hp44) ?_
                    refine am_Ev.go hcd 1 (s' := (89, [(0, .ref 128), (1, .int a0), (2, .int (am_b t2)), (3, .int (am_b t4)), (4, .int t34)], [.ref 128], am_SH, (p44, g))) rfl ?_
                    obtain ⟨p45, hp45, h⟩ := am_bind_some h
                    refine am_Ev.call hcd (a := 105) (s0 := (0, [(0, .ref 128)], [], am_SH, (p44, g))) (q := ((some (.int (am_b p45.1))), am_SH, (p45.2, g))) (s1 := (90, [(0, .ref 128), (1, .int a0), (2, .int (am_b t2)), (3, .int (am_b t4)), (4, .int t34)], [.int (am_b p45.1)], am_SH, (p45.2, g))) rfl rfl (xs_readSum_ok (d)  p44 g p45 hp45) ?_
                    refine am_Ev.go hcd 6 (s' := (96, [(0, .ref 128), (1, .int a0), (2, .int (am_b t2)), (3, .int (am_b t4)), (4, .int t34), (5, .int (am_b p45.1))], [.int (20000 + t34), .ref 129], am_SH, (p45.2, g))) rfl ?_
                    obtain ⟨p46, hp46, h⟩ := am_bind_some h
                    refine am_Ev.call hcd (a := 32) (s0 := (0, [(0, .ref 129), (1, .int (20000 + t34))], [], am_SH, (p45.2, g))) (q := (none, am_SH, (p46, g))) (s1 := (97, [(0, .ref 128), (1, .int a0), (2, .int (am_b t2)), (3, .int (am_b t4)), (4, .int t34), (5, .int (am_b p45.1))], [], am_SH, (p46, g))) rfl rfl (xl_emit_129_ok (d + 2) (20000 + t34) p45.2 g p46 hp46) ?_
                    refine am_Ev.go hcd 1 (s' := (98, [(0, .ref 128), (1, .int a0), (2, .int (am_b t2)), (3, .int (am_b t4)), (4, .int t34), (5, .int (am_b p45.1))], [.int (am_b p45.1)], am_SH, (p46, g))) rfl ?_
                    exact am_Ev.cast (a := ((some (.int (am_b (p45.1, p46).1))), am_SH, ((p45.1, p46).2, g))) (by cases h; rfl) (am_Ev.retb hcd rfl)
                  · refine am_Ev.t hcd (c := am_b (xt_isSign 62 p33.2) = 0) (s1 := (81, [(0, .ref 128), (1, .int a0), (2, .int (am_b t2)), (3, .int (am_b t4)), (4, .int t34)], [], am_SH, (p33.2, g))) rfl (am_b_f c211) ?_
                    refine am_Ev.go hcd 2 (s' := (83, [(0, .ref 128), (1, .int a0), (2, .int (am_b t2)), (3, .int (am_b t4)), (4, .int t34)], [.int 1, .ref 128], am_SH, (p33.2, g))) rfl ?_
                    obtain ⟨p47, Ep47, h⟩ := am_let_eq h
                    refine am_Ev.call hcd (a := 92) (s0 := (0, [(0, .ref 128), (1, .int 1)], [], am_SH, (p33.2, g))) (q := ((some (.int (am_b p47.1))), am_SH, (p47.2, g))) (s1 := (84, [(0, .ref 128), (1, .int a0), (2, .int (am_b t2)), (3, .int (am_b t4)), (4, .int t34)], [.int (am_b p47.1)], am_SH, (p47.2, g))) rfl rfl (by subst Ep47; exact xs_refuse_ok (d + 2) 1 p33.2 g) ?_
                    exact am_Ev.cast (a := ((some (.int (am_b (p47.1, p47.2).1))), am_SH, ((p47.1, p47.2).2, g))) (by cases h; rfl) (am_Ev.retb hcd rfl)
            · refine am_Ev.t hcd (c := am_b p33.1 = 0) (s1 := (60, [(0, .ref 128), (1, .int a0), (2, .int (am_b t2)), (3, .int (am_b t4))], [], am_SH, (p33.2, g))) rfl (am_b_f c173) ?_
              refine am_Ev.go hcd 1 (s' := (61, [(0, .ref 128), (1, .int a0), (2, .int (am_b t2)), (3, .int (am_b t4))], [.int 0], am_SH, (p33.2, g))) rfl ?_
              exact am_Ev.cast (a := ((some (.int (am_b (false, p33.2).1))), am_SH, ((false, p33.2).2, g))) (by cases h; rfl) (am_Ev.ret hcd rfl)
      · refine am_Ev.f hcd (c := a0 < 8) (s1 := (17, [(0, .ref 128), (1, .int a0), (2, .int (am_b t2)), (3, .int (am_b t4))], [], am_SH, (f, g))) rfl c127 ?_
        refine am_Ev.go hcd 2 (s' := (19, [(0, .ref 128), (1, .int a0), (2, .int (am_b t2)), (3, .int (am_b t4))], [.int 3, .ref 128], am_SH, (f, g))) rfl ?_
        obtain ⟨p48, Ep48, h⟩ := am_let_eq h
        refine am_Ev.call hcd (a := 92) (s0 := (0, [(0, .ref 128), (1, .int 3)], [], am_SH, (f, g))) (q := ((some (.int (am_b p48.1))), am_SH, (p48.2, g))) (s1 := (20, [(0, .ref 128), (1, .int a0), (2, .int (am_b t2)), (3, .int (am_b t4))], [.int (am_b p48.1)], am_SH, (p48.2, g))) rfl rfl (by subst Ep48; exact xs_refuse_ok (d + 2) 3 f g) ?_
        exact am_Ev.cast (a := ((some (.int (am_b (p48.1, p48.2).1))), am_SH, ((p48.1, p48.2).2, g))) (by cases h; rfl) (am_Ev.retb hcd rfl)
    · refine am_Ev.t hcd (c := am_b t4 = 0) (s1 := (21, [(0, .ref 128), (1, .int a0), (2, .int (am_b t2)), (3, .int (am_b t4))], [], am_SH, (f, g))) rfl (am_b_f c124) ?_
      refine am_Ev.go hcd 1 (s' := (22, [(0, .ref 128), (1, .int a0), (2, .int (am_b t2)), (3, .int (am_b t4))], [.int (am_b t2)], am_SH, (f, g))) rfl ?_
      rcases am_ite h with ⟨c238, h⟩ | ⟨c238, h⟩
      · refine am_Ev.f hcd (c := am_b t2 = 0) (s1 := (23, [(0, .ref 128), (1, .int a0), (2, .int (am_b t2)), (3, .int (am_b t4))], [], am_SH, (f, g))) rfl (am_b_t c238) ?_
        refine am_Ev.go hcd 2 (s' := (25, [(0, .ref 128), (1, .int a0), (2, .int (am_b t2)), (3, .int (am_b t4))], [.ref 123], am_SH, (f, g))) rfl ?_
        obtain ⟨p49, hp49, h⟩ := am_bind_some h
        refine am_Ev.call hcd (a := 111) (s0 := (0, [(0, .ref 123)], [], am_SH, (f, g))) (q := (none, am_SH, (p49, g))) (s1 := (26, [(0, .ref 128), (1, .int a0), (2, .int (am_b t2)), (3, .int (am_b t4))], [], am_SH, (p49, g))) rfl rfl (xt_advance_ok (d + 2)  f g p49 hp49) ?_
        refine am_Ev.go hcd 4 (s' := (30, [(0, .ref 128), (1, .int a0), (2, .int (am_b t2)), (3, .int (am_b t4))], [.int (a0 + 1), .ref 128], am_SH, (p49, g))) rfl ?_
        obtain ⟨p50, hp50, h⟩ := am_bind_some h
        refine am_Ev.call hcd (a := 104) (s0 := (0, [(0, .ref 128), (1, .int (a0 + 1))], [], am_SH, (p49, g))) (q := ((some (.int (am_b p50.1))), am_SH, (p50.2, g))) (s1 := (31, [(0, .ref 128), (1, .int a0), (2, .int (am_b t2)), (3, .int (am_b t4))], [.int (am_b p50.1)], am_SH, (p50.2, g))) rfl rfl (hreadCondition (a0 + 1) p49 g p50 hp50) ?_
        refine am_Ev.go hcd 4 (s' := (35, [(0, .ref 128), (1, .int a0), (2, .int (am_b t2)), (3, .int (am_b t4)), (4, .int (am_b p50.1))], [.int 20033, .ref 129], am_SH, (p50.2, g))) rfl ?_
        obtain ⟨p51, hp51, h⟩ := am_bind_some h
        refine am_Ev.call hcd (a := 32) (s0 := (0, [(0, .ref 129), (1, .int 20033)], [], am_SH, (p50.2, g))) (q := (none, am_SH, (p51, g))) (s1 := (36, [(0, .ref 128), (1, .int a0), (2, .int (am_b t2)), (3, .int (am_b t4)), (4, .int (am_b p50.1))], [], am_SH, (p51, g))) rfl rfl (xl_emit_129_ok (d + 2) 20033 p50.2 g p51 hp51) ?_
        refine am_Ev.go hcd 1 (s' := (37, [(0, .ref 128), (1, .int a0), (2, .int (am_b t2)), (3, .int (am_b t4)), (4, .int (am_b p50.1))], [.int (am_b p50.1)], am_SH, (p51, g))) rfl ?_
        exact am_Ev.cast (a := ((some (.int (am_b (p50.1, p51).1))), am_SH, ((p50.1, p51).2, g))) (by cases h; rfl) (am_Ev.retb hcd rfl)
      · refine am_Ev.t hcd (c := am_b t2 = 0) (s1 := (38, [(0, .ref 128), (1, .int a0), (2, .int (am_b t2)), (3, .int (am_b t4))], [], am_SH, (f, g))) rfl (am_b_f c238) ?_
        refine am_Ev.go hcd 1 (s' := (39, [(0, .ref 128), (1, .int a0), (2, .int (am_b t2)), (3, .int (am_b t4))], [.int (am_b t4)], am_SH, (f, g))) rfl ?_
        rcases am_ite h with ⟨c253, h⟩ | ⟨c253, h⟩
        · refine am_Ev.f hcd (c := am_b t4 = 0) (s1 := (40, [(0, .ref 128), (1, .int a0), (2, .int (am_b t2)), (3, .int (am_b t4))], [], am_SH, (f, g))) rfl (am_b_t c253) ?_
          refine am_Ev.go hcd 2 (s' := (42, [(0, .ref 128), (1, .int a0), (2, .int (am_b t2)), (3, .int (am_b t4))], [.ref 123], am_SH, (f, g))) rfl ?_
          obtain ⟨p52, hp52, h⟩ := am_bind_some h
          refine am_Ev.call hcd (a := 111) (s0 := (0, [(0, .ref 123)], [], am_SH, (f, g))) (q := (none, am_SH, (p52, g))) (s1 := (43, [(0, .ref 128), (1, .int a0), (2, .int (am_b t2)), (3, .int (am_b t4))], [], am_SH, (p52, g))) rfl rfl (xt_advance_ok (d + 2)  f g p52 hp52) ?_
          refine am_Ev.go hcd 4 (s' := (47, [(0, .ref 128), (1, .int a0), (2, .int (am_b t2)), (3, .int (am_b t4))], [.int (a0 + 1), .ref 128], am_SH, (p52, g))) rfl ?_
          obtain ⟨p53, hp53, h⟩ := am_bind_some h
          refine am_Ev.call hcd (a := 103) (s0 := (0, [(0, .ref 128), (1, .int (a0 + 1))], [], am_SH, (p52, g))) (q := ((some (.int (am_b p53.1))), am_SH, (p53.2, g))) (s1 := (48, [(0, .ref 128), (1, .int a0), (2, .int (am_b t2)), (3, .int (am_b t4))], [.int (am_b p53.1)], am_SH, (p53.2, g))) rfl rfl (hreadAny (a0 + 1) p52 g p53 hp53) ?_
          rcases am_ite h with ⟨c262, h⟩ | ⟨c262, h⟩
          · refine am_Ev.f hcd (c := am_b p53.1 = 0) (s1 := (49, [(0, .ref 128), (1, .int a0), (2, .int (am_b t2)), (3, .int (am_b t4))], [], am_SH, (p53.2, g))) rfl (am_b_t c262) ?_
            refine am_Ev.go hcd 2 (s' := (51, [(0, .ref 128), (1, .int a0), (2, .int (am_b t2)), (3, .int (am_b t4))], [.int 41, .ref 128], am_SH, (p53.2, g))) rfl ?_
            obtain ⟨p54, hp54, h⟩ := am_bind_some h
            refine am_Ev.call hcd (a := 94) (s0 := (0, [(0, .ref 128), (1, .int 41)], [], am_SH, (p53.2, g))) (q := ((some (.int (am_b p54.1))), am_SH, (p54.2, g))) (s1 := (52, [(0, .ref 128), (1, .int a0), (2, .int (am_b t2)), (3, .int (am_b t4))], [.int (am_b p54.1)], am_SH, (p54.2, g))) rfl rfl (xs_takeSign_ok (d + 1) 41 p53.2 g p54 hp54) ?_
            rcases am_ite h with ⟨c267, h⟩ | ⟨c267, h⟩
            · refine am_Ev.f hcd (c := am_b p54.1 = 0) (s1 := (53, [(0, .ref 128), (1, .int a0), (2, .int (am_b t2)), (3, .int (am_b t4))], [], am_SH, (p54.2, g))) rfl (am_b_t c267) ?_
              refine am_Ev.go hcd 2 (s' := (56, [(0, .ref 128), (1, .int a0), (2, .int (am_b t2)), (3, .int (am_b t4))], [.int 1], am_SH, (p54.2, g))) rfl ?_
              exact am_Ev.cast (a := ((some (.int (am_b (true, p54.2).1))), am_SH, ((true, p54.2).2, g))) (by cases h; rfl) (am_Ev.ret hcd rfl)
            · refine am_Ev.t hcd (c := am_b p54.1 = 0) (s1 := (55, [(0, .ref 128), (1, .int a0), (2, .int (am_b t2)), (3, .int (am_b t4))], [], am_SH, (p54.2, g))) rfl (am_b_f c267) ?_
              refine am_Ev.go hcd 1 (s' := (56, [(0, .ref 128), (1, .int a0), (2, .int (am_b t2)), (3, .int (am_b t4))], [.int 0], am_SH, (p54.2, g))) rfl ?_
              exact am_Ev.cast (a := ((some (.int (am_b (false, p54.2).1))), am_SH, ((false, p54.2).2, g))) (by cases h; rfl) (am_Ev.ret hcd rfl)
          · refine am_Ev.t hcd (c := am_b p53.1 = 0) (s1 := (55, [(0, .ref 128), (1, .int a0), (2, .int (am_b t2)), (3, .int (am_b t4))], [], am_SH, (p53.2, g))) rfl (am_b_f c262) ?_
            refine am_Ev.go hcd 1 (s' := (56, [(0, .ref 128), (1, .int a0), (2, .int (am_b t2)), (3, .int (am_b t4))], [.int 0], am_SH, (p53.2, g))) rfl ?_
            exact am_Ev.cast (a := ((some (.int (am_b (false, p53.2).1))), am_SH, ((false, p53.2).2, g))) (by cases h; rfl) (am_Ev.ret hcd rfl)
        · refine am_Ev.t hcd (c := am_b t4 = 0) (s1 := (57, [(0, .ref 128), (1, .int a0), (2, .int (am_b t2)), (3, .int (am_b t4))], [], am_SH, (f, g))) rfl (am_b_f c253) ?_
          refine am_Ev.go hcd 1 (s' := (58, [(0, .ref 128), (1, .int a0), (2, .int (am_b t2)), (3, .int (am_b t4))], [.ref 128], am_SH, (f, g))) rfl ?_
          obtain ⟨p55, hp55, h⟩ := am_bind_some h
          refine am_Ev.call hcd (a := 105) (s0 := (0, [(0, .ref 128)], [], am_SH, (f, g))) (q := ((some (.int (am_b p55.1))), am_SH, (p55.2, g))) (s1 := (59, [(0, .ref 128), (1, .int a0), (2, .int (am_b t2)), (3, .int (am_b t4))], [.int (am_b p55.1)], am_SH, (p55.2, g))) rfl rfl (xs_readSum_ok (d)  f g p55 hp55) ?_
          rcases am_ite h with ⟨c281, h⟩ | ⟨c281, h⟩
          · refine am_Ev.f hcd (c := am_b p55.1 = 0) (s1 := (62, [(0, .ref 128), (1, .int a0), (2, .int (am_b t2)), (3, .int (am_b t4))], [], am_SH, (p55.2, g))) rfl (am_b_t c281) ?_
            obtain ⟨t56, Et56, h⟩ := am_let_eq h
            refine am_Ev.go hcd 4 (s' := (66, [(0, .ref 128), (1, .int a0), (2, .int (am_b t2)), (3, .int (am_b t4)), (4, .int t56)], [], am_SH, (p55.2, g))) (by subst Et56; exact rfl) ?_
            refine am_Ev.go hcd 3 (s' := (69, [(0, .ref 128), (1, .int a0), (2, .int (am_b t2)), (3, .int (am_b t4)), (4, .int t56)], [.int 60, .ref 123], am_SH, (p55.2, g))) rfl ?_
            refine am_Ev.call hcd (a := 113) (s0 := (0, [(0, .ref 123), (1, .int 60)], [], am_SH, (p55.2, g))) (q := ((some (.int (am_b (xt_isSign 60 p55.2)))), am_SH, (p55.2, g))) (s1 := (70, [(0, .ref 128), (1, .int a0), (2, .int (am_b t2)), (3, .int (am_b t4)), (4, .int t56)], [.int (am_b (xt_isSign 60 p55.2))], am_SH, (p55.2, g))) rfl rfl (xt_isSign_ok (d + 2) 60 p55.2 g) ?_
            rcases am_ite h with ⟨c287, h⟩ | ⟨c287, h⟩
            · refine am_Ev.f hcd (c := am_b (xt_isSign 60 p55.2) = 0) (s1 := (85, [(0, .ref 128), (1, .int a0), (2, .int (am_b t2)), (3, .int (am_b t4)), (4, .int t56)], [], am_SH, (p55.2, g))) rfl (am_b_t c287) ?_
              refine am_Ev.go hcd 2 (s' := (87, [(0, .ref 128), (1, .int a0), (2, .int (am_b t2)), (3, .int (am_b t4)), (4, .int t56)], [.ref 123], am_SH, (p55.2, g))) rfl ?_
              obtain ⟨p58, hp58, h⟩ := am_bind_some h
              refine am_Ev.call hcd (a := 111) (s0 := (0, [(0, .ref 123)], [], am_SH, (p55.2, g))) (q := (none, am_SH, (p58, g))) (s1 := (88, [(0, .ref 128), (1, .int a0), (2, .int (am_b t2)), (3, .int (am_b t4)), (4, .int t56)], [], am_SH, (p58, g))) rfl rfl (xt_advance_ok (d + 2)  p55.2 g p58 hp58) ?_
              refine am_Ev.go hcd 1 (s' := (89, [(0, .ref 128), (1, .int a0), (2, .int (am_b t2)), (3, .int (am_b t4)), (4, .int t56)], [.ref 128], am_SH, (p58, g))) rfl ?_
              obtain ⟨p59, hp59, h⟩ := am_bind_some h
              refine am_Ev.call hcd (a := 105) (s0 := (0, [(0, .ref 128)], [], am_SH, (p58, g))) (q := ((some (.int (am_b p59.1))), am_SH, (p59.2, g))) (s1 := (90, [(0, .ref 128), (1, .int a0), (2, .int (am_b t2)), (3, .int (am_b t4)), (4, .int t56)], [.int (am_b p59.1)], am_SH, (p59.2, g))) rfl rfl (xs_readSum_ok (d)  p58 g p59 hp59) ?_
              refine am_Ev.go hcd 6 (s' := (96, [(0, .ref 128), (1, .int a0), (2, .int (am_b t2)), (3, .int (am_b t4)), (4, .int t56), (5, .int (am_b p59.1))], [.int (20000 + t56), .ref 129], am_SH, (p59.2, g))) rfl ?_
              obtain ⟨p60, hp60, h⟩ := am_bind_some h
              refine am_Ev.call hcd (a := 32) (s0 := (0, [(0, .ref 129), (1, .int (20000 + t56))], [], am_SH, (p59.2, g))) (q := (none, am_SH, (p60, g))) (s1 := (97, [(0, .ref 128), (1, .int a0), (2, .int (am_b t2)), (3, .int (am_b t4)), (4, .int t56), (5, .int (am_b p59.1))], [], am_SH, (p60, g))) rfl rfl (xl_emit_129_ok (d + 2) (20000 + t56) p59.2 g p60 hp60) ?_
              refine am_Ev.go hcd 1 (s' := (98, [(0, .ref 128), (1, .int a0), (2, .int (am_b t2)), (3, .int (am_b t4)), (4, .int t56), (5, .int (am_b p59.1))], [.int (am_b p59.1)], am_SH, (p60, g))) rfl ?_
              exact am_Ev.cast (a := ((some (.int (am_b (p59.1, p60).1))), am_SH, ((p59.1, p60).2, g))) (by cases h; rfl) (am_Ev.retb hcd rfl)
            · refine am_Ev.t hcd (c := am_b (xt_isSign 60 p55.2) = 0) (s1 := (71, [(0, .ref 128), (1, .int a0), (2, .int (am_b t2)), (3, .int (am_b t4)), (4, .int t56)], [], am_SH, (p55.2, g))) rfl (am_b_f c287) ?_
              refine am_Ev.go hcd 3 (s' := (74, [(0, .ref 128), (1, .int a0), (2, .int (am_b t2)), (3, .int (am_b t4)), (4, .int t56)], [.int 61, .ref 123], am_SH, (p55.2, g))) rfl ?_
              refine am_Ev.call hcd (a := 113) (s0 := (0, [(0, .ref 123), (1, .int 61)], [], am_SH, (p55.2, g))) (q := ((some (.int (am_b (xt_isSign 61 p55.2)))), am_SH, (p55.2, g))) (s1 := (75, [(0, .ref 128), (1, .int a0), (2, .int (am_b t2)), (3, .int (am_b t4)), (4, .int t56)], [.int (am_b (xt_isSign 61 p55.2))], am_SH, (p55.2, g))) rfl rfl (xt_isSign_ok (d + 2) 61 p55.2 g) ?_
              rcases am_ite h with ⟨c303, h⟩ | ⟨c303, h⟩
              · refine am_Ev.f hcd (c := am_b (xt_isSign 61 p55.2) = 0) (s1 := (85, [(0, .ref 128), (1, .int a0), (2, .int (am_b t2)), (3, .int (am_b t4)), (4, .int t56)], [], am_SH, (p55.2, g))) rfl (am_b_t c303) ?_
                refine am_Ev.go hcd 2 (s' := (87, [(0, .ref 128), (1, .int a0), (2, .int (am_b t2)), (3, .int (am_b t4)), (4, .int t56)], [.ref 123], am_SH, (p55.2, g))) rfl ?_
                obtain ⟨p62, hp62, h⟩ := am_bind_some h
                refine am_Ev.call hcd (a := 111) (s0 := (0, [(0, .ref 123)], [], am_SH, (p55.2, g))) (q := (none, am_SH, (p62, g))) (s1 := (88, [(0, .ref 128), (1, .int a0), (2, .int (am_b t2)), (3, .int (am_b t4)), (4, .int t56)], [], am_SH, (p62, g))) rfl rfl (xt_advance_ok (d + 2)  p55.2 g p62 hp62) ?_
                refine am_Ev.go hcd 1 (s' := (89, [(0, .ref 128), (1, .int a0), (2, .int (am_b t2)), (3, .int (am_b t4)), (4, .int t56)], [.ref 128], am_SH, (p62, g))) rfl ?_
                obtain ⟨p63, hp63, h⟩ := am_bind_some h
                refine am_Ev.call hcd (a := 105) (s0 := (0, [(0, .ref 128)], [], am_SH, (p62, g))) (q := ((some (.int (am_b p63.1))), am_SH, (p63.2, g))) (s1 := (90, [(0, .ref 128), (1, .int a0), (2, .int (am_b t2)), (3, .int (am_b t4)), (4, .int t56)], [.int (am_b p63.1)], am_SH, (p63.2, g))) rfl rfl (xs_readSum_ok (d)  p62 g p63 hp63) ?_
                refine am_Ev.go hcd 6 (s' := (96, [(0, .ref 128), (1, .int a0), (2, .int (am_b t2)), (3, .int (am_b t4)), (4, .int t56), (5, .int (am_b p63.1))], [.int (20000 + t56), .ref 129], am_SH, (p63.2, g))) rfl ?_
                obtain ⟨p64, hp64, h⟩ := am_bind_some h
                refine am_Ev.call hcd (a := 32) (s0 := (0, [(0, .ref 129), (1, .int (20000 + t56))], [], am_SH, (p63.2, g))) (q := (none, am_SH, (p64, g))) (s1 := (97, [(0, .ref 128), (1, .int a0), (2, .int (am_b t2)), (3, .int (am_b t4)), (4, .int t56), (5, .int (am_b p63.1))], [], am_SH, (p64, g))) rfl rfl (xl_emit_129_ok (d + 2) (20000 + t56) p63.2 g p64 hp64) ?_
                refine am_Ev.go hcd 1 (s' := (98, [(0, .ref 128), (1, .int a0), (2, .int (am_b t2)), (3, .int (am_b t4)), (4, .int t56), (5, .int (am_b p63.1))], [.int (am_b p63.1)], am_SH, (p64, g))) rfl ?_
                exact am_Ev.cast (a := ((some (.int (am_b (p63.1, p64).1))), am_SH, ((p63.1, p64).2, g))) (by cases h; rfl) (am_Ev.retb hcd rfl)
              · refine am_Ev.t hcd (c := am_b (xt_isSign 61 p55.2) = 0) (s1 := (76, [(0, .ref 128), (1, .int a0), (2, .int (am_b t2)), (3, .int (am_b t4)), (4, .int t56)], [], am_SH, (p55.2, g))) rfl (am_b_f c303) ?_
                refine am_Ev.go hcd 3 (s' := (79, [(0, .ref 128), (1, .int a0), (2, .int (am_b t2)), (3, .int (am_b t4)), (4, .int t56)], [.int 62, .ref 123], am_SH, (p55.2, g))) rfl ?_
                refine am_Ev.call hcd (a := 113) (s0 := (0, [(0, .ref 123), (1, .int 62)], [], am_SH, (p55.2, g))) (q := ((some (.int (am_b (xt_isSign 62 p55.2)))), am_SH, (p55.2, g))) (s1 := (80, [(0, .ref 128), (1, .int a0), (2, .int (am_b t2)), (3, .int (am_b t4)), (4, .int t56)], [.int (am_b (xt_isSign 62 p55.2))], am_SH, (p55.2, g))) rfl rfl (xt_isSign_ok (d + 2) 62 p55.2 g) ?_
                rcases am_ite h with ⟨c319, h⟩ | ⟨c319, h⟩
                · refine am_Ev.f hcd (c := am_b (xt_isSign 62 p55.2) = 0) (s1 := (85, [(0, .ref 128), (1, .int a0), (2, .int (am_b t2)), (3, .int (am_b t4)), (4, .int t56)], [], am_SH, (p55.2, g))) rfl (am_b_t c319) ?_
                  refine am_Ev.go hcd 2 (s' := (87, [(0, .ref 128), (1, .int a0), (2, .int (am_b t2)), (3, .int (am_b t4)), (4, .int t56)], [.ref 123], am_SH, (p55.2, g))) rfl ?_
                  obtain ⟨p66, hp66, h⟩ := am_bind_some h
                  refine am_Ev.call hcd (a := 111) (s0 := (0, [(0, .ref 123)], [], am_SH, (p55.2, g))) (q := (none, am_SH, (p66, g))) (s1 := (88, [(0, .ref 128), (1, .int a0), (2, .int (am_b t2)), (3, .int (am_b t4)), (4, .int t56)], [], am_SH, (p66, g))) rfl rfl (xt_advance_ok (d + 2)  p55.2 g p66 hp66) ?_
                  refine am_Ev.go hcd 1 (s' := (89, [(0, .ref 128), (1, .int a0), (2, .int (am_b t2)), (3, .int (am_b t4)), (4, .int t56)], [.ref 128], am_SH, (p66, g))) rfl ?_
                  obtain ⟨p67, hp67, h⟩ := am_bind_some h
                  refine am_Ev.call hcd (a := 105) (s0 := (0, [(0, .ref 128)], [], am_SH, (p66, g))) (q := ((some (.int (am_b p67.1))), am_SH, (p67.2, g))) (s1 := (90, [(0, .ref 128), (1, .int a0), (2, .int (am_b t2)), (3, .int (am_b t4)), (4, .int t56)], [.int (am_b p67.1)], am_SH, (p67.2, g))) rfl rfl (xs_readSum_ok (d)  p66 g p67 hp67) ?_
                  refine am_Ev.go hcd 6 (s' := (96, [(0, .ref 128), (1, .int a0), (2, .int (am_b t2)), (3, .int (am_b t4)), (4, .int t56), (5, .int (am_b p67.1))], [.int (20000 + t56), .ref 129], am_SH, (p67.2, g))) rfl ?_
                  obtain ⟨p68, hp68, h⟩ := am_bind_some h
                  refine am_Ev.call hcd (a := 32) (s0 := (0, [(0, .ref 129), (1, .int (20000 + t56))], [], am_SH, (p67.2, g))) (q := (none, am_SH, (p68, g))) (s1 := (97, [(0, .ref 128), (1, .int a0), (2, .int (am_b t2)), (3, .int (am_b t4)), (4, .int t56), (5, .int (am_b p67.1))], [], am_SH, (p68, g))) rfl rfl (xl_emit_129_ok (d + 2) (20000 + t56) p67.2 g p68 hp68) ?_
                  refine am_Ev.go hcd 1 (s' := (98, [(0, .ref 128), (1, .int a0), (2, .int (am_b t2)), (3, .int (am_b t4)), (4, .int t56), (5, .int (am_b p67.1))], [.int (am_b p67.1)], am_SH, (p68, g))) rfl ?_
                  exact am_Ev.cast (a := ((some (.int (am_b (p67.1, p68).1))), am_SH, ((p67.1, p68).2, g))) (by cases h; rfl) (am_Ev.retb hcd rfl)
                · refine am_Ev.t hcd (c := am_b (xt_isSign 62 p55.2) = 0) (s1 := (81, [(0, .ref 128), (1, .int a0), (2, .int (am_b t2)), (3, .int (am_b t4)), (4, .int t56)], [], am_SH, (p55.2, g))) rfl (am_b_f c319) ?_
                  refine am_Ev.go hcd 2 (s' := (83, [(0, .ref 128), (1, .int a0), (2, .int (am_b t2)), (3, .int (am_b t4)), (4, .int t56)], [.int 1, .ref 128], am_SH, (p55.2, g))) rfl ?_
                  obtain ⟨p69, Ep69, h⟩ := am_let_eq h
                  refine am_Ev.call hcd (a := 92) (s0 := (0, [(0, .ref 128), (1, .int 1)], [], am_SH, (p55.2, g))) (q := ((some (.int (am_b p69.1))), am_SH, (p69.2, g))) (s1 := (84, [(0, .ref 128), (1, .int a0), (2, .int (am_b t2)), (3, .int (am_b t4)), (4, .int t56)], [.int (am_b p69.1)], am_SH, (p69.2, g))) rfl rfl (by subst Ep69; exact xs_refuse_ok (d + 2) 1 p55.2 g) ?_
                  exact am_Ev.cast (a := ((some (.int (am_b (p69.1, p69.2).1))), am_SH, ((p69.1, p69.2).2, g))) (by cases h; rfl) (am_Ev.retb hcd rfl)
          · refine am_Ev.t hcd (c := am_b p55.1 = 0) (s1 := (60, [(0, .ref 128), (1, .int a0), (2, .int (am_b t2)), (3, .int (am_b t4))], [], am_SH, (p55.2, g))) rfl (am_b_f c281) ?_
            refine am_Ev.go hcd 1 (s' := (61, [(0, .ref 128), (1, .int a0), (2, .int (am_b t2)), (3, .int (am_b t4))], [.int 0], am_SH, (p55.2, g))) rfl ?_
            exact am_Ev.cast (a := ((some (.int (am_b (false, p55.2).1))), am_SH, ((false, p55.2).2, g))) (by cases h; rfl) (am_Ev.ret hcd rfl)
set_option maxHeartbeats 4000000 in
theorem x_rec_ok {sc : Nat × (Nat → Int32)} (d : Nat) : ∀ n : Nat, (∀ (a0 : Int32) (f g : (Nat → Nat → Int32)) (r : Bool × (Nat → Nat → Int32)), xs_readAny n a0 f = some r → am_Ev sc (d + n + 2) 103 (0, [(0, .ref 128), (1, .int a0)], [], am_SH, (f, g)) ((some (.int (am_b r.1))), am_SH, (r.2, g))) ∧ (∀ (a0 : Int32) (f g : (Nat → Nat → Int32)) (r : Bool × (Nat → Nat → Int32)), xs_readCondition n a0 f = some r → am_Ev sc (d + n + 2) 104 (0, [(0, .ref 128), (1, .int a0)], [], am_SH, (f, g)) ((some (.int (am_b r.1))), am_SH, (r.2, g))) := by
  intro n
  induction n with
  | zero => exact ⟨fun _ f g r h => (by cases h), fun _ f g r h => (by cases h)⟩
  | succ n ih =>
    obtain ⟨i0, i1⟩ := ih
    exact ⟨fun a0 f g r h => xs_readAny_Bok (d + n) _ _ i0 i1 a0 f g r h, fun a0 f g r h => xs_readCondition_Bok (d + n) _ _ i0 i1 a0 f g r h⟩
theorem xs_readAny_ok {sc : Nat × (Nat → Int32)} (d n : Nat) (a0 : Int32) (f g : (Nat → Nat → Int32)) (r : Bool × (Nat → Nat → Int32)) (h : xs_readAny n a0 f = some r) : am_Ev sc (d + n + 2) 103 (0, [(0, .ref 128), (1, .int a0)], [], am_SH, (f, g)) ((some (.int (am_b r.1))), am_SH, (r.2, g)) := (x_rec_ok d n).1 a0 f g r h
theorem xs_readCondition_ok {sc : Nat × (Nat → Int32)} (d n : Nat) (a0 : Int32) (f g : (Nat → Nat → Int32)) (r : Bool × (Nat → Nat → Int32)) (h : xs_readCondition n a0 f = some r) : am_Ev sc (d + n + 2) 104 (0, [(0, .ref 128), (1, .int a0)], [], am_SH, (f, g)) ((some (.int (am_b r.1))), am_SH, (r.2, g)) := (x_rec_ok d n).2 a0 f g r h
