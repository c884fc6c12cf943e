set_option maxRecDepth 100000 in
set_option maxHeartbeats 4000000 in
theorem xs_readSum_ok {sc : Nat × (Nat → Int32)} (d : Nat)  (f g : (Nat → Nat → Int32)) (r : Bool × (Nat → Nat → Int32)) (h : xs_readSum  f = some r) : am_Ev sc (d + 2) 105 (0, [(0, .ref 128)], [], am_SH, (f, g)) ((some (.int (am_b r.1))), am_SH, (r.2, g)) := by
  have hcd : am_code 105 = am_c105 := rfl
  unfold xs_readSum at h
  refine am_Ev.go hcd 1 (s' := (1, [(0, .ref 128)], [.ref 128], am_SH, (f, g))) rfl ?_
  obtain ⟨p1, hp1, h⟩ := am_bind_some h
  refine am_Ev.call hcd (a := 107) (s0 := (0, [(0, .ref 128)], [], am_SH, (f, g))) (q := ((some (.int (am_b p1.1))), am_SH, (p1.2, g))) (s1 := (2, [(0, .ref 128)], [.int (am_b p1.1)], am_SH, (p1.2, g))) rfl rfl (xs_readUnit_ok (d)  f g p1 hp1) ?_
  rcases am_ite h with ⟨c5, h⟩ | ⟨c5, h⟩
  · refine am_Ev.f hcd (c := am_b p1.1 = 0) (s1 := (5, [(0, .ref 128)], [], am_SH, (p1.2, g))) rfl (am_b_t c5) ?_
    refine am_Ev.go hcd 4 (s' := (9, [(0, .ref 128), (1, .int 0), (2, .int 0)], [], am_SH, (p1.2, g))) rfl ?_
    obtain ⟨e23, he23, h⟩ := am_bind_some h
    have hK2 : (fun (v : (Bool × (Nat → Nat → Int32)) ⊕ (Int32 × (Nat → Nat → Int32))) => v.elim (fun (v : Bool × (Nat → Nat → Int32)) => (((some (.int (am_b v.1))), am_SH, (v.2, g)) : am_R) = ((some (.int (am_b r.1))), am_SH, (r.2, g))) (fun (e24 : Int32 × (Nat → Nat → Int32)) => am_Ev sc (d + 2) 105 (77, [(0, .ref 128), (1, .int e24.1)], [], am_SH, (e24.2, g)) ((some (.int (am_b r.1))), am_SH, (r.2, g)))) e23 := by
      cases e23 with
      | inl v => exact (by cases h; rfl)
      | inr e24 =>
        have h := am_elim_r h
        show am_Ev sc (d + 2) 105 (77, [(0, .ref 128), (1, .int e24.1)], [], am_SH, (e24.2, g)) ((some (.int (am_b r.1))), am_SH, (r.2, g))
        refine am_Ev.go hcd 1 (s' := (78, [(0, .ref 128), (1, .int e24.1)], [.int e24.1], am_SH, (e24.2, g))) rfl ?_
        rcases am_ite h with ⟨c15, h⟩ | ⟨c15, h⟩
        · refine am_Ev.t hcd (c := e24.1 = 0) (s1 := (83, [(0, .ref 128), (1, .int e24.1)], [], am_SH, (e24.2, g))) rfl c15 ?_
          refine am_Ev.go hcd 1 (s' := (84, [(0, .ref 128), (1, .int e24.1)], [.int 1], am_SH, (e24.2, g))) rfl ?_
          exact am_Ev.cast (a := ((some (.int (am_b (true, e24.2).1))), am_SH, ((true, e24.2).2, g))) (by cases h; rfl) (am_Ev.ret hcd rfl)
        · refine am_Ev.f hcd (c := e24.1 = 0) (s1 := (79, [(0, .ref 128), (1, .int e24.1)], [], am_SH, (e24.2, g))) rfl c15 ?_
          refine am_Ev.go hcd 3 (s' := (82, [(0, .ref 128), (1, .int e24.1)], [.int e24.1, .ref 129], am_SH, (e24.2, g))) rfl ?_
          obtain ⟨p25, hp25, h⟩ := am_bind_some h
          refine am_Ev.call hcd (a := 32) (s0 := (0, [(0, .ref 129), (1, .int e24.1)], [], am_SH, (e24.2, g))) (q := (none, am_SH, (p25, g))) (s1 := (83, [(0, .ref 128), (1, .int e24.1)], [], am_SH, (p25, g))) rfl rfl (xl_emit_129_ok (d + 1) e24.1 e24.2 g p25 hp25) ?_
          refine am_Ev.go hcd 1 (s' := (84, [(0, .ref 128), (1, .int e24.1)], [.int 1], am_SH, (p25, g))) rfl ?_
          exact am_Ev.cast (a := ((some (.int (am_b (true, p25).1))), am_SH, ((true, p25).2, g))) (by cases h; rfl) (am_Ev.ret hcd rfl)
    refine am_Ev.weak' (am_loop_ok (G := fun (s2 : Int32 × Int32 × (Nat → Nat → Int32)) => am_Ev sc (d + 2) 105 (9, [(0, .ref 128), (1, .int s2.1), (2, .int s2.2.1)], [], am_SH, (s2.2.2, g)) ((some (.int (am_b r.1))), am_SH, (r.2, g))) (Z := fun (v : (Bool × (Nat → Nat → Int32)) ⊕ (Int32 × (Nat → Nat → Int32))) => v.elim (fun (v : Bool × (Nat → Nat → Int32)) => (((some (.int (am_b v.1))), am_SH, (v.2, g)) : am_R) = ((some (.int (am_b r.1))), am_SH, (r.2, g))) (fun (e24 : Int32 × (Nat → Nat → Int32)) => am_Ev sc (d + 2) 105 (77, [(0, .ref 128), (1, .int e24.1)], [], am_SH, (e24.2, g)) ((some (.int (am_b r.1))), am_SH, (r.2, g)))) ?_ am_F (0, 0, p1.2) e23 he23 hK2) (am_sub_cons rfl (am_sub_cons rfl (am_sub_cons rfl am_sub_nil))) rfl
    intro s2 q2 h hI2 hZ2
    show am_Ev sc (d + 2) 105 (9, [(0, .ref 128), (1, .int s2.1), (2, .int s2.2.1)], [], am_SH, (s2.2.2, g)) ((some (.int (am_b r.1))), am_SH, (r.2, g))
    refine am_Ev.go hcd 2 (s' := (11, [(0, .ref 128), (1, .int s2.1), (2, .int s2.2.1)], [.int 400, .int s2.2.1], am_SH, (s2.2.2, g))) rfl ?_
    rcases am_ite h with ⟨c29, h⟩ | ⟨c29, h⟩
    · refine am_Ev.t hcd (c := s2.2.1 < 400) (s1 := (12, [(0, .ref 128), (1, .int s2.1), (2, .int s2.2.1)], [], am_SH, (s2.2.2, g))) rfl c29 ?_
      refine am_Ev.go hcd 1 (s' := (13, [(0, .ref 128), (1, .int s2.1), (2, .int s2.2.1)], [.ref 128], am_SH, (s2.2.2, g))) rfl ?_
      refine am_Ev.call hcd (a := 106) (s0 := (0, [(0, .ref 128)], [], am_SH, (s2.2.2, g))) (q := ((some (.int (am_b (xs_isJoin  s2.2.2)))), am_SH, (s2.2.2, g))) (s1 := (14, [(0, .ref 128), (1, .int s2.1), (2, .int s2.2.1)], [.int (am_b (xs_isJoin  s2.2.2))], am_SH, (s2.2.2, g))) rfl rfl (xs_isJoin_ok (d)  s2.2.2 g) ?_
      rcases am_ite h with ⟨c34, h⟩ | ⟨c34, h⟩
      · refine am_Ev.f hcd (c := am_b (xs_isJoin  s2.2.2) = 0) (s1 := (15, [(0, .ref 128), (1, .int s2.1), (2, .int s2.2.1)], [], am_SH, (s2.2.2, g))) rfl (am_b_t c34) ?_
        obtain ⟨t4, Et4, h⟩ := am_let_eq h
        refine am_Ev.go hcd 4 (s' := (19, [(0, .ref 128), (1, .int s2.1), (2, .int s2.2.1), (3, .int t4)], [], am_SH, (s2.2.2, g))) (by subst Et4; exact rfl) ?_
        obtain ⟨t5, ht5, kt5⟩ := am_let_eq h
        have hKt5 : am_Ev sc (d + 2) 105 (28, [(0, .ref 128), (1, .int s2.1), (2, .int s2.2.1), (3, .int t4)], [.int (am_b t5)], am_SH, (s2.2.2, g)) ((some (.int (am_b r.1))), am_SH, (r.2, g)) := by
          have h := kt5
          obtain ⟨t7, ht7, kt7⟩ := am_bind_some h
          have hKt7 : am_Ev sc (d + 2) 105 (37, [(0, .ref 128), (1, .int s2.1), (2, .int s2.2.1), (3, .int t4), (4, .int (am_b t5))], [], am_SH, (t7, g)) ((some (.int (am_b r.1))), am_SH, (r.2, g)) := by
            have h := kt7
            refine am_Ev.go hcd 2 (s' := (39, [(0, .ref 128), (1, .int s2.1), (2, .int s2.2.1), (3, .int t4), (4, .int (am_b t5))], [.ref 123], am_SH, (t7, g))) rfl ?_
            obtain ⟨p8, hp8, h⟩ := am_bind_some h
            refine am_Ev.call hcd (a := 111) (s0 := (0, [(0, .ref 123)], [], am_SH, (t7, g))) (q := (none, am_SH, (p8, g))) (s1 := (40, [(0, .ref 128), (1, .int s2.1), (2, .int s2.2.1), (3, .int t4), (4, .int (am_b t5))], [], am_SH, (p8, g))) rfl rfl (xt_advance_ok (d + 1)  t7 g p8 hp8) ?_
            refine am_Ev.go hcd 2 (s' := (42, [(0, .ref 128), (1, .int s2.1), (2, .int s2.2.1), (3, .int t4), (4, .int (am_b t5))], [.int 47, .int t4], am_SH, (p8, g))) rfl ?_
            rcases am_ite h with ⟨c47, h⟩ | ⟨c47, h⟩
            · refine am_Ev.t hcd (c := t4 = 47) (s1 := (43, [(0, .ref 128), (1, .int s2.1), (2, .int s2.2.1), (3, .int t4), (4, .int (am_b t5))], [], am_SH, (p8, g))) rfl c47 ?_
              refine am_Ev.go hcd 3 (s' := (46, [(0, .ref 128), (1, .int s2.1), (2, .int s2.2.1), (3, .int t4), (4, .int (am_b t5))], [.int 9999, .int 1, .ref 128], am_SH, (p8, g))) rfl ?_
              obtain ⟨p9, hp9, h⟩ := am_bind_some h
              refine am_Ev.call hcd (a := 96) (s0 := (0, [(0, .ref 128), (1, .int 1), (2, .int 9999)], [], am_SH, (p8, g))) (q := ((some (.int (am_b p9.1))), am_SH, (p9.2, g))) (s1 := (47, [(0, .ref 128), (1, .int s2.1), (2, .int s2.2.1), (3, .int t4), (4, .int (am_b t5))], [.int (am_b p9.1)], am_SH, (p9.2, g))) rfl rfl (xs_takeNumber_ok (d) 1 9999 p8 g p9 hp9) ?_
              rcases am_ite h with ⟨c53, h⟩ | ⟨c53, h⟩
              · refine am_Ev.f hcd (c := am_b p9.1 = 0) (s1 := (54, [(0, .ref 128), (1, .int s2.1), (2, .int s2.2.1), (3, .int t4), (4, .int (am_b t5))], [], am_SH, (p9.2, g))) rfl (am_b_t c53) ?_
                obtain ⟨t11, ht11, kt11⟩ := am_bind_some h
                have hKt11 : am_Ev sc (d + 2) 105 (62, [(0, .ref 128), (1, .int s2.1), (2, .int s2.2.1), (3, .int t4), (4, .int (am_b t5))], [], am_SH, (t11, g)) ((some (.int (am_b r.1))), am_SH, (r.2, g)) := by
                  have h := kt11
                  obtain ⟨t14, ht14, kt14⟩ := am_bind_some h
                  have hKt14 : am_Ev sc (d + 2) 105 (75, [(0, .ref 128), (1, .int t14.1), (2, .int s2.2.1)], [], am_SH, (t14.2, g)) ((some (.int (am_b r.1))), am_SH, (r.2, g)) := by
                    have h := kt14
                    obtain ⟨t15, Et15, h⟩ := am_let_eq h
                    refine am_Ev.go hcd 1 (s' := (76, [(0, .ref 128), (1, .int t14.1), (2, .int t15)], [], am_SH, (t14.2, g))) (by subst Et15; exact rfl) ?_
                    refine am_Ev.go hcd 1 (s' := (9, [(0, .ref 128), (1, .int t14.1), (2, .int t15)], [], am_SH, (t14.2, g))) rfl ?_
                    exact am_Ev.weak' (hI2 (t14.1, t15, t14.2) (Option.some.inj h).symm) (am_sub_cons rfl (am_sub_cons rfl (am_sub_cons rfl am_sub_nil))) rfl
                  have hLt14 : ∀ tt, tt = t14 → am_Ev sc (d + 2) 105 (75, [(0, .ref 128), (1, .int tt.1), (2, .int s2.2.1)], [], am_SH, (tt.2, g)) ((some (.int (am_b r.1))), am_SH, (r.2, g)) := fun tt htt => by subst htt; exact hKt14
                  have h := ht14
                  refine am_Ev.go hcd 1 (s' := (63, [(0, .ref 128), (1, .int s2.1), (2, .int s2.2.1), (3, .int t4), (4, .int (am_b t5))], [.int (am_b t5)], am_SH, (t11, g))) rfl ?_
                  rcases am_ite h with ⟨c67, h⟩ | ⟨c67, h⟩
                  · refine am_Ev.f hcd (c := am_b t5 = 0) (s1 := (64, [(0, .ref 128), (1, .int s2.1), (2, .int s2.2.1), (3, .int t4), (4, .int (am_b t5))], [], am_SH, (t11, g))) rfl (am_b_t c67) ?_
                    refine am_Ev.go hcd 5 (s' := (69, [(0, .ref 128), (1, .int s2.1), (2, .int s2.2.1), (3, .int t4), (4, .int (am_b t5))], [.int (20000 + t4), .ref 129], am_SH, (t11, g))) rfl ?_
                    obtain ⟨p12, hp12, h⟩ := am_bind_some h
                    refine am_Ev.call hcd (a := 32) (s0 := (0, [(0, .ref 129), (1, .int (20000 + t4))], [], am_SH, (t11, g))) (q := (none, am_SH, (p12, g))) (s1 := (70, [(0, .ref 128), (1, .int s2.1), (2, .int s2.2.1), (3, .int t4), (4, .int (am_b t5))], [], am_SH, (p12, g))) rfl rfl (xl_emit_129_ok (d + 1) (20000 + t4) t11 g p12 hp12) ?_
                    refine am_Ev.go hcd 1 (s' := (75, [(0, .ref 128), (1, .int s2.1), (2, .int s2.2.1), (3, .int t4), (4, .int (am_b t5))], [], am_SH, (p12, g))) rfl ?_
                    exact am_Ev.weak' (hLt14 (s2.1, p12) (Option.some.inj h)) (am_sub_cons rfl (am_sub_cons rfl (am_sub_cons rfl am_sub_nil))) rfl
                  · refine am_Ev.t hcd (c := am_b t5 = 0) (s1 := (71, [(0, .ref 128), (1, .int s2.1), (2, .int s2.2.1), (3, .int t4), (4, .int (am_b t5))], [], am_SH, (t11, g))) rfl (am_b_f c67) ?_
                    obtain ⟨t13, Et13, h⟩ := am_let_eq h
                    refine am_Ev.go hcd 4 (s' := (75, [(0, .ref 128), (1, .int t13), (2, .int s2.2.1), (3, .int t4), (4, .int (am_b t5))], [], am_SH, (t11, g))) (by subst Et13; exact rfl) ?_
                    exact am_Ev.weak' (hLt14 (t13, t11) (Option.some.inj h)) (am_sub_cons rfl (am_sub_cons rfl (am_sub_cons rfl am_sub_nil))) rfl
                have hLt11 : ∀ tt, tt = t11 → am_Ev sc (d + 2) 105 (62, [(0, .ref 128), (1, .int s2.1), (2, .int s2.2.1), (3, .int t4), (4, .int (am_b t5))], [], am_SH, (tt, g)) ((some (.int (am_b r.1))), am_SH, (r.2, g)) := fun tt htt => by subst htt; exact hKt11
                have h := ht11
                refine am_Ev.go hcd 2 (s' := (56, [(0, .ref 128), (1, .int s2.1), (2, .int s2.2.1), (3, .int t4), (4, .int (am_b t5))], [.int 47, .int t4], am_SH, (p9.2, g))) rfl ?_
                rcases am_ite h with ⟨c81, h⟩ | ⟨c81, h⟩
                · refine am_Ev.t hcd (c := t4 = 47) (s1 := (57, [(0, .ref 128), (1, .int s2.1), (2, .int s2.2.1), (3, .int t4), (4, .int (am_b t5))], [], am_SH, (p9.2, g))) rfl c81 ?_
                  refine am_Ev.go hcd 4 (s' := (61, [(0, .ref 128), (1, .int s2.1), (2, .int s2.2.1), (3, .int t4), (4, .int (am_b t5))], [.int (p9.2 128 7), .ref 129], am_SH, (p9.2, g))) rfl ?_
                  obtain ⟨p10, hp10, h⟩ := am_bind_some h
                  refine am_Ev.call hcd (a := 32) (s0 := (0, [(0, .ref 129), (1, .int (p9.2 128 7))], [], am_SH, (p9.2, g))) (q := (none, am_SH, (p10, g))) (s1 := (62, [(0, .ref 128), (1, .int s2.1), (2, .int s2.2.1), (3, .int t4), (4, .int (am_b t5))], [], am_SH, (p10, g))) rfl rfl (xl_emit_129_ok (d + 1) (p9.2 128 7) p9.2 g p10 hp10) ?_
                  exact am_Ev.weak' (hLt11 p10 (Option.some.inj h)) (am_sub_cons rfl (am_sub_cons rfl (am_sub_cons rfl (am_sub_cons rfl (am_sub_cons rfl am_sub_nil))))) rfl
                · refine am_Ev.f hcd (c := t4 = 47) (s1 := (62, [(0, .ref 128), (1, .int s2.1), (2, .int s2.2.1), (3, .int t4), (4, .int (am_b t5))], [], am_SH, (p9.2, g))) rfl c81 ?_
                  exact am_Ev.weak' (hLt11 p9.2 (Option.some.inj h)) (am_sub_cons rfl (am_sub_cons rfl (am_sub_cons rfl (am_sub_cons rfl (am_sub_cons rfl am_sub_nil))))) rfl
              · refine am_Ev.t hcd (c := am_b p9.1 = 0) (s1 := (48, [(0, .ref 128), (1, .int s2.1), (2, .int s2.2.1), (3, .int t4), (4, .int (am_b t5))], [], am_SH, (p9.2, g))) rfl (am_b_f c53) ?_
                refine am_Ev.go hcd 2 (s' := (53, [(0, .ref 128), (1, .int s2.1), (2, .int s2.2.1), (3, .int t4), (4, .int (am_b t5))], [.int 0], am_SH, (p9.2, g))) rfl ?_
                exact am_Ev.cast (a := ((some (.int (am_b (false, p9.2).1))), am_SH, ((false, p9.2).2, g))) (hZ2 _ (Option.some.inj h).symm) (am_Ev.ret hcd rfl)
            · refine am_Ev.f hcd (c := t4 = 47) (s1 := (49, [(0, .ref 128), (1, .int s2.1), (2, .int s2.2.1), (3, .int t4), (4, .int (am_b t5))], [], am_SH, (p8, g))) rfl c47 ?_
              refine am_Ev.go hcd 1 (s' := (50, [(0, .ref 128), (1, .int s2.1), (2, .int s2.2.1), (3, .int t4), (4, .int (am_b t5))], [.ref 128], am_SH, (p8, g))) rfl ?_
              obtain ⟨p16, hp16, h⟩ := am_bind_some h
              refine am_Ev.call hcd (a := 107) (s0 := (0, [(0, .ref 128)], [], am_SH, (p8, g))) (q := ((some (.int (am_b p16.1))), am_SH, (p16.2, g))) (s1 := (51, [(0, .ref 128), (1, .int s2.1), (2, .int s2.2.1), (3, .int t4), (4, .int (am_b t5))], [.int (am_b p16.1)], am_SH, (p16.2, g))) rfl rfl (xs_readUnit_ok (d)  p8 g p16 hp16) ?_
              rcases am_ite h with ⟨c97, h⟩ | ⟨c97, h⟩
              · refine am_Ev.f hcd (c := am_b p16.1 = 0) (s1 := (54, [(0, .ref 128), (1, .int s2.1), (2, .int s2.2.1), (3, .int t4), (4, .int (am_b t5))], [], am_SH, (p16.2, g))) rfl (am_b_t c97) ?_
                obtain ⟨t18, ht18, kt18⟩ := am_bind_some h
                have hKt18 : am_Ev sc (d + 2) 105 (62, [(0, .ref 128), (1, .int s2.1), (2, .int s2.2.1), (3, .int t4), (4, .int (am_b t5))], [], am_SH, (t18, g)) ((some (.int (am_b r.1))), am_SH, (r.2, g)) := by
                  have h := kt18
                  obtain ⟨t21, ht21, kt21⟩ := am_bind_some h
                  have hKt21 : am_Ev sc (d + 2) 105 (75, [(0, .ref 128), (1, .int t21.1), (2, .int s2.2.1)], [], am_SH, (t21.2, g)) ((some (.int (am_b r.1))), am_SH, (r.2, g)) := by
                    have h := kt21
                    obtain ⟨t22, Et22, h⟩ := am_let_eq h
                    refine am_Ev.go hcd 1 (s' := (76, [(0, .ref 128), (1, .int t21.1), (2, .int t22)], [], am_SH, (t21.2, g))) (by subst Et22; exact rfl) ?_
                    refine am_Ev.go hcd 1 (s' := (9, [(0, .ref 128), (1, .int t21.1), (2, .int t22)], [], am_SH, (t21.2, g))) rfl ?_
                    exact am_Ev.weak' (hI2 (t21.1, t22, t21.2) (Option.some.inj h).symm) (am_sub_cons rfl (am_sub_cons rfl (am_sub_cons rfl am_sub_nil))) rfl
                  have hLt21 : ∀ tt, tt = t21 → am_Ev sc (d + 2) 105 (75, [(0, .ref 128), (1, .int tt.1), (2, .int s2.2.1)], [], am_SH, (tt.2, g)) ((some (.int (am_b r.1))), am_SH, (r.2, g)) := fun tt htt => by subst htt; exact hKt21
                  have h := ht21
                  refine am_Ev.go hcd 1 (s' := (63, [(0, .ref 128), (1, .int s2.1), (2, .int s2.2.1), (3, .int t4), (4, .int (am_b t5))], [.int (am_b t5)], am_SH, (t18, g))) rfl ?_
                  rcases am_ite h with ⟨c111, h⟩ | ⟨c111, h⟩
                  · refine am_Ev.f hcd (c := am_b t5 = 0) (s1 := (64, [(0, .ref 128), (1, .int s2.1), (2, .int s2.2.1), (3, .int t4), (4, .int (am_b t5))], [], am_SH, (t18, g))) rfl (am_b_t c111) ?_
                    refine am_Ev.go hcd 5 (s' := (69, [(0, .ref 128), (1, .int s2.1), (2, .int s2.2.1), (3, .int t4), (4, .int (am_b t5))], [.int (20000 + t4), .ref 129], am_SH, (t18, g))) rfl ?_
                    obtain ⟨p19, hp19, h⟩ := am_bind_some h
                    refine am_Ev.call hcd (a := 32) (s0 := (0, [(0, .ref 129), (1, .int (20000 + t4))], [], am_SH, (t18, g))) (q := (none, am_SH, (p19, g))) (s1 := (70, [(0, .ref 128), (1, .int s2.1), (2, .int s2.2.1), (3, .int t4), (4, .int (am_b t5))], [], am_SH, (p19, g))) rfl rfl (xl_emit_129_ok (d + 1) (20000 + t4) t18 g p19 hp19) ?_
                    refine am_Ev.go hcd 1 (s' := (75, [(0, .ref 128), (1, .int s2.1), (2, .int s2.2.1), (3, .int t4), (4, .int (am_b t5))], [], am_SH, (p19, g))) rfl ?_
                    exact am_Ev.weak' (hLt21 (s2.1, p19) (Option.some.inj h)) (am_sub_cons rfl (am_sub_cons rfl (am_sub_cons rfl am_sub_nil))) rfl
                  · refine am_Ev.t hcd (c := am_b t5 = 0) (s1 := (71, [(0, .ref 128), (1, .int s2.1), (2, .int s2.2.1), (3, .int t4), (4, .int (am_b t5))], [], am_SH, (t18, g))) rfl (am_b_f c111) ?_
                    obtain ⟨t20, Et20, h⟩ := am_let_eq h
                    refine am_Ev.go hcd 4 (s' := (75, [(0, .ref 128), (1, .int t20), (2, .int s2.2.1), (3, .int t4), (4, .int (am_b t5))], [], am_SH, (t18, g))) (by subst Et20; exact rfl) ?_
                    exact am_Ev.weak' (hLt21 (t20, t18) (Option.some.inj h)) (am_sub_cons rfl (am_sub_cons rfl (am_sub_cons rfl am_sub_nil))) rfl
                have hLt18 : ∀ tt, tt = t18 → am_Ev sc (d + 2) 105 (62, [(0, .ref 128), (1, .int s2.1), (2, .int s2.2.1), (3, .int t4), (4, .int (am_b t5))], [], am_SH, (tt, g)) ((some (.int (am_b r.1))), am_SH, (r.2, g)) := fun tt htt => by subst htt; exact hKt18
                have h := ht18
                refine am_Ev.go hcd 2 (s' := (56, [(0, .ref 128), (1, .int s2.1), (2, .int s2.2.1), (3, .int t4), (4, .int (am_b t5))], [.int 47, .int t4], am_SH, (p16.2, g))) rfl ?_
                rcases am_ite h with ⟨c125, h⟩ | ⟨c125, h⟩
                · refine am_Ev.t hcd (c := t4 = 47) (s1 := (57, [(0, .ref 128), (1, .int s2.1), (2, .int s2.2.1), (3, .int t4), (4, .int (am_b t5))], [], am_SH, (p16.2, g))) rfl c125 ?_
                  refine am_Ev.go hcd 4 (s' := (61, [(0, .ref 128), (1, .int s2.1), (2, .int s2.2.1), (3, .int t4), (4, .int (am_b t5))], [.int (p16.2 128 7), .ref 129], am_SH, (p16.2, g))) rfl ?_
                  obtain ⟨p17, hp17, h⟩ := am_bind_some h
                  refine am_Ev.call hcd (a := 32) (s0 := (0, [(0, .ref 129), (1, .int (p16.2 128 7))], [], am_SH, (p16.2, g))) (q := (none, am_SH, (p17, g))) (s1 := (62, [(0, .ref 128), (1, .int s2.1), (2, .int s2.2.1), (3, .int t4), (4, .int (am_b t5))], [], am_SH, (p17, g))) rfl rfl (xl_emit_129_ok (d + 1) (p16.2 128 7) p16.2 g p17 hp17) ?_
                  exact am_Ev.weak' (hLt18 p17 (Option.some.inj h)) (am_sub_cons rfl (am_sub_cons rfl (am_sub_cons rfl (am_sub_cons rfl (am_sub_cons rfl am_sub_nil))))) rfl
                · refine am_Ev.f hcd (c := t4 = 47) (s1 := (62, [(0, .ref 128), (1, .int s2.1), (2, .int s2.2.1), (3, .int t4), (4, .int (am_b t5))], [], am_SH, (p16.2, g))) rfl c125 ?_
                  exact am_Ev.weak' (hLt18 p16.2 (Option.some.inj h)) (am_sub_cons rfl (am_sub_cons rfl (am_sub_cons rfl (am_sub_cons rfl (am_sub_cons rfl am_sub_nil))))) rfl
              · refine am_Ev.t hcd (c := am_b p16.1 = 0) (s1 := (52, [(0, .ref 128), (1, .int s2.1), (2, .int s2.2.1), (3, .int t4), (4, .int (am_b t5))], [], am_SH, (p16.2, g))) rfl (am_b_f c97) ?_
                refine am_Ev.go hcd 1 (s' := (53, [(0, .ref 128), (1, .int s2.1), (2, .int s2.2.1), (3, .int t4), (4, .int (am_b t5))], [.int 0], am_SH, (p16.2, g))) rfl ?_
                exact am_Ev.cast (a := ((some (.int (am_b (false, p16.2).1))), am_SH, ((false, p16.2).2, g))) (hZ2 _ (Option.some.inj h).symm) (am_Ev.ret hcd rfl)
          have hLt7 : ∀ tt, tt = t7 → am_Ev sc (d + 2) 105 (37, [(0, .ref 128), (1, .int s2.1), (2, .int s2.2.1), (3, .int t4), (4, .int (am_b t5))], [], am_SH, (tt, g)) ((some (.int (am_b r.1))), am_SH, (r.2, g)) := fun tt htt => by subst htt; exact hKt7
          have h := ht7
          refine am_Ev.go hcd 2 (s' := (30, [(0, .ref 128), (1, .int s2.1), (2, .int s2.2.1), (3, .int t4), (4, .int (am_b t5))], [.int (am_b t5)], am_SH, (s2.2.2, g))) rfl ?_
          rcases am_ite h with ⟨c139, h⟩ | ⟨c139, h⟩
          · refine am_Ev.f hcd (c := am_b t5 = 0) (s1 := (37, [(0, .ref 128), (1, .int s2.1), (2, .int s2.2.1), (3, .int t4), (4, .int (am_b t5))], [], am_SH, (s2.2.2, g))) rfl (am_b_t c139) ?_
            exact am_Ev.weak' (hLt7 s2.2.2 (Option.some.inj h)) (am_sub_cons rfl (am_sub_cons rfl (am_sub_cons rfl (am_sub_cons rfl (am_sub_cons rfl am_sub_nil))))) rfl
          · refine am_Ev.t hcd (c := am_b t5 = 0) (s1 := (31, [(0, .ref 128), (1, .int s2.1), (2, .int s2.2.1), (3, .int t4), (4, .int (am_b t5))], [], am_SH, (s2.2.2, g))) rfl (am_b_f c139) ?_
            refine am_Ev.go hcd 1 (s' := (32, [(0, .ref 128), (1, .int s2.1), (2, .int s2.2.1), (3, .int t4), (4, .int (am_b t5))], [.int s2.1], am_SH, (s2.2.2, g))) rfl ?_
            rcases am_ite h with ⟨c144, h⟩ | ⟨c144, h⟩
            · refine am_Ev.t hcd (c := s2.1 = 0) (s1 := (37, [(0, .ref 128), (1, .int s2.1), (2, .int s2.2.1), (3, .int t4), (4, .int (am_b t5))], [], am_SH, (s2.2.2, g))) rfl c144 ?_
              exact am_Ev.weak' (hLt7 s2.2.2 (Option.some.inj h)) (am_sub_cons rfl (am_sub_cons rfl (am_sub_cons rfl (am_sub_cons rfl (am_sub_cons rfl am_sub_nil))))) rfl
            · refine am_Ev.f hcd (c := s2.1 = 0) (s1 := (33, [(0, .ref 128), (1, .int s2.1), (2, .int s2.2.1), (3, .int t4), (4, .int (am_b t5))], [], am_SH, (s2.2.2, g))) rfl c144 ?_
              refine am_Ev.go hcd 3 (s' := (36, [(0, .ref 128), (1, .int s2.1), (2, .int s2.2.1), (3, .int t4), (4, .int (am_b t5))], [.int s2.1, .ref 129], am_SH, (s2.2.2, g))) rfl ?_
              obtain ⟨p6, hp6, h⟩ := am_bind_some h
              refine am_Ev.call hcd (a := 32) (s0 := (0, [(0, .ref 129), (1, .int s2.1)], [], am_SH, (s2.2.2, g))) (q := (none, am_SH, (p6, g))) (s1 := (37, [(0, .ref 128), (1, .int s2.1), (2, .int s2.2.1), (3, .int t4), (4, .int (am_b t5))], [], am_SH, (p6, g))) rfl rfl (xl_emit_129_ok (d + 1) s2.1 s2.2.2 g p6 hp6) ?_
              exact am_Ev.weak' (hLt7 p6 (Option.some.inj h)) (am_sub_cons rfl (am_sub_cons rfl (am_sub_cons rfl (am_sub_cons rfl (am_sub_cons rfl am_sub_nil))))) rfl
        have hLt5 : ∀ tt, tt = t5 → am_Ev sc (d + 2) 105 (28, [(0, .ref 128), (1, .int s2.1), (2, .int s2.2.1), (3, .int t4)], [.int (am_b tt)], am_SH, (s2.2.2, g)) ((some (.int (am_b r.1))), am_SH, (r.2, g)) := fun tt htt => by subst htt; exact hKt5
        have h := ht5
        refine am_Ev.go hcd 2 (s' := (21, [(0, .ref 128), (1, .int s2.1), (2, .int s2.2.1), (3, .int t4)], [.int 42, .int t4], am_SH, (s2.2.2, g))) rfl ?_
        rcases am_itv h with ⟨c155, h⟩ | ⟨c155, h⟩
        · refine am_Ev.t hcd (c := t4 = 42) (s1 := (25, [(0, .ref 128), (1, .int s2.1), (2, .int s2.2.1), (3, .int t4)], [], am_SH, (s2.2.2, g))) rfl c155 ?_
          refine am_Ev.go hcd 2 (s' := (28, [(0, .ref 128), (1, .int s2.1), (2, .int s2.2.1), (3, .int t4)], [.int 1], am_SH, (s2.2.2, g))) rfl ?_
          exact am_Ev.weak' (hLt5 true h.symm) (am_sub_cons rfl (am_sub_cons rfl (am_sub_cons rfl (am_sub_cons rfl am_sub_nil)))) rfl
        · refine am_Ev.f hcd (c := t4 = 42) (s1 := (22, [(0, .ref 128), (1, .int s2.1), (2, .int s2.2.1), (3, .int t4)], [], am_SH, (s2.2.2, g))) rfl c155 ?_
          refine am_Ev.go hcd 2 (s' := (24, [(0, .ref 128), (1, .int s2.1), (2, .int s2.2.1), (3, .int t4)], [.int 47, .int t4], am_SH, (s2.2.2, g))) rfl ?_
          rcases am_itv h with ⟨c161, h⟩ | ⟨c161, h⟩
          · refine am_Ev.t hcd (c := t4 = 47) (s1 := (25, [(0, .ref 128), (1, .int s2.1), (2, .int s2.2.1), (3, .int t4)], [], am_SH, (s2.2.2, g))) rfl c161 ?_
            refine am_Ev.go hcd 2 (s' := (28, [(0, .ref 128), (1, .int s2.1), (2, .int s2.2.1), (3, .int t4)], [.int 1], am_SH, (s2.2.2, g))) rfl ?_
            exact am_Ev.weak' (hLt5 true h.symm) (am_sub_cons rfl (am_sub_cons rfl (am_sub_cons rfl (am_sub_cons rfl am_sub_nil)))) rfl
          · refine am_Ev.f hcd (c := t4 = 47) (s1 := (27, [(0, .ref 128), (1, .int s2.1), (2, .int s2.2.1), (3, .int t4)], [], am_SH, (s2.2.2, g))) rfl c161 ?_
            refine am_Ev.go hcd 1 (s' := (28, [(0, .ref 128), (1, .int s2.1), (2, .int s2.2.1), (3, .int t4)], [.int 0], am_SH, (s2.2.2, g))) rfl ?_
            exact am_Ev.weak' (hLt5 false h.symm) (am_sub_cons rfl (am_sub_cons rfl (am_sub_cons rfl (am_sub_cons rfl am_sub_nil)))) rfl
      · refine am_Ev.t hcd (c := am_b (xs_isJoin  s2.2.2) = 0) (s1 := (77, [(0, .ref 128), (1, .int s2.1), (2, .int s2.2.1)], [], am_SH, (s2.2.2, g))) rfl (am_b_f c34) ?_
        exact am_Ev.weak' (hZ2 (.inr (s2.1, s2.2.2)) (Option.some.inj h).symm) (am_sub_cons rfl (am_sub_cons rfl am_sub_nil)) rfl
    · refine am_Ev.f hcd (c := s2.2.1 < 400) (s1 := (77, [(0, .ref 128), (1, .int s2.1), (2, .int s2.2.1)], [], am_SH, (s2.2.2, g))) rfl c29 ?_
      exact am_Ev.weak' (hZ2 (.inr (s2.1, s2.2.2)) (Option.some.inj h).symm) (am_sub_cons rfl (am_sub_cons rfl am_sub_nil)) rfl
  · refine am_Ev.t hcd (c := am_b p1.1 = 0) (s1 := (3, [(0, .ref 128)], [], am_SH, (p1.2, g))) rfl (am_b_f c5) ?_
    refine am_Ev.go hcd 1 (s' := (4, [(0, .ref 128)], [.int 0], am_SH, (p1.2, g))) rfl ?_
    exact am_Ev.cast (a := ((some (.int (am_b (false, p1.2).1))), am_SH, ((false, p1.2).2, g))) (by cases h; rfl) (am_Ev.ret hcd rfl)
set_option maxRecDepth 100000 in
set_option maxHeartbeats 4000000 in
theorem xt_isWord_ok {sc : Nat × (Nat → Int32)} (d : Nat) (a0 : Int32) (f g : (Nat → Nat → Int32)) : am_Ev sc (d) 112 (0, [(0, .ref 123), (1, .int a0)], [], am_SH, (f, g)) ((some (.int (am_b (xt_isWord a0 f)))), am_SH, (f, g)) := by
  have hcd : am_code 112 = am_c112 := rfl
  obtain ⟨r, h⟩ : ∃ r, r = xt_isWord a0 f := ⟨_, rfl⟩
  rw [← h]
  unfold xt_isWord at h
  refine am_Ev.go hcd 3 (s' := (3, [(0, .ref 123), (1, .int a0)], [.int 1, .int (f 123 1)], am_SH, (f, g))) rfl ?_
  rcases am_itv h with ⟨c4, h⟩ | ⟨c4, h⟩
  · refine am_Ev.t hcd (c := f 123 1 = 1) (s1 := (4, [(0, .ref 123), (1, .int a0)], [], am_SH, (f, g))) rfl c4 ?_
    refine am_Ev.go hcd 3 (s' := (7, [(0, .ref 123), (1, .int a0)], [.int a0, .int (f 123 2)], am_SH, (f, g))) rfl ?_
    rcases am_itv h with ⟨c7, h⟩ | ⟨c7, h⟩
    · refine am_Ev.t hcd (c := f 123 2 = a0) (s1 := (8, [(0, .ref 123), (1, .int a0)], [], am_SH, (f, g))) rfl c7 ?_
      refine am_Ev.go hcd 2 (s' := (11, [(0, .ref 123), (1, .int a0)], [.int 1], am_SH, (f, g))) rfl ?_
      exact am_Ev.cast (a := ((some (.int (am_b true))), am_SH, (f, g))) (by subst h; rfl) (am_Ev.ret hcd rfl)
    · refine am_Ev.f hcd (c := f 123 2 = a0) (s1 := (10, [(0, .ref 123), (1, .int a0)], [], am_SH, (f, g))) rfl c7 ?_
      refine am_Ev.go hcd 1 (s' := (11, [(0, .ref 123), (1, .int a0)], [.int 0], am_SH, (f, g))) rfl ?_
      exact am_Ev.cast (a := ((some (.int (am_b false))), am_SH, (f, g))) (by subst h; rfl) (am_Ev.ret hcd rfl)
  · refine am_Ev.f hcd (c := f 123 1 = 1) (s1 := (10, [(0, .ref 123), (1, .int a0)], [], am_SH, (f, g))) rfl c4 ?_
    refine am_Ev.go hcd 1 (s' := (11, [(0, .ref 123), (1, .int a0)], [.int 0], am_SH, (f, g))) rfl ?_
    exact am_Ev.cast (a := ((some (.int (am_b false))), am_SH, (f, g))) (by subst h; rfl) (am_Ev.ret hcd rfl)
set_option maxRecDepth 100000 in
set_option maxHeartbeats 4000000 in
theorem xs_takeSign_ok {sc : Nat × (Nat → Int32)} (d : Nat) (a0 : Int32) (f g : (Nat → Nat → Int32)) (r : Bool × (Nat → Nat → Int32)) (h : xs_takeSign a0 f = some r) : am_Ev sc (d + 1) 94 (0, [(0, .ref 128), (1, .int a0)], [], am_SH, (f, g)) ((some (.int (am_b r.1))), am_SH, (r.2, g)) := by
  have hcd : am_code 94 = am_c94 := rfl
  unfold xs_takeSign at h
  refine am_Ev.go hcd 3 (s' := (3, [(0, .ref 128), (1, .int a0)], [.int a0, .ref 123], am_SH, (f, g))) rfl ?_
  refine am_Ev.call hcd (a := 113) (s0 := (0, [(0, .ref 123), (1, .int a0)], [], am_SH, (f, g))) (q := ((some (.int (am_b (xt_isSign a0 f)))), am_SH, (f, g))) (s1 := (4, [(0, .ref 128), (1, .int a0)], [.int (am_b (xt_isSign a0 f))], am_SH, (f, g))) rfl rfl (xt_isSign_ok (d) a0 f g) ?_
  rcases am_ite h with ⟨c4, h⟩ | ⟨c4, h⟩
  · refine am_Ev.f hcd (c := am_b (xt_isSign a0 f) = 0) (s1 := (9, [(0, .ref 128), (1, .int a0)], [], am_SH, (f, g))) rfl (am_b_t c4) ?_
    refine am_Ev.go hcd 2 (s' := (11, [(0, .ref 128), (1, .int a0)], [.ref 123], am_SH, (f, g))) rfl ?_
    obtain ⟨p2, hp2, h⟩ := am_bind_some h
    refine am_Ev.call hcd (a := 111) (s0 := (0, [(0, .ref 123)], [], am_SH, (f, g))) (q := (none, am_SH, (p2, g))) (s1 := (12, [(0, .ref 128), (1, .int a0)], [], am_SH, (p2, g))) rfl rfl (xt_advance_ok (d)  f g p2 hp2) ?_
    refine am_Ev.go hcd 1 (s' := (13, [(0, .ref 128), (1, .int a0)], [.int 1], am_SH, (p2, g))) rfl ?_
    exact am_Ev.cast (a := ((some (.int (am_b (true, p2).1))), am_SH, ((true, p2).2, g))) (by cases h; rfl) (am_Ev.ret hcd rfl)
  · refine am_Ev.t hcd (c := am_b (xt_isSign a0 f) = 0) (s1 := (5, [(0, .ref 128), (1, .int a0)], [], am_SH, (f, g))) rfl (am_b_f c4) ?_
    refine am_Ev.go hcd 2 (s' := (7, [(0, .ref 128), (1, .int a0)], [.int 1, .ref 128], am_SH, (f, g))) rfl ?_
    obtain ⟨p3, Ep3, h⟩ := am_let_eq h
    refine am_Ev.call hcd (a := 92) (s0 := (0, [(0, .ref 128), (1, .int 1)], [], am_SH, (f, g))) (q := ((some (.int (am_b p3.1))), am_SH, (p3.2, g))) (s1 := (8, [(0, .ref 128), (1, .int a0)], [.int (am_b p3.1)], am_SH, (p3.2, g))) rfl rfl (by subst Ep3; exact xs_refuse_ok (d) 1 f g) ?_
    exact am_Ev.cast (a := ((some (.int (am_b (p3.1, p3.2).1))), am_SH, ((p3.1, p3.2).2, g))) (by cases h; rfl) (am_Ev.retb hcd rfl)
