set_option maxRecDepth 100000 in
set_option maxHeartbeats 4000000 in
theorem xt_split_ok {sc : Nat × (Nat → Int32)} (d : Nat) (a0 : Nat) (f g : (Nat → Nat → Int32)) (r : (Nat → Nat → Int32)) (h : xt_split a0 f = some r) : am_Ev sc (d + 3) 110 (0, [(0, .ref 123), (1, .retAddr a0)], [], am_SH, (f, g)) (none, am_SH, (r, g)) := by
  have hcd : am_code 110 = am_c110 := rfl
  unfold xt_split at h
  obtain ⟨f1, Ef1, h⟩ := am_let_eq h
  refine am_Ev.go hcd 3 (s' := (3, [(0, .ref 123), (1, .retAddr a0)], [], am_SH, (f1, g))) (by subst Ef1; exact rfl) ?_
  refine am_Ev.go hcd 4 (s' := (7, [(0, .ref 123), (1, .retAddr a0), (2, .int 0), (3, .int 0)], [], am_SH, (f1, g))) rfl ?_
  obtain ⟨e9, he9, h⟩ := am_bind_some h
  have hK2 : (fun (e9 : (Nat → Nat → Int32)) => am_Ev sc (d + 3) 110 (36, [(0, .ref 123)], [], am_SH, (e9, g)) (none, am_SH, (r, g))) e9 := by
    show am_Ev sc (d + 3) 110 (36, [(0, .ref 123)], [], am_SH, (e9, g)) (none, am_SH, (r, g))
    refine am_Ev.go hcd 5 (s' := (41, [(0, .ref 123)], [.int 0, .int (e9 123 8), .ref 125], am_SH, (e9, g))) rfl ?_
    obtain ⟨c8, h⟩ := am_grd h
    obtain ⟨f10, Ef10, h⟩ := am_let_eq h
    refine am_Ev.t hcd (o := none) (c := am_in (e9 123 8) 401 = true) (s1 := (42, [(0, .ref 123)], [], am_SH, (f10, g))) (by subst Ef10; exact rfl) c8 ?_
    refine am_Ev.go hcd 5 (s' := (47, [(0, .ref 123)], [.int (-1), .int (f10 123 8), .ref 126], am_SH, (f10, g))) rfl ?_
    obtain ⟨c12, h⟩ := am_grd h
    obtain ⟨f11, Ef11, h⟩ := am_let_eq h
    refine am_Ev.t hcd (o := none) (c := am_in (f10 123 8) 401 = true) (s1 := (48, [(0, .ref 123)], [], am_SH, (f11, g))) (by subst Ef11; exact rfl) c12 ?_
    refine am_Ev.go hcd 6 (s' := (54, [(0, .ref 123)], [.int (f11 123 0), .int (f11 123 8), .ref 127], am_SH, (f11, g))) rfl ?_
    obtain ⟨c16, h⟩ := am_grd h
    obtain ⟨f12, Ef12, h⟩ := am_let_eq h
    refine am_Ev.t hcd (o := none) (c := am_in (f11 123 8) 401 = true) (s1 := (55, [(0, .ref 123)], [], am_SH, (f12, g))) (by subst Ef12; exact rfl) c16 ?_
    obtain ⟨f13, Ef13, h⟩ := am_let_eq h
    refine am_Ev.go hcd 3 (s' := (58, [(0, .ref 123)], [], am_SH, (f13, g))) (by subst Ef13; exact rfl) ?_
    refine am_Ev.go hcd 1 (s' := (59, [(0, .ref 123)], [.ref 123], am_SH, (f13, g))) rfl ?_
    obtain ⟨p14, hp14, h⟩ := am_bind_some h
    refine am_Ev.call hcd (a := 111) (s0 := (0, [(0, .ref 123)], [], am_SH, (f13, g))) (q := (none, am_SH, (p14, g))) (s1 := (60, [(0, .ref 123)], [], am_SH, (p14, g))) rfl rfl (xt_advance_ok (d + 2)  f13 g p14 hp14) ?_
    exact am_Ev.cast (a := (none, am_SH, (p14, g))) (by cases h; rfl) (am_Ev.ret hcd rfl)
  refine am_Ev.weak' (am_loop_ok (G := fun (s2 : Int32 × Int32 × (Nat → Nat → Int32)) => am_Ev sc (d + 3) 110 (7, [(0, .ref 123), (1, .retAddr a0), (2, .int s2.1), (3, .int s2.2.1)], [], am_SH, (s2.2.2, g)) (none, am_SH, (r, g))) (Z := fun (e9 : (Nat → Nat → Int32)) => am_Ev sc (d + 3) 110 (36, [(0, .ref 123)], [], am_SH, (e9, g)) (none, am_SH, (r, g))) ?_ am_F (0, 0, f1) e9 he9 hK2) (am_sub_cons rfl (am_sub_cons rfl (am_sub_cons rfl (am_sub_cons rfl am_sub_nil)))) rfl
  intro s2 q2 h hI2 hZ2
  show am_Ev sc (d + 3) 110 (7, [(0, .ref 123), (1, .retAddr a0), (2, .int s2.1), (3, .int s2.2.1)], [], am_SH, (s2.2.2, g)) (none, am_SH, (r, g))
  refine am_Ev.go hcd 3 (s' := (10, [(0, .ref 123), (1, .retAddr a0), (2, .int s2.1), (3, .int s2.2.1)], [.int (s2.2.2 123 0), .int s2.2.1], am_SH, (s2.2.2, g))) rfl ?_
  rcases am_ite h with ⟨c29, h⟩ | ⟨c29, h⟩
  · refine am_Ev.t hcd (c := s2.2.1 < s2.2.2 123 0) (s1 := (11, [(0, .ref 123), (1, .retAddr a0), (2, .int s2.1), (3, .int s2.2.1)], [], am_SH, (s2.2.2, g))) rfl c29 ?_
    refine am_Ev.go hcd 3 (s' := (14, [(0, .ref 123), (1, .retAddr a0), (2, .int s2.1), (3, .int s2.2.1)], [.int (s2.2.2 123 0), .int s2.1], am_SH, (s2.2.2, g))) rfl ?_
    rcases am_ite h with ⟨c32, h⟩ | ⟨c32, h⟩
    · refine am_Ev.t hcd (c := s2.1 < s2.2.2 123 0) (s1 := (15, [(0, .ref 123), (1, .retAddr a0), (2, .int s2.1), (3, .int s2.2.1)], [], am_SH, (s2.2.2, g))) rfl c32 ?_
      refine am_Ev.go hcd 3 (s' := (18, [(0, .ref 123), (1, .retAddr a0), (2, .int s2.1), (3, .int s2.2.1)], [.int s2.1, .ref 124], am_SH, (s2.2.2, g))) rfl ?_
      obtain ⟨c35, h⟩ := am_grd h
      refine am_Ev.t hcd (o := none) (c := am_in s2.1 400 = true) (s1 := (19, [(0, .ref 123), (1, .retAddr a0), (2, .int s2.1), (3, .int s2.2.1)], [.int (s2.2.2 124 s2.1.toNatClampNeg)], am_SH, (s2.2.2, g))) rfl c35 ?_
      obtain ⟨t3, Et3, h⟩ := am_let_eq h
      refine am_Ev.go hcd 1 (s' := (20, [(0, .ref 123), (1, .retAddr a0), (2, .int s2.1), (3, .int s2.2.1), (4, .int t3)], [], am_SH, (s2.2.2, g))) (by subst Et3; exact rfl) ?_
      obtain ⟨t7, ht7, kt7⟩ := am_bind_some h
      have hKt7 : am_Ev sc (d + 3) 110 (34, [(0, .ref 123), (1, .retAddr a0), (2, .int t7.1), (3, .int s2.2.1)], [], am_SH, (t7.2, g)) (none, am_SH, (r, g)) := by
        have h := kt7
        obtain ⟨t8, Et8, h⟩ := am_let_eq h
        refine am_Ev.go hcd 1 (s' := (35, [(0, .ref 123), (1, .retAddr a0), (2, .int t7.1), (3, .int t8)], [], am_SH, (t7.2, g))) (by subst Et8; exact rfl) ?_
        refine am_Ev.go hcd 1 (s' := (7, [(0, .ref 123), (1, .retAddr a0), (2, .int t7.1), (3, .int t8)], [], am_SH, (t7.2, g))) rfl ?_
        exact am_Ev.weak' (hI2 (t7.1, t8, t7.2) (Option.some.inj h).symm) (am_sub_cons rfl (am_sub_cons rfl (am_sub_cons rfl (am_sub_cons rfl am_sub_nil)))) rfl
      have hLt7 : ∀ tt, tt = t7 → am_Ev sc (d + 3) 110 (34, [(0, .ref 123), (1, .retAddr a0), (2, .int tt.1), (3, .int s2.2.1)], [], am_SH, (tt.2, g)) (none, am_SH, (r, g)) := fun tt htt => by subst htt; exact hKt7
      have h := ht7
      refine am_Ev.go hcd 2 (s' := (22, [(0, .ref 123), (1, .retAddr a0), (2, .int s2.1), (3, .int s2.2.1), (4, .int t3)], [.int 32, .int t3], am_SH, (s2.2.2, g))) rfl ?_
      rcases am_ite h with ⟨c49, h⟩ | ⟨c49, h⟩
      · refine am_Ev.t hcd (c := t3 = 32) (s1 := (26, [(0, .ref 123), (1, .retAddr a0), (2, .int s2.1), (3, .int s2.2.1), (4, .int t3)], [], am_SH, (s2.2.2, g))) rfl c49 ?_
        obtain ⟨t4, Et4, h⟩ := am_let_eq h
        refine am_Ev.go hcd 1 (s' := (27, [(0, .ref 123), (1, .retAddr a0), (2, .int t4), (3, .int s2.2.1), (4, .int t3)], [], am_SH, (s2.2.2, g))) (by subst Et4; exact rfl) ?_
        refine am_Ev.go hcd 1 (s' := (34, [(0, .ref 123), (1, .retAddr a0), (2, .int t4), (3, .int s2.2.1), (4, .int t3)], [], am_SH, (s2.2.2, g))) rfl ?_
        exact am_Ev.weak' (hLt7 (t4, s2.2.2) (Option.some.inj h)) (am_sub_cons rfl (am_sub_cons rfl (am_sub_cons rfl (am_sub_cons rfl am_sub_nil)))) rfl
      · refine am_Ev.f hcd (c := t3 = 32) (s1 := (23, [(0, .ref 123), (1, .retAddr a0), (2, .int s2.1), (3, .int s2.2.1), (4, .int t3)], [], am_SH, (s2.2.2, g))) rfl c49 ?_
        refine am_Ev.go hcd 2 (s' := (25, [(0, .ref 123), (1, .retAddr a0), (2, .int s2.1), (3, .int s2.2.1), (4, .int t3)], [.int 10, .int t3], am_SH, (s2.2.2, g))) rfl ?_
        rcases am_ite h with ⟨c57, h⟩ | ⟨c57, h⟩
        · refine am_Ev.t hcd (c := t3 = 10) (s1 := (26, [(0, .ref 123), (1, .retAddr a0), (2, .int s2.1), (3, .int s2.2.1), (4, .int t3)], [], am_SH, (s2.2.2, g))) rfl c57 ?_
          obtain ⟨t5, Et5, h⟩ := am_let_eq h
          refine am_Ev.go hcd 1 (s' := (27, [(0, .ref 123), (1, .retAddr a0), (2, .int t5), (3, .int s2.2.1), (4, .int t3)], [], am_SH, (s2.2.2, g))) (by subst Et5; exact rfl) ?_
          refine am_Ev.go hcd 1 (s' := (34, [(0, .ref 123), (1, .retAddr a0), (2, .int t5), (3, .int s2.2.1), (4, .int t3)], [], am_SH, (s2.2.2, g))) rfl ?_
          exact am_Ev.weak' (hLt7 (t5, s2.2.2) (Option.some.inj h)) (am_sub_cons rfl (am_sub_cons rfl (am_sub_cons rfl (am_sub_cons rfl am_sub_nil)))) rfl
        · refine am_Ev.f hcd (c := t3 = 10) (s1 := (28, [(0, .ref 123), (1, .retAddr a0), (2, .int s2.1), (3, .int s2.2.1), (4, .int t3)], [], am_SH, (s2.2.2, g))) rfl c57 ?_
          refine am_Ev.go hcd 4 (s' := (32, [(0, .ref 123), (1, .retAddr a0), (2, .int s2.1), (3, .int s2.2.1), (4, .int t3)], [.retAddr a0, .int t3, .int s2.1, .ref 123], am_SH, (s2.2.2, g))) rfl ?_
          obtain ⟨p6, hp6, h⟩ := am_bind_some h
          refine am_Ev.call hcd (a := 114) (s0 := (0, [(0, .ref 123), (1, .int s2.1), (2, .int t3), (3, .retAddr a0)], [], am_SH, (s2.2.2, g))) (q := ((some (.int p6.1)), am_SH, (p6.2, g))) (s1 := (33, [(0, .ref 123), (1, .retAddr a0), (2, .int s2.1), (3, .int s2.2.1), (4, .int t3)], [.int p6.1], am_SH, (p6.2, g))) rfl rfl (xt_addToken_ok (d) s2.1 t3 a0 s2.2.2 g p6 hp6) ?_
          refine am_Ev.go hcd 1 (s' := (34, [(0, .ref 123), (1, .retAddr a0), (2, .int p6.1), (3, .int s2.2.1), (4, .int t3)], [], am_SH, (p6.2, g))) rfl ?_
          exact am_Ev.weak' (hLt7 (p6.1, p6.2) (Option.some.inj h)) (am_sub_cons rfl (am_sub_cons rfl (am_sub_cons rfl (am_sub_cons rfl am_sub_nil)))) rfl
    · refine am_Ev.f hcd (c := s2.1 < s2.2.2 123 0) (s1 := (36, [(0, .ref 123), (1, .retAddr a0), (2, .int s2.1), (3, .int s2.2.1)], [], am_SH, (s2.2.2, g))) rfl c32 ?_
      exact am_Ev.weak' (hZ2 s2.2.2 (Option.some.inj h).symm) (am_sub_cons rfl am_sub_nil) rfl
  · refine am_Ev.f hcd (c := s2.2.1 < s2.2.2 123 0) (s1 := (36, [(0, .ref 123), (1, .retAddr a0), (2, .int s2.1), (3, .int s2.2.1)], [], am_SH, (s2.2.2, g))) rfl c29 ?_
    exact am_Ev.weak' (hZ2 s2.2.2 (Option.some.inj h).symm) (am_sub_cons rfl am_sub_nil) rfl
set_option maxRecDepth 100000 in
set_option maxHeartbeats 4000000 in
theorem xs_refuse_ok {sc : Nat × (Nat → Int32)} (d : Nat) (a0 : Int32) (f g : (Nat → Nat → Int32)) : am_Ev sc (d) 92 (0, [(0, .ref 128), (1, .int a0)], [], am_SH, (f, g)) ((some (.int (am_b (xs_refuse a0 f).1))), am_SH, ((xs_refuse a0 f).2, g)) := by
  have hcd : am_code 92 = am_c92 := rfl
  obtain ⟨r, h⟩ : ∃ r, r = xs_refuse a0 f := ⟨_, rfl⟩
  rw [← h]
  unfold xs_refuse at h
  obtain ⟨f1, Ef1, h⟩ := am_let_eq' h
  refine am_Ev.go hcd 3 (s' := (3, [(0, .ref 128), (1, .int a0)], [], am_SH, (f1, g))) (by subst Ef1; exact rfl) ?_
  obtain ⟨f2, Ef2, h⟩ := am_let_eq' h
  refine am_Ev.go hcd 5 (s' := (8, [(0, .ref 128), (1, .int a0)], [], am_SH, (f2, g))) (by subst Ef2; exact rfl) ?_
  refine am_Ev.go hcd 1 (s' := (9, [(0, .ref 128), (1, .int a0)], [.int 0], am_SH, (f2, g))) rfl ?_
  exact am_Ev.cast (a := ((some (.int (am_b (false, f2).1))), am_SH, ((false, f2).2, g))) (by subst h; rfl) (am_Ev.ret hcd rfl)
set_option maxRecDepth 100000 in
set_option maxHeartbeats 4000000 in
theorem xs_takeHead_ok {sc : Nat × (Nat → Int32)} (d : Nat) (a0 : Int32) (a1 : Int32) (f g : (Nat → Nat → Int32)) (r : Bool × (Nat → Nat → Int32)) (h : xs_takeHead a0 a1 f = some r) : am_Ev sc (d + 1) 93 (0, [(0, .ref 128), (1, .int a0), (2, .int a1)], [], am_SH, (f, g)) ((some (.int (am_b r.1))), am_SH, (r.2, g)) := by
  have hcd : am_code 93 = am_c93 := rfl
  unfold xs_takeHead at h
  refine am_Ev.go hcd 4 (s' := (4, [(0, .ref 128), (1, .int a0), (2, .int a1)], [.int 1, .int (f 123 1)], am_SH, (f, g))) rfl ?_
  rcases am_ite h with ⟨c2, h⟩ | ⟨c2, h⟩
  · refine am_Ev.t hcd (c := f 123 1 = 1) (s1 := (5, [(0, .ref 128), (1, .int a0), (2, .int a1)], [], am_SH, (f, g))) rfl c2 ?_
    obtain ⟨t1, ht1, kt1⟩ := am_let_eq h
    have hKt1 : am_Ev sc (d + 1) 93 (13, [(0, .ref 128), (2, .int a1)], [.int t1, .int (f 123 2)], am_SH, (f, g)) ((some (.int (am_b r.1))), am_SH, (r.2, g)) := by
      have h := kt1
      rcases am_ite h with ⟨c8, h⟩ | ⟨c8, h⟩
      · refine am_Ev.t hcd (c := t1 < f 123 2) (s1 := (14, [(0, .ref 128), (2, .int a1)], [], am_SH, (f, g))) rfl c8 ?_
        refine am_Ev.go hcd 2 (s' := (16, [(0, .ref 128), (2, .int a1)], [.int 1, .ref 128], am_SH, (f, g))) rfl ?_
        obtain ⟨p2, Ep2, h⟩ := am_let_eq h
        refine am_Ev.call hcd (a := 92) (s0 := (0, [(0, .ref 128), (1, .int 1)], [], am_SH, (f, g))) (q := ((some (.int (am_b p2.1))), am_SH, (p2.2, g))) (s1 := (17, [(0, .ref 128), (2, .int a1)], [.int (am_b p2.1)], am_SH, (p2.2, g))) rfl rfl (by subst Ep2; exact xs_refuse_ok (d) 1 f g) ?_
        exact am_Ev.cast (a := ((some (.int (am_b (p2.1, p2.2).1))), am_SH, ((p2.1, p2.2).2, g))) (by cases h; rfl) (am_Ev.retb hcd rfl)
      · refine am_Ev.f hcd (c := t1 < f 123 2) (s1 := (18, [(0, .ref 128), (2, .int a1)], [], am_SH, (f, g))) rfl c8 ?_
        refine am_Ev.go hcd 2 (s' := (20, [(0, .ref 128), (2, .int a1)], [.int 16, .int a1], am_SH, (f, g))) rfl ?_
        rcases am_ite h with ⟨c15, h⟩ | ⟨c15, h⟩
        · refine am_Ev.t hcd (c := a1 < 16) (s1 := (25, [(0, .ref 128), (2, .int a1)], [], am_SH, (f, g))) rfl c15 ?_
          refine am_Ev.go hcd 2 (s' := (27, [(0, .ref 128), (2, .int a1)], [.ref 123], am_SH, (f, g))) rfl ?_
          obtain ⟨p3, hp3, h⟩ := am_bind_some h
          refine am_Ev.call hcd (a := 111) (s0 := (0, [(0, .ref 123)], [], am_SH, (f, g))) (q := (none, am_SH, (p3, g))) (s1 := (28, [(0, .ref 128), (2, .int a1)], [], am_SH, (p3, g))) rfl rfl (xt_advance_ok (d)  f g p3 hp3) ?_
          refine am_Ev.go hcd 1 (s' := (29, [(0, .ref 128), (2, .int a1)], [.int 1], am_SH, (p3, g))) rfl ?_
          exact am_Ev.cast (a := ((some (.int (am_b (true, p3).1))), am_SH, ((true, p3).2, g))) (by cases h; rfl) (am_Ev.ret hcd rfl)
        · refine am_Ev.f hcd (c := a1 < 16) (s1 := (21, [(0, .ref 128), (2, .int a1)], [], am_SH, (f, g))) rfl c15 ?_
          refine am_Ev.go hcd 2 (s' := (23, [(0, .ref 128), (2, .int a1)], [.int 3, .ref 128], am_SH, (f, g))) rfl ?_
          obtain ⟨p4, Ep4, h⟩ := am_let_eq h
          refine am_Ev.call hcd (a := 92) (s0 := (0, [(0, .ref 128), (1, .int 3)], [], am_SH, (f, g))) (q := ((some (.int (am_b p4.1))), am_SH, (p4.2, g))) (s1 := (24, [(0, .ref 128), (2, .int a1)], [.int (am_b p4.1)], am_SH, (p4.2, g))) rfl rfl (by subst Ep4; exact xs_refuse_ok (d) 3 f g) ?_
          exact am_Ev.cast (a := ((some (.int (am_b (p4.1, p4.2).1))), am_SH, ((p4.1, p4.2).2, g))) (by cases h; rfl) (am_Ev.retb hcd rfl)
    have hLt1 : ∀ tt, tt = t1 → am_Ev sc (d + 1) 93 (13, [(0, .ref 128), (2, .int a1)], [.int tt, .int (f 123 2)], am_SH, (f, g)) ((some (.int (am_b r.1))), am_SH, (r.2, g)) := fun tt htt => by subst htt; exact hKt1
    have h := ht1
    refine am_Ev.go hcd 4 (s' := (9, [(0, .ref 128), (1, .int a0), (2, .int a1)], [.int a0, .int (f 123 2)], am_SH, (f, g))) rfl ?_
    rcases am_itv h with ⟨c30, h⟩ | ⟨c30, h⟩
    · refine am_Ev.t hcd (c := a0 = 0) (s1 := (10, [(0, .ref 128), (1, .int a0), (2, .int a1)], [.int (f 123 2)], am_SH, (f, g))) rfl c30 ?_
      refine am_Ev.go hcd 2 (s' := (13, [(0, .ref 128), (1, .int a0), (2, .int a1)], [.int 2, .int (f 123 2)], am_SH, (f, g))) rfl ?_
      exact am_Ev.weak' (hLt1 2 h.symm) (am_sub_cons rfl (am_sub_cons rfl am_sub_nil)) rfl
    · refine am_Ev.f hcd (c := a0 = 0) (s1 := (12, [(0, .ref 128), (1, .int a0), (2, .int a1)], [.int (f 123 2)], am_SH, (f, g))) rfl c30 ?_
      refine am_Ev.go hcd 1 (s' := (13, [(0, .ref 128), (1, .int a0), (2, .int a1)], [.int 0, .int (f 123 2)], am_SH, (f, g))) rfl ?_
      exact am_Ev.weak' (hLt1 0 h.symm) (am_sub_cons rfl (am_sub_cons rfl am_sub_nil)) rfl
  · refine am_Ev.f hcd (c := f 123 1 = 1) (s1 := (14, [(0, .ref 128), (1, .int a0), (2, .int a1)], [], am_SH, (f, g))) rfl c2 ?_
    refine am_Ev.go hcd 2 (s' := (16, [(0, .ref 128), (1, .int a0), (2, .int a1)], [.int 1, .ref 128], am_SH, (f, g))) rfl ?_
    obtain ⟨p5, Ep5, h⟩ := am_let_eq h
    refine am_Ev.call hcd (a := 92) (s0 := (0, [(0, .ref 128), (1, .int 1)], [], am_SH, (f, g))) (q := ((some (.int (am_b p5.1))), am_SH, (p5.2, g))) (s1 := (17, [(0, .ref 128), (1, .int a0), (2, .int a1)], [.int (am_b p5.1)], am_SH, (p5.2, g))) rfl rfl (by subst Ep5; exact xs_refuse_ok (d) 1 f g) ?_
    exact am_Ev.cast (a := ((some (.int (am_b (p5.1, p5.2).1))), am_SH, ((p5.1, p5.2).2, g))) (by cases h; rfl) (am_Ev.retb hcd rfl)
set_option maxRecDepth 100000 in
set_option maxHeartbeats 4000000 in
theorem xl_emit_129_ok {sc : Nat × (Nat → Int32)} (d : Nat) (a0 : Int32) (f g : (Nat → Nat → Int32)) (r : (Nat → Nat → Int32)) (h : xl_emit_129 a0 f = some r) : am_Ev sc (d) 32 (0, [(0, .ref 129), (1, .int a0)], [], am_SH, (f, g)) (none, am_SH, (r, g)) := by
  have hcd : am_code 32 = am_c32 := rfl
  unfold xl_emit_129 at h
  refine am_Ev.go hcd 5 (s' := (5, [(0, .ref 129), (1, .int a0)], [.int (nI 400), .int (f 129 1)], am_SH, (f, g))) rfl ?_
  rcases am_ite h with ⟨c2, h⟩ | ⟨c2, h⟩
  · refine am_Ev.t hcd (c := f 129 1 < (nI 400)) (s1 := (6, [(0, .ref 129), (1, .int a0)], [], am_SH, (f, g))) rfl c2 ?_
    refine am_Ev.go hcd 5 (s' := (11, [(0, .ref 129), (1, .int a0)], [.int a0, .int (f 129 1), .ref 130], am_SH, (f, g))) rfl ?_
    obtain ⟨c5, h⟩ := am_grd h
    obtain ⟨f1, Ef1, h⟩ := am_let_eq h
    refine am_Ev.t hcd (o := none) (c := am_in (f 129 1) 400 = true) (s1 := (12, [(0, .ref 129), (1, .int a0)], [], am_SH, (f1, g))) (by subst Ef1; exact rfl) c5 ?_
    obtain ⟨f2, Ef2, h⟩ := am_let_eq h
    refine am_Ev.go hcd 6 (s' := (18, [(0, .ref 129), (1, .int a0)], [], am_SH, (f2, g))) (by subst Ef2; exact rfl) ?_
    exact am_Ev.cast (a := (none, am_SH, (f2, g))) (by cases h; rfl) (am_Ev.ret hcd rfl)
  · refine am_Ev.f hcd (c := f 129 1 < (nI 400)) (s1 := (18, [(0, .ref 129), (1, .int a0)], [], am_SH, (f, g))) rfl c2 ?_
    exact am_Ev.cast (a := (none, am_SH, (f, g))) (by cases h; rfl) (am_Ev.ret hcd rfl)
set_option maxRecDepth 100000 in
set_option maxHeartbeats 4000000 in
theorem xs_readUnit_ok {sc : Nat × (Nat → Int32)} (d : Nat)  (f g : (Nat → Nat → Int32)) (r : Bool × (Nat → Nat → Int32)) (h : xs_readUnit  f = some r) : am_Ev sc (d + 1) 107 (0, [(0, .ref 128)], [], am_SH, (f, g)) ((some (.int (am_b r.1))), am_SH, (r.2, g)) := by
  have hcd : am_code 107 = am_c107 := rfl
  unfold xs_readUnit at h
  refine am_Ev.go hcd 4 (s' := (4, [(0, .ref 128)], [.int 2, .int (f 123 1)], am_SH, (f, g))) rfl ?_
  rcases am_ite h with ⟨c2, h⟩ | ⟨c2, h⟩
  · refine am_Ev.t hcd (c := f 123 1 = 2) (s1 := (5, [(0, .ref 128)], [], am_SH, (f, g))) rfl c2 ?_
    refine am_Ev.go hcd 5 (s' := (10, [(0, .ref 128)], [.int (f 123 2), .ref 129], am_SH, (f, g))) rfl ?_
    obtain ⟨p1, hp1, h⟩ := am_bind_some h
    refine am_Ev.call hcd (a := 32) (s0 := (0, [(0, .ref 129), (1, .int (f 123 2))], [], am_SH, (f, g))) (q := (none, am_SH, (p1, g))) (s1 := (11, [(0, .ref 128)], [], am_SH, (p1, g))) rfl rfl (xl_emit_129_ok (d) (f 123 2) f g p1 hp1) ?_
    refine am_Ev.go hcd 3 (s' := (37, [(0, .ref 128)], [.ref 123], am_SH, (p1, g))) rfl ?_
    obtain ⟨p2, hp2, h⟩ := am_bind_some h
    refine am_Ev.call hcd (a := 111) (s0 := (0, [(0, .ref 123)], [], am_SH, (p1, g))) (q := (none, am_SH, (p2, g))) (s1 := (38, [(0, .ref 128)], [], am_SH, (p2, g))) rfl rfl (xt_advance_ok (d)  p1 g p2 hp2) ?_
    refine am_Ev.go hcd 1 (s' := (39, [(0, .ref 128)], [.int 1], am_SH, (p2, g))) rfl ?_
    exact am_Ev.cast (a := ((some (.int (am_b (true, p2).1))), am_SH, ((true, p2).2, g))) (by cases h; rfl) (am_Ev.ret hcd rfl)
  · refine am_Ev.f hcd (c := f 123 1 = 2) (s1 := (12, [(0, .ref 128)], [], am_SH, (f, g))) rfl c2 ?_
    refine am_Ev.go hcd 4 (s' := (16, [(0, .ref 128)], [.int 1, .int (f 123 1)], am_SH, (f, g))) rfl ?_
    rcases am_ite h with ⟨c14, h⟩ | ⟨c14, h⟩
    · refine am_Ev.t hcd (c := f 123 1 = 1) (s1 := (17, [(0, .ref 128)], [], am_SH, (f, g))) rfl c14 ?_
      refine am_Ev.go hcd 4 (s' := (21, [(0, .ref 128)], [.int 7, .int (f 123 2)], am_SH, (f, g))) rfl ?_
      rcases am_ite h with ⟨c17, h⟩ | ⟨c17, h⟩
      · refine am_Ev.t hcd (c := f 123 2 < 7) (s1 := (31, [(0, .ref 128)], [], am_SH, (f, g))) rfl c17 ?_
        refine am_Ev.go hcd 2 (s' := (33, [(0, .ref 128)], [.int 1, .ref 128], am_SH, (f, g))) rfl ?_
        obtain ⟨p3, Ep3, h⟩ := am_let_eq h
        refine am_Ev.call hcd (a := 92) (s0 := (0, [(0, .ref 128), (1, .int 1)], [], am_SH, (f, g))) (q := ((some (.int (am_b p3.1))), am_SH, (p3.2, g))) (s1 := (34, [(0, .ref 128)], [.int (am_b p3.1)], am_SH, (p3.2, g))) rfl rfl (by subst Ep3; exact xs_refuse_ok (d) 1 f g) ?_
        exact am_Ev.cast (a := ((some (.int (am_b (p3.1, p3.2).1))), am_SH, ((p3.1, p3.2).2, g))) (by cases h; rfl) (am_Ev.retb hcd rfl)
      · refine am_Ev.f hcd (c := f 123 2 < 7) (s1 := (22, [(0, .ref 128)], [], am_SH, (f, g))) rfl c17 ?_
        refine am_Ev.go hcd 7 (s' := (29, [(0, .ref 128)], [.int (10000 + (f 123 2)), .ref 129], am_SH, (f, g))) rfl ?_
        obtain ⟨p4, hp4, h⟩ := am_bind_some h
        refine am_Ev.call hcd (a := 32) (s0 := (0, [(0, .ref 129), (1, .int (10000 + (f 123 2)))], [], am_SH, (f, g))) (q := (none, am_SH, (p4, g))) (s1 := (30, [(0, .ref 128)], [], am_SH, (p4, g))) rfl rfl (xl_emit_129_ok (d) (10000 + (f 123 2)) f g p4 hp4) ?_
        refine am_Ev.go hcd 3 (s' := (37, [(0, .ref 128)], [.ref 123], am_SH, (p4, g))) rfl ?_
        obtain ⟨p5, hp5, h⟩ := am_bind_some h
        refine am_Ev.call hcd (a := 111) (s0 := (0, [(0, .ref 123)], [], am_SH, (p4, g))) (q := (none, am_SH, (p5, g))) (s1 := (38, [(0, .ref 128)], [], am_SH, (p5, g))) rfl rfl (xt_advance_ok (d)  p4 g p5 hp5) ?_
        refine am_Ev.go hcd 1 (s' := (39, [(0, .ref 128)], [.int 1], am_SH, (p5, g))) rfl ?_
        exact am_Ev.cast (a := ((some (.int (am_b (true, p5).1))), am_SH, ((true, p5).2, g))) (by cases h; rfl) (am_Ev.ret hcd rfl)
    · refine am_Ev.f hcd (c := f 123 1 = 1) (s1 := (31, [(0, .ref 128)], [], am_SH, (f, g))) rfl c14 ?_
      refine am_Ev.go hcd 2 (s' := (33, [(0, .ref 128)], [.int 1, .ref 128], am_SH, (f, g))) rfl ?_
      obtain ⟨p6, Ep6, h⟩ := am_let_eq h
      refine am_Ev.call hcd (a := 92) (s0 := (0, [(0, .ref 128), (1, .int 1)], [], am_SH, (f, g))) (q := ((some (.int (am_b p6.1))), am_SH, (p6.2, g))) (s1 := (34, [(0, .ref 128)], [.int (am_b p6.1)], am_SH, (p6.2, g))) rfl rfl (by subst Ep6; exact xs_refuse_ok (d) 1 f g) ?_
      exact am_Ev.cast (a := ((some (.int (am_b (p6.1, p6.2).1))), am_SH, ((p6.1, p6.2).2, g))) (by cases h; rfl) (am_Ev.retb hcd rfl)
set_option maxRecDepth 100000 in
set_option maxHeartbeats 4000000 in
theorem xt_isSign_ok {sc : Nat × (Nat → Int32)} (d : Nat) (a0 : Int32) (f g : (Nat → Nat → Int32)) : am_Ev sc (d) 113 (0, [(0, .ref 123), (1, .int a0)], [], am_SH, (f, g)) ((some (.int (am_b (xt_isSign a0 f)))), am_SH, (f, g)) := by
  have hcd : am_code 113 = am_c113 := rfl
  obtain ⟨r, h⟩ : ∃ r, r = xt_isSign a0 f := ⟨_, rfl⟩
  rw [← h]
  unfold xt_isSign at h
  refine am_Ev.go hcd 3 (s' := (3, [(0, .ref 123), (1, .int a0)], [.int 3, .int (f 123 1)], am_SH, (f, g))) rfl ?_
  rcases am_itv h with ⟨c4, h⟩ | ⟨c4, h⟩
  · refine am_Ev.t hcd (c := f 123 1 = 3) (s1 := (4, [(0, .ref 123), (1, .int a0)], [], am_SH, (f, g))) rfl c4 ?_
    refine am_Ev.go hcd 3 (s' := (7, [(0, .ref 123), (1, .int a0)], [.int a0, .int (f 123 2)], am_SH, (f, g))) rfl ?_
    rcases am_itv h with ⟨c7, h⟩ | ⟨c7, h⟩
    · refine am_Ev.t hcd (c := f 123 2 = a0) (s1 := (8, [(0, .ref 123), (1, .int a0)], [], am_SH, (f, g))) rfl c7 ?_
      refine am_Ev.go hcd 2 (s' := (11, [(0, .ref 123), (1, .int a0)], [.int 1], am_SH, (f, g))) rfl ?_
      exact am_Ev.cast (a := ((some (.int (am_b true))), am_SH, (f, g))) (by subst h; rfl) (am_Ev.ret hcd rfl)
    · refine am_Ev.f hcd (c := f 123 2 = a0) (s1 := (10, [(0, .ref 123), (1, .int a0)], [], am_SH, (f, g))) rfl c7 ?_
      refine am_Ev.go hcd 1 (s' := (11, [(0, .ref 123), (1, .int a0)], [.int 0], am_SH, (f, g))) rfl ?_
      exact am_Ev.cast (a := ((some (.int (am_b false))), am_SH, (f, g))) (by subst h; rfl) (am_Ev.ret hcd rfl)
  · refine am_Ev.f hcd (c := f 123 1 = 3) (s1 := (10, [(0, .ref 123), (1, .int a0)], [], am_SH, (f, g))) rfl c4 ?_
    refine am_Ev.go hcd 1 (s' := (11, [(0, .ref 123), (1, .int a0)], [.int 0], am_SH, (f, g))) rfl ?_
    exact am_Ev.cast (a := ((some (.int (am_b false))), am_SH, (f, g))) (by subst h; rfl) (am_Ev.ret hcd rfl)
set_option maxRecDepth 100000 in
set_option maxHeartbeats 4000000 in
theorem xs_isJoin_ok {sc : Nat × (Nat → Int32)} (d : Nat)  (f g : (Nat → Nat → Int32)) : am_Ev sc (d + 1) 106 (0, [(0, .ref 128)], [], am_SH, (f, g)) ((some (.int (am_b (xs_isJoin  f)))), am_SH, (f, g)) := by
  have hcd : am_code 106 = am_c106 := rfl
  obtain ⟨r, h⟩ : ∃ r, r = xs_isJoin  f := ⟨_, rfl⟩
  rw [← h]
  unfold xs_isJoin at h
  refine am_Ev.go hcd 3 (s' := (3, [(0, .ref 128)], [.int 43, .ref 123], am_SH, (f, g))) rfl ?_
  refine am_Ev.call hcd (a := 113) (s0 := (0, [(0, .ref 123), (1, .int 43)], [], am_SH, (f, g))) (q := ((some (.int (am_b (xt_isSign 43 f)))), am_SH, (f, g))) (s1 := (4, [(0, .ref 128)], [.int (am_b (xt_isSign 43 f))], am_SH, (f, g))) rfl rfl (xt_isSign_ok (d) 43 f g) ?_
  rcases am_itv h with ⟨c6, h⟩ | ⟨c6, h⟩
  · refine am_Ev.f hcd (c := am_b (xt_isSign 43 f) = 0) (s1 := (20, [(0, .ref 128)], [], am_SH, (f, g))) rfl (am_b_t c6) ?_
    refine am_Ev.go hcd 2 (s' := (23, [(0, .ref 128)], [.int 1], am_SH, (f, g))) rfl ?_
    exact am_Ev.cast (a := ((some (.int (am_b true))), am_SH, (f, g))) (by subst h; rfl) (am_Ev.ret hcd rfl)
  · refine am_Ev.t hcd (c := am_b (xt_isSign 43 f) = 0) (s1 := (5, [(0, .ref 128)], [], am_SH, (f, g))) rfl (am_b_f c6) ?_
    refine am_Ev.go hcd 3 (s' := (8, [(0, .ref 128)], [.int 45, .ref 123], am_SH, (f, g))) rfl ?_
    refine am_Ev.call hcd (a := 113) (s0 := (0, [(0, .ref 123), (1, .int 45)], [], am_SH, (f, g))) (q := ((some (.int (am_b (xt_isSign 45 f)))), am_SH, (f, g))) (s1 := (9, [(0, .ref 128)], [.int (am_b (xt_isSign 45 f))], am_SH, (f, g))) rfl rfl (xt_isSign_ok (d) 45 f g) ?_
    rcases am_itv h with ⟨c13, h⟩ | ⟨c13, h⟩
    · refine am_Ev.f hcd (c := am_b (xt_isSign 45 f) = 0) (s1 := (20, [(0, .ref 128)], [], am_SH, (f, g))) rfl (am_b_t c13) ?_
      refine am_Ev.go hcd 2 (s' := (23, [(0, .ref 128)], [.int 1], am_SH, (f, g))) rfl ?_
      exact am_Ev.cast (a := ((some (.int (am_b true))), am_SH, (f, g))) (by subst h; rfl) (am_Ev.ret hcd rfl)
    · refine am_Ev.t hcd (c := am_b (xt_isSign 45 f) = 0) (s1 := (10, [(0, .ref 128)], [], am_SH, (f, g))) rfl (am_b_f c13) ?_
      refine am_Ev.go hcd 3 (s' := (13, [(0, .ref 128)], [.int 42, .ref 123], am_SH, (f, g))) rfl ?_
      refine am_Ev.call hcd (a := 113) (s0 := (0, [(0, .ref 123), (1, .int 42)], [], am_SH, (f, g))) (q := ((some (.int (am_b (xt_isSign 42 f)))), am_SH, (f, g))) (s1 := (14, [(0, .ref 128)], [.int (am_b (xt_isSign 42 f))], am_SH, (f, g))) rfl rfl (xt_isSign_ok (d) 42 f g) ?_
      rcases am_itv h with ⟨c20, h⟩ | ⟨c20, h⟩
      · refine am_Ev.f hcd (c := am_b (xt_isSign 42 f) = 0) (s1 := (20, [(0, .ref 128)], [], am_SH, (f, g))) rfl (am_b_t c20) ?_
        refine am_Ev.go hcd 2 (s' := (23, [(0, .ref 128)], [.int 1], am_SH, (f, g))) rfl ?_
        exact am_Ev.cast (a := ((some (.int (am_b true))), am_SH, (f, g))) (by subst h; rfl) (am_Ev.ret hcd rfl)
      · refine am_Ev.t hcd (c := am_b (xt_isSign 42 f) = 0) (s1 := (15, [(0, .ref 128)], [], am_SH, (f, g))) rfl (am_b_f c20) ?_
        refine am_Ev.go hcd 3 (s' := (18, [(0, .ref 128)], [.int 47, .ref 123], am_SH, (f, g))) rfl ?_
        refine am_Ev.call hcd (a := 113) (s0 := (0, [(0, .ref 123), (1, .int 47)], [], am_SH, (f, g))) (q := ((some (.int (am_b (xt_isSign 47 f)))), am_SH, (f, g))) (s1 := (19, [(0, .ref 128)], [.int (am_b (xt_isSign 47 f))], am_SH, (f, g))) rfl rfl (xt_isSign_ok (d) 47 f g) ?_
        rcases am_itv h with ⟨c27, h⟩ | ⟨c27, h⟩
        · refine am_Ev.f hcd (c := am_b (xt_isSign 47 f) = 0) (s1 := (20, [(0, .ref 128)], [], am_SH, (f, g))) rfl (am_b_t c27) ?_
          refine am_Ev.go hcd 2 (s' := (23, [(0, .ref 128)], [.int 1], am_SH, (f, g))) rfl ?_
          exact am_Ev.cast (a := ((some (.int (am_b true))), am_SH, (f, g))) (by subst h; rfl) (am_Ev.ret hcd rfl)
        · refine am_Ev.t hcd (c := am_b (xt_isSign 47 f) = 0) (s1 := (22, [(0, .ref 128)], [], am_SH, (f, g))) rfl (am_b_f c27) ?_
          refine am_Ev.go hcd 1 (s' := (23, [(0, .ref 128)], [.int 0], am_SH, (f, g))) rfl ?_
          exact am_Ev.cast (a := ((some (.int (am_b false))), am_SH, (f, g))) (by subst h; rfl) (am_Ev.ret hcd rfl)
set_option maxRecDepth 100000 in
set_option maxHeartbeats 4000000 in
theorem xs_takeNumber_ok {sc : Nat × (Nat → Int32)} (d : Nat) (a0 : Int32) (a1 : Int32) (f g : (Nat → Nat → Int32)) (r : Bool × (Nat → Nat → Int32)) (h : xs_takeNumber a0 a1 f = some r) : am_Ev sc (d + 1) 96 (0, [(0, .ref 128), (1, .int a0), (2, .int a1)], [], am_SH, (f, g)) ((some (.int (am_b r.1))), am_SH, (r.2, g)) := by
  have hcd : am_code 96 = am_c96 := rfl
  unfold xs_takeNumber at h
  refine am_Ev.go hcd 4 (s' := (4, [(0, .ref 128), (1, .int a0), (2, .int a1)], [.int 2, .int (f 123 1)], am_SH, (f, g))) rfl ?_
  rcases am_ite h with ⟨c2, h⟩ | ⟨c2, h⟩
  · refine am_Ev.t hcd (c := f 123 1 = 2) (s1 := (9, [(0, .ref 128), (1, .int a0), (2, .int a1)], [], am_SH, (f, g))) rfl c2 ?_
    refine am_Ev.go hcd 4 (s' := (13, [(0, .ref 128), (1, .int a0), (2, .int a1)], [.int a0, .int (f 123 2)], am_SH, (f, g))) rfl ?_
    rcases am_ite h with ⟨c5, h⟩ | ⟨c5, h⟩
    · refine am_Ev.t hcd (c := f 123 2 < a0) (s1 := (19, [(0, .ref 128), (1, .int a0), (2, .int a1)], [], am_SH, (f, g))) rfl c5 ?_
      refine am_Ev.go hcd 2 (s' := (21, [(0, .ref 128), (1, .int a0), (2, .int a1)], [.int 2, .ref 128], am_SH, (f, g))) rfl ?_
      obtain ⟨p1, Ep1, h⟩ := am_let_eq h
      refine am_Ev.call hcd (a := 92) (s0 := (0, [(0, .ref 128), (1, .int 2)], [], am_SH, (f, g))) (q := ((some (.int (am_b p1.1))), am_SH, (p1.2, g))) (s1 := (22, [(0, .ref 128), (1, .int a0), (2, .int a1)], [.int (am_b p1.1)], am_SH, (p1.2, g))) rfl rfl (by subst Ep1; exact xs_refuse_ok (d) 2 f g) ?_
      exact am_Ev.cast (a := ((some (.int (am_b (p1.1, p1.2).1))), am_SH, ((p1.1, p1.2).2, g))) (by cases h; rfl) (am_Ev.retb hcd rfl)
    · refine am_Ev.f hcd (c := f 123 2 < a0) (s1 := (14, [(0, .ref 128), (1, .int a0), (2, .int a1)], [], am_SH, (f, g))) rfl c5 ?_
      refine am_Ev.go hcd 4 (s' := (18, [(0, .ref 128), (1, .int a0), (2, .int a1)], [.int a1, .int (f 123 2)], am_SH, (f, g))) rfl ?_
      rcases am_ite h with ⟨c13, h⟩ | ⟨c13, h⟩
      · refine am_Ev.t hcd (c := a1 < f 123 2) (s1 := (19, [(0, .ref 128), (1, .int a0), (2, .int a1)], [], am_SH, (f, g))) rfl c13 ?_
        refine am_Ev.go hcd 2 (s' := (21, [(0, .ref 128), (1, .int a0), (2, .int a1)], [.int 2, .ref 128], am_SH, (f, g))) rfl ?_
        obtain ⟨p2, Ep2, h⟩ := am_let_eq h
        refine am_Ev.call hcd (a := 92) (s0 := (0, [(0, .ref 128), (1, .int 2)], [], am_SH, (f, g))) (q := ((some (.int (am_b p2.1))), am_SH, (p2.2, g))) (s1 := (22, [(0, .ref 128), (1, .int a0), (2, .int a1)], [.int (am_b p2.1)], am_SH, (p2.2, g))) rfl rfl (by subst Ep2; exact xs_refuse_ok (d) 2 f g) ?_
        exact am_Ev.cast (a := ((some (.int (am_b (p2.1, p2.2).1))), am_SH, ((p2.1, p2.2).2, g))) (by cases h; rfl) (am_Ev.retb hcd rfl)
      · refine am_Ev.f hcd (c := a1 < f 123 2) (s1 := (23, [(0, .ref 128), (1, .int a0), (2, .int a1)], [], am_SH, (f, g))) rfl c13 ?_
        obtain ⟨f3, Ef3, h⟩ := am_let_eq h
        refine am_Ev.go hcd 5 (s' := (28, [(0, .ref 128), (1, .int a0), (2, .int a1)], [], am_SH, (f3, g))) (by subst Ef3; exact rfl) ?_
        refine am_Ev.go hcd 2 (s' := (30, [(0, .ref 128), (1, .int a0), (2, .int a1)], [.ref 123], am_SH, (f3, g))) rfl ?_
        obtain ⟨p4, hp4, h⟩ := am_bind_some h
        refine am_Ev.call hcd (a := 111) (s0 := (0, [(0, .ref 123)], [], am_SH, (f3, g))) (q := (none, am_SH, (p4, g))) (s1 := (31, [(0, .ref 128), (1, .int a0), (2, .int a1)], [], am_SH, (p4, g))) rfl rfl (xt_advance_ok (d)  f3 g p4 hp4) ?_
        refine am_Ev.go hcd 1 (s' := (32, [(0, .ref 128), (1, .int a0), (2, .int a1)], [.int 1], am_SH, (p4, g))) rfl ?_
        exact am_Ev.cast (a := ((some (.int (am_b (true, p4).1))), am_SH, ((true, p4).2, g))) (by cases h; rfl) (am_Ev.ret hcd rfl)
  · refine am_Ev.f hcd (c := f 123 1 = 2) (s1 := (5, [(0, .ref 128), (1, .int a0), (2, .int a1)], [], am_SH, (f, g))) rfl c2 ?_
    refine am_Ev.go hcd 2 (s' := (7, [(0, .ref 128), (1, .int a0), (2, .int a1)], [.int 1, .ref 128], am_SH, (f, g))) rfl ?_
    obtain ⟨p5, Ep5, h⟩ := am_let_eq h
    refine am_Ev.call hcd (a := 92) (s0 := (0, [(0, .ref 128), (1, .int 1)], [], am_SH, (f, g))) (q := ((some (.int (am_b p5.1))), am_SH, (p5.2, g))) (s1 := (8, [(0, .ref 128), (1, .int a0), (2, .int a1)], [.int (am_b p5.1)], am_SH, (p5.2, g))) rfl rfl (by subst Ep5; exact xs_refuse_ok (d) 1 f g) ?_
    exact am_Ev.cast (a := ((some (.int (am_b (p5.1, p5.2).1))), am_SH, ((p5.1, p5.2).2, g))) (by cases h; rfl) (am_Ev.retb hcd rfl)
