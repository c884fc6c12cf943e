set_option maxRecDepth 100000 in
set_option maxHeartbeats 4000000 in
theorem x_set_ok {sc : Nat × (Nat → Int32)} (d : Nat) (a0 : Int32) (a1 : Int32) (a2 : Int32) (f g : (Nat → Nat → Int32)) (r : Bool × (Nat → Nat → Int32)) (h : x_set a0 a1 a2 f = some r) : am_Ev sc (d + 1) 130 (0, [(0, .ref 0), (1, .int a0), (2, .int a1), (3, .int a2)], [], am_SH, (f, g)) ((some (.int (am_b r.1))), am_SH, (r.2, g)) := by
  have hcd : am_code 130 = am_c130 := rfl
  unfold x_set at h
  refine am_Ev.go hcd 5 (s' := (5, [(0, .ref 0), (1, .int a0), (2, .int a1), (3, .int a2), (4, .ref 2)], [.int a0], am_SH, (f, g))) rfl ?_
  rcases am_ite h with ⟨c2, h⟩ | ⟨c2, h⟩
  · refine am_Ev.t hcd (c := a0 = 0) (s1 := (6, [(0, .ref 0), (1, .int a0), (2, .int a1), (3, .int a2), (4, .ref 2)], [], am_SH, (f, g))) rfl c2 ?_
    refine am_Ev.go hcd 2 (s' := (8, [(0, .ref 0), (1, .int a0), (2, .int a1), (3, .int a2), (4, .ref 2)], [.int a1, .ref 2], am_SH, (f, g))) rfl ?_
    refine am_Ev.call hcd (a := 22) (s0 := (0, [(0, .ref 2), (1, .int a1)], [], am_SH, (f, g))) (q := ((some (.int (am_b (xc_hasGlass_2 a1 f)))), am_SH, (f, g))) (s1 := (9, [(0, .ref 0), (1, .int a0), (2, .int a1), (3, .int a2), (4, .ref 2)], [.int (am_b (xc_hasGlass_2 a1 f))], am_SH, (f, g))) rfl rfl (xc_hasGlass_2_ok (d) a1 f g) ?_
    rcases am_ite h with ⟨c7, h⟩ | ⟨c7, h⟩
    · refine am_Ev.f hcd (c := am_b (xc_hasGlass_2 a1 f) = 0) (s1 := (10, [(0, .ref 0), (1, .int a0), (2, .int a1), (3, .int a2), (4, .ref 2)], [], am_SH, (f, g))) rfl (am_b_t c7) ?_
      refine am_Ev.go hcd 3 (s' := (13, [(0, .ref 0), (1, .int a0), (2, .int a1), (3, .int a2), (4, .ref 2)], [.int 99, .int 0, .int a2], am_SH, (f, g))) rfl ?_
      refine am_Ev.call hcd (a := 170) (s0 := (0, [(0, .int a2), (1, .int 0), (2, .int 99)], [], am_SH, (f, g))) (q := ((some (.int (am_b (x_within a2 0 99)))), am_SH, (f, g))) (s1 := (14, [(0, .ref 0), (1, .int a0), (2, .int a1), (3, .int a2), (4, .ref 2)], [.int (am_b (x_within a2 0 99))], am_SH, (f, g))) rfl rfl (x_within_ok (d) a2 0 99 (f, g)) ?_
      rcases am_ite h with ⟨c11, h⟩ | ⟨c11, h⟩
      · refine am_Ev.f hcd (c := am_b (x_within a2 0 99) = 0) (s1 := (15, [(0, .ref 0), (1, .int a0), (2, .int a1), (3, .int a2), (4, .ref 2)], [], am_SH, (f, g))) rfl (am_b_t c11) ?_
        refine am_Ev.go hcd 4 (s' := (19, [(0, .ref 0), (1, .int a0), (2, .int a1), (3, .int a2), (4, .ref 2)], [.int a2, .int a1, .ref 3], am_SH, (f, g))) rfl ?_
        obtain ⟨c13, h⟩ := am_grd h
        obtain ⟨f3, Ef3, h⟩ := am_let_eq h
        refine am_Ev.t hcd (o := none) (c := am_in a1 6 = true) (s1 := (20, [(0, .ref 0), (1, .int a0), (2, .int a1), (3, .int a2), (4, .ref 2)], [], am_SH, (f3, g))) (by subst Ef3; exact rfl) c13 ?_
        refine am_Ev.go hcd 2 (s' := (60, [(0, .ref 0), (1, .int a0), (2, .int a1), (3, .int a2), (4, .ref 2)], [.ref 0], am_SH, (f3, g))) rfl ?_
        obtain ⟨p4, Ep4, h⟩ := am_let_eq h
        refine am_Ev.call hcd (a := 173) (s0 := (0, [(0, .ref 0)], [], am_SH, (f3, g))) (q := (none, am_SH, (p4, g))) (s1 := (61, [(0, .ref 0), (1, .int a0), (2, .int a1), (3, .int a2), (4, .ref 2)], [], am_SH, (p4, g))) rfl rfl (by subst Ep4; exact x_forgetPasts_ok (d)  f3 g) ?_
        refine am_Ev.go hcd 1 (s' := (62, [(0, .ref 0), (1, .int a0), (2, .int a1), (3, .int a2), (4, .ref 2)], [.int 1], am_SH, (p4, g))) rfl ?_
        exact am_Ev.cast (a := ((some (.int (am_b (true, p4).1))), am_SH, ((true, p4).2, g))) (by cases h; rfl) (am_Ev.ret hcd rfl)
      · refine am_Ev.t hcd (c := am_b (x_within a2 0 99) = 0) (s1 := (21, [(0, .ref 0), (1, .int a0), (2, .int a1), (3, .int a2), (4, .ref 2)], [], am_SH, (f, g))) rfl (am_b_f c11) ?_
        refine am_Ev.go hcd 2 (s' := (23, [(0, .ref 0), (1, .int a0), (2, .int a1), (3, .int a2), (4, .ref 2)], [.int 1, .int a0], am_SH, (f, g))) rfl ?_
        rcases am_ite h with ⟨c23, h⟩ | ⟨c23, h⟩
        · refine am_Ev.t hcd (c := a0 = 1) (s1 := (24, [(0, .ref 0), (1, .int a0), (2, .int a1), (3, .int a2), (4, .ref 2)], [], am_SH, (f, g))) rfl c23 ?_
          refine am_Ev.go hcd 2 (s' := (26, [(0, .ref 0), (1, .int a0), (2, .int a1), (3, .int a2), (4, .ref 2)], [.int a1, .ref 2], am_SH, (f, g))) rfl ?_
          refine am_Ev.call hcd (a := 22) (s0 := (0, [(0, .ref 2), (1, .int a1)], [], am_SH, (f, g))) (q := ((some (.int (am_b (xc_hasGlass_2 a1 f)))), am_SH, (f, g))) (s1 := (27, [(0, .ref 0), (1, .int a0), (2, .int a1), (3, .int a2), (4, .ref 2)], [.int (am_b (xc_hasGlass_2 a1 f))], am_SH, (f, g))) rfl rfl (xc_hasGlass_2_ok (d) a1 f g) ?_
          rcases am_ite h with ⟨c28, h⟩ | ⟨c28, h⟩
          · refine am_Ev.f hcd (c := am_b (xc_hasGlass_2 a1 f) = 0) (s1 := (28, [(0, .ref 0), (1, .int a0), (2, .int a1), (3, .int a2), (4, .ref 2)], [], am_SH, (f, g))) rfl (am_b_t c28) ?_
            refine am_Ev.go hcd 3 (s' := (31, [(0, .ref 0), (1, .int a0), (2, .int a1), (3, .int a2), (4, .ref 2)], [.int 420, .int 300, .int a2], am_SH, (f, g))) rfl ?_
            refine am_Ev.call hcd (a := 170) (s0 := (0, [(0, .int a2), (1, .int 300), (2, .int 420)], [], am_SH, (f, g))) (q := ((some (.int (am_b (x_within a2 300 420)))), am_SH, (f, g))) (s1 := (32, [(0, .ref 0), (1, .int a0), (2, .int a1), (3, .int a2), (4, .ref 2)], [.int (am_b (x_within a2 300 420))], am_SH, (f, g))) rfl rfl (x_within_ok (d) a2 300 420 (f, g)) ?_
            rcases am_ite h with ⟨c32, h⟩ | ⟨c32, h⟩
            · refine am_Ev.f hcd (c := am_b (x_within a2 300 420) = 0) (s1 := (33, [(0, .ref 0), (1, .int a0), (2, .int a1), (3, .int a2), (4, .ref 2)], [], am_SH, (f, g))) rfl (am_b_t c32) ?_
              refine am_Ev.go hcd 4 (s' := (37, [(0, .ref 0), (1, .int a0), (2, .int a1), (3, .int a2), (4, .ref 2)], [.int a2, .int a1, .ref 4], am_SH, (f, g))) rfl ?_
              obtain ⟨c34, h⟩ := am_grd h
              obtain ⟨f7, Ef7, h⟩ := am_let_eq h
              refine am_Ev.t hcd (o := none) (c := am_in a1 6 = true) (s1 := (38, [(0, .ref 0), (1, .int a0), (2, .int a1), (3, .int a2), (4, .ref 2)], [], am_SH, (f7, g))) (by subst Ef7; exact rfl) c34 ?_
              refine am_Ev.go hcd 2 (s' := (60, [(0, .ref 0), (1, .int a0), (2, .int a1), (3, .int a2), (4, .ref 2)], [.ref 0], am_SH, (f7, g))) rfl ?_
              obtain ⟨p8, Ep8, h⟩ := am_let_eq h
              refine am_Ev.call hcd (a := 173) (s0 := (0, [(0, .ref 0)], [], am_SH, (f7, g))) (q := (none, am_SH, (p8, g))) (s1 := (61, [(0, .ref 0), (1, .int a0), (2, .int a1), (3, .int a2), (4, .ref 2)], [], am_SH, (p8, g))) rfl rfl (by subst Ep8; exact x_forgetPasts_ok (d)  f7 g) ?_
              refine am_Ev.go hcd 1 (s' := (62, [(0, .ref 0), (1, .int a0), (2, .int a1), (3, .int a2), (4, .ref 2)], [.int 1], am_SH, (p8, g))) rfl ?_
              exact am_Ev.cast (a := ((some (.int (am_b (true, p8).1))), am_SH, ((true, p8).2, g))) (by cases h; rfl) (am_Ev.ret hcd rfl)
            · refine am_Ev.t hcd (c := am_b (x_within a2 300 420) = 0) (s1 := (39, [(0, .ref 0), (1, .int a0), (2, .int a1), (3, .int a2), (4, .ref 2)], [], am_SH, (f, g))) rfl (am_b_f c32) ?_
              refine am_Ev.go hcd 2 (s' := (41, [(0, .ref 0), (1, .int a0), (2, .int a1), (3, .int a2), (4, .ref 2)], [.int 2, .int a0], am_SH, (f, g))) rfl ?_
              rcases am_ite h with ⟨c44, h⟩ | ⟨c44, h⟩
              · refine am_Ev.t hcd (c := a0 = 2) (s1 := (42, [(0, .ref 0), (1, .int a0), (2, .int a1), (3, .int a2), (4, .ref 2)], [], am_SH, (f, g))) rfl c44 ?_
                refine am_Ev.go hcd 2 (s' := (44, [(0, .ref 0), (1, .int a0), (2, .int a1), (3, .int a2), (4, .ref 2)], [.int a1, .ref 2], am_SH, (f, g))) rfl ?_
                refine am_Ev.call hcd (a := 23) (s0 := (0, [(0, .ref 2), (1, .int a1)], [], am_SH, (f, g))) (q := ((some (.int (am_b (xc_hasWitness_2 a1 f)))), am_SH, (f, g))) (s1 := (45, [(0, .ref 0), (1, .int a0), (2, .int a1), (3, .int a2), (4, .ref 2)], [.int (am_b (xc_hasWitness_2 a1 f))], am_SH, (f, g))) rfl rfl (xc_hasWitness_2_ok (d) a1 f g) ?_
                rcases am_ite h with ⟨c49, h⟩ | ⟨c49, h⟩
                · refine am_Ev.f hcd (c := am_b (xc_hasWitness_2 a1 f) = 0) (s1 := (46, [(0, .ref 0), (1, .int a0), (2, .int a1), (3, .int a2), (4, .ref 2)], [], am_SH, (f, g))) rfl (am_b_t c49) ?_
                  refine am_Ev.go hcd 3 (s' := (49, [(0, .ref 0), (1, .int a0), (2, .int a1), (3, .int a2), (4, .ref 2)], [.int 9, .int 0, .int a2], am_SH, (f, g))) rfl ?_
                  refine am_Ev.call hcd (a := 170) (s0 := (0, [(0, .int a2), (1, .int 0), (2, .int 9)], [], am_SH, (f, g))) (q := ((some (.int (am_b (x_within a2 0 9)))), am_SH, (f, g))) (s1 := (50, [(0, .ref 0), (1, .int a0), (2, .int a1), (3, .int a2), (4, .ref 2)], [.int (am_b (x_within a2 0 9))], am_SH, (f, g))) rfl rfl (x_within_ok (d) a2 0 9 (f, g)) ?_
                  rcases am_ite h with ⟨c53, h⟩ | ⟨c53, h⟩
                  · refine am_Ev.f hcd (c := am_b (x_within a2 0 9) = 0) (s1 := (51, [(0, .ref 0), (1, .int a0), (2, .int a1), (3, .int a2), (4, .ref 2)], [], am_SH, (f, g))) rfl (am_b_t c53) ?_
                    refine am_Ev.go hcd 4 (s' := (55, [(0, .ref 0), (1, .int a0), (2, .int a1), (3, .int a2), (4, .ref 2)], [.int a2, .int a1, .ref 8], am_SH, (f, g))) rfl ?_
                    obtain ⟨c55, h⟩ := am_grd h
                    obtain ⟨f11, Ef11, h⟩ := am_let_eq h
                    refine am_Ev.t hcd (o := none) (c := am_in a1 12 = true) (s1 := (56, [(0, .ref 0), (1, .int a0), (2, .int a1), (3, .int a2), (4, .ref 2)], [], am_SH, (f11, g))) (by subst Ef11; exact rfl) c55 ?_
                    refine am_Ev.go hcd 2 (s' := (60, [(0, .ref 0), (1, .int a0), (2, .int a1), (3, .int a2), (4, .ref 2)], [.ref 0], am_SH, (f11, g))) rfl ?_
                    obtain ⟨p12, Ep12, h⟩ := am_let_eq h
                    refine am_Ev.call hcd (a := 173) (s0 := (0, [(0, .ref 0)], [], am_SH, (f11, g))) (q := (none, am_SH, (p12, g))) (s1 := (61, [(0, .ref 0), (1, .int a0), (2, .int a1), (3, .int a2), (4, .ref 2)], [], am_SH, (p12, g))) rfl rfl (by subst Ep12; exact x_forgetPasts_ok (d)  f11 g) ?_
                    refine am_Ev.go hcd 1 (s' := (62, [(0, .ref 0), (1, .int a0), (2, .int a1), (3, .int a2), (4, .ref 2)], [.int 1], am_SH, (p12, g))) rfl ?_
                    exact am_Ev.cast (a := ((some (.int (am_b (true, p12).1))), am_SH, ((true, p12).2, g))) (by cases h; rfl) (am_Ev.ret hcd rfl)
                  · refine am_Ev.t hcd (c := am_b (x_within a2 0 9) = 0) (s1 := (57, [(0, .ref 0), (1, .int a0), (2, .int a1), (3, .int a2), (4, .ref 2)], [], am_SH, (f, g))) rfl (am_b_f c53) ?_
                    refine am_Ev.go hcd 1 (s' := (58, [(0, .ref 0), (1, .int a0), (2, .int a1), (3, .int a2), (4, .ref 2)], [.int 0], am_SH, (f, g))) rfl ?_
                    exact am_Ev.cast (a := ((some (.int (am_b (false, f).1))), am_SH, ((false, f).2, g))) (by cases h; rfl) (am_Ev.ret hcd rfl)
                · refine am_Ev.t hcd (c := am_b (xc_hasWitness_2 a1 f) = 0) (s1 := (57, [(0, .ref 0), (1, .int a0), (2, .int a1), (3, .int a2), (4, .ref 2)], [], am_SH, (f, g))) rfl (am_b_f c49) ?_
                  refine am_Ev.go hcd 1 (s' := (58, [(0, .ref 0), (1, .int a0), (2, .int a1), (3, .int a2), (4, .ref 2)], [.int 0], am_SH, (f, g))) rfl ?_
                  exact am_Ev.cast (a := ((some (.int (am_b (false, f).1))), am_SH, ((false, f).2, g))) (by cases h; rfl) (am_Ev.ret hcd rfl)
              · refine am_Ev.f hcd (c := a0 = 2) (s1 := (57, [(0, .ref 0), (1, .int a0), (2, .int a1), (3, .int a2), (4, .ref 2)], [], am_SH, (f, g))) rfl c44 ?_
                refine am_Ev.go hcd 1 (s' := (58, [(0, .ref 0), (1, .int a0), (2, .int a1), (3, .int a2), (4, .ref 2)], [.int 0], am_SH, (f, g))) rfl ?_
                exact am_Ev.cast (a := ((some (.int (am_b (false, f).1))), am_SH, ((false, f).2, g))) (by cases h; rfl) (am_Ev.ret hcd rfl)
          · refine am_Ev.t hcd (c := am_b (xc_hasGlass_2 a1 f) = 0) (s1 := (39, [(0, .ref 0), (1, .int a0), (2, .int a1), (3, .int a2), (4, .ref 2)], [], am_SH, (f, g))) rfl (am_b_f c28) ?_
            refine am_Ev.go hcd 2 (s' := (41, [(0, .ref 0), (1, .int a0), (2, .int a1), (3, .int a2), (4, .ref 2)], [.int 2, .int a0], am_SH, (f, g))) rfl ?_
            rcases am_ite h with ⟨c74, h⟩ | ⟨c74, h⟩
            · refine am_Ev.t hcd (c := a0 = 2) (s1 := (42, [(0, .ref 0), (1, .int a0), (2, .int a1), (3, .int a2), (4, .ref 2)], [], am_SH, (f, g))) rfl c74 ?_
              refine am_Ev.go hcd 2 (s' := (44, [(0, .ref 0), (1, .int a0), (2, .int a1), (3, .int a2), (4, .ref 2)], [.int a1, .ref 2], am_SH, (f, g))) rfl ?_
              refine am_Ev.call hcd (a := 23) (s0 := (0, [(0, .ref 2), (1, .int a1)], [], am_SH, (f, g))) (q := ((some (.int (am_b (xc_hasWitness_2 a1 f)))), am_SH, (f, g))) (s1 := (45, [(0, .ref 0), (1, .int a0), (2, .int a1), (3, .int a2), (4, .ref 2)], [.int (am_b (xc_hasWitness_2 a1 f))], am_SH, (f, g))) rfl rfl (xc_hasWitness_2_ok (d) a1 f g) ?_
              rcases am_ite h with ⟨c79, h⟩ | ⟨c79, h⟩
              · refine am_Ev.f hcd (c := am_b (xc_hasWitness_2 a1 f) = 0) (s1 := (46, [(0, .ref 0), (1, .int a0), (2, .int a1), (3, .int a2), (4, .ref 2)], [], am_SH, (f, g))) rfl (am_b_t c79) ?_
                refine am_Ev.go hcd 3 (s' := (49, [(0, .ref 0), (1, .int a0), (2, .int a1), (3, .int a2), (4, .ref 2)], [.int 9, .int 0, .int a2], am_SH, (f, g))) rfl ?_
                refine am_Ev.call hcd (a := 170) (s0 := (0, [(0, .int a2), (1, .int 0), (2, .int 9)], [], am_SH, (f, g))) (q := ((some (.int (am_b (x_within a2 0 9)))), am_SH, (f, g))) (s1 := (50, [(0, .ref 0), (1, .int a0), (2, .int a1), (3, .int a2), (4, .ref 2)], [.int (am_b (x_within a2 0 9))], am_SH, (f, g))) rfl rfl (x_within_ok (d) a2 0 9 (f, g)) ?_
                rcases am_ite h with ⟨c83, h⟩ | ⟨c83, h⟩
                · refine am_Ev.f hcd (c := am_b (x_within a2 0 9) = 0) (s1 := (51, [(0, .ref 0), (1, .int a0), (2, .int a1), (3, .int a2), (4, .ref 2)], [], am_SH, (f, g))) rfl (am_b_t c83) ?_
                  refine am_Ev.go hcd 4 (s' := (55, [(0, .ref 0), (1, .int a0), (2, .int a1), (3, .int a2), (4, .ref 2)], [.int a2, .int a1, .ref 8], am_SH, (f, g))) rfl ?_
                  obtain ⟨c85, h⟩ := am_grd h
                  obtain ⟨f15, Ef15, h⟩ := am_let_eq h
                  refine am_Ev.t hcd (o := none) (c := am_in a1 12 = true) (s1 := (56, [(0, .ref 0), (1, .int a0), (2, .int a1), (3, .int a2), (4, .ref 2)], [], am_SH, (f15, g))) (by subst Ef15; exact rfl) c85 ?_
                  refine am_Ev.go hcd 2 (s' := (60, [(0, .ref 0), (1, .int a0), (2, .int a1), (3, .int a2), (4, .ref 2)], [.ref 0], am_SH, (f15, g))) rfl ?_
                  obtain ⟨p16, Ep16, h⟩ := am_let_eq h
                  refine am_Ev.call hcd (a := 173) (s0 := (0, [(0, .ref 0)], [], am_SH, (f15, g))) (q := (none, am_SH, (p16, g))) (s1 := (61, [(0, .ref 0), (1, .int a0), (2, .int a1), (3, .int a2), (4, .ref 2)], [], am_SH, (p16, g))) rfl rfl (by subst Ep16; exact x_forgetPasts_ok (d)  f15 g) ?_
                  refine am_Ev.go hcd 1 (s' := (62, [(0, .ref 0), (1, .int a0), (2, .int a1), (3, .int a2), (4, .ref 2)], [.int 1], am_SH, (p16, g))) rfl ?_
                  exact am_Ev.cast (a := ((some (.int (am_b (true, p16).1))), am_SH, ((true, p16).2, g))) (by cases h; rfl) (am_Ev.ret hcd rfl)
                · refine am_Ev.t hcd (c := am_b (x_within a2 0 9) = 0) (s1 := (57, [(0, .ref 0), (1, .int a0), (2, .int a1), (3, .int a2), (4, .ref 2)], [], am_SH, (f, g))) rfl (am_b_f c83) ?_
                  refine am_Ev.go hcd 1 (s' := (58, [(0, .ref 0), (1, .int a0), (2, .int a1), (3, .int a2), (4, .ref 2)], [.int 0], am_SH, (f, g))) rfl ?_
                  exact am_Ev.cast (a := ((some (.int (am_b (false, f).1))), am_SH, ((false, f).2, g))) (by cases h; rfl) (am_Ev.ret hcd rfl)
              · refine am_Ev.t hcd (c := am_b (xc_hasWitness_2 a1 f) = 0) (s1 := (57, [(0, .ref 0), (1, .int a0), (2, .int a1), (3, .int a2), (4, .ref 2)], [], am_SH, (f, g))) rfl (am_b_f c79) ?_
                refine am_Ev.go hcd 1 (s' := (58, [(0, .ref 0), (1, .int a0), (2, .int a1), (3, .int a2), (4, .ref 2)], [.int 0], am_SH, (f, g))) rfl ?_
                exact am_Ev.cast (a := ((some (.int (am_b (false, f).1))), am_SH, ((false, f).2, g))) (by cases h; rfl) (am_Ev.ret hcd rfl)
            · refine am_Ev.f hcd (c := a0 = 2) (s1 := (57, [(0, .ref 0), (1, .int a0), (2, .int a1), (3, .int a2), (4, .ref 2)], [], am_SH, (f, g))) rfl c74 ?_
              refine am_Ev.go hcd 1 (s' := (58, [(0, .ref 0), (1, .int a0), (2, .int a1), (3, .int a2), (4, .ref 2)], [.int 0], am_SH, (f, g))) rfl ?_
              exact am_Ev.cast (a := ((some (.int (am_b (false, f).1))), am_SH, ((false, f).2, g))) (by cases h; rfl) (am_Ev.ret hcd rfl)
        · refine am_Ev.f hcd (c := a0 = 1) (s1 := (39, [(0, .ref 0), (1, .int a0), (2, .int a1), (3, .int a2), (4, .ref 2)], [], am_SH, (f, g))) rfl c23 ?_
          refine am_Ev.go hcd 2 (s' := (41, [(0, .ref 0), (1, .int a0), (2, .int a1), (3, .int a2), (4, .ref 2)], [.int 2, .int a0], am_SH, (f, g))) rfl ?_
          rcases am_ite h with ⟨c104, h⟩ | ⟨c104, h⟩
          · refine am_Ev.t hcd (c := a0 = 2) (s1 := (42, [(0, .ref 0), (1, .int a0), (2, .int a1), (3, .int a2), (4, .ref 2)], [], am_SH, (f, g))) rfl c104 ?_
            refine am_Ev.go hcd 2 (s' := (44, [(0, .ref 0), (1, .int a0), (2, .int a1), (3, .int a2), (4, .ref 2)], [.int a1, .ref 2], am_SH, (f, g))) rfl ?_
            refine am_Ev.call hcd (a := 23) (s0 := (0, [(0, .ref 2), (1, .int a1)], [], am_SH, (f, g))) (q := ((some (.int (am_b (xc_hasWitness_2 a1 f)))), am_SH, (f, g))) (s1 := (45, [(0, .ref 0), (1, .int a0), (2, .int a1), (3, .int a2), (4, .ref 2)], [.int (am_b (xc_hasWitness_2 a1 f))], am_SH, (f, g))) rfl rfl (xc_hasWitness_2_ok (d) a1 f g) ?_
            rcases am_ite h with ⟨c109, h⟩ | ⟨c109, h⟩
            · refine am_Ev.f hcd (c := am_b (xc_hasWitness_2 a1 f) = 0) (s1 := (46, [(0, .ref 0), (1, .int a0), (2, .int a1), (3, .int a2), (4, .ref 2)], [], am_SH, (f, g))) rfl (am_b_t c109) ?_
              refine am_Ev.go hcd 3 (s' := (49, [(0, .ref 0), (1, .int a0), (2, .int a1), (3, .int a2), (4, .ref 2)], [.int 9, .int 0, .int a2], am_SH, (f, g))) rfl ?_
              refine am_Ev.call hcd (a := 170) (s0 := (0, [(0, .int a2), (1, .int 0), (2, .int 9)], [], am_SH, (f, g))) (q := ((some (.int (am_b (x_within a2 0 9)))), am_SH, (f, g))) (s1 := (50, [(0, .ref 0), (1, .int a0), (2, .int a1), (3, .int a2), (4, .ref 2)], [.int (am_b (x_within a2 0 9))], am_SH, (f, g))) rfl rfl (x_within_ok (d) a2 0 9 (f, g)) ?_
              rcases am_ite h with ⟨c113, h⟩ | ⟨c113, h⟩
              · refine am_Ev.f hcd (c := am_b (x_within a2 0 9) = 0) (s1 := (51, [(0, .ref 0), (1, .int a0), (2, .int a1), (3, .int a2), (4, .ref 2)], [], am_SH, (f, g))) rfl (am_b_t c113) ?_
                refine am_Ev.go hcd 4 (s' := (55, [(0, .ref 0), (1, .int a0), (2, .int a1), (3, .int a2), (4, .ref 2)], [.int a2, .int a1, .ref 8], am_SH, (f, g))) rfl ?_
                obtain ⟨c115, h⟩ := am_grd h
                obtain ⟨f19, Ef19, h⟩ := am_let_eq h
                refine am_Ev.t hcd (o := none) (c := am_in a1 12 = true) (s1 := (56, [(0, .ref 0), (1, .int a0), (2, .int a1), (3, .int a2), (4, .ref 2)], [], am_SH, (f19, g))) (by subst Ef19; exact rfl) c115 ?_
                refine am_Ev.go hcd 2 (s' := (60, [(0, .ref 0), (1, .int a0), (2, .int a1), (3, .int a2), (4, .ref 2)], [.ref 0], am_SH, (f19, g))) rfl ?_
                obtain ⟨p20, Ep20, h⟩ := am_let_eq h
                refine am_Ev.call hcd (a := 173) (s0 := (0, [(0, .ref 0)], [], am_SH, (f19, g))) (q := (none, am_SH, (p20, g))) (s1 := (61, [(0, .ref 0), (1, .int a0), (2, .int a1), (3, .int a2), (4, .ref 2)], [], am_SH, (p20, g))) rfl rfl (by subst Ep20; exact x_forgetPasts_ok (d)  f19 g) ?_
                refine am_Ev.go hcd 1 (s' := (62, [(0, .ref 0), (1, .int a0), (2, .int a1), (3, .int a2), (4, .ref 2)], [.int 1], am_SH, (p20, g))) rfl ?_
                exact am_Ev.cast (a := ((some (.int (am_b (true, p20).1))), am_SH, ((true, p20).2, g))) (by cases h; rfl) (am_Ev.ret hcd rfl)
              · refine am_Ev.t hcd (c := am_b (x_within a2 0 9) = 0) (s1 := (57, [(0, .ref 0), (1, .int a0), (2, .int a1), (3, .int a2), (4, .ref 2)], [], am_SH, (f, g))) rfl (am_b_f c113) ?_
                refine am_Ev.go hcd 1 (s' := (58, [(0, .ref 0), (1, .int a0), (2, .int a1), (3, .int a2), (4, .ref 2)], [.int 0], am_SH, (f, g))) rfl ?_
                exact am_Ev.cast (a := ((some (.int (am_b (false, f).1))), am_SH, ((false, f).2, g))) (by cases h; rfl) (am_Ev.ret hcd rfl)
            · refine am_Ev.t hcd (c := am_b (xc_hasWitness_2 a1 f) = 0) (s1 := (57, [(0, .ref 0), (1, .int a0), (2, .int a1), (3, .int a2), (4, .ref 2)], [], am_SH, (f, g))) rfl (am_b_f c109) ?_
              refine am_Ev.go hcd 1 (s' := (58, [(0, .ref 0), (1, .int a0), (2, .int a1), (3, .int a2), (4, .ref 2)], [.int 0], am_SH, (f, g))) rfl ?_
              exact am_Ev.cast (a := ((some (.int (am_b (false, f).1))), am_SH, ((false, f).2, g))) (by cases h; rfl) (am_Ev.ret hcd rfl)
          · refine am_Ev.f hcd (c := a0 = 2) (s1 := (57, [(0, .ref 0), (1, .int a0), (2, .int a1), (3, .int a2), (4, .ref 2)], [], am_SH, (f, g))) rfl c104 ?_
            refine am_Ev.go hcd 1 (s' := (58, [(0, .ref 0), (1, .int a0), (2, .int a1), (3, .int a2), (4, .ref 2)], [.int 0], am_SH, (f, g))) rfl ?_
            exact am_Ev.cast (a := ((some (.int (am_b (false, f).1))), am_SH, ((false, f).2, g))) (by cases h; rfl) (am_Ev.ret hcd rfl)
    · refine am_Ev.t hcd (c := am_b (xc_hasGlass_2 a1 f) = 0) (s1 := (21, [(0, .ref 0), (1, .int a0), (2, .int a1), (3, .int a2), (4, .ref 2)], [], am_SH, (f, g))) rfl (am_b_f c7) ?_
      refine am_Ev.go hcd 2 (s' := (23, [(0, .ref 0), (1, .int a0), (2, .int a1), (3, .int a2), (4, .ref 2)], [.int 1, .int a0], am_SH, (f, g))) rfl ?_
      rcases am_ite h with ⟨c134, h⟩ | ⟨c134, h⟩
      · refine am_Ev.t hcd (c := a0 = 1) (s1 := (24, [(0, .ref 0), (1, .int a0), (2, .int a1), (3, .int a2), (4, .ref 2)], [], am_SH, (f, g))) rfl c134 ?_
        refine am_Ev.go hcd 2 (s' := (26, [(0, .ref 0), (1, .int a0), (2, .int a1), (3, .int a2), (4, .ref 2)], [.int a1, .ref 2], am_SH, (f, g))) rfl ?_
        refine am_Ev.call hcd (a := 22) (s0 := (0, [(0, .ref 2), (1, .int a1)], [], am_SH, (f, g))) (q := ((some (.int (am_b (xc_hasGlass_2 a1 f)))), am_SH, (f, g))) (s1 := (27, [(0, .ref 0), (1, .int a0), (2, .int a1), (3, .int a2), (4, .ref 2)], [.int (am_b (xc_hasGlass_2 a1 f))], am_SH, (f, g))) rfl rfl (xc_hasGlass_2_ok (d) a1 f g) ?_
        rcases am_ite h with ⟨c139, h⟩ | ⟨c139, h⟩
        · refine am_Ev.f hcd (c := am_b (xc_hasGlass_2 a1 f) = 0) (s1 := (28, [(0, .ref 0), (1, .int a0), (2, .int a1), (3, .int a2), (4, .ref 2)], [], am_SH, (f, g))) rfl (am_b_t c139) ?_
          refine am_Ev.go hcd 3 (s' := (31, [(0, .ref 0), (1, .int a0), (2, .int a1), (3, .int a2), (4, .ref 2)], [.int 420, .int 300, .int a2], am_SH, (f, g))) rfl ?_
          refine am_Ev.call hcd (a := 170) (s0 := (0, [(0, .int a2), (1, .int 300), (2, .int 420)], [], am_SH, (f, g))) (q := ((some (.int (am_b (x_within a2 300 420)))), am_SH, (f, g))) (s1 := (32, [(0, .ref 0), (1, .int a0), (2, .int a1), (3, .int a2), (4, .ref 2)], [.int (am_b (x_within a2 300 420))], am_SH, (f, g))) rfl rfl (x_within_ok (d) a2 300 420 (f, g)) ?_
          rcases am_ite h with ⟨c143, h⟩ | ⟨c143, h⟩
          · refine am_Ev.f hcd (c := am_b (x_within a2 300 420) = 0) (s1 := (33, [(0, .ref 0), (1, .int a0), (2, .int a1), (3, .int a2), (4, .ref 2)], [], am_SH, (f, g))) rfl (am_b_t c143) ?_
            refine am_Ev.go hcd 4 (s' := (37, [(0, .ref 0), (1, .int a0), (2, .int a1), (3, .int a2), (4, .ref 2)], [.int a2, .int a1, .ref 4], am_SH, (f, g))) rfl ?_
            obtain ⟨c145, h⟩ := am_grd h
            obtain ⟨f23, Ef23, h⟩ := am_let_eq h
            refine am_Ev.t hcd (o := none) (c := am_in a1 6 = true) (s1 := (38, [(0, .ref 0), (1, .int a0), (2, .int a1), (3, .int a2), (4, .ref 2)], [], am_SH, (f23, g))) (by subst Ef23; exact rfl) c145 ?_
            refine am_Ev.go hcd 2 (s' := (60, [(0, .ref 0), (1, .int a0), (2, .int a1), (3, .int a2), (4, .ref 2)], [.ref 0], am_SH, (f23, g))) rfl ?_
            obtain ⟨p24, Ep24, h⟩ := am_let_eq h
            refine am_Ev.call hcd (a := 173) (s0 := (0, [(0, .ref 0)], [], am_SH, (f23, g))) (q := (none, am_SH, (p24, g))) (s1 := (61, [(0, .ref 0), (1, .int a0), (2, .int a1), (3, .int a2), (4, .ref 2)], [], am_SH, (p24, g))) rfl rfl (by subst Ep24; exact x_forgetPasts_ok (d)  f23 g) ?_
            refine am_Ev.go hcd 1 (s' := (62, [(0, .ref 0), (1, .int a0), (2, .int a1), (3, .int a2), (4, .ref 2)], [.int 1], am_SH, (p24, g))) rfl ?_
            exact am_Ev.cast (a := ((some (.int (am_b (true, p24).1))), am_SH, ((true, p24).2, g))) (by cases h; rfl) (am_Ev.ret hcd rfl)
          · refine am_Ev.t hcd (c := am_b (x_within a2 300 420) = 0) (s1 := (39, [(0, .ref 0), (1, .int a0), (2, .int a1), (3, .int a2), (4, .ref 2)], [], am_SH, (f, g))) rfl (am_b_f c143) ?_
            refine am_Ev.go hcd 2 (s' := (41, [(0, .ref 0), (1, .int a0), (2, .int a1), (3, .int a2), (4, .ref 2)], [.int 2, .int a0], am_SH, (f, g))) rfl ?_
            rcases am_ite h with ⟨c155, h⟩ | ⟨c155, h⟩
            · refine am_Ev.t hcd (c := a0 = 2) (s1 := (42, [(0, .ref 0), (1, .int a0), (2, .int a1), (3, .int a2), (4, .ref 2)], [], am_SH, (f, g))) rfl c155 ?_
              refine am_Ev.go hcd 2 (s' := (44, [(0, .ref 0), (1, .int a0), (2, .int a1), (3, .int a2), (4, .ref 2)], [.int a1, .ref 2], am_SH, (f, g))) rfl ?_
              refine am_Ev.call hcd (a := 23) (s0 := (0, [(0, .ref 2), (1, .int a1)], [], am_SH, (f, g))) (q := ((some (.int (am_b (xc_hasWitness_2 a1 f)))), am_SH, (f, g))) (s1 := (45, [(0, .ref 0), (1, .int a0), (2, .int a1), (3, .int a2), (4, .ref 2)], [.int (am_b (xc_hasWitness_2 a1 f))], am_SH, (f, g))) rfl rfl (xc_hasWitness_2_ok (d) a1 f g) ?_
              rcases am_ite h with ⟨c160, h⟩ | ⟨c160, h⟩
              · refine am_Ev.f hcd (c := am_b (xc_hasWitness_2 a1 f) = 0) (s1 := (46, [(0, .ref 0), (1, .int a0), (2, .int a1), (3, .int a2), (4, .ref 2)], [], am_SH, (f, g))) rfl (am_b_t c160) ?_
                refine am_Ev.go hcd 3 (s' := (49, [(0, .ref 0), (1, .int a0), (2, .int a1), (3, .int a2), (4, .ref 2)], [.int 9, .int 0, .int a2], am_SH, (f, g))) rfl ?_
                refine am_Ev.call hcd (a := 170) (s0 := (0, [(0, .int a2), (1, .int 0), (2, .int 9)], [], am_SH, (f, g))) (q := ((some (.int (am_b (x_within a2 0 9)))), am_SH, (f, g))) (s1 := (50, [(0, .ref 0), (1, .int a0), (2, .int a1), (3, .int a2), (4, .ref 2)], [.int (am_b (x_within a2 0 9))], am_SH, (f, g))) rfl rfl (x_within_ok (d) a2 0 9 (f, g)) ?_
                rcases am_ite h with ⟨c164, h⟩ | ⟨c164, h⟩
                · refine am_Ev.f hcd (c := am_b (x_within a2 0 9) = 0) (s1 := (51, [(0, .ref 0), (1, .int a0), (2, .int a1), (3, .int a2), (4, .ref 2)], [], am_SH, (f, g))) rfl (am_b_t c164) ?_
                  refine am_Ev.go hcd 4 (s' := (55, [(0, .ref 0), (1, .int a0), (2, .int a1), (3, .int a2), (4, .ref 2)], [.int a2, .int a1, .ref 8], am_SH, (f, g))) rfl ?_
                  obtain ⟨c166, h⟩ := am_grd h
                  obtain ⟨f27, Ef27, h⟩ := am_let_eq h
                  refine am_Ev.t hcd (o := none) (c := am_in a1 12 = true) (s1 := (56, [(0, .ref 0), (1, .int a0), (2, .int a1), (3, .int a2), (4, .ref 2)], [], am_SH, (f27, g))) (by subst Ef27; exact rfl) c166 ?_
                  refine am_Ev.go hcd 2 (s' := (60, [(0, .ref 0), (1, .int a0), (2, .int a1), (3, .int a2), (4, .ref 2)], [.ref 0], am_SH, (f27, g))) rfl ?_
                  obtain ⟨p28, Ep28, h⟩ := am_let_eq h
                  refine am_Ev.call hcd (a := 173) (s0 := (0, [(0, .ref 0)], [], am_SH, (f27, g))) (q := (none, am_SH, (p28, g))) (s1 := (61, [(0, .ref 0), (1, .int a0), (2, .int a1), (3, .int a2), (4, .ref 2)], [], am_SH, (p28, g))) rfl rfl (by subst Ep28; exact x_forgetPasts_ok (d)  f27 g) ?_
                  refine am_Ev.go hcd 1 (s' := (62, [(0, .ref 0), (1, .int a0), (2, .int a1), (3, .int a2), (4, .ref 2)], [.int 1], am_SH, (p28, g))) rfl ?_
                  exact am_Ev.cast (a := ((some (.int (am_b (true, p28).1))), am_SH, ((true, p28).2, g))) (by cases h; rfl) (am_Ev.ret hcd rfl)
                · refine am_Ev.t hcd (c := am_b (x_within a2 0 9) = 0) (s1 := (57, [(0, .ref 0), (1, .int a0), (2, .int a1), (3, .int a2), (4, .ref 2)], [], am_SH, (f, g))) rfl (am_b_f c164) ?_
                  refine am_Ev.go hcd 1 (s' := (58, [(0, .ref 0), (1, .int a0), (2, .int a1), (3, .int a2), (4, .ref 2)], [.int 0], am_SH, (f, g))) rfl ?_
                  exact am_Ev.cast (a := ((some (.int (am_b (false, f).1))), am_SH, ((false, f).2, g))) (by cases h; rfl) (am_Ev.ret hcd rfl)
              · refine am_Ev.t hcd (c := am_b (xc_hasWitness_2 a1 f) = 0) (s1 := (57, [(0, .ref 0), (1, .int a0), (2, .int a1), (3, .int a2), (4, .ref 2)], [], am_SH, (f, g))) rfl (am_b_f c160) ?_
                refine am_Ev.go hcd 1 (s' := (58, [(0, .ref 0), (1, .int a0), (2, .int a1), (3, .int a2), (4, .ref 2)], [.int 0], am_SH, (f, g))) rfl ?_
                exact am_Ev.cast (a := ((some (.int (am_b (false, f).1))), am_SH, ((false, f).2, g))) (by cases h; rfl) (am_Ev.ret hcd rfl)
            · refine am_Ev.f hcd (c := a0 = 2) (s1 := (57, [(0, .ref 0), (1, .int a0), (2, .int a1), (3, .int a2), (4, .ref 2)], [], am_SH, (f, g))) rfl c155 ?_
              refine am_Ev.go hcd 1 (s' := (58, [(0, .ref 0), (1, .int a0), (2, .int a1), (3, .int a2), (4, .ref 2)], [.int 0], am_SH, (f, g))) rfl ?_
              exact am_Ev.cast (a := ((some (.int (am_b (false, f).1))), am_SH, ((false, f).2, g))) (by cases h; rfl) (am_Ev.ret hcd rfl)
        · refine am_Ev.t hcd (c := am_b (xc_hasGlass_2 a1 f) = 0) (s1 := (39, [(0, .ref 0), (1, .int a0), (2, .int a1), (3, .int a2), (4, .ref 2)], [], am_SH, (f, g))) rfl (am_b_f c139) ?_
          refine am_Ev.go hcd 2 (s' := (41, [(0, .ref 0), (1, .int a0), (2, .int a1), (3, .int a2), (4, .ref 2)], [.int 2, .int a0], am_SH, (f, g))) rfl ?_
          rcases am_ite h with ⟨c185, h⟩ | ⟨c185, h⟩
          · refine am_Ev.t hcd (c := a0 = 2) (s1 := (42, [(0, .ref 0), (1, .int a0), (2, .int a1), (3, .int a2), (4, .ref 2)], [], am_SH, (f, g))) rfl c185 ?_
            refine am_Ev.go hcd 2 (s' := (44, [(0, .ref 0), (1, .int a0), (2, .int a1), (3, .int a2), (4, .ref 2)], [.int a1, .ref 2], am_SH, (f, g))) rfl ?_
            refine am_Ev.call hcd (a := 23) (s0 := (0, [(0, .ref 2), (1, .int a1)], [], am_SH, (f, g))) (q := ((some (.int (am_b (xc_hasWitness_2 a1 f)))), am_SH, (f, g))) (s1 := (45, [(0, .ref 0), (1, .int a0), (2, .int a1), (3, .int a2), (4, .ref 2)], [.int (am_b (xc_hasWitness_2 a1 f))], am_SH, (f, g))) rfl rfl (xc_hasWitness_2_ok (d) a1 f g) ?_
            rcases am_ite h with ⟨c190, h⟩ | ⟨c190, h⟩
            · refine am_Ev.f hcd (c := am_b (xc_hasWitness_2 a1 f) = 0) (s1 := (46, [(0, .ref 0), (1, .int a0), (2, .int a1), (3, .int a2), (4, .ref 2)], [], am_SH, (f, g))) rfl (am_b_t c190) ?_
              refine am_Ev.go hcd 3 (s' := (49, [(0, .ref 0), (1, .int a0), (2, .int a1), (3, .int a2), (4, .ref 2)], [.int 9, .int 0, .int a2], am_SH, (f, g))) rfl ?_
              refine am_Ev.call hcd (a := 170) (s0 := (0, [(0, .int a2), (1, .int 0), (2, .int 9)], [], am_SH, (f, g))) (q := ((some (.int (am_b (x_within a2 0 9)))), am_SH, (f, g))) (s1 := (50, [(0, .ref 0), (1, .int a0), (2, .int a1), (3, .int a2), (4, .ref 2)], [.int (am_b (x_within a2 0 9))], am_SH, (f, g))) rfl rfl (x_within_ok (d) a2 0 9 (f, g)) ?_
              rcases am_ite h with ⟨c194, h⟩ | ⟨c194, h⟩
              · refine am_Ev.f hcd (c := am_b (x_within a2 0 9) = 0) (s1 := (51, [(0, .ref 0), (1, .int a0), (2, .int a1), (3, .int a2), (4, .ref 2)], [], am_SH, (f, g))) rfl (am_b_t c194) ?_
                refine am_Ev.go hcd 4 (s' := (55, [(0, .ref 0), (1, .int a0), (2, .int a1), (3, .int a2), (4, .ref 2)], [.int a2, .int a1, .ref 8], am_SH, (f, g))) rfl ?_
                obtain ⟨c196, h⟩ := am_grd h
                obtain ⟨f31, Ef31, h⟩ := am_let_eq h
                refine am_Ev.t hcd (o := none) (c := am_in a1 12 = true) (s1 := (56, [(0, .ref 0), (1, .int a0), (2, .int a1), (3, .int a2), (4, .ref 2)], [], am_SH, (f31, g))) (by subst Ef31; exact rfl) c196 ?_
                refine am_Ev.go hcd 2 (s' := (60, [(0, .ref 0), (1, .int a0), (2, .int a1), (3, .int a2), (4, .ref 2)], [.ref 0], am_SH, (f31, g))) rfl ?_
                obtain ⟨p32, Ep32, h⟩ := am_let_eq h
                refine am_Ev.call hcd (a := 173) (s0 := (0, [(0, .ref 0)], [], am_SH, (f31, g))) (q := (none, am_SH, (p32, g))) (s1 := (61, [(0, .ref 0), (1, .int a0), (2, .int a1), (3, .int a2), (4, .ref 2)], [], am_SH, (p32, g))) rfl rfl (by subst Ep32; exact x_forgetPasts_ok (d)  f31 g) ?_
                refine am_Ev.go hcd 1 (s' := (62, [(0, .ref 0), (1, .int a0), (2, .int a1), (3, .int a2), (4, .ref 2)], [.int 1], am_SH, (p32, g))) rfl ?_
                exact am_Ev.cast (a := ((some (.int (am_b (true, p32).1))), am_SH, ((true, p32).2, g))) (by cases h; rfl) (am_Ev.ret hcd rfl)
              · refine am_Ev.t hcd (c := am_b (x_within a2 0 9) = 0) (s1 := (57, [(0, .ref 0), (1, .int a0), (2, .int a1), (3, .int a2), (4, .ref 2)], [], am_SH, (f, g))) rfl (am_b_f c194) ?_
                refine am_Ev.go hcd 1 (s' := (58, [(0, .ref 0), (1, .int a0), (2, .int a1), (3, .int a2), (4, .ref 2)], [.int 0], am_SH, (f, g))) rfl ?_
                exact am_Ev.cast (a := ((some (.int (am_b (false, f).1))), am_SH, ((false, f).2, g))) (by cases h; rfl) (am_Ev.ret hcd rfl)
            · refine am_Ev.t hcd (c := am_b (xc_hasWitness_2 a1 f) = 0) (s1 := (57, [(0, .ref 0), (1, .int a0), (2, .int a1), (3, .int a2), (4, .ref 2)], [], am_SH, (f, g))) rfl (am_b_f c190) ?_
              refine am_Ev.go hcd 1 (s' := (58, [(0, .ref 0), (1, .int a0), (2, .int a1), (3, .int a2), (4, .ref 2)], [.int 0], am_SH, (f, g))) rfl ?_
              exact am_Ev.cast (a := ((some (.int (am_b (false, f).1))), am_SH, ((false, f).2, g))) (by cases h; rfl) (am_Ev.ret hcd rfl)
          · refine am_Ev.f hcd (c := a0 = 2) (s1 := (57, [(0, .ref 0), (1, .int a0), (2, .int a1), (3, .int a2), (4, .ref 2)], [], am_SH, (f, g))) rfl c185 ?_
            refine am_Ev.go hcd 1 (s' := (58, [(0, .ref 0), (1, .int a0), (2, .int a1), (3, .int a2), (4, .ref 2)], [.int 0], am_SH, (f, g))) rfl ?_
            exact am_Ev.cast (a := ((some (.int (am_b (false, f).1))), am_SH, ((false, f).2, g))) (by cases h; rfl) (am_Ev.ret hcd rfl)
      · refine am_Ev.f hcd (c := a0 = 1) (s1 := (39, [(0, .ref 0), (1, .int a0), (2, .int a1), (3, .int a2), (4, .ref 2)], [], am_SH, (f, g))) rfl c134 ?_
        refine am_Ev.go hcd 2 (s' := (41, [(0, .ref 0), (1, .int a0), (2, .int a1), (3, .int a2), (4, .ref 2)], [.int 2, .int a0], am_SH, (f, g))) rfl ?_
        rcases am_ite h with ⟨c215, h⟩ | ⟨c215, h⟩
        · refine am_Ev.t hcd (c := a0 = 2) (s1 := (42, [(0, .ref 0), (1, .int a0), (2, .int a1), (3, .int a2), (4, .ref 2)], [], am_SH, (f, g))) rfl c215 ?_
          refine am_Ev.go hcd 2 (s' := (44, [(0, .ref 0), (1, .int a0), (2, .int a1), (3, .int a2), (4, .ref 2)], [.int a1, .ref 2], am_SH, (f, g))) rfl ?_
          refine am_Ev.call hcd (a := 23) (s0 := (0, [(0, .ref 2), (1, .int a1)], [], am_SH, (f, g))) (q := ((some (.int (am_b (xc_hasWitness_2 a1 f)))), am_SH, (f, g))) (s1 := (45, [(0, .ref 0), (1, .int a0), (2, .int a1), (3, .int a2), (4, .ref 2)], [.int (am_b (xc_hasWitness_2 a1 f))], am_SH, (f, g))) rfl rfl (xc_hasWitness_2_ok (d) a1 f g) ?_
          rcases am_ite h with ⟨c220, h⟩ | ⟨c220, h⟩
          · refine am_Ev.f hcd (c := am_b (xc_hasWitness_2 a1 f) = 0) (s1 := (46, [(0, .ref 0), (1, .int a0), (2, .int a1), (3, .int a2), (4, .ref 2)], [], am_SH, (f, g))) rfl (am_b_t c220) ?_
            refine am_Ev.go hcd 3 (s' := (49, [(0, .ref 0), (1, .int a0), (2, .int a1), (3, .int a2), (4, .ref 2)], [.int 9, .int 0, .int a2], am_SH, (f, g))) rfl ?_
            refine am_Ev.call hcd (a := 170) (s0 := (0, [(0, .int a2), (1, .int 0), (2, .int 9)], [], am_SH, (f, g))) (q := ((some (.int (am_b (x_within a2 0 9)))), am_SH, (f, g))) (s1 := (50, [(0, .ref 0), (1, .int a0), (2, .int a1), (3, .int a2), (4, .ref 2)], [.int (am_b (x_within a2 0 9))], am_SH, (f, g))) rfl rfl (x_within_ok (d) a2 0 9 (f, g)) ?_
            rcases am_ite h with ⟨c224, h⟩ | ⟨c224, h⟩
            · refine am_Ev.f hcd (c := am_b (x_within a2 0 9) = 0) (s1 := (51, [(0, .ref 0), (1, .int a0), (2, .int a1), (3, .int a2), (4, .ref 2)], [], am_SH, (f, g))) rfl (am_b_t c224) ?_
              refine am_Ev.go hcd 4 (s' := (55, [(0, .ref 0), (1, .int a0), (2, .int a1), (3, .int a2), (4, .ref 2)], [.int a2, .int a1, .ref 8], am_SH, (f, g))) rfl ?_
              obtain ⟨c226, h⟩ := am_grd h
              obtain ⟨f35, Ef35, h⟩ := am_let_eq h
              refine am_Ev.t hcd (o := none) (c := am_in a1 12 = true) (s1 := (56, [(0, .ref 0), (1, .int a0), (2, .int a1), (3, .int a2), (4, .ref 2)], [], am_SH, (f35, g))) (by subst Ef35; exact rfl) c226 ?_
              refine am_Ev.go hcd 2 (s' := (60, [(0, .ref 0), (1, .int a0), (2, .int a1), (3, .int a2), (4, .ref 2)], [.ref 0], am_SH, (f35, g))) rfl ?_
              obtain ⟨p36, Ep36, h⟩ := am_let_eq h
              refine am_Ev.call hcd (a := 173) (s0 := (0, [(0, .ref 0)], [], am_SH, (f35, g))) (q := (none, am_SH, (p36, g))) (s1 := (61, [(0, .ref 0), (1, .int a0), (2, .int a1), (3, .int a2), (4, .ref 2)], [], am_SH, (p36, g))) rfl rfl (by subst Ep36; exact x_forgetPasts_ok (d)  f35 g) ?_
              refine am_Ev.go hcd 1 (s' := (62, [(0, .ref 0), (1, .int a0), (2, .int a1), (3, .int a2), (4, .ref 2)], [.int 1], am_SH, (p36, g))) rfl ?_
              exact am_Ev.cast (a := ((some (.int (am_b (true, p36).1))), am_SH, ((true, p36).2, g))) (by cases h; rfl) (am_Ev.ret hcd rfl)
            · refine am_Ev.t hcd (c := am_b (x_within a2 0 9) = 0) (s1 := (57, [(0, .ref 0), (1, .int a0), (2, .int a1), (3, .int a2), (4, .ref 2)], [], am_SH, (f, g))) rfl (am_b_f c224) ?_
              refine am_Ev.go hcd 1 (s' := (58, [(0, .ref 0), (1, .int a0), (2, .int a1), (3, .int a2), (4, .ref 2)], [.int 0], am_SH, (f, g))) rfl ?_
              exact am_Ev.cast (a := ((some (.int (am_b (false, f).1))), am_SH, ((false, f).2, g))) (by cases h; rfl) (am_Ev.ret hcd rfl)
          · refine am_Ev.t hcd (c := am_b (xc_hasWitness_2 a1 f) = 0) (s1 := (57, [(0, .ref 0), (1, .int a0), (2, .int a1), (3, .int a2), (4, .ref 2)], [], am_SH, (f, g))) rfl (am_b_f c220) ?_
            refine am_Ev.go hcd 1 (s' := (58, [(0, .ref 0), (1, .int a0), (2, .int a1), (3, .int a2), (4, .ref 2)], [.int 0], am_SH, (f, g))) rfl ?_
            exact am_Ev.cast (a := ((some (.int (am_b (false, f).1))), am_SH, ((false, f).2, g))) (by cases h; rfl) (am_Ev.ret hcd rfl)
        · refine am_Ev.f hcd (c := a0 = 2) (s1 := (57, [(0, .ref 0), (1, .int a0), (2, .int a1), (3, .int a2), (4, .ref 2)], [], am_SH, (f, g))) rfl c215 ?_
          refine am_Ev.go hcd 1 (s' := (58, [(0, .ref 0), (1, .int a0), (2, .int a1), (3, .int a2), (4, .ref 2)], [.int 0], am_SH, (f, g))) rfl ?_
          exact am_Ev.cast (a := ((some (.int (am_b (false, f).1))), am_SH, ((false, f).2, g))) (by cases h; rfl) (am_Ev.ret hcd rfl)
  · refine am_Ev.f hcd (c := a0 = 0) (s1 := (21, [(0, .ref 0), (1, .int a0), (2, .int a1), (3, .int a2), (4, .ref 2)], [], am_SH, (f, g))) rfl c2 ?_
    refine am_Ev.go hcd 2 (s' := (23, [(0, .ref 0), (1, .int a0), (2, .int a1), (3, .int a2), (4, .ref 2)], [.int 1, .int a0], am_SH, (f, g))) rfl ?_
    rcases am_ite h with ⟨c245, h⟩ | ⟨c245, h⟩
    · refine am_Ev.t hcd (c := a0 = 1) (s1 := (24, [(0, .ref 0), (1, .int a0), (2, .int a1), (3, .int a2), (4, .ref 2)], [], am_SH, (f, g))) rfl c245 ?_
      refine am_Ev.go hcd 2 (s' := (26, [(0, .ref 0), (1, .int a0), (2, .int a1), (3, .int a2), (4, .ref 2)], [.int a1, .ref 2], am_SH, (f, g))) rfl ?_
      refine am_Ev.call hcd (a := 22) (s0 := (0, [(0, .ref 2), (1, .int a1)], [], am_SH, (f, g))) (q := ((some (.int (am_b (xc_hasGlass_2 a1 f)))), am_SH, (f, g))) (s1 := (27, [(0, .ref 0), (1, .int a0), (2, .int a1), (3, .int a2), (4, .ref 2)], [.int (am_b (xc_hasGlass_2 a1 f))], am_SH, (f, g))) rfl rfl (xc_hasGlass_2_ok (d) a1 f g) ?_
      rcases am_ite h with ⟨c250, h⟩ | ⟨c250, h⟩
      · refine am_Ev.f hcd (c := am_b (xc_hasGlass_2 a1 f) = 0) (s1 := (28, [(0, .ref 0), (1, .int a0), (2, .int a1), (3, .int a2), (4, .ref 2)], [], am_SH, (f, g))) rfl (am_b_t c250) ?_
        refine am_Ev.go hcd 3 (s' := (31, [(0, .ref 0), (1, .int a0), (2, .int a1), (3, .int a2), (4, .ref 2)], [.int 420, .int 300, .int a2], am_SH, (f, g))) rfl ?_
        refine am_Ev.call hcd (a := 170) (s0 := (0, [(0, .int a2), (1, .int 300), (2, .int 420)], [], am_SH, (f, g))) (q := ((some (.int (am_b (x_within a2 300 420)))), am_SH, (f, g))) (s1 := (32, [(0, .ref 0), (1, .int a0), (2, .int a1), (3, .int a2), (4, .ref 2)], [.int (am_b (x_within a2 300 420))], am_SH, (f, g))) rfl rfl (x_within_ok (d) a2 300 420 (f, g)) ?_
        rcases am_ite h with ⟨c254, h⟩ | ⟨c254, h⟩
        · refine am_Ev.f hcd (c := am_b (x_within a2 300 420) = 0) (s1 := (33, [(0, .ref 0), (1, .int a0), (2, .int a1), (3, .int a2), (4, .ref 2)], [], am_SH, (f, g))) rfl (am_b_t c254) ?_
          refine am_Ev.go hcd 4 (s' := (37, [(0, .ref 0), (1, .int a0), (2, .int a1), (3, .int a2), (4, .ref 2)], [.int a2, .int a1, .ref 4], am_SH, (f, g))) rfl ?_
          obtain ⟨c256, h⟩ := am_grd h
          obtain ⟨f39, Ef39, h⟩ := am_let_eq h
          refine am_Ev.t hcd (o := none) (c := am_in a1 6 = true) (s1 := (38, [(0, .ref 0), (1, .int a0), (2, .int a1), (3, .int a2), (4, .ref 2)], [], am_SH, (f39, g))) (by subst Ef39; exact rfl) c256 ?_
          refine am_Ev.go hcd 2 (s' := (60, [(0, .ref 0), (1, .int a0), (2, .int a1), (3, .int a2), (4, .ref 2)], [.ref 0], am_SH, (f39, g))) rfl ?_
          obtain ⟨p40, Ep40, h⟩ := am_let_eq h
          refine am_Ev.call hcd (a := 173) (s0 := (0, [(0, .ref 0)], [], am_SH, (f39, g))) (q := (none, am_SH, (p40, g))) (s1 := (61, [(0, .ref 0), (1, .int a0), (2, .int a1), (3, .int a2), (4, .ref 2)], [], am_SH, (p40, g))) rfl rfl (by subst Ep40; exact x_forgetPasts_ok (d)  f39 g) ?_
          refine am_Ev.go hcd 1 (s' := (62, [(0, .ref 0), (1, .int a0), (2, .int a1), (3, .int a2), (4, .ref 2)], [.int 1], am_SH, (p40, g))) rfl ?_
          exact am_Ev.cast (a := ((some (.int (am_b (true, p40).1))), am_SH, ((true, p40).2, g))) (by cases h; rfl) (am_Ev.ret hcd rfl)
        · refine am_Ev.t hcd (c := am_b (x_within a2 300 420) = 0) (s1 := (39, [(0, .ref 0), (1, .int a0), (2, .int a1), (3, .int a2), (4, .ref 2)], [], am_SH, (f, g))) rfl (am_b_f c254) ?_
          refine am_Ev.go hcd 2 (s' := (41, [(0, .ref 0), (1, .int a0), (2, .int a1), (3, .int a2), (4, .ref 2)], [.int 2, .int a0], am_SH, (f, g))) rfl ?_
          rcases am_ite h with ⟨c266, h⟩ | ⟨c266, h⟩
          · refine am_Ev.t hcd (c := a0 = 2) (s1 := (42, [(0, .ref 0), (1, .int a0), (2, .int a1), (3, .int a2), (4, .ref 2)], [], am_SH, (f, g))) rfl c266 ?_
            refine am_Ev.go hcd 2 (s' := (44, [(0, .ref 0), (1, .int a0), (2, .int a1), (3, .int a2), (4, .ref 2)], [.int a1, .ref 2], am_SH, (f, g))) rfl ?_
            refine am_Ev.call hcd (a := 23) (s0 := (0, [(0, .ref 2), (1, .int a1)], [], am_SH, (f, g))) (q := ((some (.int (am_b (xc_hasWitness_2 a1 f)))), am_SH, (f, g))) (s1 := (45, [(0, .ref 0), (1, .int a0), (2, .int a1), (3, .int a2), (4, .ref 2)], [.int (am_b (xc_hasWitness_2 a1 f))], am_SH, (f, g))) rfl rfl (xc_hasWitness_2_ok (d) a1 f g) ?_
            rcases am_ite h with ⟨c271, h⟩ | ⟨c271, h⟩
            · refine am_Ev.f hcd (c := am_b (xc_hasWitness_2 a1 f) = 0) (s1 := (46, [(0, .ref 0), (1, .int a0), (2, .int a1), (3, .int a2), (4, .ref 2)], [], am_SH, (f, g))) rfl (am_b_t c271) ?_
              refine am_Ev.go hcd 3 (s' := (49, [(0, .ref 0), (1, .int a0), (2, .int a1), (3, .int a2), (4, .ref 2)], [.int 9, .int 0, .int a2], am_SH, (f, g))) rfl ?_
              refine am_Ev.call hcd (a := 170) (s0 := (0, [(0, .int a2), (1, .int 0), (2, .int 9)], [], am_SH, (f, g))) (q := ((some (.int (am_b (x_within a2 0 9)))), am_SH, (f, g))) (s1 := (50, [(0, .ref 0), (1, .int a0), (2, .int a1), (3, .int a2), (4, .ref 2)], [.int (am_b (x_within a2 0 9))], am_SH, (f, g))) rfl rfl (x_within_ok (d) a2 0 9 (f, g)) ?_
              rcases am_ite h with ⟨c275, h⟩ | ⟨c275, h⟩
              · refine am_Ev.f hcd (c := am_b (x_within a2 0 9) = 0) (s1 := (51, [(0, .ref 0), (1, .int a0), (2, .int a1), (3, .int a2), (4, .ref 2)], [], am_SH, (f, g))) rfl (am_b_t c275) ?_
                refine am_Ev.go hcd 4 (s' := (55, [(0, .ref 0), (1, .int a0), (2, .int a1), (3, .int a2), (4, .ref 2)], [.int a2, .int a1, .ref 8], am_SH, (f, g))) rfl ?_
                obtain ⟨c277, h⟩ := am_grd h
                obtain ⟨f43, Ef43, h⟩ := am_let_eq h
                refine am_Ev.t hcd (o := none) (c := am_in a1 12 = true) (s1 := (56, [(0, .ref 0), (1, .int a0), (2, .int a1), (3, .int a2), (4, .ref 2)], [], am_SH, (f43, g))) (by subst Ef43; exact rfl) c277 ?_
                refine am_Ev.go hcd 2 (s' := (60, [(0, .ref 0), (1, .int a0), (2, .int a1), (3, .int a2), (4, .ref 2)], [.ref 0], am_SH, (f43, g))) rfl ?_
                obtain ⟨p44, Ep44, h⟩ := am_let_eq h
                refine am_Ev.call hcd (a := 173) (s0 := (0, [(0, .ref 0)], [], am_SH, (f43, g))) (q := (none, am_SH, (p44, g))) (s1 := (61, [(0, .ref 0), (1, .int a0), (2, .int a1), (3, .int a2), (4, .ref 2)], [], am_SH, (p44, g))) rfl rfl (by subst Ep44; exact x_forgetPasts_ok (d)  f43 g) ?_
                refine am_Ev.go hcd 1 (s' := (62, [(0, .ref 0), (1, .int a0), (2, .int a1), (3, .int a2), (4, .ref 2)], [.int 1], am_SH, (p44, g))) rfl ?_
                exact am_Ev.cast (a := ((some (.int (am_b (true, p44).1))), am_SH, ((true, p44).2, g))) (by cases h; rfl) (am_Ev.ret hcd rfl)
              · refine am_Ev.t hcd (c := am_b (x_within a2 0 9) = 0) (s1 := (57, [(0, .ref 0), (1, .int a0), (2, .int a1), (3, .int a2), (4, .ref 2)], [], am_SH, (f, g))) rfl (am_b_f c275) ?_
                refine am_Ev.go hcd 1 (s' := (58, [(0, .ref 0), (1, .int a0), (2, .int a1), (3, .int a2), (4, .ref 2)], [.int 0], am_SH, (f, g))) rfl ?_
                exact am_Ev.cast (a := ((some (.int (am_b (false, f).1))), am_SH, ((false, f).2, g))) (by cases h; rfl) (am_Ev.ret hcd rfl)
            · refine am_Ev.t hcd (c := am_b (xc_hasWitness_2 a1 f) = 0) (s1 := (57, [(0, .ref 0), (1, .int a0), (2, .int a1), (3, .int a2), (4, .ref 2)], [], am_SH, (f, g))) rfl (am_b_f c271) ?_
              refine am_Ev.go hcd 1 (s' := (58, [(0, .ref 0), (1, .int a0), (2, .int a1), (3, .int a2), (4, .ref 2)], [.int 0], am_SH, (f, g))) rfl ?_
              exact am_Ev.cast (a := ((some (.int (am_b (false, f).1))), am_SH, ((false, f).2, g))) (by cases h; rfl) (am_Ev.ret hcd rfl)
          · refine am_Ev.f hcd (c := a0 = 2) (s1 := (57, [(0, .ref 0), (1, .int a0), (2, .int a1), (3, .int a2), (4, .ref 2)], [], am_SH, (f, g))) rfl c266 ?_
            refine am_Ev.go hcd 1 (s' := (58, [(0, .ref 0), (1, .int a0), (2, .int a1), (3, .int a2), (4, .ref 2)], [.int 0], am_SH, (f, g))) rfl ?_
            exact am_Ev.cast (a := ((some (.int (am_b (false, f).1))), am_SH, ((false, f).2, g))) (by cases h; rfl) (am_Ev.ret hcd rfl)
      · refine am_Ev.t hcd (c := am_b (xc_hasGlass_2 a1 f) = 0) (s1 := (39, [(0, .ref 0), (1, .int a0), (2, .int a1), (3, .int a2), (4, .ref 2)], [], am_SH, (f, g))) rfl (am_b_f c250) ?_
        refine am_Ev.go hcd 2 (s' := (41, [(0, .ref 0), (1, .int a0), (2, .int a1), (3, .int a2), (4, .ref 2)], [.int 2, .int a0], am_SH, (f, g))) rfl ?_
        rcases am_ite h with ⟨c296, h⟩ | ⟨c296, h⟩
        · refine am_Ev.t hcd (c := a0 = 2) (s1 := (42, [(0, .ref 0), (1, .int a0), (2, .int a1), (3, .int a2), (4, .ref 2)], [], am_SH, (f, g))) rfl c296 ?_
          refine am_Ev.go hcd 2 (s' := (44, [(0, .ref 0), (1, .int a0), (2, .int a1), (3, .int a2), (4, .ref 2)], [.int a1, .ref 2], am_SH, (f, g))) rfl ?_
          refine am_Ev.call hcd (a := 23) (s0 := (0, [(0, .ref 2), (1, .int a1)], [], am_SH, (f, g))) (q := ((some (.int (am_b (xc_hasWitness_2 a1 f)))), am_SH, (f, g))) (s1 := (45, [(0, .ref 0), (1, .int a0), (2, .int a1), (3, .int a2), (4, .ref 2)], [.int (am_b (xc_hasWitness_2 a1 f))], am_SH, (f, g))) rfl rfl (xc_hasWitness_2_ok (d) a1 f g) ?_
          rcases am_ite h with ⟨c301, h⟩ | ⟨c301, h⟩
          · refine am_Ev.f hcd (c := am_b (xc_hasWitness_2 a1 f) = 0) (s1 := (46, [(0, .ref 0), (1, .int a0), (2, .int a1), (3, .int a2), (4, .ref 2)], [], am_SH, (f, g))) rfl (am_b_t c301) ?_
            refine am_Ev.go hcd 3 (s' := (49, [(0, .ref 0), (1, .int a0), (2, .int a1), (3, .int a2), (4, .ref 2)], [.int 9, .int 0, .int a2], am_SH, (f, g))) rfl ?_
            refine am_Ev.call hcd (a := 170) (s0 := (0, [(0, .int a2), (1, .int 0), (2, .int 9)], [], am_SH, (f, g))) (q := ((some (.int (am_b (x_within a2 0 9)))), am_SH, (f, g))) (s1 := (50, [(0, .ref 0), (1, .int a0), (2, .int a1), (3, .int a2), (4, .ref 2)], [.int (am_b (x_within a2 0 9))], am_SH, (f, g))) rfl rfl (x_within_ok (d) a2 0 9 (f, g)) ?_
            rcases am_ite h with ⟨c305, h⟩ | ⟨c305, h⟩
            · refine am_Ev.f hcd (c := am_b (x_within a2 0 9) = 0) (s1 := (51, [(0, .ref 0), (1, .int a0), (2, .int a1), (3, .int a2), (4, .ref 2)], [], am_SH, (f, g))) rfl (am_b_t c305) ?_
              refine am_Ev.go hcd 4 (s' := (55, [(0, .ref 0), (1, .int a0), (2, .int a1), (3, .int a2), (4, .ref 2)], [.int a2, .int a1, .ref 8], am_SH, (f, g))) rfl ?_
              obtain ⟨c307, h⟩ := am_grd h
              obtain ⟨f47, Ef47, h⟩ := am_let_eq h
              refine am_Ev.t hcd (o := none) (c := am_in a1 12 = true) (s1 := (56, [(0, .ref 0), (1, .int a0), (2, .int a1), (3, .int a2), (4, .ref 2)], [], am_SH, (f47, g))) (by subst Ef47; exact rfl) c307 ?_
              refine am_Ev.go hcd 2 (s' := (60, [(0, .ref 0), (1, .int a0), (2, .int a1), (3, .int a2), (4, .ref 2)], [.ref 0], am_SH, (f47, g))) rfl ?_
              obtain ⟨p48, Ep48, h⟩ := am_let_eq h
              refine am_Ev.call hcd (a := 173) (s0 := (0, [(0, .ref 0)], [], am_SH, (f47, g))) (q := (none, am_SH, (p48, g))) (s1 := (61, [(0, .ref 0), (1, .int a0), (2, .int a1), (3, .int a2), (4, .ref 2)], [], am_SH, (p48, g))) rfl rfl (by subst Ep48; exact x_forgetPasts_ok (d)  f47 g) ?_
              refine am_Ev.go hcd 1 (s' := (62, [(0, .ref 0), (1, .int a0), (2, .int a1), (3, .int a2), (4, .ref 2)], [.int 1], am_SH, (p48, g))) rfl ?_
              exact am_Ev.cast (a := ((some (.int (am_b (true, p48).1))), am_SH, ((true, p48).2, g))) (by cases h; rfl) (am_Ev.ret hcd rfl)
            · refine am_Ev.t hcd (c := am_b (x_within a2 0 9) = 0) (s1 := (57, [(0, .ref 0), (1, .int a0), (2, .int a1), (3, .int a2), (4, .ref 2)], [], am_SH, (f, g))) rfl (am_b_f c305) ?_
              refine am_Ev.go hcd 1 (s' := (58, [(0, .ref 0), (1, .int a0), (2, .int a1), (3, .int a2), (4, .ref 2)], [.int 0], am_SH, (f, g))) rfl ?_
              exact am_Ev.cast (a := ((some (.int (am_b (false, f).1))), am_SH, ((false, f).2, g))) (by cases h; rfl) (am_Ev.ret hcd rfl)
          · refine am_Ev.t hcd (c := am_b (xc_hasWitness_2 a1 f) = 0) (s1 := (57, [(0, .ref 0), (1, .int a0), (2, .int a1), (3, .int a2), (4, .ref 2)], [], am_SH, (f, g))) rfl (am_b_f c301) ?_
            refine am_Ev.go hcd 1 (s' := (58, [(0, .ref 0), (1, .int a0), (2, .int a1), (3, .int a2), (4, .ref 2)], [.int 0], am_SH, (f, g))) rfl ?_
            exact am_Ev.cast (a := ((some (.int (am_b (false, f).1))), am_SH, ((false, f).2, g))) (by cases h; rfl) (am_Ev.ret hcd rfl)
        · refine am_Ev.f hcd (c := a0 = 2) (s1 := (57, [(0, .ref 0), (1, .int a0), (2, .int a1), (3, .int a2), (4, .ref 2)], [], am_SH, (f, g))) rfl c296 ?_
          refine am_Ev.go hcd 1 (s' := (58, [(0, .ref 0), (1, .int a0), (2, .int a1), (3, .int a2), (4, .ref 2)], [.int 0], am_SH, (f, g))) rfl ?_
          exact am_Ev.cast (a := ((some (.int (am_b (false, f).1))), am_SH, ((false, f).2, g))) (by cases h; rfl) (am_Ev.ret hcd rfl)
    · refine am_Ev.f hcd (c := a0 = 1) (s1 := (39, [(0, .ref 0), (1, .int a0), (2, .int a1), (3, .int a2), (4, .ref 2)], [], am_SH, (f, g))) rfl c245 ?_
      refine am_Ev.go hcd 2 (s' := (41, [(0, .ref 0), (1, .int a0), (2, .int a1), (3, .int a2), (4, .ref 2)], [.int 2, .int a0], am_SH, (f, g))) rfl ?_
      rcases am_ite h with ⟨c326, h⟩ | ⟨c326, h⟩
      · refine am_Ev.t hcd (c := a0 = 2) (s1 := (42, [(0, .ref 0), (1, .int a0), (2, .int a1), (3, .int a2), (4, .ref 2)], [], am_SH, (f, g))) rfl c326 ?_
        refine am_Ev.go hcd 2 (s' := (44, [(0, .ref 0), (1, .int a0), (2, .int a1), (3, .int a2), (4, .ref 2)], [.int a1, .ref 2], am_SH, (f, g))) rfl ?_
        refine am_Ev.call hcd (a := 23) (s0 := (0, [(0, .ref 2), (1, .int a1)], [], am_SH, (f, g))) (q := ((some (.int (am_b (xc_hasWitness_2 a1 f)))), am_SH, (f, g))) (s1 := (45, [(0, .ref 0), (1, .int a0), (2, .int a1), (3, .int a2), (4, .ref 2)], [.int (am_b (xc_hasWitness_2 a1 f))], am_SH, (f, g))) rfl rfl (xc_hasWitness_2_ok (d) a1 f g) ?_
        rcases am_ite h with ⟨c331, h⟩ | ⟨c331, h⟩
        · refine am_Ev.f hcd (c := am_b (xc_hasWitness_2 a1 f) = 0) (s1 := (46, [(0, .ref 0), (1, .int a0), (2, .int a1), (3, .int a2), (4, .ref 2)], [], am_SH, (f, g))) rfl (am_b_t c331) ?_
          refine am_Ev.go hcd 3 (s' := (49, [(0, .ref 0), (1, .int a0), (2, .int a1), (3, .int a2), (4, .ref 2)], [.int 9, .int 0, .int a2], am_SH, (f, g))) rfl ?_
          refine am_Ev.call hcd (a := 170) (s0 := (0, [(0, .int a2), (1, .int 0), (2, .int 9)], [], am_SH, (f, g))) (q := ((some (.int (am_b (x_within a2 0 9)))), am_SH, (f, g))) (s1 := (50, [(0, .ref 0), (1, .int a0), (2, .int a1), (3, .int a2), (4, .ref 2)], [.int (am_b (x_within a2 0 9))], am_SH, (f, g))) rfl rfl (x_within_ok (d) a2 0 9 (f, g)) ?_
          rcases am_ite h with ⟨c335, h⟩ | ⟨c335, h⟩
          · refine am_Ev.f hcd (c := am_b (x_within a2 0 9) = 0) (s1 := (51, [(0, .ref 0), (1, .int a0), (2, .int a1), (3, .int a2), (4, .ref 2)], [], am_SH, (f, g))) rfl (am_b_t c335) ?_
            refine am_Ev.go hcd 4 (s' := (55, [(0, .ref 0), (1, .int a0), (2, .int a1), (3, .int a2), (4, .ref 2)], [.int a2, .int a1, .ref 8], am_SH, (f, g))) rfl ?_
            obtain ⟨c337, h⟩ := am_grd h
            obtain ⟨f51, Ef51, h⟩ := am_let_eq h
            refine am_Ev.t hcd (o := none) (c := am_in a1 12 = true) (s1 := (56, [(0, .ref 0), (1, .int a0), (2, .int a1), (3, .int a2), (4, .ref 2)], [], am_SH, (f51, g))) (by subst Ef51; exact rfl) c337 ?_
            refine am_Ev.go hcd 2 (s' := (60, [(0, .ref 0), (1, .int a0), (2, .int a1), (3, .int a2), (4, .ref 2)], [.ref 0], am_SH, (f51, g))) rfl ?_
            obtain ⟨p52, Ep52, h⟩ := am_let_eq h
            refine am_Ev.call hcd (a := 173) (s0 := (0, [(0, .ref 0)], [], am_SH, (f51, g))) (q := (none, am_SH, (p52, g))) (s1 := (61, [(0, .ref 0), (1, .int a0), (2, .int a1), (3, .int a2), (4, .ref 2)], [], am_SH, (p52, g))) rfl rfl (by subst Ep52; exact x_forgetPasts_ok (d)  f51 g) ?_
            refine am_Ev.go hcd 1 (s' := (62, [(0, .ref 0), (1, .int a0), (2, .int a1), (3, .int a2), (4, .ref 2)], [.int 1], am_SH, (p52, g))) rfl ?_
            exact am_Ev.cast (a := ((some (.int (am_b (true, p52).1))), am_SH, ((true, p52).2, g))) (by cases h; rfl) (am_Ev.ret hcd rfl)
          · refine am_Ev.t hcd (c := am_b (x_within a2 0 9) = 0) (s1 := (57, [(0, .ref 0), (1, .int a0), (2, .int a1), (3, .int a2), (4, .ref 2)], [], am_SH, (f, g))) rfl (am_b_f c335) ?_
            refine am_Ev.go hcd 1 (s' := (58, [(0, .ref 0), (1, .int a0), (2, .int a1), (3, .int a2), (4, .ref 2)], [.int 0], am_SH, (f, g))) rfl ?_
            exact am_Ev.cast (a := ((some (.int (am_b (false, f).1))), am_SH, ((false, f).2, g))) (by cases h; rfl) (am_Ev.ret hcd rfl)
        · refine am_Ev.t hcd (c := am_b (xc_hasWitness_2 a1 f) = 0) (s1 := (57, [(0, .ref 0), (1, .int a0), (2, .int a1), (3, .int a2), (4, .ref 2)], [], am_SH, (f, g))) rfl (am_b_f c331) ?_
          refine am_Ev.go hcd 1 (s' := (58, [(0, .ref 0), (1, .int a0), (2, .int a1), (3, .int a2), (4, .ref 2)], [.int 0], am_SH, (f, g))) rfl ?_
          exact am_Ev.cast (a := ((some (.int (am_b (false, f).1))), am_SH, ((false, f).2, g))) (by cases h; rfl) (am_Ev.ret hcd rfl)
      · refine am_Ev.f hcd (c := a0 = 2) (s1 := (57, [(0, .ref 0), (1, .int a0), (2, .int a1), (3, .int a2), (4, .ref 2)], [], am_SH, (f, g))) rfl c326 ?_
        refine am_Ev.go hcd 1 (s' := (58, [(0, .ref 0), (1, .int a0), (2, .int a1), (3, .int a2), (4, .ref 2)], [.int 0], am_SH, (f, g))) rfl ?_
        exact am_Ev.cast (a := ((some (.int (am_b (false, f).1))), am_SH, ((false, f).2, g))) (by cases h; rfl) (am_Ev.ret hcd rfl)
