set_option maxRecDepth 100000 in
set_option maxHeartbeats 4000000 in
theorem xr_takeFrom_30_84_ok {sc : Nat × (Nat → Int32)} (d : Nat)  (f g : (Nat → Nat → Int32)) : am_Ev sc (d + 1) 88 (0, [(0, .ref 30), (1, .ref 84)], [], am_SH, (f, g)) (none, am_SH, ((xr_takeFrom_30_84  f), g)) := by
  have hcd : am_code 88 = am_c88 := rfl
  obtain ⟨r, h⟩ : ∃ r, r = xr_takeFrom_30_84  f := ⟨_, rfl⟩
  rw [← h]
  unfold xr_takeFrom_30_84 at h
  obtain ⟨f1, Ef1, h⟩ := am_let_eq' h
  refine am_Ev.go hcd 4 (s' := (4, [(0, .ref 30), (1, .ref 84)], [], am_SH, (f1, g))) (by subst Ef1; exact rfl) ?_
  refine am_Ev.go hcd 9 (s' := (13, [(0, .ref 30), (1, .ref 84)], [.int (nI 6), .int 0, .ref 31, .int 0, .ref 85], am_SH, (f1, g))) rfl ?_
  obtain ⟨f2, Ef2, h⟩ := am_let_eq' h
  refine am_Ev.jdk hcd (s1 := (14, [(0, .ref 30), (1, .ref 84)], [], am_SH, (f2, g))) (by subst Ef2; exact rfl) ?_
  refine am_Ev.go hcd 9 (s' := (23, [(0, .ref 30), (1, .ref 84)], [.int (nI 6), .int 0, .ref 32, .int 0, .ref 86], am_SH, (f2, g))) rfl ?_
  obtain ⟨f3, Ef3, h⟩ := am_let_eq' h
  refine am_Ev.jdk hcd (s1 := (24, [(0, .ref 30), (1, .ref 84)], [], am_SH, (f3, g))) (by subst Ef3; exact rfl) ?_
  exact am_Ev.cast (a := (none, am_SH, (f3, g))) (by subst h; rfl) (am_Ev.ret hcd rfl)
set_option maxRecDepth 100000 in
set_option maxHeartbeats 4000000 in
theorem xr_takeFrom_33_87_ok {sc : Nat × (Nat → Int32)} (d : Nat)  (f g : (Nat → Nat → Int32)) : am_Ev sc (d + 1) 88 (0, [(0, .ref 33), (1, .ref 87)], [], am_SH, (f, g)) (none, am_SH, ((xr_takeFrom_33_87  f), g)) := by
  have hcd : am_code 88 = am_c88 := rfl
  obtain ⟨r, h⟩ : ∃ r, r = xr_takeFrom_33_87  f := ⟨_, rfl⟩
  rw [← h]
  unfold xr_takeFrom_33_87 at h
  obtain ⟨f1, Ef1, h⟩ := am_let_eq' h
  refine am_Ev.go hcd 4 (s' := (4, [(0, .ref 33), (1, .ref 87)], [], am_SH, (f1, g))) (by subst Ef1; exact rfl) ?_
  refine am_Ev.go hcd 9 (s' := (13, [(0, .ref 33), (1, .ref 87)], [.int (nI 4), .int 0, .ref 34, .int 0, .ref 88], am_SH, (f1, g))) rfl ?_
  obtain ⟨f2, Ef2, h⟩ := am_let_eq' h
  refine am_Ev.jdk hcd (s1 := (14, [(0, .ref 33), (1, .ref 87)], [], am_SH, (f2, g))) (by subst Ef2; exact rfl) ?_
  refine am_Ev.go hcd 9 (s' := (23, [(0, .ref 33), (1, .ref 87)], [.int (nI 4), .int 0, .ref 35, .int 0, .ref 89], am_SH, (f2, g))) rfl ?_
  obtain ⟨f3, Ef3, h⟩ := am_let_eq' h
  refine am_Ev.jdk hcd (s1 := (24, [(0, .ref 33), (1, .ref 87)], [], am_SH, (f3, g))) (by subst Ef3; exact rfl) ?_
  exact am_Ev.cast (a := (none, am_SH, (f3, g))) (by subst h; rfl) (am_Ev.ret hcd rfl)
set_option maxRecDepth 100000 in
set_option maxHeartbeats 4000000 in
theorem xr_takeFrom_36_90_ok {sc : Nat × (Nat → Int32)} (d : Nat)  (f g : (Nat → Nat → Int32)) : am_Ev sc (d + 1) 88 (0, [(0, .ref 36), (1, .ref 90)], [], am_SH, (f, g)) (none, am_SH, ((xr_takeFrom_36_90  f), g)) := by
  have hcd : am_code 88 = am_c88 := rfl
  obtain ⟨r, h⟩ : ∃ r, r = xr_takeFrom_36_90  f := ⟨_, rfl⟩
  rw [← h]
  unfold xr_takeFrom_36_90 at h
  obtain ⟨f1, Ef1, h⟩ := am_let_eq' h
  refine am_Ev.go hcd 4 (s' := (4, [(0, .ref 36), (1, .ref 90)], [], am_SH, (f1, g))) (by subst Ef1; exact rfl) ?_
  refine am_Ev.go hcd 9 (s' := (13, [(0, .ref 36), (1, .ref 90)], [.int (nI 6), .int 0, .ref 37, .int 0, .ref 91], am_SH, (f1, g))) rfl ?_
  obtain ⟨f2, Ef2, h⟩ := am_let_eq' h
  refine am_Ev.jdk hcd (s1 := (14, [(0, .ref 36), (1, .ref 90)], [], am_SH, (f2, g))) (by subst Ef2; exact rfl) ?_
  refine am_Ev.go hcd 9 (s' := (23, [(0, .ref 36), (1, .ref 90)], [.int (nI 6), .int 0, .ref 38, .int 0, .ref 92], am_SH, (f2, g))) rfl ?_
  obtain ⟨f3, Ef3, h⟩ := am_let_eq' h
  refine am_Ev.jdk hcd (s1 := (24, [(0, .ref 36), (1, .ref 90)], [], am_SH, (f3, g))) (by subst Ef3; exact rfl) ?_
  exact am_Ev.cast (a := (none, am_SH, (f3, g))) (by subst h; rfl) (am_Ev.ret hcd rfl)
set_option maxRecDepth 100000 in
set_option maxHeartbeats 4000000 in
theorem xr_takeFrom_39_93_ok {sc : Nat × (Nat → Int32)} (d : Nat)  (f g : (Nat → Nat → Int32)) : am_Ev sc (d + 1) 88 (0, [(0, .ref 39), (1, .ref 93)], [], am_SH, (f, g)) (none, am_SH, ((xr_takeFrom_39_93  f), g)) := by
  have hcd : am_code 88 = am_c88 := rfl
  obtain ⟨r, h⟩ : ∃ r, r = xr_takeFrom_39_93  f := ⟨_, rfl⟩
  rw [← h]
  unfold xr_takeFrom_39_93 at h
  obtain ⟨f1, Ef1, h⟩ := am_let_eq' h
  refine am_Ev.go hcd 4 (s' := (4, [(0, .ref 39), (1, .ref 93)], [], am_SH, (f1, g))) (by subst Ef1; exact rfl) ?_
  refine am_Ev.go hcd 9 (s' := (13, [(0, .ref 39), (1, .ref 93)], [.int (nI 4), .int 0, .ref 40, .int 0, .ref 94], am_SH, (f1, g))) rfl ?_
  obtain ⟨f2, Ef2, h⟩ := am_let_eq' h
  refine am_Ev.jdk hcd (s1 := (14, [(0, .ref 39), (1, .ref 93)], [], am_SH, (f2, g))) (by subst Ef2; exact rfl) ?_
  refine am_Ev.go hcd 9 (s' := (23, [(0, .ref 39), (1, .ref 93)], [.int (nI 4), .int 0, .ref 41, .int 0, .ref 95], am_SH, (f2, g))) rfl ?_
  obtain ⟨f3, Ef3, h⟩ := am_let_eq' h
  refine am_Ev.jdk hcd (s1 := (24, [(0, .ref 39), (1, .ref 93)], [], am_SH, (f3, g))) (by subst Ef3; exact rfl) ?_
  exact am_Ev.cast (a := (none, am_SH, (f3, g))) (by subst h; rfl) (am_Ev.ret hcd rfl)
set_option maxRecDepth 100000 in
set_option maxHeartbeats 4000000 in
theorem xr_takeFrom_42_96_ok {sc : Nat × (Nat → Int32)} (d : Nat)  (f g : (Nat → Nat → Int32)) : am_Ev sc (d + 1) 88 (0, [(0, .ref 42), (1, .ref 96)], [], am_SH, (f, g)) (none, am_SH, ((xr_takeFrom_42_96  f), g)) := by
  have hcd : am_code 88 = am_c88 := rfl
  obtain ⟨r, h⟩ : ∃ r, r = xr_takeFrom_42_96  f := ⟨_, rfl⟩
  rw [← h]
  unfold xr_takeFrom_42_96 at h
  obtain ⟨f1, Ef1, h⟩ := am_let_eq' h
  refine am_Ev.go hcd 4 (s' := (4, [(0, .ref 42), (1, .ref 96)], [], am_SH, (f1, g))) (by subst Ef1; exact rfl) ?_
  refine am_Ev.go hcd 9 (s' := (13, [(0, .ref 42), (1, .ref 96)], [.int (nI 8), .int 0, .ref 43, .int 0, .ref 97], am_SH, (f1, g))) rfl ?_
  obtain ⟨f2, Ef2, h⟩ := am_let_eq' h
  refine am_Ev.jdk hcd (s1 := (14, [(0, .ref 42), (1, .ref 96)], [], am_SH, (f2, g))) (by subst Ef2; exact rfl) ?_
  refine am_Ev.go hcd 9 (s' := (23, [(0, .ref 42), (1, .ref 96)], [.int (nI 8), .int 0, .ref 44, .int 0, .ref 98], am_SH, (f2, g))) rfl ?_
  obtain ⟨f3, Ef3, h⟩ := am_let_eq' h
  refine am_Ev.jdk hcd (s1 := (24, [(0, .ref 42), (1, .ref 96)], [], am_SH, (f3, g))) (by subst Ef3; exact rfl) ?_
  exact am_Ev.cast (a := (none, am_SH, (f3, g))) (by subst h; rfl) (am_Ev.ret hcd rfl)
set_option maxRecDepth 100000 in
set_option maxHeartbeats 4000000 in
theorem xr_takeFrom_45_99_ok {sc : Nat × (Nat → Int32)} (d : Nat)  (f g : (Nat → Nat → Int32)) : am_Ev sc (d + 1) 88 (0, [(0, .ref 45), (1, .ref 99)], [], am_SH, (f, g)) (none, am_SH, ((xr_takeFrom_45_99  f), g)) := by
  have hcd : am_code 88 = am_c88 := rfl
  obtain ⟨r, h⟩ : ∃ r, r = xr_takeFrom_45_99  f := ⟨_, rfl⟩
  rw [← h]
  unfold xr_takeFrom_45_99 at h
  obtain ⟨f1, Ef1, h⟩ := am_let_eq' h
  refine am_Ev.go hcd 4 (s' := (4, [(0, .ref 45), (1, .ref 99)], [], am_SH, (f1, g))) (by subst Ef1; exact rfl) ?_
  refine am_Ev.go hcd 9 (s' := (13, [(0, .ref 45), (1, .ref 99)], [.int (nI 24), .int 0, .ref 46, .int 0, .ref 100], am_SH, (f1, g))) rfl ?_
  obtain ⟨f2, Ef2, h⟩ := am_let_eq' h
  refine am_Ev.jdk hcd (s1 := (14, [(0, .ref 45), (1, .ref 99)], [], am_SH, (f2, g))) (by subst Ef2; exact rfl) ?_
  refine am_Ev.go hcd 9 (s' := (23, [(0, .ref 45), (1, .ref 99)], [.int (nI 24), .int 0, .ref 47, .int 0, .ref 101], am_SH, (f2, g))) rfl ?_
  obtain ⟨f3, Ef3, h⟩ := am_let_eq' h
  refine am_Ev.jdk hcd (s1 := (24, [(0, .ref 45), (1, .ref 99)], [], am_SH, (f3, g))) (by subst Ef3; exact rfl) ?_
  exact am_Ev.cast (a := (none, am_SH, (f3, g))) (by subst h; rfl) (am_Ev.ret hcd rfl)
set_option maxRecDepth 100000 in
set_option maxHeartbeats 4000000 in
theorem xr_takeFrom_48_102_ok {sc : Nat × (Nat → Int32)} (d : Nat)  (f g : (Nat → Nat → Int32)) : am_Ev sc (d + 1) 88 (0, [(0, .ref 48), (1, .ref 102)], [], am_SH, (f, g)) (none, am_SH, ((xr_takeFrom_48_102  f), g)) := by
  have hcd : am_code 88 = am_c88 := rfl
  obtain ⟨r, h⟩ : ∃ r, r = xr_takeFrom_48_102  f := ⟨_, rfl⟩
  rw [← h]
  unfold xr_takeFrom_48_102 at h
  obtain ⟨f1, Ef1, h⟩ := am_let_eq' h
  refine am_Ev.go hcd 4 (s' := (4, [(0, .ref 48), (1, .ref 102)], [], am_SH, (f1, g))) (by subst Ef1; exact rfl) ?_
  refine am_Ev.go hcd 9 (s' := (13, [(0, .ref 48), (1, .ref 102)], [.int (nI 8), .int 0, .ref 49, .int 0, .ref 103], am_SH, (f1, g))) rfl ?_
  obtain ⟨f2, Ef2, h⟩ := am_let_eq' h
  refine am_Ev.jdk hcd (s1 := (14, [(0, .ref 48), (1, .ref 102)], [], am_SH, (f2, g))) (by subst Ef2; exact rfl) ?_
  refine am_Ev.go hcd 9 (s' := (23, [(0, .ref 48), (1, .ref 102)], [.int (nI 8), .int 0, .ref 50, .int 0, .ref 104], am_SH, (f2, g))) rfl ?_
  obtain ⟨f3, Ef3, h⟩ := am_let_eq' h
  refine am_Ev.jdk hcd (s1 := (24, [(0, .ref 48), (1, .ref 102)], [], am_SH, (f3, g))) (by subst Ef3; exact rfl) ?_
  exact am_Ev.cast (a := (none, am_SH, (f3, g))) (by subst h; rfl) (am_Ev.ret hcd rfl)
set_option maxRecDepth 100000 in
set_option maxHeartbeats 4000000 in
theorem xr_takeFrom_51_105_ok {sc : Nat × (Nat → Int32)} (d : Nat)  (f g : (Nat → Nat → Int32)) : am_Ev sc (d + 1) 88 (0, [(0, .ref 51), (1, .ref 105)], [], am_SH, (f, g)) (none, am_SH, ((xr_takeFrom_51_105  f), g)) := by
  have hcd : am_code 88 = am_c88 := rfl
  obtain ⟨r, h⟩ : ∃ r, r = xr_takeFrom_51_105  f := ⟨_, rfl⟩
  rw [← h]
  unfold xr_takeFrom_51_105 at h
  obtain ⟨f1, Ef1, h⟩ := am_let_eq' h
  refine am_Ev.go hcd 4 (s' := (4, [(0, .ref 51), (1, .ref 105)], [], am_SH, (f1, g))) (by subst Ef1; exact rfl) ?_
  refine am_Ev.go hcd 9 (s' := (13, [(0, .ref 51), (1, .ref 105)], [.int (nI 8), .int 0, .ref 52, .int 0, .ref 106], am_SH, (f1, g))) rfl ?_
  obtain ⟨f2, Ef2, h⟩ := am_let_eq' h
  refine am_Ev.jdk hcd (s1 := (14, [(0, .ref 51), (1, .ref 105)], [], am_SH, (f2, g))) (by subst Ef2; exact rfl) ?_
  refine am_Ev.go hcd 9 (s' := (23, [(0, .ref 51), (1, .ref 105)], [.int (nI 8), .int 0, .ref 53, .int 0, .ref 107], am_SH, (f2, g))) rfl ?_
  obtain ⟨f3, Ef3, h⟩ := am_let_eq' h
  refine am_Ev.jdk hcd (s1 := (24, [(0, .ref 51), (1, .ref 105)], [], am_SH, (f3, g))) (by subst Ef3; exact rfl) ?_
  exact am_Ev.cast (a := (none, am_SH, (f3, g))) (by subst h; rfl) (am_Ev.ret hcd rfl)
set_option maxRecDepth 100000 in
set_option maxHeartbeats 4000000 in
theorem xo_takeFrom_1_55_ok {sc : Nat × (Nat → Int32)} (d : Nat)  (f g : (Nat → Nat → Int32)) : am_Ev sc (d + 2) 125 (0, [(0, .ref 1), (1, .ref 55)], [], am_SH, (f, g)) (none, am_SH, ((xo_takeFrom_1_55  f), g)) := by
  have hcd : am_code 125 = am_c125 := rfl
  obtain ⟨r, h⟩ : ∃ r, r = xo_takeFrom_1_55  f := ⟨_, rfl⟩
  rw [← h]
  unfold xo_takeFrom_1_55 at h
  refine am_Ev.go hcd 4 (s' := (4, [(0, .ref 1), (1, .ref 55)], [.ref 56, .ref 2], am_SH, (f, g))) rfl ?_
  obtain ⟨p1, Ep1, h⟩ := am_let_eq' h
  refine am_Ev.call hcd (a := 30) (s0 := (0, [(0, .ref 2), (1, .ref 56)], [], am_SH, (f, g))) (q := (none, am_SH, (p1, g))) (s1 := (5, [(0, .ref 1), (1, .ref 55)], [], am_SH, (p1, g))) rfl rfl (by subst Ep1; exact xc_takeFrom_2_56_ok (d)  f g) ?_
  refine am_Ev.go hcd 4 (s' := (9, [(0, .ref 1), (1, .ref 55)], [.ref 66, .ref 12], am_SH, (p1, g))) rfl ?_
  obtain ⟨p2, Ep2, h⟩ := am_let_eq' h
  refine am_Ev.call hcd (a := 20) (s0 := (0, [(0, .ref 12), (1, .ref 66)], [], am_SH, (p1, g))) (q := (none, am_SH, (p2, g))) (s1 := (10, [(0, .ref 1), (1, .ref 55)], [], am_SH, (p2, g))) rfl rfl (by subst Ep2; exact xk_takeFrom_12_66_ok (d)  p1 g) ?_
  refine am_Ev.go hcd 4 (s' := (14, [(0, .ref 1), (1, .ref 55)], [.ref 68, .ref 14], am_SH, (p2, g))) rfl ?_
  obtain ⟨p3, Ep3, h⟩ := am_let_eq' h
  refine am_Ev.call hcd (a := 33) (s0 := (0, [(0, .ref 14), (1, .ref 68)], [], am_SH, (p2, g))) (q := (none, am_SH, (p3, g))) (s1 := (15, [(0, .ref 1), (1, .ref 55)], [], am_SH, (p3, g))) rfl rfl (by subst Ep3; exact xl_takeFrom_14_68_ok (d)  p2 g) ?_
  refine am_Ev.go hcd 4 (s' := (19, [(0, .ref 1), (1, .ref 55)], [.ref 74, .ref 20], am_SH, (p3, g))) rfl ?_
  obtain ⟨p4, Ep4, h⟩ := am_let_eq' h
  refine am_Ev.call hcd (a := 123) (s0 := (0, [(0, .ref 20), (1, .ref 74)], [], am_SH, (p3, g))) (q := (none, am_SH, (p4, g))) (s1 := (20, [(0, .ref 1), (1, .ref 55)], [], am_SH, (p4, g))) rfl rfl (by subst Ep4; exact xw_takeFrom_20_74_ok (d)  p3 g) ?_
  refine am_Ev.go hcd 4 (s' := (24, [(0, .ref 1), (1, .ref 55)], [.ref 79, .ref 25], am_SH, (p4, g))) rfl ?_
  obtain ⟨p5, Ep5, h⟩ := am_let_eq' h
  refine am_Ev.call hcd (a := 83) (s0 := (0, [(0, .ref 25), (1, .ref 79)], [], am_SH, (p4, g))) (q := (none, am_SH, (p5, g))) (s1 := (25, [(0, .ref 1), (1, .ref 55)], [], am_SH, (p5, g))) rfl rfl (by subst Ep5; exact xn_takeFrom_25_79_ok (d)  p4 g) ?_
  refine am_Ev.go hcd 4 (s' := (29, [(0, .ref 1), (1, .ref 55)], [.ref 81, .ref 27], am_SH, (p5, g))) rfl ?_
  obtain ⟨p6, Ep6, h⟩ := am_let_eq' h
  refine am_Ev.call hcd (a := 88) (s0 := (0, [(0, .ref 27), (1, .ref 81)], [], am_SH, (p5, g))) (q := (none, am_SH, (p6, g))) (s1 := (30, [(0, .ref 1), (1, .ref 55)], [], am_SH, (p6, g))) rfl rfl (by subst Ep6; exact xr_takeFrom_27_81_ok (d)  p5 g) ?_
  refine am_Ev.go hcd 4 (s' := (34, [(0, .ref 1), (1, .ref 55)], [.ref 84, .ref 30], am_SH, (p6, g))) rfl ?_
  obtain ⟨p7, Ep7, h⟩ := am_let_eq' h
  refine am_Ev.call hcd (a := 88) (s0 := (0, [(0, .ref 30), (1, .ref 84)], [], am_SH, (p6, g))) (q := (none, am_SH, (p7, g))) (s1 := (35, [(0, .ref 1), (1, .ref 55)], [], am_SH, (p7, g))) rfl rfl (by subst Ep7; exact xr_takeFrom_30_84_ok (d)  p6 g) ?_
  refine am_Ev.go hcd 4 (s' := (39, [(0, .ref 1), (1, .ref 55)], [.ref 87, .ref 33], am_SH, (p7, g))) rfl ?_
  obtain ⟨p8, Ep8, h⟩ := am_let_eq' h
  refine am_Ev.call hcd (a := 88) (s0 := (0, [(0, .ref 33), (1, .ref 87)], [], am_SH, (p7, g))) (q := (none, am_SH, (p8, g))) (s1 := (40, [(0, .ref 1), (1, .ref 55)], [], am_SH, (p8, g))) rfl rfl (by subst Ep8; exact xr_takeFrom_33_87_ok (d)  p7 g) ?_
  refine am_Ev.go hcd 4 (s' := (44, [(0, .ref 1), (1, .ref 55)], [.ref 90, .ref 36], am_SH, (p8, g))) rfl ?_
  obtain ⟨p9, Ep9, h⟩ := am_let_eq' h
  refine am_Ev.call hcd (a := 88) (s0 := (0, [(0, .ref 36), (1, .ref 90)], [], am_SH, (p8, g))) (q := (none, am_SH, (p9, g))) (s1 := (45, [(0, .ref 1), (1, .ref 55)], [], am_SH, (p9, g))) rfl rfl (by subst Ep9; exact xr_takeFrom_36_90_ok (d)  p8 g) ?_
  refine am_Ev.go hcd 4 (s' := (49, [(0, .ref 1), (1, .ref 55)], [.ref 93, .ref 39], am_SH, (p9, g))) rfl ?_
  obtain ⟨p10, Ep10, h⟩ := am_let_eq' h
  refine am_Ev.call hcd (a := 88) (s0 := (0, [(0, .ref 39), (1, .ref 93)], [], am_SH, (p9, g))) (q := (none, am_SH, (p10, g))) (s1 := (50, [(0, .ref 1), (1, .ref 55)], [], am_SH, (p10, g))) rfl rfl (by subst Ep10; exact xr_takeFrom_39_93_ok (d)  p9 g) ?_
  refine am_Ev.go hcd 4 (s' := (54, [(0, .ref 1), (1, .ref 55)], [.ref 96, .ref 42], am_SH, (p10, g))) rfl ?_
  obtain ⟨p11, Ep11, h⟩ := am_let_eq' h
  refine am_Ev.call hcd (a := 88) (s0 := (0, [(0, .ref 42), (1, .ref 96)], [], am_SH, (p10, g))) (q := (none, am_SH, (p11, g))) (s1 := (55, [(0, .ref 1), (1, .ref 55)], [], am_SH, (p11, g))) rfl rfl (by subst Ep11; exact xr_takeFrom_42_96_ok (d)  p10 g) ?_
  refine am_Ev.go hcd 4 (s' := (59, [(0, .ref 1), (1, .ref 55)], [.ref 99, .ref 45], am_SH, (p11, g))) rfl ?_
  obtain ⟨p12, Ep12, h⟩ := am_let_eq' h
  refine am_Ev.call hcd (a := 88) (s0 := (0, [(0, .ref 45), (1, .ref 99)], [], am_SH, (p11, g))) (q := (none, am_SH, (p12, g))) (s1 := (60, [(0, .ref 1), (1, .ref 55)], [], am_SH, (p12, g))) rfl rfl (by subst Ep12; exact xr_takeFrom_45_99_ok (d)  p11 g) ?_
  refine am_Ev.go hcd 4 (s' := (64, [(0, .ref 1), (1, .ref 55)], [.ref 102, .ref 48], am_SH, (p12, g))) rfl ?_
  obtain ⟨p13, Ep13, h⟩ := am_let_eq' h
  refine am_Ev.call hcd (a := 88) (s0 := (0, [(0, .ref 48), (1, .ref 102)], [], am_SH, (p12, g))) (q := (none, am_SH, (p13, g))) (s1 := (65, [(0, .ref 1), (1, .ref 55)], [], am_SH, (p13, g))) rfl rfl (by subst Ep13; exact xr_takeFrom_48_102_ok (d)  p12 g) ?_
  refine am_Ev.go hcd 4 (s' := (69, [(0, .ref 1), (1, .ref 55)], [.ref 105, .ref 51], am_SH, (p13, g))) rfl ?_
  obtain ⟨p14, Ep14, h⟩ := am_let_eq' h
  refine am_Ev.call hcd (a := 88) (s0 := (0, [(0, .ref 51), (1, .ref 105)], [], am_SH, (p13, g))) (q := (none, am_SH, (p14, g))) (s1 := (70, [(0, .ref 1), (1, .ref 55)], [], am_SH, (p14, g))) rfl rfl (by subst Ep14; exact xr_takeFrom_51_105_ok (d)  p13 g) ?_
  refine am_Ev.go hcd 9 (s' := (79, [(0, .ref 1), (1, .ref 55)], [.int (nI 8), .int 0, .ref 54, .int 0, .ref 108], am_SH, (p14, g))) rfl ?_
  obtain ⟨f15, Ef15, h⟩ := am_let_eq' h
  refine am_Ev.jdk hcd (s1 := (80, [(0, .ref 1), (1, .ref 55)], [], am_SH, (f15, g))) (by subst Ef15; exact rfl) ?_
  exact am_Ev.cast (a := (none, am_SH, (f15, g))) (by subst h; rfl) (am_Ev.ret hcd rfl)
set_option maxRecDepth 100000 in
set_option maxHeartbeats 4000000 in
theorem x_image_ok {sc : Nat × (Nat → Int32)} (d : Nat) (a0 : Bool) (f g : (Nat → Nat → Int32)) : am_Ev sc (d + 3) 168 (0, [(0, .ref 0), (1, .int (am_b a0))], [], am_SH, (f, g)) ((some (.int (am_b (x_image a0 f).1))), am_SH, ((x_image a0 f).2, g)) := by
  have hcd : am_code 168 = am_c168 := rfl
  obtain ⟨r, h⟩ : ∃ r, r = x_image a0 f := ⟨_, rfl⟩
  rw [← h]
  unfold x_image at h
  refine am_Ev.go hcd 1 (s' := (1, [(0, .ref 0), (1, .int (am_b a0))], [.int (am_b a0)], am_SH, (f, g))) rfl ?_
  rcases am_itv h with ⟨c4, h⟩ | ⟨c4, h⟩
  · refine am_Ev.f hcd (c := am_b a0 = 0) (s1 := (2, [(0, .ref 0), (1, .int (am_b a0))], [], am_SH, (f, g))) rfl (am_b_t c4) ?_
    refine am_Ev.go hcd 4 (s' := (6, [(0, .ref 0), (1, .int (am_b a0))], [.ref 1, .ref 55], am_SH, (f, g))) rfl ?_
    obtain ⟨p1, Ep1, h⟩ := am_let_eq' h
    refine am_Ev.call hcd (a := 125) (s0 := (0, [(0, .ref 55), (1, .ref 1)], [], am_SH, (f, g))) (q := (none, am_SH, (p1, g))) (s1 := (7, [(0, .ref 0), (1, .int (am_b a0))], [], am_SH, (p1, g))) rfl rfl (by subst Ep1; exact xo_takeFrom_55_1_ok (d)  f g) ?_
    obtain ⟨f2, Ef2, h⟩ := am_let_eq' h
    refine am_Ev.go hcd 3 (s' := (10, [(0, .ref 0), (1, .int (am_b a0))], [], am_SH, (f2, g))) (by subst Ef2; exact rfl) ?_
    refine am_Ev.go hcd 1 (s' := (11, [(0, .ref 0), (1, .int (am_b a0))], [.int 1], am_SH, (f2, g))) rfl ?_
    exact am_Ev.cast (a := ((some (.int (am_b (true, f2).1))), am_SH, ((true, f2).2, g))) (by subst h; rfl) (am_Ev.ret hcd rfl)
  · refine am_Ev.t hcd (c := am_b a0 = 0) (s1 := (12, [(0, .ref 0), (1, .int (am_b a0))], [], am_SH, (f, g))) rfl (am_b_f c4) ?_
    refine am_Ev.go hcd 2 (s' := (14, [(0, .ref 0), (1, .int (am_b a0))], [.int (f 0 2)], am_SH, (f, g))) rfl ?_
    rcases am_itv h with ⟨c15, h⟩ | ⟨c15, h⟩
    · refine am_Ev.t hcd (c := f 0 2 = 0) (s1 := (15, [(0, .ref 0), (1, .int (am_b a0))], [], am_SH, (f, g))) rfl c15 ?_
      refine am_Ev.go hcd 1 (s' := (16, [(0, .ref 0), (1, .int (am_b a0))], [.int 0], am_SH, (f, g))) rfl ?_
      exact am_Ev.cast (a := ((some (.int (am_b (false, f).1))), am_SH, ((false, f).2, g))) (by subst h; rfl) (am_Ev.ret hcd rfl)
    · refine am_Ev.f hcd (c := f 0 2 = 0) (s1 := (17, [(0, .ref 0), (1, .int (am_b a0))], [], am_SH, (f, g))) rfl c15 ?_
      refine am_Ev.go hcd 4 (s' := (21, [(0, .ref 0), (1, .int (am_b a0))], [.ref 55, .ref 1], am_SH, (f, g))) rfl ?_
      obtain ⟨p3, Ep3, h⟩ := am_let_eq' h
      refine am_Ev.call hcd (a := 125) (s0 := (0, [(0, .ref 1), (1, .ref 55)], [], am_SH, (f, g))) (q := (none, am_SH, (p3, g))) (s1 := (22, [(0, .ref 0), (1, .int (am_b a0))], [], am_SH, (p3, g))) rfl rfl (by subst Ep3; exact xo_takeFrom_1_55_ok (d)  f g) ?_
      refine am_Ev.go hcd 1 (s' := (23, [(0, .ref 0), (1, .int (am_b a0))], [.ref 0], am_SH, (p3, g))) rfl ?_
      obtain ⟨p4, Ep4, h⟩ := am_let_eq' h
      refine am_Ev.call hcd (a := 173) (s0 := (0, [(0, .ref 0)], [], am_SH, (p3, g))) (q := (none, am_SH, (p4, g))) (s1 := (24, [(0, .ref 0), (1, .int (am_b a0))], [], am_SH, (p4, g))) rfl rfl (by subst Ep4; exact x_forgetPasts_ok (d + 2)  p3 g) ?_
      refine am_Ev.go hcd 1 (s' := (25, [(0, .ref 0), (1, .int (am_b a0))], [.int 1], am_SH, (p4, g))) rfl ?_
      exact am_Ev.cast (a := ((some (.int (am_b (true, p4).1))), am_SH, ((true, p4).2, g))) (by subst h; rfl) (am_Ev.ret hcd rfl)
set_option maxRecDepth 100000 in
set_option maxHeartbeats 4000000 in
theorem xc_whoHaveGlasses_2_ok {sc : Nat × (Nat → Int32)} (d : Nat)  (f g : (Nat → Nat → Int32)) (r : Int32) (h : xc_whoHaveGlasses_2  f = some r) : am_Ev sc (d) 28 (0, [(0, .ref 2)], [], am_SH, (f, g)) ((some (.int r)), am_SH, (f, g)) := by
  have hcd : am_code 28 = am_c28 := rfl
  unfold xc_whoHaveGlasses_2 at h
  refine am_Ev.go hcd 4 (s' := (4, [(0, .ref 2), (1, .int 0), (2, .int 0)], [], am_SH, (f, g))) rfl ?_
  refine am_Ev.weak' (am_loop_ok (G := fun (s1 : Int32 × Int32) => am_Ev sc (d) 28 (4, [(0, .ref 2), (1, .int s1.1), (2, .int s1.2)], [], am_SH, (f, g)) ((some (.int r)), am_SH, (f, g))) (Z := fun (v : Int32) => (((some (.int v)), am_SH, (f, g)) : am_R) = ((some (.int r)), am_SH, (f, g))) ?_ am_F (0, 0) r h rfl) (am_sub_cons rfl (am_sub_cons rfl (am_sub_cons rfl am_sub_nil))) rfl
  intro s1 q1 h hI1 hZ1
  show am_Ev sc (d) 28 (4, [(0, .ref 2), (1, .int s1.1), (2, .int s1.2)], [], am_SH, (f, g)) ((some (.int r)), am_SH, (f, g))
  refine am_Ev.go hcd 3 (s' := (7, [(0, .ref 2), (1, .int s1.1), (2, .int s1.2)], [.int (f 2 0), .int s1.2], am_SH, (f, g))) rfl ?_
  rcases am_ite h with ⟨c6, h⟩ | ⟨c6, h⟩
  · refine am_Ev.t hcd (c := s1.2 < f 2 0) (s1 := (8, [(0, .ref 2), (1, .int s1.1), (2, .int s1.2)], [], am_SH, (f, g))) rfl c6 ?_
    refine am_Ev.go hcd 3 (s' := (11, [(0, .ref 2), (1, .int s1.1), (2, .int s1.2)], [.int s1.2, .ref 5], am_SH, (f, g))) rfl ?_
    obtain ⟨c9, h⟩ := am_grd h
    refine am_Ev.t hcd (o := none) (c := am_in s1.2 6 = true) (s1 := (12, [(0, .ref 2), (1, .int s1.1), (2, .int s1.2)], [.int (f 5 s1.2.toNatClampNeg)], am_SH, (f, g))) rfl c9 ?_
    obtain ⟨t3, ht3, kt3⟩ := am_bind_some h
    have hKt3 : am_Ev sc (d) 28 (23, [(0, .ref 2), (1, .int t3), (2, .int s1.2)], [], am_SH, (f, g)) ((some (.int r)), am_SH, (f, g)) := by
      have h := kt3
      obtain ⟨t4, Et4, h⟩ := am_let_eq h
      refine am_Ev.go hcd 1 (s' := (24, [(0, .ref 2), (1, .int t3), (2, .int t4)], [], am_SH, (f, g))) (by subst Et4; exact rfl) ?_
      refine am_Ev.go hcd 1 (s' := (4, [(0, .ref 2), (1, .int t3), (2, .int t4)], [], am_SH, (f, g))) rfl ?_
      exact am_Ev.weak' (hI1 (t3, t4) (Option.some.inj h).symm) (am_sub_cons rfl (am_sub_cons rfl (am_sub_cons rfl am_sub_nil))) rfl
    have hLt3 : ∀ tt, tt = t3 → am_Ev sc (d) 28 (23, [(0, .ref 2), (1, .int tt), (2, .int s1.2)], [], am_SH, (f, g)) ((some (.int r)), am_SH, (f, g)) := fun tt htt => by subst htt; exact hKt3
    have h := ht3
    refine am_Ev.go hcd 1 (s' := (13, [(0, .ref 2), (1, .int s1.1), (2, .int s1.2)], [.int (-1), .int (f 5 s1.2.toNatClampNeg)], am_SH, (f, g))) rfl ?_
    rcases am_ite h with ⟨c21, h⟩ | ⟨c21, h⟩
    · refine am_Ev.t hcd (c := f 5 s1.2.toNatClampNeg = (-1)) (s1 := (23, [(0, .ref 2), (1, .int s1.1), (2, .int s1.2)], [], am_SH, (f, g))) rfl c21 ?_
      exact am_Ev.weak' (hLt3 s1.1 (Option.some.inj h)) (am_sub_cons rfl (am_sub_cons rfl (am_sub_cons rfl am_sub_nil))) rfl
    · refine am_Ev.f hcd (c := f 5 s1.2.toNatClampNeg = (-1)) (s1 := (14, [(0, .ref 2), (1, .int s1.1), (2, .int s1.2)], [], am_SH, (f, g))) rfl c21 ?_
      refine am_Ev.go hcd 5 (s' := (19, [(0, .ref 2), (1, .int s1.1), (2, .int s1.2)], [.int s1.2, .ref 5, .int 1, .int s1.1], am_SH, (f, g))) rfl ?_
      obtain ⟨c26, h⟩ := am_grd h
      refine am_Ev.t hcd (o := none) (c := am_in s1.2 6 = true) (s1 := (20, [(0, .ref 2), (1, .int s1.1), (2, .int s1.2)], [.int (f 5 s1.2.toNatClampNeg), .int 1, .int s1.1], am_SH, (f, g))) rfl c26 ?_
      obtain ⟨t2, Et2, h⟩ := am_let_eq h
      refine am_Ev.go hcd 3 (s' := (23, [(0, .ref 2), (1, .int t2), (2, .int s1.2)], [], am_SH, (f, g))) (by subst Et2; exact rfl) ?_
      exact am_Ev.weak' (hLt3 t2 (Option.some.inj h)) (am_sub_cons rfl (am_sub_cons rfl (am_sub_cons rfl am_sub_nil))) rfl
  · refine am_Ev.f hcd (c := s1.2 < f 2 0) (s1 := (25, [(0, .ref 2), (1, .int s1.1), (2, .int s1.2)], [], am_SH, (f, g))) rfl c6 ?_
    refine am_Ev.go hcd 1 (s' := (26, [(0, .ref 2), (1, .int s1.1), (2, .int s1.2)], [.int s1.1], am_SH, (f, g))) rfl ?_
    exact am_Ev.cast (a := ((some (.int s1.1)), am_SH, (f, g))) (hZ1 _ (Option.some.inj h).symm) (am_Ev.ret hcd rfl)
set_option maxRecDepth 100000 in
set_option maxHeartbeats 4000000 in
theorem x_look_ok {sc : Nat × (Nat → Int32)} (d : Nat) (a0 : Int32) (f g : (Nat → Nat → Int32)) (r : Int32) (h : x_look a0 f = some r) : am_Ev sc (d + 1) 169 (0, [(0, .ref 0), (1, .int a0)], [], am_SH, (f, g)) ((some (.int r)), am_SH, (f, g)) := by
  have hcd : am_code 169 = am_c169 := rfl
  unfold x_look at h
  refine am_Ev.go hcd 5 (s' := (5, [(0, .ref 0), (1, .int a0), (2, .ref 2)], [.int a0], am_SH, (f, g))) rfl ?_
  refine am_Ev.one hcd (s' := (am_swt a0 [(0, 6), (1, 9), (2, 12), (3, 15), (4, 18), (5, 21), (6, 24), (7, 29), (8, 34), (9, 39), (10, 42)] 45, [(0, .ref 0), (1, .int a0), (2, .ref 2)], [], am_SH, (f, g))) rfl ?_
  rcases am_ite h with ⟨c4, h⟩ | ⟨c4, h⟩
  · rw [am_swt_t c4]
    refine am_Ev.go hcd 2 (s' := (8, [(0, .ref 0), (1, .int a0), (2, .ref 2)], [.int (f 2 0)], am_SH, (f, g))) rfl ?_
    exact am_Ev.cast (a := ((some (.int (f 2 0 : Int32))), am_SH, (f, g))) (by cases h; rfl) (am_Ev.ret hcd rfl)
  rw [am_swt_f c4]
  rcases am_ite h with ⟨c9, h⟩ | ⟨c9, h⟩
  · rw [am_swt_t c9]
    refine am_Ev.go hcd 2 (s' := (11, [(0, .ref 0), (1, .int a0), (2, .ref 2)], [.int (f 2 1)], am_SH, (f, g))) rfl ?_
    exact am_Ev.cast (a := ((some (.int (f 2 1 : Int32))), am_SH, (f, g))) (by cases h; rfl) (am_Ev.ret hcd rfl)
  rw [am_swt_f c9]
  rcases am_ite h with ⟨c14, h⟩ | ⟨c14, h⟩
  · rw [am_swt_t c14]
    refine am_Ev.go hcd 2 (s' := (14, [(0, .ref 0), (1, .int a0), (2, .ref 2)], [.int (f 2 2)], am_SH, (f, g))) rfl ?_
    exact am_Ev.cast (a := ((some (.int (f 2 2 : Int32))), am_SH, (f, g))) (by cases h; rfl) (am_Ev.ret hcd rfl)
  rw [am_swt_f c14]
  rcases am_ite h with ⟨c19, h⟩ | ⟨c19, h⟩
  · rw [am_swt_t c19]
    refine am_Ev.go hcd 1 (s' := (16, [(0, .ref 0), (1, .int a0), (2, .ref 2)], [.ref 2], am_SH, (f, g))) rfl ?_
    obtain ⟨p1, hp1, h⟩ := am_bind_some h
    refine am_Ev.call hcd (a := 28) (s0 := (0, [(0, .ref 2)], [], am_SH, (f, g))) (q := ((some (.int p1)), am_SH, (f, g))) (s1 := (17, [(0, .ref 0), (1, .int a0), (2, .ref 2)], [.int p1], am_SH, (f, g))) rfl rfl (xc_whoHaveGlasses_2_ok (d)  f g p1 hp1) ?_
    exact am_Ev.cast (a := ((some (.int p1)), am_SH, (f, g))) (by cases h; rfl) (am_Ev.ret hcd rfl)
  rw [am_swt_f c19]
  rcases am_ite h with ⟨c26, h⟩ | ⟨c26, h⟩
  · rw [am_swt_t c26]
    refine am_Ev.go hcd 2 (s' := (20, [(0, .ref 0), (1, .int a0), (2, .ref 2)], [.int (f 2 4)], am_SH, (f, g))) rfl ?_
    exact am_Ev.cast (a := ((some (.int (f 2 4 : Int32))), am_SH, (f, g))) (by cases h; rfl) (am_Ev.ret hcd rfl)
  rw [am_swt_f c26]
  rcases am_ite h with ⟨c31, h⟩ | ⟨c31, h⟩
  · rw [am_swt_t c31]
    refine am_Ev.go hcd 2 (s' := (23, [(0, .ref 0), (1, .int a0), (2, .ref 2)], [.int (f 2 3)], am_SH, (f, g))) rfl ?_
    exact am_Ev.cast (a := ((some (.int (f 2 3 : Int32))), am_SH, (f, g))) (by cases h; rfl) (am_Ev.ret hcd rfl)
  rw [am_swt_f c31]
  rcases am_ite h with ⟨c36, h⟩ | ⟨c36, h⟩
  · rw [am_swt_t c36]
    refine am_Ev.go hcd 4 (s' := (28, [(0, .ref 0), (1, .int a0), (2, .ref 2)], [.int (f 14 0)], am_SH, (f, g))) rfl ?_
    exact am_Ev.cast (a := ((some (.int (f 14 0 : Int32))), am_SH, (f, g))) (by cases h; rfl) (am_Ev.ret hcd rfl)
  rw [am_swt_f c36]
  rcases am_ite h with ⟨c41, h⟩ | ⟨c41, h⟩
  · rw [am_swt_t c41]
    refine am_Ev.go hcd 4 (s' := (33, [(0, .ref 0), (1, .int a0), (2, .ref 2)], [.int (f 20 0)], am_SH, (f, g))) rfl ?_
    exact am_Ev.cast (a := ((some (.int (f 20 0 : Int32))), am_SH, (f, g))) (by cases h; rfl) (am_Ev.ret hcd rfl)
  rw [am_swt_f c41]
  rcases am_ite h with ⟨c46, h⟩ | ⟨c46, h⟩
  · rw [am_swt_t c46]
    refine am_Ev.go hcd 4 (s' := (38, [(0, .ref 0), (1, .int a0), (2, .ref 2)], [.int (f 25 0)], am_SH, (f, g))) rfl ?_
    exact am_Ev.cast (a := ((some (.int (f 25 0 : Int32))), am_SH, (f, g))) (by cases h; rfl) (am_Ev.ret hcd rfl)
  rw [am_swt_f c46]
  rcases am_ite h with ⟨c51, h⟩ | ⟨c51, h⟩
  · rw [am_swt_t c51]
    refine am_Ev.go hcd 2 (s' := (41, [(0, .ref 0), (1, .int a0), (2, .ref 2)], [.int (f 2 5)], am_SH, (f, g))) rfl ?_
    exact am_Ev.cast (a := ((some (.int (f 2 5 : Int32))), am_SH, (f, g))) (by cases h; rfl) (am_Ev.ret hcd rfl)
  rw [am_swt_f c51]
  rcases am_ite h with ⟨c56, h⟩ | ⟨c56, h⟩
  · rw [am_swt_t c56]
    refine am_Ev.go hcd 2 (s' := (44, [(0, .ref 0), (1, .int a0), (2, .ref 2)], [.int (f 0 4)], am_SH, (f, g))) rfl ?_
    exact am_Ev.cast (a := ((some (.int (f 0 4 : Int32))), am_SH, (f, g))) (by cases h; rfl) (am_Ev.ret hcd rfl)
  rw [am_swt_f c56]
  rw [am_swt_n]
  refine am_Ev.go hcd 1 (s' := (46, [(0, .ref 0), (1, .int a0), (2, .ref 2)], [.int (-1)], am_SH, (f, g))) rfl ?_
  exact am_Ev.cast (a := ((some (.int (-1))), am_SH, (f, g))) (by cases h; rfl) (am_Ev.ret hcd rfl)
set_option maxRecDepth 100000 in
set_option maxHeartbeats 4000000 in
theorem m_forgets_ok {sc : Nat × (Nat → Int32)} (d : Nat)  (f g : (Nat → Nat → Int32)) : am_Ev sc (d) 184 (0, [(0, .ref 216)], [], am_SH, (g, f)) (none, am_SH, (g, (m_forgets  f))) := by
  have hcd : am_code 184 = am_c184 := rfl
  obtain ⟨r, h⟩ : ∃ r, r = m_forgets  f := ⟨_, rfl⟩
  rw [← h]
  unfold m_forgets at h
  obtain ⟨f1, Ef1, h⟩ := am_let_eq' h
  refine am_Ev.go hcd 3 (s' := (3, [(0, .ref 216)], [], am_SH, (g, f1))) (by subst Ef1; exact rfl) ?_
  exact am_Ev.cast (a := (none, am_SH, (g, f1))) (by subst h; rfl) (am_Ev.ret hcd rfl)
set_option maxRecDepth 100000 in
set_option maxHeartbeats 4000000 in
theorem m_state_ok {sc : Nat × (Nat → Int32)} (d : Nat) (a0 : Int32) (f g : (Nat → Nat → Int32)) : am_Ev sc (d + 1) 185 (0, [(0, .ref 216), (1, .int a0)], [], am_SH, (g, f)) ((some (.int (m_state a0 f).1)), am_SH, (g, (m_state a0 f).2)) := by
  have hcd : am_code 185 = am_c185 := rfl
  obtain ⟨r, h⟩ : ∃ r, r = m_state a0 f := ⟨_, rfl⟩
  rw [← h]
  unfold m_state at h
  obtain ⟨t1, Et1, h⟩ := am_let_eq' h
  refine am_Ev.go hcd 5 (s' := (5, [(0, .ref 216), (1, .int a0), (2, .int t1)], [], am_SH, (g, f))) (by subst Et1; exact rfl) ?_
  obtain ⟨f2, Ef2, h⟩ := am_let_eq' h
  refine am_Ev.go hcd 5 (s' := (10, [(0, .ref 216), (1, .int a0), (2, .int t1)], [], am_SH, (g, f2))) (by subst Ef2; exact rfl) ?_
  refine am_Ev.go hcd 1 (s' := (11, [(0, .ref 216), (1, .int a0), (2, .int t1)], [.ref 216], am_SH, (g, f2))) rfl ?_
  obtain ⟨p3, Ep3, h⟩ := am_let_eq' h
  refine am_Ev.call hcd (a := 184) (s0 := (0, [(0, .ref 216)], [], am_SH, (g, f2))) (q := (none, am_SH, (g, p3))) (s1 := (12, [(0, .ref 216), (1, .int a0), (2, .int t1)], [], am_SH, (g, p3))) rfl rfl (by subst Ep3; exact m_forgets_ok (d)  f2 g) ?_
  refine am_Ev.go hcd 1 (s' := (13, [(0, .ref 216), (1, .int a0), (2, .int t1)], [.int t1], am_SH, (g, p3))) rfl ?_
  exact am_Ev.cast (a := ((some (.int (t1, p3).1)), am_SH, (g, (t1, p3).2))) (by subst h; rfl) (am_Ev.ret hcd rfl)
set_option maxRecDepth 100000 in
set_option maxHeartbeats 4000000 in
theorem m_isIn_ok {sc : Nat × (Nat → Int32)} (d : Nat) (a0 : Int32) (a1 : Int32) (a2 : Int32) (hp : am_H) : am_Ev sc (d) 176 (0, [(0, .int a0), (1, .int a1), (2, .int a2)], [], am_SH, hp) ((some (.int (am_b (m_isIn a0 a1 a2)))), am_SH, hp) := by
  have hcd : am_code 176 = am_c176 := rfl
  obtain ⟨r, h⟩ : ∃ r, r = m_isIn a0 a1 a2 := ⟨_, rfl⟩
  rw [← h]
  unfold m_isIn at h
  refine am_Ev.go hcd 2 (s' := (2, [(0, .int a0), (1, .int a1), (2, .int a2)], [.int a1, .int a0], am_SH, hp)) rfl ?_
  rcases am_itv h with ⟨c4, h⟩ | ⟨c4, h⟩
  · refine am_Ev.t hcd (c := a0 < a1) (s1 := (8, [(0, .int a0), (1, .int a1), (2, .int a2)], [], am_SH, hp)) rfl c4 ?_
    refine am_Ev.go hcd 1 (s' := (9, [(0, .int a0), (1, .int a1), (2, .int a2)], [.int 0], am_SH, hp)) rfl ?_
    exact am_Ev.cast (a := ((some (.int (am_b false))), am_SH, hp)) (by subst h; rfl) (am_Ev.ret hcd rfl)
  · refine am_Ev.f hcd (c := a0 < a1) (s1 := (3, [(0, .int a0), (1, .int a1), (2, .int a2)], [], am_SH, hp)) rfl c4 ?_
    refine am_Ev.go hcd 2 (s' := (5, [(0, .int a0), (1, .int a1), (2, .int a2)], [.int a2, .int a0], am_SH, hp)) rfl ?_
    rcases am_itv h with ⟨c10, h⟩ | ⟨c10, h⟩
    · refine am_Ev.t hcd (c := a2 < a0) (s1 := (8, [(0, .int a0), (1, .int a1), (2, .int a2)], [], am_SH, hp)) rfl c10 ?_
      refine am_Ev.go hcd 1 (s' := (9, [(0, .int a0), (1, .int a1), (2, .int a2)], [.int 0], am_SH, hp)) rfl ?_
      exact am_Ev.cast (a := ((some (.int (am_b false))), am_SH, hp)) (by subst h; rfl) (am_Ev.ret hcd rfl)
    · refine am_Ev.f hcd (c := a2 < a0) (s1 := (6, [(0, .int a0), (1, .int a1), (2, .int a2)], [], am_SH, hp)) rfl c10 ?_
      refine am_Ev.go hcd 2 (s' := (9, [(0, .int a0), (1, .int a1), (2, .int a2)], [.int 1], am_SH, hp)) rfl ?_
      exact am_Ev.cast (a := ((some (.int (am_b true))), am_SH, hp)) (by subst h; rfl) (am_Ev.ret hcd rfl)
set_option maxRecDepth 100000 in
set_option maxHeartbeats 4000000 in
theorem m_glass_ok {sc : Nat × (Nat → Int32)} (d : Nat) (a0 : Int32) (f g : (Nat → Nat → Int32)) (r : Int32 × (Nat → Nat → Int32)) (h : m_glass a0 f = some r) : am_Ev sc (d + 1) 187 (0, [(0, .ref 216), (1, .int a0)], [], am_SH, (g, f)) ((some (.int r.1)), am_SH, (g, r.2)) := by
  have hcd : am_code 187 = am_c187 := rfl
  unfold m_glass at h
  refine am_Ev.go hcd 3 (s' := (3, [(0, .ref 216), (1, .int a0)], [.int 99, .int 0, .int a0], am_SH, (g, f))) rfl ?_
  refine am_Ev.call hcd (a := 176) (s0 := (0, [(0, .int a0), (1, .int 0), (2, .int 99)], [], am_SH, (g, f))) (q := ((some (.int (am_b (m_isIn a0 0 99)))), am_SH, (g, f))) (s1 := (4, [(0, .ref 216), (1, .int a0)], [.int (am_b (m_isIn a0 0 99))], am_SH, (g, f))) rfl rfl (m_isIn_ok (d) a0 0 99 (g, f)) ?_
  rcases am_ite h with ⟨c4, h⟩ | ⟨c4, h⟩
  · refine am_Ev.f hcd (c := am_b (m_isIn a0 0 99) = 0) (s1 := (5, [(0, .ref 216), (1, .int a0)], [], am_SH, (g, f))) rfl (am_b_t c4) ?_
    refine am_Ev.go hcd 5 (s' := (10, [(0, .ref 216), (1, .int a0)], [.int 6, .int (f 217 69)], am_SH, (g, f))) rfl ?_
    rcases am_ite h with ⟨c6, h⟩ | ⟨c6, h⟩
    · refine am_Ev.t hcd (c := f 217 69 = 6) (s1 := (11, [(0, .ref 216), (1, .int a0)], [], am_SH, (g, f))) rfl c6 ?_
      refine am_Ev.go hcd 1 (s' := (12, [(0, .ref 216), (1, .int a0)], [.int (-1)], am_SH, (g, f))) rfl ?_
      exact am_Ev.cast (a := ((some (.int ((-1), f).1)), am_SH, (g, ((-1), f).2))) (by cases h; rfl) (am_Ev.ret hcd rfl)
    · refine am_Ev.f hcd (c := f 217 69 = 6) (s1 := (13, [(0, .ref 216), (1, .int a0)], [], am_SH, (g, f))) rfl c6 ?_
      obtain ⟨t2, Et2, h⟩ := am_let_eq h
      refine am_Ev.go hcd 5 (s' := (18, [(0, .ref 216), (1, .int a0), (2, .int t2)], [], am_SH, (g, f))) (by subst Et2; exact rfl) ?_
      refine am_Ev.go hcd 6 (s' := (24, [(0, .ref 216), (1, .int a0), (2, .int t2)], [.int a0, .int (3 + t2), .ref 217], am_SH, (g, f))) rfl ?_
      obtain ⟨c14, h⟩ := am_grd h
      obtain ⟨f3, Ef3, h⟩ := am_let_eq h
      refine am_Ev.t hcd (o := none) (c := am_in (3 + t2) 2008 = true) (s1 := (25, [(0, .ref 216), (1, .int a0), (2, .int t2)], [], am_SH, (g, f3))) (by subst Ef3; exact rfl) c14 ?_
      refine am_Ev.go hcd 6 (s' := (31, [(0, .ref 216), (1, .int a0), (2, .int t2)], [.int 300, .int (9 + t2), .ref 217], am_SH, (g, f3))) rfl ?_
      obtain ⟨c18, h⟩ := am_grd h
      obtain ⟨f4, Ef4, h⟩ := am_let_eq h
      refine am_Ev.t hcd (o := none) (c := am_in (9 + t2) 2008 = true) (s1 := (32, [(0, .ref 216), (1, .int a0), (2, .int t2)], [], am_SH, (g, f4))) (by subst Ef4; exact rfl) c18 ?_
      refine am_Ev.go hcd 6 (s' := (38, [(0, .ref 216), (1, .int a0), (2, .int t2)], [.int (-1), .int (15 + t2), .ref 217], am_SH, (g, f4))) rfl ?_
      obtain ⟨c22, h⟩ := am_grd h
      obtain ⟨f5, Ef5, h⟩ := am_let_eq h
      refine am_Ev.t hcd (o := none) (c := am_in (15 + t2) 2008 = true) (s1 := (39, [(0, .ref 216), (1, .int a0), (2, .int t2)], [], am_SH, (g, f5))) (by subst Ef5; exact rfl) c22 ?_
      refine am_Ev.go hcd 6 (s' := (45, [(0, .ref 216), (1, .int a0), (2, .int t2)], [.int (-1), .int (21 + t2), .ref 217], am_SH, (g, f5))) rfl ?_
      obtain ⟨c26, h⟩ := am_grd h
      obtain ⟨f6, Ef6, h⟩ := am_let_eq h
      refine am_Ev.t hcd (o := none) (c := am_in (21 + t2) 2008 = true) (s1 := (46, [(0, .ref 216), (1, .int a0), (2, .int t2)], [], am_SH, (g, f6))) (by subst Ef6; exact rfl) c26 ?_
      obtain ⟨f7, Ef7, h⟩ := am_let_eq h
      refine am_Ev.go hcd 8 (s' := (54, [(0, .ref 216), (1, .int a0), (2, .int t2)], [], am_SH, (g, f7))) (by subst Ef7; exact rfl) ?_
      refine am_Ev.go hcd 1 (s' := (55, [(0, .ref 216), (1, .int a0), (2, .int t2)], [.ref 216], am_SH, (g, f7))) rfl ?_
      obtain ⟨p8, Ep8, h⟩ := am_let_eq h
      refine am_Ev.call hcd (a := 184) (s0 := (0, [(0, .ref 216)], [], am_SH, (g, f7))) (q := (none, am_SH, (g, p8))) (s1 := (56, [(0, .ref 216), (1, .int a0), (2, .int t2)], [], am_SH, (g, p8))) rfl rfl (by subst Ep8; exact m_forgets_ok (d)  f7 g) ?_
      refine am_Ev.go hcd 1 (s' := (57, [(0, .ref 216), (1, .int a0), (2, .int t2)], [.int t2], am_SH, (g, p8))) rfl ?_
      exact am_Ev.cast (a := ((some (.int (t2, p8).1)), am_SH, (g, (t2, p8).2))) (by cases h; rfl) (am_Ev.ret hcd rfl)
  · refine am_Ev.t hcd (c := am_b (m_isIn a0 0 99) = 0) (s1 := (11, [(0, .ref 216), (1, .int a0)], [], am_SH, (g, f))) rfl (am_b_f c4) ?_
    refine am_Ev.go hcd 1 (s' := (12, [(0, .ref 216), (1, .int a0)], [.int (-1)], am_SH, (g, f))) rfl ?_
    exact am_Ev.cast (a := ((some (.int ((-1), f).1)), am_SH, (g, ((-1), f).2))) (by cases h; rfl) (am_Ev.ret hcd rfl)
set_option maxRecDepth 100000 in
set_option maxHeartbeats 4000000 in
theorem m_witness_ok {sc : Nat × (Nat → Int32)} (d : Nat) (a0 : Int32) (f g : (Nat → Nat → Int32)) (r : Int32 × (Nat → Nat → Int32)) (h : m_witness a0 f = some r) : am_Ev sc (d + 1) 188 (0, [(0, .ref 216), (1, .int a0)], [], am_SH, (g, f)) ((some (.int r.1)), am_SH, (g, r.2)) := by
  have hcd : am_code 188 = am_c188 := rfl
  unfold m_witness at h
  refine am_Ev.go hcd 3 (s' := (3, [(0, .ref 216), (1, .int a0)], [.int 9, .int 0, .int a0], am_SH, (g, f))) rfl ?_
  refine am_Ev.call hcd (a := 176) (s0 := (0, [(0, .int a0), (1, .int 0), (2, .int 9)], [], am_SH, (g, f))) (q := ((some (.int (am_b (m_isIn a0 0 9)))), am_SH, (g, f))) (s1 := (4, [(0, .ref 216), (1, .int a0)], [.int (am_b (m_isIn a0 0 9))], am_SH, (g, f))) rfl rfl (m_isIn_ok (d) a0 0 9 (g, f)) ?_
  rcases am_ite h with ⟨c4, h⟩ | ⟨c4, h⟩
  · refine am_Ev.f hcd (c := am_b (m_isIn a0 0 9) = 0) (s1 := (5, [(0, .ref 216), (1, .int a0)], [], am_SH, (g, f))) rfl (am_b_t c4) ?_
    refine am_Ev.go hcd 5 (s' := (10, [(0, .ref 216), (1, .int a0)], [.int 12, .int (f 217 70)], am_SH, (g, f))) rfl ?_
    rcases am_ite h with ⟨c6, h⟩ | ⟨c6, h⟩
    · refine am_Ev.t hcd (c := f 217 70 = 12) (s1 := (11, [(0, .ref 216), (1, .int a0)], [], am_SH, (g, f))) rfl c6 ?_
      refine am_Ev.go hcd 1 (s' := (12, [(0, .ref 216), (1, .int a0)], [.int (-1)], am_SH, (g, f))) rfl ?_
      exact am_Ev.cast (a := ((some (.int ((-1), f).1)), am_SH, (g, ((-1), f).2))) (by cases h; rfl) (am_Ev.ret hcd rfl)
    · refine am_Ev.f hcd (c := f 217 70 = 12) (s1 := (13, [(0, .ref 216), (1, .int a0)], [], am_SH, (g, f))) rfl c6 ?_
      refine am_Ev.go hcd 9 (s' := (22, [(0, .ref 216), (1, .int a0)], [.int a0, .int (33 + (f 217 70)), .ref 217], am_SH, (g, f))) rfl ?_
      obtain ⟨c12, h⟩ := am_grd h
      obtain ⟨f2, Ef2, h⟩ := am_let_eq h
      refine am_Ev.t hcd (o := none) (c := am_in (33 + (f 217 70)) 2008 = true) (s1 := (23, [(0, .ref 216), (1, .int a0)], [], am_SH, (g, f2))) (by subst Ef2; exact rfl) c12 ?_
      obtain ⟨f3, Ef3, h⟩ := am_let_eq h
      refine am_Ev.go hcd 8 (s' := (31, [(0, .ref 216), (1, .int a0)], [], am_SH, (g, f3))) (by subst Ef3; exact rfl) ?_
      refine am_Ev.go hcd 1 (s' := (32, [(0, .ref 216), (1, .int a0)], [.ref 216], am_SH, (g, f3))) rfl ?_
      obtain ⟨p4, Ep4, h⟩ := am_let_eq h
      refine am_Ev.call hcd (a := 184) (s0 := (0, [(0, .ref 216)], [], am_SH, (g, f3))) (q := (none, am_SH, (g, p4))) (s1 := (33, [(0, .ref 216), (1, .int a0)], [], am_SH, (g, p4))) rfl rfl (by subst Ep4; exact m_forgets_ok (d)  f3 g) ?_
      refine am_Ev.go hcd 6 (s' := (39, [(0, .ref 216), (1, .int a0)], [.int ((p4 217 70) - 1)], am_SH, (g, p4))) rfl ?_
      exact am_Ev.cast (a := ((some (.int (((p4 217 70) - 1), p4).1)), am_SH, (g, (((p4 217 70) - 1), p4).2))) (by cases h; rfl) (am_Ev.ret hcd rfl)
  · refine am_Ev.t hcd (c := am_b (m_isIn a0 0 9) = 0) (s1 := (11, [(0, .ref 216), (1, .int a0)], [], am_SH, (g, f))) rfl (am_b_f c4) ?_
    refine am_Ev.go hcd 1 (s' := (12, [(0, .ref 216), (1, .int a0)], [.int (-1)], am_SH, (g, f))) rfl ?_
    exact am_Ev.cast (a := ((some (.int ((-1), f).1)), am_SH, (g, ((-1), f).2))) (by cases h; rfl) (am_Ev.ret hcd rfl)
set_option maxRecDepth 100000 in
set_option maxHeartbeats 4000000 in
theorem m_isGlass_ok {sc : Nat × (Nat → Int32)} (d : Nat) (a0 : Int32) (f g : (Nat → Nat → Int32)) : am_Ev sc (d + 1) 181 (0, [(0, .ref 216), (1, .int a0)], [], am_SH, (g, f)) ((some (.int (am_b (m_isGlass a0 f)))), am_SH, (g, f)) := by
  have hcd : am_code 181 = am_c181 := rfl
  obtain ⟨r, h⟩ : ∃ r, r = m_isGlass a0 f := ⟨_, rfl⟩
  rw [← h]
  unfold m_isGlass at h
  refine am_Ev.go hcd 8 (s' := (8, [(0, .ref 216), (1, .int a0)], [.int ((f 217 69) - 1), .int 0, .int a0], am_SH, (g, f))) rfl ?_
  refine am_Ev.call hcd (a := 176) (s0 := (0, [(0, .int a0), (1, .int 0), (2, .int ((f 217 69) - 1))], [], am_SH, (g, f))) (q := ((some (.int (am_b (m_isIn a0 0 ((f 217 69) - 1))))), am_SH, (g, f))) (s1 := (9, [(0, .ref 216), (1, .int a0)], [.int (am_b (m_isIn a0 0 ((f 217 69) - 1)))], am_SH, (g, f))) rfl rfl (m_isIn_ok (d) a0 0 ((f 217 69) - 1) (g, f)) ?_
  exact am_Ev.cast (a := ((some (.int (am_b (m_isIn a0 0 ((f 217 69) - 1))))), am_SH, (g, f))) (by subst h; rfl) (am_Ev.retb hcd rfl)
set_option maxRecDepth 100000 in
set_option maxHeartbeats 4000000 in
theorem m_isWitness_ok {sc : Nat × (Nat → Int32)} (d : Nat) (a0 : Int32) (f g : (Nat → Nat → Int32)) : am_Ev sc (d + 1) 182 (0, [(0, .ref 216), (1, .int a0)], [], am_SH, (g, f)) ((some (.int (am_b (m_isWitness a0 f)))), am_SH, (g, f)) := by
  have hcd : am_code 182 = am_c182 := rfl
  obtain ⟨r, h⟩ : ∃ r, r = m_isWitness a0 f := ⟨_, rfl⟩
  rw [← h]
  unfold m_isWitness at h
  refine am_Ev.go hcd 8 (s' := (8, [(0, .ref 216), (1, .int a0)], [.int ((f 217 70) - 1), .int 0, .int a0], am_SH, (g, f))) rfl ?_
  refine am_Ev.call hcd (a := 176) (s0 := (0, [(0, .int a0), (1, .int 0), (2, .int ((f 217 70) - 1))], [], am_SH, (g, f))) (q := ((some (.int (am_b (m_isIn a0 0 ((f 217 70) - 1))))), am_SH, (g, f))) (s1 := (9, [(0, .ref 216), (1, .int a0)], [.int (am_b (m_isIn a0 0 ((f 217 70) - 1)))], am_SH, (g, f))) rfl rfl (m_isIn_ok (d) a0 0 ((f 217 70) - 1) (g, f)) ?_
  exact am_Ev.cast (a := ((some (.int (am_b (m_isIn a0 0 ((f 217 70) - 1))))), am_SH, (g, f))) (by subst h; rfl) (am_Ev.retb hcd rfl)
