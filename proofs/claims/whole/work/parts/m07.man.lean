/-! THE PASTS BY HAND -/
set_option maxRecDepth 100000 in
set_option maxHeartbeats 4000000 in
theorem x_tk_ok_156_2 {sc : Nat × (Nat → Int32)} (d : Nat) (f g : (Nat → Nat → Int32)) : am_Ev sc (d + 1) 30 (0, [(0, .ref 156), (1, .ref 2)], [], am_SH, (f, g)) (none, am_SH, ((x_tk 156 2 f), g)) := by
  have hcd : am_code 30 = am_c30 := rfl
  obtain ⟨r, h⟩ : ∃ r, r = x_tk 156 2 f := ⟨_, rfl⟩
  rw [← h]
  unfold x_tk at h
  obtain ⟨f1, Ef1, h⟩ := am_let_eq' h
  refine am_Ev.go hcd 4 (s' := (4, [(0, .ref 156), (1, .ref 2)], [], am_SH, (f1, g))) (by subst Ef1; exact rfl) ?_
  obtain ⟨f2, Ef2, h⟩ := am_let_eq' h
  refine am_Ev.go hcd 4 (s' := (8, [(0, .ref 156), (1, .ref 2)], [], am_SH, (f2, g))) (by subst Ef2; exact rfl) ?_
  obtain ⟨f3, Ef3, h⟩ := am_let_eq' h
  refine am_Ev.go hcd 4 (s' := (12, [(0, .ref 156), (1, .ref 2)], [], am_SH, (f3, g))) (by subst Ef3; exact rfl) ?_
  obtain ⟨f4, Ef4, h⟩ := am_let_eq' h
  refine am_Ev.go hcd 4 (s' := (16, [(0, .ref 156), (1, .ref 2)], [], am_SH, (f4, g))) (by subst Ef4; exact rfl) ?_
  obtain ⟨f5, Ef5, h⟩ := am_let_eq' h
  refine am_Ev.go hcd 4 (s' := (20, [(0, .ref 156), (1, .ref 2)], [], am_SH, (f5, g))) (by subst Ef5; exact rfl) ?_
  obtain ⟨f6, Ef6, h⟩ := am_let_eq' h
  refine am_Ev.go hcd 4 (s' := (24, [(0, .ref 156), (1, .ref 2)], [], am_SH, (f6, g))) (by subst Ef6; exact rfl) ?_
  refine am_Ev.go hcd 7 (s' := (31, [(0, .ref 156), (1, .ref 2)], [.int 6, .int 0, .ref 157, .int 0, .ref 3], am_SH, (f6, g))) rfl ?_
  obtain ⟨f7, Ef7, h⟩ := am_let_eq' h
  refine am_Ev.jdk hcd (s1 := (32, [(0, .ref 156), (1, .ref 2)], [], am_SH, (f7, g))) (by subst Ef7; exact rfl) ?_
  refine am_Ev.go hcd 7 (s' := (39, [(0, .ref 156), (1, .ref 2)], [.int 6, .int 0, .ref 158, .int 0, .ref 4], am_SH, (f7, g))) rfl ?_
  obtain ⟨f8, Ef8, h⟩ := am_let_eq' h
  refine am_Ev.jdk hcd (s1 := (40, [(0, .ref 156), (1, .ref 2)], [], am_SH, (f8, g))) (by subst Ef8; exact rfl) ?_
  refine am_Ev.go hcd 7 (s' := (47, [(0, .ref 156), (1, .ref 2)], [.int 6, .int 0, .ref 159, .int 0, .ref 5], am_SH, (f8, g))) rfl ?_
  obtain ⟨f9, Ef9, h⟩ := am_let_eq' h
  refine am_Ev.jdk hcd (s1 := (48, [(0, .ref 156), (1, .ref 2)], [], am_SH, (f9, g))) (by subst Ef9; exact rfl) ?_
  refine am_Ev.go hcd 7 (s' := (55, [(0, .ref 156), (1, .ref 2)], [.int 6, .int 0, .ref 160, .int 0, .ref 6], am_SH, (f9, g))) rfl ?_
  obtain ⟨f10, Ef10, h⟩ := am_let_eq' h
  refine am_Ev.jdk hcd (s1 := (56, [(0, .ref 156), (1, .ref 2)], [], am_SH, (f10, g))) (by subst Ef10; exact rfl) ?_
  refine am_Ev.go hcd 7 (s' := (63, [(0, .ref 156), (1, .ref 2)], [.int 6, .int 0, .ref 161, .int 0, .ref 7], am_SH, (f10, g))) rfl ?_
  obtain ⟨f11, Ef11, h⟩ := am_let_eq' h
  refine am_Ev.jdk hcd (s1 := (64, [(0, .ref 156), (1, .ref 2)], [], am_SH, (f11, g))) (by subst Ef11; exact rfl) ?_
  refine am_Ev.go hcd 7 (s' := (71, [(0, .ref 156), (1, .ref 2)], [.int 12, .int 0, .ref 162, .int 0, .ref 8], am_SH, (f11, g))) rfl ?_
  obtain ⟨f12, Ef12, h⟩ := am_let_eq' h
  refine am_Ev.jdk hcd (s1 := (72, [(0, .ref 156), (1, .ref 2)], [], am_SH, (f12, g))) (by subst Ef12; exact rfl) ?_
  refine am_Ev.go hcd 7 (s' := (79, [(0, .ref 156), (1, .ref 2)], [.int 12, .int 0, .ref 163, .int 0, .ref 9], am_SH, (f12, g))) rfl ?_
  obtain ⟨f13, Ef13, h⟩ := am_let_eq' h
  refine am_Ev.jdk hcd (s1 := (80, [(0, .ref 156), (1, .ref 2)], [], am_SH, (f13, g))) (by subst Ef13; exact rfl) ?_
  refine am_Ev.go hcd 7 (s' := (87, [(0, .ref 156), (1, .ref 2)], [.int 12, .int 0, .ref 164, .int 0, .ref 10], am_SH, (f13, g))) rfl ?_
  obtain ⟨f14, Ef14, h⟩ := am_let_eq' h
  refine am_Ev.jdk hcd (s1 := (88, [(0, .ref 156), (1, .ref 2)], [], am_SH, (f14, g))) (by subst Ef14; exact rfl) ?_
  refine am_Ev.go hcd 7 (s' := (95, [(0, .ref 156), (1, .ref 2)], [.int 12, .int 0, .ref 165, .int 0, .ref 11], am_SH, (f14, g))) rfl ?_
  obtain ⟨f15, Ef15, h⟩ := am_let_eq' h
  refine am_Ev.jdk hcd (s1 := (96, [(0, .ref 156), (1, .ref 2)], [], am_SH, (f15, g))) (by subst Ef15; exact rfl) ?_
  exact am_Ev.cast (a := (none, am_SH, (f15, g))) (by subst h; rfl) (am_Ev.ret hcd rfl)
set_option maxRecDepth 100000 in
set_option maxHeartbeats 4000000 in
theorem x_tk_ok_2_156 {sc : Nat × (Nat → Int32)} (d : Nat) (f g : (Nat → Nat → Int32)) : am_Ev sc (d + 1) 30 (0, [(0, .ref 2), (1, .ref 156)], [], am_SH, (f, g)) (none, am_SH, ((x_tk 2 156 f), g)) := by
  have hcd : am_code 30 = am_c30 := rfl
  obtain ⟨r, h⟩ : ∃ r, r = x_tk 2 156 f := ⟨_, rfl⟩
  rw [← h]
  unfold x_tk at h
  obtain ⟨f1, Ef1, h⟩ := am_let_eq' h
  refine am_Ev.go hcd 4 (s' := (4, [(0, .ref 2), (1, .ref 156)], [], am_SH, (f1, g))) (by subst Ef1; exact rfl) ?_
  obtain ⟨f2, Ef2, h⟩ := am_let_eq' h
  refine am_Ev.go hcd 4 (s' := (8, [(0, .ref 2), (1, .ref 156)], [], am_SH, (f2, g))) (by subst Ef2; exact rfl) ?_
  obtain ⟨f3, Ef3, h⟩ := am_let_eq' h
  refine am_Ev.go hcd 4 (s' := (12, [(0, .ref 2), (1, .ref 156)], [], am_SH, (f3, g))) (by subst Ef3; exact rfl) ?_
  obtain ⟨f4, Ef4, h⟩ := am_let_eq' h
  refine am_Ev.go hcd 4 (s' := (16, [(0, .ref 2), (1, .ref 156)], [], am_SH, (f4, g))) (by subst Ef4; exact rfl) ?_
  obtain ⟨f5, Ef5, h⟩ := am_let_eq' h
  refine am_Ev.go hcd 4 (s' := (20, [(0, .ref 2), (1, .ref 156)], [], am_SH, (f5, g))) (by subst Ef5; exact rfl) ?_
  obtain ⟨f6, Ef6, h⟩ := am_let_eq' h
  refine am_Ev.go hcd 4 (s' := (24, [(0, .ref 2), (1, .ref 156)], [], am_SH, (f6, g))) (by subst Ef6; exact rfl) ?_
  refine am_Ev.go hcd 7 (s' := (31, [(0, .ref 2), (1, .ref 156)], [.int 6, .int 0, .ref 3, .int 0, .ref 157], am_SH, (f6, g))) rfl ?_
  obtain ⟨f7, Ef7, h⟩ := am_let_eq' h
  refine am_Ev.jdk hcd (s1 := (32, [(0, .ref 2), (1, .ref 156)], [], am_SH, (f7, g))) (by subst Ef7; exact rfl) ?_
  refine am_Ev.go hcd 7 (s' := (39, [(0, .ref 2), (1, .ref 156)], [.int 6, .int 0, .ref 4, .int 0, .ref 158], am_SH, (f7, g))) rfl ?_
  obtain ⟨f8, Ef8, h⟩ := am_let_eq' h
  refine am_Ev.jdk hcd (s1 := (40, [(0, .ref 2), (1, .ref 156)], [], am_SH, (f8, g))) (by subst Ef8; exact rfl) ?_
  refine am_Ev.go hcd 7 (s' := (47, [(0, .ref 2), (1, .ref 156)], [.int 6, .int 0, .ref 5, .int 0, .ref 159], am_SH, (f8, g))) rfl ?_
  obtain ⟨f9, Ef9, h⟩ := am_let_eq' h
  refine am_Ev.jdk hcd (s1 := (48, [(0, .ref 2), (1, .ref 156)], [], am_SH, (f9, g))) (by subst Ef9; exact rfl) ?_
  refine am_Ev.go hcd 7 (s' := (55, [(0, .ref 2), (1, .ref 156)], [.int 6, .int 0, .ref 6, .int 0, .ref 160], am_SH, (f9, g))) rfl ?_
  obtain ⟨f10, Ef10, h⟩ := am_let_eq' h
  refine am_Ev.jdk hcd (s1 := (56, [(0, .ref 2), (1, .ref 156)], [], am_SH, (f10, g))) (by subst Ef10; exact rfl) ?_
  refine am_Ev.go hcd 7 (s' := (63, [(0, .ref 2), (1, .ref 156)], [.int 6, .int 0, .ref 7, .int 0, .ref 161], am_SH, (f10, g))) rfl ?_
  obtain ⟨f11, Ef11, h⟩ := am_let_eq' h
  refine am_Ev.jdk hcd (s1 := (64, [(0, .ref 2), (1, .ref 156)], [], am_SH, (f11, g))) (by subst Ef11; exact rfl) ?_
  refine am_Ev.go hcd 7 (s' := (71, [(0, .ref 2), (1, .ref 156)], [.int 12, .int 0, .ref 8, .int 0, .ref 162], am_SH, (f11, g))) rfl ?_
  obtain ⟨f12, Ef12, h⟩ := am_let_eq' h
  refine am_Ev.jdk hcd (s1 := (72, [(0, .ref 2), (1, .ref 156)], [], am_SH, (f12, g))) (by subst Ef12; exact rfl) ?_
  refine am_Ev.go hcd 7 (s' := (79, [(0, .ref 2), (1, .ref 156)], [.int 12, .int 0, .ref 9, .int 0, .ref 163], am_SH, (f12, g))) rfl ?_
  obtain ⟨f13, Ef13, h⟩ := am_let_eq' h
  refine am_Ev.jdk hcd (s1 := (80, [(0, .ref 2), (1, .ref 156)], [], am_SH, (f13, g))) (by subst Ef13; exact rfl) ?_
  refine am_Ev.go hcd 7 (s' := (87, [(0, .ref 2), (1, .ref 156)], [.int 12, .int 0, .ref 10, .int 0, .ref 164], am_SH, (f13, g))) rfl ?_
  obtain ⟨f14, Ef14, h⟩ := am_let_eq' h
  refine am_Ev.jdk hcd (s1 := (88, [(0, .ref 2), (1, .ref 156)], [], am_SH, (f14, g))) (by subst Ef14; exact rfl) ?_
  refine am_Ev.go hcd 7 (s' := (95, [(0, .ref 2), (1, .ref 156)], [.int 12, .int 0, .ref 11, .int 0, .ref 165], am_SH, (f14, g))) rfl ?_
  obtain ⟨f15, Ef15, h⟩ := am_let_eq' h
  refine am_Ev.jdk hcd (s1 := (96, [(0, .ref 2), (1, .ref 156)], [], am_SH, (f15, g))) (by subst Ef15; exact rfl) ?_
  exact am_Ev.cast (a := (none, am_SH, (f15, g))) (by subst h; rfl) (am_Ev.ret hcd rfl)
set_option maxRecDepth 100000 in
set_option maxHeartbeats 4000000 in
theorem x_tk_ok_166_2 {sc : Nat × (Nat → Int32)} (d : Nat) (f g : (Nat → Nat → Int32)) : am_Ev sc (d + 1) 30 (0, [(0, .ref 166), (1, .ref 2)], [], am_SH, (f, g)) (none, am_SH, ((x_tk 166 2 f), g)) := by
  have hcd : am_code 30 = am_c30 := rfl
  obtain ⟨r, h⟩ : ∃ r, r = x_tk 166 2 f := ⟨_, rfl⟩
  rw [← h]
  unfold x_tk at h
  obtain ⟨f1, Ef1, h⟩ := am_let_eq' h
  refine am_Ev.go hcd 4 (s' := (4, [(0, .ref 166), (1, .ref 2)], [], am_SH, (f1, g))) (by subst Ef1; exact rfl) ?_
  obtain ⟨f2, Ef2, h⟩ := am_let_eq' h
  refine am_Ev.go hcd 4 (s' := (8, [(0, .ref 166), (1, .ref 2)], [], am_SH, (f2, g))) (by subst Ef2; exact rfl) ?_
  obtain ⟨f3, Ef3, h⟩ := am_let_eq' h
  refine am_Ev.go hcd 4 (s' := (12, [(0, .ref 166), (1, .ref 2)], [], am_SH, (f3, g))) (by subst Ef3; exact rfl) ?_
  obtain ⟨f4, Ef4, h⟩ := am_let_eq' h
  refine am_Ev.go hcd 4 (s' := (16, [(0, .ref 166), (1, .ref 2)], [], am_SH, (f4, g))) (by subst Ef4; exact rfl) ?_
  obtain ⟨f5, Ef5, h⟩ := am_let_eq' h
  refine am_Ev.go hcd 4 (s' := (20, [(0, .ref 166), (1, .ref 2)], [], am_SH, (f5, g))) (by subst Ef5; exact rfl) ?_
  obtain ⟨f6, Ef6, h⟩ := am_let_eq' h
  refine am_Ev.go hcd 4 (s' := (24, [(0, .ref 166), (1, .ref 2)], [], am_SH, (f6, g))) (by subst Ef6; exact rfl) ?_
  refine am_Ev.go hcd 7 (s' := (31, [(0, .ref 166), (1, .ref 2)], [.int 6, .int 0, .ref 167, .int 0, .ref 3], am_SH, (f6, g))) rfl ?_
  obtain ⟨f7, Ef7, h⟩ := am_let_eq' h
  refine am_Ev.jdk hcd (s1 := (32, [(0, .ref 166), (1, .ref 2)], [], am_SH, (f7, g))) (by subst Ef7; exact rfl) ?_
  refine am_Ev.go hcd 7 (s' := (39, [(0, .ref 166), (1, .ref 2)], [.int 6, .int 0, .ref 168, .int 0, .ref 4], am_SH, (f7, g))) rfl ?_
  obtain ⟨f8, Ef8, h⟩ := am_let_eq' h
  refine am_Ev.jdk hcd (s1 := (40, [(0, .ref 166), (1, .ref 2)], [], am_SH, (f8, g))) (by subst Ef8; exact rfl) ?_
  refine am_Ev.go hcd 7 (s' := (47, [(0, .ref 166), (1, .ref 2)], [.int 6, .int 0, .ref 169, .int 0, .ref 5], am_SH, (f8, g))) rfl ?_
  obtain ⟨f9, Ef9, h⟩ := am_let_eq' h
  refine am_Ev.jdk hcd (s1 := (48, [(0, .ref 166), (1, .ref 2)], [], am_SH, (f9, g))) (by subst Ef9; exact rfl) ?_
  refine am_Ev.go hcd 7 (s' := (55, [(0, .ref 166), (1, .ref 2)], [.int 6, .int 0, .ref 170, .int 0, .ref 6], am_SH, (f9, g))) rfl ?_
  obtain ⟨f10, Ef10, h⟩ := am_let_eq' h
  refine am_Ev.jdk hcd (s1 := (56, [(0, .ref 166), (1, .ref 2)], [], am_SH, (f10, g))) (by subst Ef10; exact rfl) ?_
  refine am_Ev.go hcd 7 (s' := (63, [(0, .ref 166), (1, .ref 2)], [.int 6, .int 0, .ref 171, .int 0, .ref 7], am_SH, (f10, g))) rfl ?_
  obtain ⟨f11, Ef11, h⟩ := am_let_eq' h
  refine am_Ev.jdk hcd (s1 := (64, [(0, .ref 166), (1, .ref 2)], [], am_SH, (f11, g))) (by subst Ef11; exact rfl) ?_
  refine am_Ev.go hcd 7 (s' := (71, [(0, .ref 166), (1, .ref 2)], [.int 12, .int 0, .ref 172, .int 0, .ref 8], am_SH, (f11, g))) rfl ?_
  obtain ⟨f12, Ef12, h⟩ := am_let_eq' h
  refine am_Ev.jdk hcd (s1 := (72, [(0, .ref 166), (1, .ref 2)], [], am_SH, (f12, g))) (by subst Ef12; exact rfl) ?_
  refine am_Ev.go hcd 7 (s' := (79, [(0, .ref 166), (1, .ref 2)], [.int 12, .int 0, .ref 173, .int 0, .ref 9], am_SH, (f12, g))) rfl ?_
  obtain ⟨f13, Ef13, h⟩ := am_let_eq' h
  refine am_Ev.jdk hcd (s1 := (80, [(0, .ref 166), (1, .ref 2)], [], am_SH, (f13, g))) (by subst Ef13; exact rfl) ?_
  refine am_Ev.go hcd 7 (s' := (87, [(0, .ref 166), (1, .ref 2)], [.int 12, .int 0, .ref 174, .int 0, .ref 10], am_SH, (f13, g))) rfl ?_
  obtain ⟨f14, Ef14, h⟩ := am_let_eq' h
  refine am_Ev.jdk hcd (s1 := (88, [(0, .ref 166), (1, .ref 2)], [], am_SH, (f14, g))) (by subst Ef14; exact rfl) ?_
  refine am_Ev.go hcd 7 (s' := (95, [(0, .ref 166), (1, .ref 2)], [.int 12, .int 0, .ref 175, .int 0, .ref 11], am_SH, (f14, g))) rfl ?_
  obtain ⟨f15, Ef15, h⟩ := am_let_eq' h
  refine am_Ev.jdk hcd (s1 := (96, [(0, .ref 166), (1, .ref 2)], [], am_SH, (f15, g))) (by subst Ef15; exact rfl) ?_
  exact am_Ev.cast (a := (none, am_SH, (f15, g))) (by subst h; rfl) (am_Ev.ret hcd rfl)
set_option maxRecDepth 100000 in
set_option maxHeartbeats 4000000 in
theorem x_tk_ok_2_166 {sc : Nat × (Nat → Int32)} (d : Nat) (f g : (Nat → Nat → Int32)) : am_Ev sc (d + 1) 30 (0, [(0, .ref 2), (1, .ref 166)], [], am_SH, (f, g)) (none, am_SH, ((x_tk 2 166 f), g)) := by
  have hcd : am_code 30 = am_c30 := rfl
  obtain ⟨r, h⟩ : ∃ r, r = x_tk 2 166 f := ⟨_, rfl⟩
  rw [← h]
  unfold x_tk at h
  obtain ⟨f1, Ef1, h⟩ := am_let_eq' h
  refine am_Ev.go hcd 4 (s' := (4, [(0, .ref 2), (1, .ref 166)], [], am_SH, (f1, g))) (by subst Ef1; exact rfl) ?_
  obtain ⟨f2, Ef2, h⟩ := am_let_eq' h
  refine am_Ev.go hcd 4 (s' := (8, [(0, .ref 2), (1, .ref 166)], [], am_SH, (f2, g))) (by subst Ef2; exact rfl) ?_
  obtain ⟨f3, Ef3, h⟩ := am_let_eq' h
  refine am_Ev.go hcd 4 (s' := (12, [(0, .ref 2), (1, .ref 166)], [], am_SH, (f3, g))) (by subst Ef3; exact rfl) ?_
  obtain ⟨f4, Ef4, h⟩ := am_let_eq' h
  refine am_Ev.go hcd 4 (s' := (16, [(0, .ref 2), (1, .ref 166)], [], am_SH, (f4, g))) (by subst Ef4; exact rfl) ?_
  obtain ⟨f5, Ef5, h⟩ := am_let_eq' h
  refine am_Ev.go hcd 4 (s' := (20, [(0, .ref 2), (1, .ref 166)], [], am_SH, (f5, g))) (by subst Ef5; exact rfl) ?_
  obtain ⟨f6, Ef6, h⟩ := am_let_eq' h
  refine am_Ev.go hcd 4 (s' := (24, [(0, .ref 2), (1, .ref 166)], [], am_SH, (f6, g))) (by subst Ef6; exact rfl) ?_
  refine am_Ev.go hcd 7 (s' := (31, [(0, .ref 2), (1, .ref 166)], [.int 6, .int 0, .ref 3, .int 0, .ref 167], am_SH, (f6, g))) rfl ?_
  obtain ⟨f7, Ef7, h⟩ := am_let_eq' h
  refine am_Ev.jdk hcd (s1 := (32, [(0, .ref 2), (1, .ref 166)], [], am_SH, (f7, g))) (by subst Ef7; exact rfl) ?_
  refine am_Ev.go hcd 7 (s' := (39, [(0, .ref 2), (1, .ref 166)], [.int 6, .int 0, .ref 4, .int 0, .ref 168], am_SH, (f7, g))) rfl ?_
  obtain ⟨f8, Ef8, h⟩ := am_let_eq' h
  refine am_Ev.jdk hcd (s1 := (40, [(0, .ref 2), (1, .ref 166)], [], am_SH, (f8, g))) (by subst Ef8; exact rfl) ?_
  refine am_Ev.go hcd 7 (s' := (47, [(0, .ref 2), (1, .ref 166)], [.int 6, .int 0, .ref 5, .int 0, .ref 169], am_SH, (f8, g))) rfl ?_
  obtain ⟨f9, Ef9, h⟩ := am_let_eq' h
  refine am_Ev.jdk hcd (s1 := (48, [(0, .ref 2), (1, .ref 166)], [], am_SH, (f9, g))) (by subst Ef9; exact rfl) ?_
  refine am_Ev.go hcd 7 (s' := (55, [(0, .ref 2), (1, .ref 166)], [.int 6, .int 0, .ref 6, .int 0, .ref 170], am_SH, (f9, g))) rfl ?_
  obtain ⟨f10, Ef10, h⟩ := am_let_eq' h
  refine am_Ev.jdk hcd (s1 := (56, [(0, .ref 2), (1, .ref 166)], [], am_SH, (f10, g))) (by subst Ef10; exact rfl) ?_
  refine am_Ev.go hcd 7 (s' := (63, [(0, .ref 2), (1, .ref 166)], [.int 6, .int 0, .ref 7, .int 0, .ref 171], am_SH, (f10, g))) rfl ?_
  obtain ⟨f11, Ef11, h⟩ := am_let_eq' h
  refine am_Ev.jdk hcd (s1 := (64, [(0, .ref 2), (1, .ref 166)], [], am_SH, (f11, g))) (by subst Ef11; exact rfl) ?_
  refine am_Ev.go hcd 7 (s' := (71, [(0, .ref 2), (1, .ref 166)], [.int 12, .int 0, .ref 8, .int 0, .ref 172], am_SH, (f11, g))) rfl ?_
  obtain ⟨f12, Ef12, h⟩ := am_let_eq' h
  refine am_Ev.jdk hcd (s1 := (72, [(0, .ref 2), (1, .ref 166)], [], am_SH, (f12, g))) (by subst Ef12; exact rfl) ?_
  refine am_Ev.go hcd 7 (s' := (79, [(0, .ref 2), (1, .ref 166)], [.int 12, .int 0, .ref 9, .int 0, .ref 173], am_SH, (f12, g))) rfl ?_
  obtain ⟨f13, Ef13, h⟩ := am_let_eq' h
  refine am_Ev.jdk hcd (s1 := (80, [(0, .ref 2), (1, .ref 166)], [], am_SH, (f13, g))) (by subst Ef13; exact rfl) ?_
  refine am_Ev.go hcd 7 (s' := (87, [(0, .ref 2), (1, .ref 166)], [.int 12, .int 0, .ref 10, .int 0, .ref 174], am_SH, (f13, g))) rfl ?_
  obtain ⟨f14, Ef14, h⟩ := am_let_eq' h
  refine am_Ev.jdk hcd (s1 := (88, [(0, .ref 2), (1, .ref 166)], [], am_SH, (f14, g))) (by subst Ef14; exact rfl) ?_
  refine am_Ev.go hcd 7 (s' := (95, [(0, .ref 2), (1, .ref 166)], [.int 12, .int 0, .ref 11, .int 0, .ref 175], am_SH, (f14, g))) rfl ?_
  obtain ⟨f15, Ef15, h⟩ := am_let_eq' h
  refine am_Ev.jdk hcd (s1 := (96, [(0, .ref 2), (1, .ref 166)], [], am_SH, (f15, g))) (by subst Ef15; exact rfl) ?_
  exact am_Ev.cast (a := (none, am_SH, (f15, g))) (by subst h; rfl) (am_Ev.ret hcd rfl)
set_option maxRecDepth 100000 in
set_option maxHeartbeats 4000000 in
theorem x_tk_ok_176_2 {sc : Nat × (Nat → Int32)} (d : Nat) (f g : (Nat → Nat → Int32)) : am_Ev sc (d + 1) 30 (0, [(0, .ref 176), (1, .ref 2)], [], am_SH, (f, g)) (none, am_SH, ((x_tk 176 2 f), g)) := by
  have hcd : am_code 30 = am_c30 := rfl
  obtain ⟨r, h⟩ : ∃ r, r = x_tk 176 2 f := ⟨_, rfl⟩
  rw [← h]
  unfold x_tk at h
  obtain ⟨f1, Ef1, h⟩ := am_let_eq' h
  refine am_Ev.go hcd 4 (s' := (4, [(0, .ref 176), (1, .ref 2)], [], am_SH, (f1, g))) (by subst Ef1; exact rfl) ?_
  obtain ⟨f2, Ef2, h⟩ := am_let_eq' h
  refine am_Ev.go hcd 4 (s' := (8, [(0, .ref 176), (1, .ref 2)], [], am_SH, (f2, g))) (by subst Ef2; exact rfl) ?_
  obtain ⟨f3, Ef3, h⟩ := am_let_eq' h
  refine am_Ev.go hcd 4 (s' := (12, [(0, .ref 176), (1, .ref 2)], [], am_SH, (f3, g))) (by subst Ef3; exact rfl) ?_
  obtain ⟨f4, Ef4, h⟩ := am_let_eq' h
  refine am_Ev.go hcd 4 (s' := (16, [(0, .ref 176), (1, .ref 2)], [], am_SH, (f4, g))) (by subst Ef4; exact rfl) ?_
  obtain ⟨f5, Ef5, h⟩ := am_let_eq' h
  refine am_Ev.go hcd 4 (s' := (20, [(0, .ref 176), (1, .ref 2)], [], am_SH, (f5, g))) (by subst Ef5; exact rfl) ?_
  obtain ⟨f6, Ef6, h⟩ := am_let_eq' h
  refine am_Ev.go hcd 4 (s' := (24, [(0, .ref 176), (1, .ref 2)], [], am_SH, (f6, g))) (by subst Ef6; exact rfl) ?_
  refine am_Ev.go hcd 7 (s' := (31, [(0, .ref 176), (1, .ref 2)], [.int 6, .int 0, .ref 177, .int 0, .ref 3], am_SH, (f6, g))) rfl ?_
  obtain ⟨f7, Ef7, h⟩ := am_let_eq' h
  refine am_Ev.jdk hcd (s1 := (32, [(0, .ref 176), (1, .ref 2)], [], am_SH, (f7, g))) (by subst Ef7; exact rfl) ?_
  refine am_Ev.go hcd 7 (s' := (39, [(0, .ref 176), (1, .ref 2)], [.int 6, .int 0, .ref 178, .int 0, .ref 4], am_SH, (f7, g))) rfl ?_
  obtain ⟨f8, Ef8, h⟩ := am_let_eq' h
  refine am_Ev.jdk hcd (s1 := (40, [(0, .ref 176), (1, .ref 2)], [], am_SH, (f8, g))) (by subst Ef8; exact rfl) ?_
  refine am_Ev.go hcd 7 (s' := (47, [(0, .ref 176), (1, .ref 2)], [.int 6, .int 0, .ref 179, .int 0, .ref 5], am_SH, (f8, g))) rfl ?_
  obtain ⟨f9, Ef9, h⟩ := am_let_eq' h
  refine am_Ev.jdk hcd (s1 := (48, [(0, .ref 176), (1, .ref 2)], [], am_SH, (f9, g))) (by subst Ef9; exact rfl) ?_
  refine am_Ev.go hcd 7 (s' := (55, [(0, .ref 176), (1, .ref 2)], [.int 6, .int 0, .ref 180, .int 0, .ref 6], am_SH, (f9, g))) rfl ?_
  obtain ⟨f10, Ef10, h⟩ := am_let_eq' h
  refine am_Ev.jdk hcd (s1 := (56, [(0, .ref 176), (1, .ref 2)], [], am_SH, (f10, g))) (by subst Ef10; exact rfl) ?_
  refine am_Ev.go hcd 7 (s' := (63, [(0, .ref 176), (1, .ref 2)], [.int 6, .int 0, .ref 181, .int 0, .ref 7], am_SH, (f10, g))) rfl ?_
  obtain ⟨f11, Ef11, h⟩ := am_let_eq' h
  refine am_Ev.jdk hcd (s1 := (64, [(0, .ref 176), (1, .ref 2)], [], am_SH, (f11, g))) (by subst Ef11; exact rfl) ?_
  refine am_Ev.go hcd 7 (s' := (71, [(0, .ref 176), (1, .ref 2)], [.int 12, .int 0, .ref 182, .int 0, .ref 8], am_SH, (f11, g))) rfl ?_
  obtain ⟨f12, Ef12, h⟩ := am_let_eq' h
  refine am_Ev.jdk hcd (s1 := (72, [(0, .ref 176), (1, .ref 2)], [], am_SH, (f12, g))) (by subst Ef12; exact rfl) ?_
  refine am_Ev.go hcd 7 (s' := (79, [(0, .ref 176), (1, .ref 2)], [.int 12, .int 0, .ref 183, .int 0, .ref 9], am_SH, (f12, g))) rfl ?_
  obtain ⟨f13, Ef13, h⟩ := am_let_eq' h
  refine am_Ev.jdk hcd (s1 := (80, [(0, .ref 176), (1, .ref 2)], [], am_SH, (f13, g))) (by subst Ef13; exact rfl) ?_
  refine am_Ev.go hcd 7 (s' := (87, [(0, .ref 176), (1, .ref 2)], [.int 12, .int 0, .ref 184, .int 0, .ref 10], am_SH, (f13, g))) rfl ?_
  obtain ⟨f14, Ef14, h⟩ := am_let_eq' h
  refine am_Ev.jdk hcd (s1 := (88, [(0, .ref 176), (1, .ref 2)], [], am_SH, (f14, g))) (by subst Ef14; exact rfl) ?_
  refine am_Ev.go hcd 7 (s' := (95, [(0, .ref 176), (1, .ref 2)], [.int 12, .int 0, .ref 185, .int 0, .ref 11], am_SH, (f14, g))) rfl ?_
  obtain ⟨f15, Ef15, h⟩ := am_let_eq' h
  refine am_Ev.jdk hcd (s1 := (96, [(0, .ref 176), (1, .ref 2)], [], am_SH, (f15, g))) (by subst Ef15; exact rfl) ?_
  exact am_Ev.cast (a := (none, am_SH, (f15, g))) (by subst h; rfl) (am_Ev.ret hcd rfl)
set_option maxRecDepth 100000 in
set_option maxHeartbeats 4000000 in
theorem x_tk_ok_2_176 {sc : Nat × (Nat → Int32)} (d : Nat) (f g : (Nat → Nat → Int32)) : am_Ev sc (d + 1) 30 (0, [(0, .ref 2), (1, .ref 176)], [], am_SH, (f, g)) (none, am_SH, ((x_tk 2 176 f), g)) := by
  have hcd : am_code 30 = am_c30 := rfl
  obtain ⟨r, h⟩ : ∃ r, r = x_tk 2 176 f := ⟨_, rfl⟩
  rw [← h]
  unfold x_tk at h
  obtain ⟨f1, Ef1, h⟩ := am_let_eq' h
  refine am_Ev.go hcd 4 (s' := (4, [(0, .ref 2), (1, .ref 176)], [], am_SH, (f1, g))) (by subst Ef1; exact rfl) ?_
  obtain ⟨f2, Ef2, h⟩ := am_let_eq' h
  refine am_Ev.go hcd 4 (s' := (8, [(0, .ref 2), (1, .ref 176)], [], am_SH, (f2, g))) (by subst Ef2; exact rfl) ?_
  obtain ⟨f3, Ef3, h⟩ := am_let_eq' h
  refine am_Ev.go hcd 4 (s' := (12, [(0, .ref 2), (1, .ref 176)], [], am_SH, (f3, g))) (by subst Ef3; exact rfl) ?_
  obtain ⟨f4, Ef4, h⟩ := am_let_eq' h
  refine am_Ev.go hcd 4 (s' := (16, [(0, .ref 2), (1, .ref 176)], [], am_SH, (f4, g))) (by subst Ef4; exact rfl) ?_
  obtain ⟨f5, Ef5, h⟩ := am_let_eq' h
  refine am_Ev.go hcd 4 (s' := (20, [(0, .ref 2), (1, .ref 176)], [], am_SH, (f5, g))) (by subst Ef5; exact rfl) ?_
  obtain ⟨f6, Ef6, h⟩ := am_let_eq' h
  refine am_Ev.go hcd 4 (s' := (24, [(0, .ref 2), (1, .ref 176)], [], am_SH, (f6, g))) (by subst Ef6; exact rfl) ?_
  refine am_Ev.go hcd 7 (s' := (31, [(0, .ref 2), (1, .ref 176)], [.int 6, .int 0, .ref 3, .int 0, .ref 177], am_SH, (f6, g))) rfl ?_
  obtain ⟨f7, Ef7, h⟩ := am_let_eq' h
  refine am_Ev.jdk hcd (s1 := (32, [(0, .ref 2), (1, .ref 176)], [], am_SH, (f7, g))) (by subst Ef7; exact rfl) ?_
  refine am_Ev.go hcd 7 (s' := (39, [(0, .ref 2), (1, .ref 176)], [.int 6, .int 0, .ref 4, .int 0, .ref 178], am_SH, (f7, g))) rfl ?_
  obtain ⟨f8, Ef8, h⟩ := am_let_eq' h
  refine am_Ev.jdk hcd (s1 := (40, [(0, .ref 2), (1, .ref 176)], [], am_SH, (f8, g))) (by subst Ef8; exact rfl) ?_
  refine am_Ev.go hcd 7 (s' := (47, [(0, .ref 2), (1, .ref 176)], [.int 6, .int 0, .ref 5, .int 0, .ref 179], am_SH, (f8, g))) rfl ?_
  obtain ⟨f9, Ef9, h⟩ := am_let_eq' h
  refine am_Ev.jdk hcd (s1 := (48, [(0, .ref 2), (1, .ref 176)], [], am_SH, (f9, g))) (by subst Ef9; exact rfl) ?_
  refine am_Ev.go hcd 7 (s' := (55, [(0, .ref 2), (1, .ref 176)], [.int 6, .int 0, .ref 6, .int 0, .ref 180], am_SH, (f9, g))) rfl ?_
  obtain ⟨f10, Ef10, h⟩ := am_let_eq' h
  refine am_Ev.jdk hcd (s1 := (56, [(0, .ref 2), (1, .ref 176)], [], am_SH, (f10, g))) (by subst Ef10; exact rfl) ?_
  refine am_Ev.go hcd 7 (s' := (63, [(0, .ref 2), (1, .ref 176)], [.int 6, .int 0, .ref 7, .int 0, .ref 181], am_SH, (f10, g))) rfl ?_
  obtain ⟨f11, Ef11, h⟩ := am_let_eq' h
  refine am_Ev.jdk hcd (s1 := (64, [(0, .ref 2), (1, .ref 176)], [], am_SH, (f11, g))) (by subst Ef11; exact rfl) ?_
  refine am_Ev.go hcd 7 (s' := (71, [(0, .ref 2), (1, .ref 176)], [.int 12, .int 0, .ref 8, .int 0, .ref 182], am_SH, (f11, g))) rfl ?_
  obtain ⟨f12, Ef12, h⟩ := am_let_eq' h
  refine am_Ev.jdk hcd (s1 := (72, [(0, .ref 2), (1, .ref 176)], [], am_SH, (f12, g))) (by subst Ef12; exact rfl) ?_
  refine am_Ev.go hcd 7 (s' := (79, [(0, .ref 2), (1, .ref 176)], [.int 12, .int 0, .ref 9, .int 0, .ref 183], am_SH, (f12, g))) rfl ?_
  obtain ⟨f13, Ef13, h⟩ := am_let_eq' h
  refine am_Ev.jdk hcd (s1 := (80, [(0, .ref 2), (1, .ref 176)], [], am_SH, (f13, g))) (by subst Ef13; exact rfl) ?_
  refine am_Ev.go hcd 7 (s' := (87, [(0, .ref 2), (1, .ref 176)], [.int 12, .int 0, .ref 10, .int 0, .ref 184], am_SH, (f13, g))) rfl ?_
  obtain ⟨f14, Ef14, h⟩ := am_let_eq' h
  refine am_Ev.jdk hcd (s1 := (88, [(0, .ref 2), (1, .ref 176)], [], am_SH, (f14, g))) (by subst Ef14; exact rfl) ?_
  refine am_Ev.go hcd 7 (s' := (95, [(0, .ref 2), (1, .ref 176)], [.int 12, .int 0, .ref 11, .int 0, .ref 185], am_SH, (f14, g))) rfl ?_
  obtain ⟨f15, Ef15, h⟩ := am_let_eq' h
  refine am_Ev.jdk hcd (s1 := (96, [(0, .ref 2), (1, .ref 176)], [], am_SH, (f15, g))) (by subst Ef15; exact rfl) ?_
  exact am_Ev.cast (a := (none, am_SH, (f15, g))) (by subst h; rfl) (am_Ev.ret hcd rfl)
set_option maxRecDepth 100000 in
set_option maxHeartbeats 4000000 in
theorem x_tk_ok_186_2 {sc : Nat × (Nat → Int32)} (d : Nat) (f g : (Nat → Nat → Int32)) : am_Ev sc (d + 1) 30 (0, [(0, .ref 186), (1, .ref 2)], [], am_SH, (f, g)) (none, am_SH, ((x_tk 186 2 f), g)) := by
  have hcd : am_code 30 = am_c30 := rfl
  obtain ⟨r, h⟩ : ∃ r, r = x_tk 186 2 f := ⟨_, rfl⟩
  rw [← h]
  unfold x_tk at h
  obtain ⟨f1, Ef1, h⟩ := am_let_eq' h
  refine am_Ev.go hcd 4 (s' := (4, [(0, .ref 186), (1, .ref 2)], [], am_SH, (f1, g))) (by subst Ef1; exact rfl) ?_
  obtain ⟨f2, Ef2, h⟩ := am_let_eq' h
  refine am_Ev.go hcd 4 (s' := (8, [(0, .ref 186), (1, .ref 2)], [], am_SH, (f2, g))) (by subst Ef2; exact rfl) ?_
  obtain ⟨f3, Ef3, h⟩ := am_let_eq' h
  refine am_Ev.go hcd 4 (s' := (12, [(0, .ref 186), (1, .ref 2)], [], am_SH, (f3, g))) (by subst Ef3; exact rfl) ?_
  obtain ⟨f4, Ef4, h⟩ := am_let_eq' h
  refine am_Ev.go hcd 4 (s' := (16, [(0, .ref 186), (1, .ref 2)], [], am_SH, (f4, g))) (by subst Ef4; exact rfl) ?_
  obtain ⟨f5, Ef5, h⟩ := am_let_eq' h
  refine am_Ev.go hcd 4 (s' := (20, [(0, .ref 186), (1, .ref 2)], [], am_SH, (f5, g))) (by subst Ef5; exact rfl) ?_
  obtain ⟨f6, Ef6, h⟩ := am_let_eq' h
  refine am_Ev.go hcd 4 (s' := (24, [(0, .ref 186), (1, .ref 2)], [], am_SH, (f6, g))) (by subst Ef6; exact rfl) ?_
  refine am_Ev.go hcd 7 (s' := (31, [(0, .ref 186), (1, .ref 2)], [.int 6, .int 0, .ref 187, .int 0, .ref 3], am_SH, (f6, g))) rfl ?_
  obtain ⟨f7, Ef7, h⟩ := am_let_eq' h
  refine am_Ev.jdk hcd (s1 := (32, [(0, .ref 186), (1, .ref 2)], [], am_SH, (f7, g))) (by subst Ef7; exact rfl) ?_
  refine am_Ev.go hcd 7 (s' := (39, [(0, .ref 186), (1, .ref 2)], [.int 6, .int 0, .ref 188, .int 0, .ref 4], am_SH, (f7, g))) rfl ?_
  obtain ⟨f8, Ef8, h⟩ := am_let_eq' h
  refine am_Ev.jdk hcd (s1 := (40, [(0, .ref 186), (1, .ref 2)], [], am_SH, (f8, g))) (by subst Ef8; exact rfl) ?_
  refine am_Ev.go hcd 7 (s' := (47, [(0, .ref 186), (1, .ref 2)], [.int 6, .int 0, .ref 189, .int 0, .ref 5], am_SH, (f8, g))) rfl ?_
  obtain ⟨f9, Ef9, h⟩ := am_let_eq' h
  refine am_Ev.jdk hcd (s1 := (48, [(0, .ref 186), (1, .ref 2)], [], am_SH, (f9, g))) (by subst Ef9; exact rfl) ?_
  refine am_Ev.go hcd 7 (s' := (55, [(0, .ref 186), (1, .ref 2)], [.int 6, .int 0, .ref 190, .int 0, .ref 6], am_SH, (f9, g))) rfl ?_
  obtain ⟨f10, Ef10, h⟩ := am_let_eq' h
  refine am_Ev.jdk hcd (s1 := (56, [(0, .ref 186), (1, .ref 2)], [], am_SH, (f10, g))) (by subst Ef10; exact rfl) ?_
  refine am_Ev.go hcd 7 (s' := (63, [(0, .ref 186), (1, .ref 2)], [.int 6, .int 0, .ref 191, .int 0, .ref 7], am_SH, (f10, g))) rfl ?_
  obtain ⟨f11, Ef11, h⟩ := am_let_eq' h
  refine am_Ev.jdk hcd (s1 := (64, [(0, .ref 186), (1, .ref 2)], [], am_SH, (f11, g))) (by subst Ef11; exact rfl) ?_
  refine am_Ev.go hcd 7 (s' := (71, [(0, .ref 186), (1, .ref 2)], [.int 12, .int 0, .ref 192, .int 0, .ref 8], am_SH, (f11, g))) rfl ?_
  obtain ⟨f12, Ef12, h⟩ := am_let_eq' h
  refine am_Ev.jdk hcd (s1 := (72, [(0, .ref 186), (1, .ref 2)], [], am_SH, (f12, g))) (by subst Ef12; exact rfl) ?_
  refine am_Ev.go hcd 7 (s' := (79, [(0, .ref 186), (1, .ref 2)], [.int 12, .int 0, .ref 193, .int 0, .ref 9], am_SH, (f12, g))) rfl ?_
  obtain ⟨f13, Ef13, h⟩ := am_let_eq' h
  refine am_Ev.jdk hcd (s1 := (80, [(0, .ref 186), (1, .ref 2)], [], am_SH, (f13, g))) (by subst Ef13; exact rfl) ?_
  refine am_Ev.go hcd 7 (s' := (87, [(0, .ref 186), (1, .ref 2)], [.int 12, .int 0, .ref 194, .int 0, .ref 10], am_SH, (f13, g))) rfl ?_
  obtain ⟨f14, Ef14, h⟩ := am_let_eq' h
  refine am_Ev.jdk hcd (s1 := (88, [(0, .ref 186), (1, .ref 2)], [], am_SH, (f14, g))) (by subst Ef14; exact rfl) ?_
  refine am_Ev.go hcd 7 (s' := (95, [(0, .ref 186), (1, .ref 2)], [.int 12, .int 0, .ref 195, .int 0, .ref 11], am_SH, (f14, g))) rfl ?_
  obtain ⟨f15, Ef15, h⟩ := am_let_eq' h
  refine am_Ev.jdk hcd (s1 := (96, [(0, .ref 186), (1, .ref 2)], [], am_SH, (f15, g))) (by subst Ef15; exact rfl) ?_
  exact am_Ev.cast (a := (none, am_SH, (f15, g))) (by subst h; rfl) (am_Ev.ret hcd rfl)
set_option maxRecDepth 100000 in
set_option maxHeartbeats 4000000 in
theorem x_tk_ok_2_186 {sc : Nat × (Nat → Int32)} (d : Nat) (f g : (Nat → Nat → Int32)) : am_Ev sc (d + 1) 30 (0, [(0, .ref 2), (1, .ref 186)], [], am_SH, (f, g)) (none, am_SH, ((x_tk 2 186 f), g)) := by
  have hcd : am_code 30 = am_c30 := rfl
  obtain ⟨r, h⟩ : ∃ r, r = x_tk 2 186 f := ⟨_, rfl⟩
  rw [← h]
  unfold x_tk at h
  obtain ⟨f1, Ef1, h⟩ := am_let_eq' h
  refine am_Ev.go hcd 4 (s' := (4, [(0, .ref 2), (1, .ref 186)], [], am_SH, (f1, g))) (by subst Ef1; exact rfl) ?_
  obtain ⟨f2, Ef2, h⟩ := am_let_eq' h
  refine am_Ev.go hcd 4 (s' := (8, [(0, .ref 2), (1, .ref 186)], [], am_SH, (f2, g))) (by subst Ef2; exact rfl) ?_
  obtain ⟨f3, Ef3, h⟩ := am_let_eq' h
  refine am_Ev.go hcd 4 (s' := (12, [(0, .ref 2), (1, .ref 186)], [], am_SH, (f3, g))) (by subst Ef3; exact rfl) ?_
  obtain ⟨f4, Ef4, h⟩ := am_let_eq' h
  refine am_Ev.go hcd 4 (s' := (16, [(0, .ref 2), (1, .ref 186)], [], am_SH, (f4, g))) (by subst Ef4; exact rfl) ?_
  obtain ⟨f5, Ef5, h⟩ := am_let_eq' h
  refine am_Ev.go hcd 4 (s' := (20, [(0, .ref 2), (1, .ref 186)], [], am_SH, (f5, g))) (by subst Ef5; exact rfl) ?_
  obtain ⟨f6, Ef6, h⟩ := am_let_eq' h
  refine am_Ev.go hcd 4 (s' := (24, [(0, .ref 2), (1, .ref 186)], [], am_SH, (f6, g))) (by subst Ef6; exact rfl) ?_
  refine am_Ev.go hcd 7 (s' := (31, [(0, .ref 2), (1, .ref 186)], [.int 6, .int 0, .ref 3, .int 0, .ref 187], am_SH, (f6, g))) rfl ?_
  obtain ⟨f7, Ef7, h⟩ := am_let_eq' h
  refine am_Ev.jdk hcd (s1 := (32, [(0, .ref 2), (1, .ref 186)], [], am_SH, (f7, g))) (by subst Ef7; exact rfl) ?_
  refine am_Ev.go hcd 7 (s' := (39, [(0, .ref 2), (1, .ref 186)], [.int 6, .int 0, .ref 4, .int 0, .ref 188], am_SH, (f7, g))) rfl ?_
  obtain ⟨f8, Ef8, h⟩ := am_let_eq' h
  refine am_Ev.jdk hcd (s1 := (40, [(0, .ref 2), (1, .ref 186)], [], am_SH, (f8, g))) (by subst Ef8; exact rfl) ?_
  refine am_Ev.go hcd 7 (s' := (47, [(0, .ref 2), (1, .ref 186)], [.int 6, .int 0, .ref 5, .int 0, .ref 189], am_SH, (f8, g))) rfl ?_
  obtain ⟨f9, Ef9, h⟩ := am_let_eq' h
  refine am_Ev.jdk hcd (s1 := (48, [(0, .ref 2), (1, .ref 186)], [], am_SH, (f9, g))) (by subst Ef9; exact rfl) ?_
  refine am_Ev.go hcd 7 (s' := (55, [(0, .ref 2), (1, .ref 186)], [.int 6, .int 0, .ref 6, .int 0, .ref 190], am_SH, (f9, g))) rfl ?_
  obtain ⟨f10, Ef10, h⟩ := am_let_eq' h
  refine am_Ev.jdk hcd (s1 := (56, [(0, .ref 2), (1, .ref 186)], [], am_SH, (f10, g))) (by subst Ef10; exact rfl) ?_
  refine am_Ev.go hcd 7 (s' := (63, [(0, .ref 2), (1, .ref 186)], [.int 6, .int 0, .ref 7, .int 0, .ref 191], am_SH, (f10, g))) rfl ?_
  obtain ⟨f11, Ef11, h⟩ := am_let_eq' h
  refine am_Ev.jdk hcd (s1 := (64, [(0, .ref 2), (1, .ref 186)], [], am_SH, (f11, g))) (by subst Ef11; exact rfl) ?_
  refine am_Ev.go hcd 7 (s' := (71, [(0, .ref 2), (1, .ref 186)], [.int 12, .int 0, .ref 8, .int 0, .ref 192], am_SH, (f11, g))) rfl ?_
  obtain ⟨f12, Ef12, h⟩ := am_let_eq' h
  refine am_Ev.jdk hcd (s1 := (72, [(0, .ref 2), (1, .ref 186)], [], am_SH, (f12, g))) (by subst Ef12; exact rfl) ?_
  refine am_Ev.go hcd 7 (s' := (79, [(0, .ref 2), (1, .ref 186)], [.int 12, .int 0, .ref 9, .int 0, .ref 193], am_SH, (f12, g))) rfl ?_
  obtain ⟨f13, Ef13, h⟩ := am_let_eq' h
  refine am_Ev.jdk hcd (s1 := (80, [(0, .ref 2), (1, .ref 186)], [], am_SH, (f13, g))) (by subst Ef13; exact rfl) ?_
  refine am_Ev.go hcd 7 (s' := (87, [(0, .ref 2), (1, .ref 186)], [.int 12, .int 0, .ref 10, .int 0, .ref 194], am_SH, (f13, g))) rfl ?_
  obtain ⟨f14, Ef14, h⟩ := am_let_eq' h
  refine am_Ev.jdk hcd (s1 := (88, [(0, .ref 2), (1, .ref 186)], [], am_SH, (f14, g))) (by subst Ef14; exact rfl) ?_
  refine am_Ev.go hcd 7 (s' := (95, [(0, .ref 2), (1, .ref 186)], [.int 12, .int 0, .ref 11, .int 0, .ref 195], am_SH, (f14, g))) rfl ?_
  obtain ⟨f15, Ef15, h⟩ := am_let_eq' h
  refine am_Ev.jdk hcd (s1 := (96, [(0, .ref 2), (1, .ref 186)], [], am_SH, (f15, g))) (by subst Ef15; exact rfl) ?_
  exact am_Ev.cast (a := (none, am_SH, (f15, g))) (by subst h; rfl) (am_Ev.ret hcd rfl)
set_option maxRecDepth 100000 in
set_option maxHeartbeats 4000000 in
theorem x_tk_ok_196_2 {sc : Nat × (Nat → Int32)} (d : Nat) (f g : (Nat → Nat → Int32)) : am_Ev sc (d + 1) 30 (0, [(0, .ref 196), (1, .ref 2)], [], am_SH, (f, g)) (none, am_SH, ((x_tk 196 2 f), g)) := by
  have hcd : am_code 30 = am_c30 := rfl
  obtain ⟨r, h⟩ : ∃ r, r = x_tk 196 2 f := ⟨_, rfl⟩
  rw [← h]
  unfold x_tk at h
  obtain ⟨f1, Ef1, h⟩ := am_let_eq' h
  refine am_Ev.go hcd 4 (s' := (4, [(0, .ref 196), (1, .ref 2)], [], am_SH, (f1, g))) (by subst Ef1; exact rfl) ?_
  obtain ⟨f2, Ef2, h⟩ := am_let_eq' h
  refine am_Ev.go hcd 4 (s' := (8, [(0, .ref 196), (1, .ref 2)], [], am_SH, (f2, g))) (by subst Ef2; exact rfl) ?_
  obtain ⟨f3, Ef3, h⟩ := am_let_eq' h
  refine am_Ev.go hcd 4 (s' := (12, [(0, .ref 196), (1, .ref 2)], [], am_SH, (f3, g))) (by subst Ef3; exact rfl) ?_
  obtain ⟨f4, Ef4, h⟩ := am_let_eq' h
  refine am_Ev.go hcd 4 (s' := (16, [(0, .ref 196), (1, .ref 2)], [], am_SH, (f4, g))) (by subst Ef4; exact rfl) ?_
  obtain ⟨f5, Ef5, h⟩ := am_let_eq' h
  refine am_Ev.go hcd 4 (s' := (20, [(0, .ref 196), (1, .ref 2)], [], am_SH, (f5, g))) (by subst Ef5; exact rfl) ?_
  obtain ⟨f6, Ef6, h⟩ := am_let_eq' h
  refine am_Ev.go hcd 4 (s' := (24, [(0, .ref 196), (1, .ref 2)], [], am_SH, (f6, g))) (by subst Ef6; exact rfl) ?_
  refine am_Ev.go hcd 7 (s' := (31, [(0, .ref 196), (1, .ref 2)], [.int 6, .int 0, .ref 197, .int 0, .ref 3], am_SH, (f6, g))) rfl ?_
  obtain ⟨f7, Ef7, h⟩ := am_let_eq' h
  refine am_Ev.jdk hcd (s1 := (32, [(0, .ref 196), (1, .ref 2)], [], am_SH, (f7, g))) (by subst Ef7; exact rfl) ?_
  refine am_Ev.go hcd 7 (s' := (39, [(0, .ref 196), (1, .ref 2)], [.int 6, .int 0, .ref 198, .int 0, .ref 4], am_SH, (f7, g))) rfl ?_
  obtain ⟨f8, Ef8, h⟩ := am_let_eq' h
  refine am_Ev.jdk hcd (s1 := (40, [(0, .ref 196), (1, .ref 2)], [], am_SH, (f8, g))) (by subst Ef8; exact rfl) ?_
  refine am_Ev.go hcd 7 (s' := (47, [(0, .ref 196), (1, .ref 2)], [.int 6, .int 0, .ref 199, .int 0, .ref 5], am_SH, (f8, g))) rfl ?_
  obtain ⟨f9, Ef9, h⟩ := am_let_eq' h
  refine am_Ev.jdk hcd (s1 := (48, [(0, .ref 196), (1, .ref 2)], [], am_SH, (f9, g))) (by subst Ef9; exact rfl) ?_
  refine am_Ev.go hcd 7 (s' := (55, [(0, .ref 196), (1, .ref 2)], [.int 6, .int 0, .ref 200, .int 0, .ref 6], am_SH, (f9, g))) rfl ?_
  obtain ⟨f10, Ef10, h⟩ := am_let_eq' h
  refine am_Ev.jdk hcd (s1 := (56, [(0, .ref 196), (1, .ref 2)], [], am_SH, (f10, g))) (by subst Ef10; exact rfl) ?_
  refine am_Ev.go hcd 7 (s' := (63, [(0, .ref 196), (1, .ref 2)], [.int 6, .int 0, .ref 201, .int 0, .ref 7], am_SH, (f10, g))) rfl ?_
  obtain ⟨f11, Ef11, h⟩ := am_let_eq' h
  refine am_Ev.jdk hcd (s1 := (64, [(0, .ref 196), (1, .ref 2)], [], am_SH, (f11, g))) (by subst Ef11; exact rfl) ?_
  refine am_Ev.go hcd 7 (s' := (71, [(0, .ref 196), (1, .ref 2)], [.int 12, .int 0, .ref 202, .int 0, .ref 8], am_SH, (f11, g))) rfl ?_
  obtain ⟨f12, Ef12, h⟩ := am_let_eq' h
  refine am_Ev.jdk hcd (s1 := (72, [(0, .ref 196), (1, .ref 2)], [], am_SH, (f12, g))) (by subst Ef12; exact rfl) ?_
  refine am_Ev.go hcd 7 (s' := (79, [(0, .ref 196), (1, .ref 2)], [.int 12, .int 0, .ref 203, .int 0, .ref 9], am_SH, (f12, g))) rfl ?_
  obtain ⟨f13, Ef13, h⟩ := am_let_eq' h
  refine am_Ev.jdk hcd (s1 := (80, [(0, .ref 196), (1, .ref 2)], [], am_SH, (f13, g))) (by subst Ef13; exact rfl) ?_
  refine am_Ev.go hcd 7 (s' := (87, [(0, .ref 196), (1, .ref 2)], [.int 12, .int 0, .ref 204, .int 0, .ref 10], am_SH, (f13, g))) rfl ?_
  obtain ⟨f14, Ef14, h⟩ := am_let_eq' h
  refine am_Ev.jdk hcd (s1 := (88, [(0, .ref 196), (1, .ref 2)], [], am_SH, (f14, g))) (by subst Ef14; exact rfl) ?_
  refine am_Ev.go hcd 7 (s' := (95, [(0, .ref 196), (1, .ref 2)], [.int 12, .int 0, .ref 205, .int 0, .ref 11], am_SH, (f14, g))) rfl ?_
  obtain ⟨f15, Ef15, h⟩ := am_let_eq' h
  refine am_Ev.jdk hcd (s1 := (96, [(0, .ref 196), (1, .ref 2)], [], am_SH, (f15, g))) (by subst Ef15; exact rfl) ?_
  exact am_Ev.cast (a := (none, am_SH, (f15, g))) (by subst h; rfl) (am_Ev.ret hcd rfl)
set_option maxRecDepth 100000 in
set_option maxHeartbeats 4000000 in
theorem x_tk_ok_2_196 {sc : Nat × (Nat → Int32)} (d : Nat) (f g : (Nat → Nat → Int32)) : am_Ev sc (d + 1) 30 (0, [(0, .ref 2), (1, .ref 196)], [], am_SH, (f, g)) (none, am_SH, ((x_tk 2 196 f), g)) := by
  have hcd : am_code 30 = am_c30 := rfl
  obtain ⟨r, h⟩ : ∃ r, r = x_tk 2 196 f := ⟨_, rfl⟩
  rw [← h]
  unfold x_tk at h
  obtain ⟨f1, Ef1, h⟩ := am_let_eq' h
  refine am_Ev.go hcd 4 (s' := (4, [(0, .ref 2), (1, .ref 196)], [], am_SH, (f1, g))) (by subst Ef1; exact rfl) ?_
  obtain ⟨f2, Ef2, h⟩ := am_let_eq' h
  refine am_Ev.go hcd 4 (s' := (8, [(0, .ref 2), (1, .ref 196)], [], am_SH, (f2, g))) (by subst Ef2; exact rfl) ?_
  obtain ⟨f3, Ef3, h⟩ := am_let_eq' h
  refine am_Ev.go hcd 4 (s' := (12, [(0, .ref 2), (1, .ref 196)], [], am_SH, (f3, g))) (by subst Ef3; exact rfl) ?_
  obtain ⟨f4, Ef4, h⟩ := am_let_eq' h
  refine am_Ev.go hcd 4 (s' := (16, [(0, .ref 2), (1, .ref 196)], [], am_SH, (f4, g))) (by subst Ef4; exact rfl) ?_
  obtain ⟨f5, Ef5, h⟩ := am_let_eq' h
  refine am_Ev.go hcd 4 (s' := (20, [(0, .ref 2), (1, .ref 196)], [], am_SH, (f5, g))) (by subst Ef5; exact rfl) ?_
  obtain ⟨f6, Ef6, h⟩ := am_let_eq' h
  refine am_Ev.go hcd 4 (s' := (24, [(0, .ref 2), (1, .ref 196)], [], am_SH, (f6, g))) (by subst Ef6; exact rfl) ?_
  refine am_Ev.go hcd 7 (s' := (31, [(0, .ref 2), (1, .ref 196)], [.int 6, .int 0, .ref 3, .int 0, .ref 197], am_SH, (f6, g))) rfl ?_
  obtain ⟨f7, Ef7, h⟩ := am_let_eq' h
  refine am_Ev.jdk hcd (s1 := (32, [(0, .ref 2), (1, .ref 196)], [], am_SH, (f7, g))) (by subst Ef7; exact rfl) ?_
  refine am_Ev.go hcd 7 (s' := (39, [(0, .ref 2), (1, .ref 196)], [.int 6, .int 0, .ref 4, .int 0, .ref 198], am_SH, (f7, g))) rfl ?_
  obtain ⟨f8, Ef8, h⟩ := am_let_eq' h
  refine am_Ev.jdk hcd (s1 := (40, [(0, .ref 2), (1, .ref 196)], [], am_SH, (f8, g))) (by subst Ef8; exact rfl) ?_
  refine am_Ev.go hcd 7 (s' := (47, [(0, .ref 2), (1, .ref 196)], [.int 6, .int 0, .ref 5, .int 0, .ref 199], am_SH, (f8, g))) rfl ?_
  obtain ⟨f9, Ef9, h⟩ := am_let_eq' h
  refine am_Ev.jdk hcd (s1 := (48, [(0, .ref 2), (1, .ref 196)], [], am_SH, (f9, g))) (by subst Ef9; exact rfl) ?_
  refine am_Ev.go hcd 7 (s' := (55, [(0, .ref 2), (1, .ref 196)], [.int 6, .int 0, .ref 6, .int 0, .ref 200], am_SH, (f9, g))) rfl ?_
  obtain ⟨f10, Ef10, h⟩ := am_let_eq' h
  refine am_Ev.jdk hcd (s1 := (56, [(0, .ref 2), (1, .ref 196)], [], am_SH, (f10, g))) (by subst Ef10; exact rfl) ?_
  refine am_Ev.go hcd 7 (s' := (63, [(0, .ref 2), (1, .ref 196)], [.int 6, .int 0, .ref 7, .int 0, .ref 201], am_SH, (f10, g))) rfl ?_
  obtain ⟨f11, Ef11, h⟩ := am_let_eq' h
  refine am_Ev.jdk hcd (s1 := (64, [(0, .ref 2), (1, .ref 196)], [], am_SH, (f11, g))) (by subst Ef11; exact rfl) ?_
  refine am_Ev.go hcd 7 (s' := (71, [(0, .ref 2), (1, .ref 196)], [.int 12, .int 0, .ref 8, .int 0, .ref 202], am_SH, (f11, g))) rfl ?_
  obtain ⟨f12, Ef12, h⟩ := am_let_eq' h
  refine am_Ev.jdk hcd (s1 := (72, [(0, .ref 2), (1, .ref 196)], [], am_SH, (f12, g))) (by subst Ef12; exact rfl) ?_
  refine am_Ev.go hcd 7 (s' := (79, [(0, .ref 2), (1, .ref 196)], [.int 12, .int 0, .ref 9, .int 0, .ref 203], am_SH, (f12, g))) rfl ?_
  obtain ⟨f13, Ef13, h⟩ := am_let_eq' h
  refine am_Ev.jdk hcd (s1 := (80, [(0, .ref 2), (1, .ref 196)], [], am_SH, (f13, g))) (by subst Ef13; exact rfl) ?_
  refine am_Ev.go hcd 7 (s' := (87, [(0, .ref 2), (1, .ref 196)], [.int 12, .int 0, .ref 10, .int 0, .ref 204], am_SH, (f13, g))) rfl ?_
  obtain ⟨f14, Ef14, h⟩ := am_let_eq' h
  refine am_Ev.jdk hcd (s1 := (88, [(0, .ref 2), (1, .ref 196)], [], am_SH, (f14, g))) (by subst Ef14; exact rfl) ?_
  refine am_Ev.go hcd 7 (s' := (95, [(0, .ref 2), (1, .ref 196)], [.int 12, .int 0, .ref 11, .int 0, .ref 205], am_SH, (f14, g))) rfl ?_
  obtain ⟨f15, Ef15, h⟩ := am_let_eq' h
  refine am_Ev.jdk hcd (s1 := (96, [(0, .ref 2), (1, .ref 196)], [], am_SH, (f15, g))) (by subst Ef15; exact rfl) ?_
  exact am_Ev.cast (a := (none, am_SH, (f15, g))) (by subst h; rfl) (am_Ev.ret hcd rfl)
set_option maxRecDepth 100000 in
set_option maxHeartbeats 4000000 in
theorem x_tk_ok_206_2 {sc : Nat × (Nat → Int32)} (d : Nat) (f g : (Nat → Nat → Int32)) : am_Ev sc (d + 1) 30 (0, [(0, .ref 206), (1, .ref 2)], [], am_SH, (f, g)) (none, am_SH, ((x_tk 206 2 f), g)) := by
  have hcd : am_code 30 = am_c30 := rfl
  obtain ⟨r, h⟩ : ∃ r, r = x_tk 206 2 f := ⟨_, rfl⟩
  rw [← h]
  unfold x_tk at h
  obtain ⟨f1, Ef1, h⟩ := am_let_eq' h
  refine am_Ev.go hcd 4 (s' := (4, [(0, .ref 206), (1, .ref 2)], [], am_SH, (f1, g))) (by subst Ef1; exact rfl) ?_
  obtain ⟨f2, Ef2, h⟩ := am_let_eq' h
  refine am_Ev.go hcd 4 (s' := (8, [(0, .ref 206), (1, .ref 2)], [], am_SH, (f2, g))) (by subst Ef2; exact rfl) ?_
  obtain ⟨f3, Ef3, h⟩ := am_let_eq' h
  refine am_Ev.go hcd 4 (s' := (12, [(0, .ref 206), (1, .ref 2)], [], am_SH, (f3, g))) (by subst Ef3; exact rfl) ?_
  obtain ⟨f4, Ef4, h⟩ := am_let_eq' h
  refine am_Ev.go hcd 4 (s' := (16, [(0, .ref 206), (1, .ref 2)], [], am_SH, (f4, g))) (by subst Ef4; exact rfl) ?_
  obtain ⟨f5, Ef5, h⟩ := am_let_eq' h
  refine am_Ev.go hcd 4 (s' := (20, [(0, .ref 206), (1, .ref 2)], [], am_SH, (f5, g))) (by subst Ef5; exact rfl) ?_
  obtain ⟨f6, Ef6, h⟩ := am_let_eq' h
  refine am_Ev.go hcd 4 (s' := (24, [(0, .ref 206), (1, .ref 2)], [], am_SH, (f6, g))) (by subst Ef6; exact rfl) ?_
  refine am_Ev.go hcd 7 (s' := (31, [(0, .ref 206), (1, .ref 2)], [.int 6, .int 0, .ref 207, .int 0, .ref 3], am_SH, (f6, g))) rfl ?_
  obtain ⟨f7, Ef7, h⟩ := am_let_eq' h
  refine am_Ev.jdk hcd (s1 := (32, [(0, .ref 206), (1, .ref 2)], [], am_SH, (f7, g))) (by subst Ef7; exact rfl) ?_
  refine am_Ev.go hcd 7 (s' := (39, [(0, .ref 206), (1, .ref 2)], [.int 6, .int 0, .ref 208, .int 0, .ref 4], am_SH, (f7, g))) rfl ?_
  obtain ⟨f8, Ef8, h⟩ := am_let_eq' h
  refine am_Ev.jdk hcd (s1 := (40, [(0, .ref 206), (1, .ref 2)], [], am_SH, (f8, g))) (by subst Ef8; exact rfl) ?_
  refine am_Ev.go hcd 7 (s' := (47, [(0, .ref 206), (1, .ref 2)], [.int 6, .int 0, .ref 209, .int 0, .ref 5], am_SH, (f8, g))) rfl ?_
  obtain ⟨f9, Ef9, h⟩ := am_let_eq' h
  refine am_Ev.jdk hcd (s1 := (48, [(0, .ref 206), (1, .ref 2)], [], am_SH, (f9, g))) (by subst Ef9; exact rfl) ?_
  refine am_Ev.go hcd 7 (s' := (55, [(0, .ref 206), (1, .ref 2)], [.int 6, .int 0, .ref 210, .int 0, .ref 6], am_SH, (f9, g))) rfl ?_
  obtain ⟨f10, Ef10, h⟩ := am_let_eq' h
  refine am_Ev.jdk hcd (s1 := (56, [(0, .ref 206), (1, .ref 2)], [], am_SH, (f10, g))) (by subst Ef10; exact rfl) ?_
  refine am_Ev.go hcd 7 (s' := (63, [(0, .ref 206), (1, .ref 2)], [.int 6, .int 0, .ref 211, .int 0, .ref 7], am_SH, (f10, g))) rfl ?_
  obtain ⟨f11, Ef11, h⟩ := am_let_eq' h
  refine am_Ev.jdk hcd (s1 := (64, [(0, .ref 206), (1, .ref 2)], [], am_SH, (f11, g))) (by subst Ef11; exact rfl) ?_
  refine am_Ev.go hcd 7 (s' := (71, [(0, .ref 206), (1, .ref 2)], [.int 12, .int 0, .ref 212, .int 0, .ref 8], am_SH, (f11, g))) rfl ?_
  obtain ⟨f12, Ef12, h⟩ := am_let_eq' h
  refine am_Ev.jdk hcd (s1 := (72, [(0, .ref 206), (1, .ref 2)], [], am_SH, (f12, g))) (by subst Ef12; exact rfl) ?_
  refine am_Ev.go hcd 7 (s' := (79, [(0, .ref 206), (1, .ref 2)], [.int 12, .int 0, .ref 213, .int 0, .ref 9], am_SH, (f12, g))) rfl ?_
  obtain ⟨f13, Ef13, h⟩ := am_let_eq' h
  refine am_Ev.jdk hcd (s1 := (80, [(0, .ref 206), (1, .ref 2)], [], am_SH, (f13, g))) (by subst Ef13; exact rfl) ?_
  refine am_Ev.go hcd 7 (s' := (87, [(0, .ref 206), (1, .ref 2)], [.int 12, .int 0, .ref 214, .int 0, .ref 10], am_SH, (f13, g))) rfl ?_
  obtain ⟨f14, Ef14, h⟩ := am_let_eq' h
  refine am_Ev.jdk hcd (s1 := (88, [(0, .ref 206), (1, .ref 2)], [], am_SH, (f14, g))) (by subst Ef14; exact rfl) ?_
  refine am_Ev.go hcd 7 (s' := (95, [(0, .ref 206), (1, .ref 2)], [.int 12, .int 0, .ref 215, .int 0, .ref 11], am_SH, (f14, g))) rfl ?_
  obtain ⟨f15, Ef15, h⟩ := am_let_eq' h
  refine am_Ev.jdk hcd (s1 := (96, [(0, .ref 206), (1, .ref 2)], [], am_SH, (f15, g))) (by subst Ef15; exact rfl) ?_
  exact am_Ev.cast (a := (none, am_SH, (f15, g))) (by subst h; rfl) (am_Ev.ret hcd rfl)
set_option maxRecDepth 100000 in
set_option maxHeartbeats 4000000 in
theorem x_tk_ok_2_206 {sc : Nat × (Nat → Int32)} (d : Nat) (f g : (Nat → Nat → Int32)) : am_Ev sc (d + 1) 30 (0, [(0, .ref 2), (1, .ref 206)], [], am_SH, (f, g)) (none, am_SH, ((x_tk 2 206 f), g)) := by
  have hcd : am_code 30 = am_c30 := rfl
  obtain ⟨r, h⟩ : ∃ r, r = x_tk 2 206 f := ⟨_, rfl⟩
  rw [← h]
  unfold x_tk at h
  obtain ⟨f1, Ef1, h⟩ := am_let_eq' h
  refine am_Ev.go hcd 4 (s' := (4, [(0, .ref 2), (1, .ref 206)], [], am_SH, (f1, g))) (by subst Ef1; exact rfl) ?_
  obtain ⟨f2, Ef2, h⟩ := am_let_eq' h
  refine am_Ev.go hcd 4 (s' := (8, [(0, .ref 2), (1, .ref 206)], [], am_SH, (f2, g))) (by subst Ef2; exact rfl) ?_
  obtain ⟨f3, Ef3, h⟩ := am_let_eq' h
  refine am_Ev.go hcd 4 (s' := (12, [(0, .ref 2), (1, .ref 206)], [], am_SH, (f3, g))) (by subst Ef3; exact rfl) ?_
  obtain ⟨f4, Ef4, h⟩ := am_let_eq' h
  refine am_Ev.go hcd 4 (s' := (16, [(0, .ref 2), (1, .ref 206)], [], am_SH, (f4, g))) (by subst Ef4; exact rfl) ?_
  obtain ⟨f5, Ef5, h⟩ := am_let_eq' h
  refine am_Ev.go hcd 4 (s' := (20, [(0, .ref 2), (1, .ref 206)], [], am_SH, (f5, g))) (by subst Ef5; exact rfl) ?_
  obtain ⟨f6, Ef6, h⟩ := am_let_eq' h
  refine am_Ev.go hcd 4 (s' := (24, [(0, .ref 2), (1, .ref 206)], [], am_SH, (f6, g))) (by subst Ef6; exact rfl) ?_
  refine am_Ev.go hcd 7 (s' := (31, [(0, .ref 2), (1, .ref 206)], [.int 6, .int 0, .ref 3, .int 0, .ref 207], am_SH, (f6, g))) rfl ?_
  obtain ⟨f7, Ef7, h⟩ := am_let_eq' h
  refine am_Ev.jdk hcd (s1 := (32, [(0, .ref 2), (1, .ref 206)], [], am_SH, (f7, g))) (by subst Ef7; exact rfl) ?_
  refine am_Ev.go hcd 7 (s' := (39, [(0, .ref 2), (1, .ref 206)], [.int 6, .int 0, .ref 4, .int 0, .ref 208], am_SH, (f7, g))) rfl ?_
  obtain ⟨f8, Ef8, h⟩ := am_let_eq' h
  refine am_Ev.jdk hcd (s1 := (40, [(0, .ref 2), (1, .ref 206)], [], am_SH, (f8, g))) (by subst Ef8; exact rfl) ?_
  refine am_Ev.go hcd 7 (s' := (47, [(0, .ref 2), (1, .ref 206)], [.int 6, .int 0, .ref 5, .int 0, .ref 209], am_SH, (f8, g))) rfl ?_
  obtain ⟨f9, Ef9, h⟩ := am_let_eq' h
  refine am_Ev.jdk hcd (s1 := (48, [(0, .ref 2), (1, .ref 206)], [], am_SH, (f9, g))) (by subst Ef9; exact rfl) ?_
  refine am_Ev.go hcd 7 (s' := (55, [(0, .ref 2), (1, .ref 206)], [.int 6, .int 0, .ref 6, .int 0, .ref 210], am_SH, (f9, g))) rfl ?_
  obtain ⟨f10, Ef10, h⟩ := am_let_eq' h
  refine am_Ev.jdk hcd (s1 := (56, [(0, .ref 2), (1, .ref 206)], [], am_SH, (f10, g))) (by subst Ef10; exact rfl) ?_
  refine am_Ev.go hcd 7 (s' := (63, [(0, .ref 2), (1, .ref 206)], [.int 6, .int 0, .ref 7, .int 0, .ref 211], am_SH, (f10, g))) rfl ?_
  obtain ⟨f11, Ef11, h⟩ := am_let_eq' h
  refine am_Ev.jdk hcd (s1 := (64, [(0, .ref 2), (1, .ref 206)], [], am_SH, (f11, g))) (by subst Ef11; exact rfl) ?_
  refine am_Ev.go hcd 7 (s' := (71, [(0, .ref 2), (1, .ref 206)], [.int 12, .int 0, .ref 8, .int 0, .ref 212], am_SH, (f11, g))) rfl ?_
  obtain ⟨f12, Ef12, h⟩ := am_let_eq' h
  refine am_Ev.jdk hcd (s1 := (72, [(0, .ref 2), (1, .ref 206)], [], am_SH, (f12, g))) (by subst Ef12; exact rfl) ?_
  refine am_Ev.go hcd 7 (s' := (79, [(0, .ref 2), (1, .ref 206)], [.int 12, .int 0, .ref 9, .int 0, .ref 213], am_SH, (f12, g))) rfl ?_
  obtain ⟨f13, Ef13, h⟩ := am_let_eq' h
  refine am_Ev.jdk hcd (s1 := (80, [(0, .ref 2), (1, .ref 206)], [], am_SH, (f13, g))) (by subst Ef13; exact rfl) ?_
  refine am_Ev.go hcd 7 (s' := (87, [(0, .ref 2), (1, .ref 206)], [.int 12, .int 0, .ref 10, .int 0, .ref 214], am_SH, (f13, g))) rfl ?_
  obtain ⟨f14, Ef14, h⟩ := am_let_eq' h
  refine am_Ev.jdk hcd (s1 := (88, [(0, .ref 2), (1, .ref 206)], [], am_SH, (f14, g))) (by subst Ef14; exact rfl) ?_
  refine am_Ev.go hcd 7 (s' := (95, [(0, .ref 2), (1, .ref 206)], [.int 12, .int 0, .ref 11, .int 0, .ref 215], am_SH, (f14, g))) rfl ?_
  obtain ⟨f15, Ef15, h⟩ := am_let_eq' h
  refine am_Ev.jdk hcd (s1 := (96, [(0, .ref 2), (1, .ref 206)], [], am_SH, (f15, g))) (by subst Ef15; exact rfl) ?_
  exact am_Ev.cast (a := (none, am_SH, (f15, g))) (by subst h; rfl) (am_Ev.ret hcd rfl)
def x_isP (r : Nat) : Prop := r = 156 ∨ r = 166 ∨ r = 176 ∨ r = 186 ∨ r = 196 ∨ r = 206
theorem x_tk_okr {sc : Nat × (Nat → Int32)} {r : Nat} (hr : x_isP r) (d : Nat) (f g : (Nat → Nat → Int32)) : am_Ev sc (d + 1) 30 (0, [(0, .ref r), (1, .ref 2)], [], am_SH, (f, g)) (none, am_SH, ((x_tk r 2 f), g)) := by
  rcases hr with rfl | rfl | rfl | rfl | rfl | rfl
  · exact x_tk_ok_156_2 d f g
  · exact x_tk_ok_166_2 d f g
  · exact x_tk_ok_176_2 d f g
  · exact x_tk_ok_186_2 d f g
  · exact x_tk_ok_196_2 d f g
  · exact x_tk_ok_206_2 d f g
theorem x_tk_oks {sc : Nat × (Nat → Int32)} {r : Nat} (hr : x_isP r) (d : Nat) (f g : (Nat → Nat → Int32)) : am_Ev sc (d + 1) 30 (0, [(0, .ref 2), (1, .ref r)], [], am_SH, (f, g)) (none, am_SH, ((x_tk 2 r f), g)) := by
  rcases hr with rfl | rfl | rfl | rfl | rfl | rfl
  · exact x_tk_ok_2_156 d f g
  · exact x_tk_ok_2_166 d f g
  · exact x_tk_ok_2_176 d f g
  · exact x_tk_ok_2_186 d f g
  · exact x_tk_ok_2_196 d f g
  · exact x_tk_ok_2_206 d f g
theorem x_pl_isP (j k : Nat) : x_isP (x_pl j k) := by
  unfold x_isP x_pl
  have : (j + k) % 6 < 6 := Nat.mod_lt _ (by decide)
  omega
theorem x_rv {r : Nat} (hr : x_isP r) : am_rv (nI (r + 1)) = .ref r := by
  rcases hr with rfl | rfl | rfl | rfl | rfl | rfl <;> rfl
theorem x_n6 : ∀ n, n < 6 → am_in (nI n) 6 = true ∧ (nI n).toNatClampNeg = n ∧ nI n + 1 = nI (n + 1) ∧ nI n < 6 := by decide
theorem x_tk04 {r : Nat} (hr : x_isP r) (f : (Nat → Nat → Int32)) : x_tk r 2 f 0 4 = f 0 4 := by
  rcases hr with rfl | rfl | rfl | rfl | rfl | rfl <;> rfl
set_option maxRecDepth 100000 in
set_option maxHeartbeats 4000000 in
theorem x_kpz {sc : Nat × (Nat → Int32)} (d : Nat) (f g : (Nat → Nat → Int32)) {n r : Nat} (hn : n < 6) (hr : x_isP r) (h1 : f 0 4 = nI n) (h2 : f 109 n = nI (r + 1)) : am_Ev sc (d + 3) 174 (34, [(0, .ref 0)], [], am_SH, (f, g)) (none, am_SH, (am_up (x_tk r 2 f) 0 4 (nI (n + 1)), g)) := by
  have hcd : am_code 174 = am_c174 := rfl
  obtain ⟨i1, i2, i3, -⟩ := x_n6 n hn
  have hv : am_rv (f 109 (f 0 4).toNatClampNeg) = .ref r := by rw [h1, i2, h2]; exact x_rv hr
  have hin : am_in (f 0 4) 6 = true := by rw [h1]; exact i1
  refine am_Ev.go hcd 4 (s' := (38, [(0, .ref 0)], [.int (f 0 4), .ref 109], am_SH, (f, g))) rfl ?_
  refine am_Ev.t hcd (o := none) (c := am_in (f 0 4) 6 = true) (s1 := (39, [(0, .ref 0)], [.ref r], am_SH, (f, g))) (by rw [← hv]; exact rfl) hin ?_
  refine am_Ev.go hcd 3 (s' := (42, [(0, .ref 0)], [.ref 2, .ref r], am_SH, (f, g))) rfl ?_
  refine am_Ev.call hcd (a := 30) (s0 := (0, [(0, .ref r), (1, .ref 2)], [], am_SH, (f, g))) (q := (none, am_SH, (x_tk r 2 f, g))) (s1 := (43, [(0, .ref 0)], [], am_SH, (x_tk r 2 f, g))) (by rcases hr with rfl | rfl | rfl | rfl | rfl | rfl <;> rfl) rfl (x_tk_okr hr (d + 1) f g) ?_
  refine am_Ev.go hcd 6 (s' := (49, [(0, .ref 0)], [], am_SH, (am_up (x_tk r 2 f) 0 4 (x_tk r 2 f 0 4 + 1), g))) rfl ?_
  exact am_Ev.cast (a := (none, am_SH, (am_up (x_tk r 2 f) 0 4 (x_tk r 2 f 0 4 + 1), g))) (by rw [x_tk04 hr, h1, i3]) (am_Ev.ret hcd rfl)
set_option maxRecDepth 100000 in
set_option maxHeartbeats 4000000 in
theorem x_shift_0 {sc : Nat × (Nat → Int32)} (d : Nat) (f g : (Nat → Nat → Int32)) {r : am_R} (kk : am_Ev sc (d + 3) 174 (34, [(0, .ref 0)], [], am_SH, (am_up (x_lay 1 f) 0 4 5, g)) r) : am_Ev sc (d + 3) 174 (4, [(0, .ref 0)], [], am_SH, (x_lay 0 f, g)) r := by
  have hcd : am_code 174 = am_c174 := rfl
  refine am_Ev.go hcd 7 (s' := (11, [(0, .ref 0), (1, .ref 156), (2, .int 1)], [], am_SH, (x_lay 0 f, g))) rfl ?_
  refine am_Ev.go hcd 15 (s' := (11, [(0, .ref 0), (1, .ref 156), (2, .int 2)], [], am_SH, (am_up (x_lay 0 f) 109 0 (nI 167), g))) rfl ?_
  refine am_Ev.go hcd 15 (s' := (11, [(0, .ref 0), (1, .ref 156), (2, .int 3)], [], am_SH, (am_up (am_up (x_lay 0 f) 109 0 (nI 167)) 109 1 (nI 177), g))) rfl ?_
  refine am_Ev.go hcd 15 (s' := (11, [(0, .ref 0), (1, .ref 156), (2, .int 4)], [], am_SH, (am_up (am_up (am_up (x_lay 0 f) 109 0 (nI 167)) 109 1 (nI 177)) 109 2 (nI 187), g))) rfl ?_
  refine am_Ev.go hcd 15 (s' := (11, [(0, .ref 0), (1, .ref 156), (2, .int 5)], [], am_SH, (am_up (am_up (am_up (am_up (x_lay 0 f) 109 0 (nI 167)) 109 1 (nI 177)) 109 2 (nI 187)) 109 3 (nI 197), g))) rfl ?_
  refine am_Ev.go hcd 15 (s' := (11, [(0, .ref 0), (1, .ref 156), (2, .int 6)], [], am_SH, (am_up (am_up (am_up (am_up (am_up (x_lay 0 f) 109 0 (nI 167)) 109 1 (nI 177)) 109 2 (nI 187)) 109 3 (nI 197)) 109 4 (nI 207), g))) rfl ?_
  refine am_Ev.go hcd 3 (s' := (26, [(0, .ref 0), (1, .ref 156), (2, .int 6)], [], am_SH, (am_up (am_up (am_up (am_up (am_up (x_lay 0 f) 109 0 (nI 167)) 109 1 (nI 177)) 109 2 (nI 187)) 109 3 (nI 197)) 109 4 (nI 207), g))) rfl ?_
  refine am_Ev.go hcd 8 (s' := (34, [(0, .ref 0), (1, .ref 156), (2, .int 6)], [], am_SH, (am_up (am_up (am_up (am_up (am_up (am_up (am_up (x_lay 0 f) 109 0 (nI 167)) 109 1 (nI 177)) 109 2 (nI 187)) 109 3 (nI 197)) 109 4 (nI 207)) 109 5 (nI 157)) 0 4 5, g))) rfl ?_
  have e : am_up (am_up (am_up (am_up (am_up (am_up (x_lay 0 f) 109 0 (nI 167)) 109 1 (nI 177)) 109 2 (nI 187)) 109 3 (nI 197)) 109 4 (nI 207)) 109 5 (nI 157) = x_lay 1 f := by
    funext a j
    unfold x_lay am_up am_row upd
    by_cases ha : a = 109
    · subst ha
      by_cases j0 : j = 0
      · subst j0; rfl
      by_cases j1 : j = 1
      · subst j1; rfl
      by_cases j2 : j = 2
      · subst j2; rfl
      by_cases j3 : j = 3
      · subst j3; rfl
      by_cases j4 : j = 4
      · subst j4; rfl
      by_cases j5 : j = 5
      · subst j5; rfl
      have j6 : ¬ j < 6 := by omega
      simp only [j0, j1, j2, j3, j4, j5, j6, if_true, if_false]
    · simp only [ha, if_false]
  rw [e]
  exact am_Ev.weak' kk (am_sub_cons rfl am_sub_nil) rfl
set_option maxRecDepth 100000 in
set_option maxHeartbeats 4000000 in
theorem x_shift_1 {sc : Nat × (Nat → Int32)} (d : Nat) (f g : (Nat → Nat → Int32)) {r : am_R} (kk : am_Ev sc (d + 3) 174 (34, [(0, .ref 0)], [], am_SH, (am_up (x_lay 2 f) 0 4 5, g)) r) : am_Ev sc (d + 3) 174 (4, [(0, .ref 0)], [], am_SH, (x_lay 1 f, g)) r := by
  have hcd : am_code 174 = am_c174 := rfl
  refine am_Ev.go hcd 7 (s' := (11, [(0, .ref 0), (1, .ref 166), (2, .int 1)], [], am_SH, (x_lay 1 f, g))) rfl ?_
  refine am_Ev.go hcd 15 (s' := (11, [(0, .ref 0), (1, .ref 166), (2, .int 2)], [], am_SH, (am_up (x_lay 1 f) 109 0 (nI 177), g))) rfl ?_
  refine am_Ev.go hcd 15 (s' := (11, [(0, .ref 0), (1, .ref 166), (2, .int 3)], [], am_SH, (am_up (am_up (x_lay 1 f) 109 0 (nI 177)) 109 1 (nI 187), g))) rfl ?_
  refine am_Ev.go hcd 15 (s' := (11, [(0, .ref 0), (1, .ref 166), (2, .int 4)], [], am_SH, (am_up (am_up (am_up (x_lay 1 f) 109 0 (nI 177)) 109 1 (nI 187)) 109 2 (nI 197), g))) rfl ?_
  refine am_Ev.go hcd 15 (s' := (11, [(0, .ref 0), (1, .ref 166), (2, .int 5)], [], am_SH, (am_up (am_up (am_up (am_up (x_lay 1 f) 109 0 (nI 177)) 109 1 (nI 187)) 109 2 (nI 197)) 109 3 (nI 207), g))) rfl ?_
  refine am_Ev.go hcd 15 (s' := (11, [(0, .ref 0), (1, .ref 166), (2, .int 6)], [], am_SH, (am_up (am_up (am_up (am_up (am_up (x_lay 1 f) 109 0 (nI 177)) 109 1 (nI 187)) 109 2 (nI 197)) 109 3 (nI 207)) 109 4 (nI 157), g))) rfl ?_
  refine am_Ev.go hcd 3 (s' := (26, [(0, .ref 0), (1, .ref 166), (2, .int 6)], [], am_SH, (am_up (am_up (am_up (am_up (am_up (x_lay 1 f) 109 0 (nI 177)) 109 1 (nI 187)) 109 2 (nI 197)) 109 3 (nI 207)) 109 4 (nI 157), g))) rfl ?_
  refine am_Ev.go hcd 8 (s' := (34, [(0, .ref 0), (1, .ref 166), (2, .int 6)], [], am_SH, (am_up (am_up (am_up (am_up (am_up (am_up (am_up (x_lay 1 f) 109 0 (nI 177)) 109 1 (nI 187)) 109 2 (nI 197)) 109 3 (nI 207)) 109 4 (nI 157)) 109 5 (nI 167)) 0 4 5, g))) rfl ?_
  have e : am_up (am_up (am_up (am_up (am_up (am_up (x_lay 1 f) 109 0 (nI 177)) 109 1 (nI 187)) 109 2 (nI 197)) 109 3 (nI 207)) 109 4 (nI 157)) 109 5 (nI 167) = x_lay 2 f := by
    funext a j
    unfold x_lay am_up am_row upd
    by_cases ha : a = 109
    · subst ha
      by_cases j0 : j = 0
      · subst j0; rfl
      by_cases j1 : j = 1
      · subst j1; rfl
      by_cases j2 : j = 2
      · subst j2; rfl
      by_cases j3 : j = 3
      · subst j3; rfl
      by_cases j4 : j = 4
      · subst j4; rfl
      by_cases j5 : j = 5
      · subst j5; rfl
      have j6 : ¬ j < 6 := by omega
      simp only [j0, j1, j2, j3, j4, j5, j6, if_true, if_false]
    · simp only [ha, if_false]
  rw [e]
  exact am_Ev.weak' kk (am_sub_cons rfl am_sub_nil) rfl
set_option maxRecDepth 100000 in
set_option maxHeartbeats 4000000 in
theorem x_shift_2 {sc : Nat × (Nat → Int32)} (d : Nat) (f g : (Nat → Nat → Int32)) {r : am_R} (kk : am_Ev sc (d + 3) 174 (34, [(0, .ref 0)], [], am_SH, (am_up (x_lay 3 f) 0 4 5, g)) r) : am_Ev sc (d + 3) 174 (4, [(0, .ref 0)], [], am_SH, (x_lay 2 f, g)) r := by
  have hcd : am_code 174 = am_c174 := rfl
  refine am_Ev.go hcd 7 (s' := (11, [(0, .ref 0), (1, .ref 176), (2, .int 1)], [], am_SH, (x_lay 2 f, g))) rfl ?_
  refine am_Ev.go hcd 15 (s' := (11, [(0, .ref 0), (1, .ref 176), (2, .int 2)], [], am_SH, (am_up (x_lay 2 f) 109 0 (nI 187), g))) rfl ?_
  refine am_Ev.go hcd 15 (s' := (11, [(0, .ref 0), (1, .ref 176), (2, .int 3)], [], am_SH, (am_up (am_up (x_lay 2 f) 109 0 (nI 187)) 109 1 (nI 197), g))) rfl ?_
  refine am_Ev.go hcd 15 (s' := (11, [(0, .ref 0), (1, .ref 176), (2, .int 4)], [], am_SH, (am_up (am_up (am_up (x_lay 2 f) 109 0 (nI 187)) 109 1 (nI 197)) 109 2 (nI 207), g))) rfl ?_
  refine am_Ev.go hcd 15 (s' := (11, [(0, .ref 0), (1, .ref 176), (2, .int 5)], [], am_SH, (am_up (am_up (am_up (am_up (x_lay 2 f) 109 0 (nI 187)) 109 1 (nI 197)) 109 2 (nI 207)) 109 3 (nI 157), g))) rfl ?_
  refine am_Ev.go hcd 15 (s' := (11, [(0, .ref 0), (1, .ref 176), (2, .int 6)], [], am_SH, (am_up (am_up (am_up (am_up (am_up (x_lay 2 f) 109 0 (nI 187)) 109 1 (nI 197)) 109 2 (nI 207)) 109 3 (nI 157)) 109 4 (nI 167), g))) rfl ?_
  refine am_Ev.go hcd 3 (s' := (26, [(0, .ref 0), (1, .ref 176), (2, .int 6)], [], am_SH, (am_up (am_up (am_up (am_up (am_up (x_lay 2 f) 109 0 (nI 187)) 109 1 (nI 197)) 109 2 (nI 207)) 109 3 (nI 157)) 109 4 (nI 167), g))) rfl ?_
  refine am_Ev.go hcd 8 (s' := (34, [(0, .ref 0), (1, .ref 176), (2, .int 6)], [], am_SH, (am_up (am_up (am_up (am_up (am_up (am_up (am_up (x_lay 2 f) 109 0 (nI 187)) 109 1 (nI 197)) 109 2 (nI 207)) 109 3 (nI 157)) 109 4 (nI 167)) 109 5 (nI 177)) 0 4 5, g))) rfl ?_
  have e : am_up (am_up (am_up (am_up (am_up (am_up (x_lay 2 f) 109 0 (nI 187)) 109 1 (nI 197)) 109 2 (nI 207)) 109 3 (nI 157)) 109 4 (nI 167)) 109 5 (nI 177) = x_lay 3 f := by
    funext a j
    unfold x_lay am_up am_row upd
    by_cases ha : a = 109
    · subst ha
      by_cases j0 : j = 0
      · subst j0; rfl
      by_cases j1 : j = 1
      · subst j1; rfl
      by_cases j2 : j = 2
      · subst j2; rfl
      by_cases j3 : j = 3
      · subst j3; rfl
      by_cases j4 : j = 4
      · subst j4; rfl
      by_cases j5 : j = 5
      · subst j5; rfl
      have j6 : ¬ j < 6 := by omega
      simp only [j0, j1, j2, j3, j4, j5, j6, if_true, if_false]
    · simp only [ha, if_false]
  rw [e]
  exact am_Ev.weak' kk (am_sub_cons rfl am_sub_nil) rfl
set_option maxRecDepth 100000 in
set_option maxHeartbeats 4000000 in
theorem x_shift_3 {sc : Nat × (Nat → Int32)} (d : Nat) (f g : (Nat → Nat → Int32)) {r : am_R} (kk : am_Ev sc (d + 3) 174 (34, [(0, .ref 0)], [], am_SH, (am_up (x_lay 4 f) 0 4 5, g)) r) : am_Ev sc (d + 3) 174 (4, [(0, .ref 0)], [], am_SH, (x_lay 3 f, g)) r := by
  have hcd : am_code 174 = am_c174 := rfl
  refine am_Ev.go hcd 7 (s' := (11, [(0, .ref 0), (1, .ref 186), (2, .int 1)], [], am_SH, (x_lay 3 f, g))) rfl ?_
  refine am_Ev.go hcd 15 (s' := (11, [(0, .ref 0), (1, .ref 186), (2, .int 2)], [], am_SH, (am_up (x_lay 3 f) 109 0 (nI 197), g))) rfl ?_
  refine am_Ev.go hcd 15 (s' := (11, [(0, .ref 0), (1, .ref 186), (2, .int 3)], [], am_SH, (am_up (am_up (x_lay 3 f) 109 0 (nI 197)) 109 1 (nI 207), g))) rfl ?_
  refine am_Ev.go hcd 15 (s' := (11, [(0, .ref 0), (1, .ref 186), (2, .int 4)], [], am_SH, (am_up (am_up (am_up (x_lay 3 f) 109 0 (nI 197)) 109 1 (nI 207)) 109 2 (nI 157), g))) rfl ?_
  refine am_Ev.go hcd 15 (s' := (11, [(0, .ref 0), (1, .ref 186), (2, .int 5)], [], am_SH, (am_up (am_up (am_up (am_up (x_lay 3 f) 109 0 (nI 197)) 109 1 (nI 207)) 109 2 (nI 157)) 109 3 (nI 167), g))) rfl ?_
  refine am_Ev.go hcd 15 (s' := (11, [(0, .ref 0), (1, .ref 186), (2, .int 6)], [], am_SH, (am_up (am_up (am_up (am_up (am_up (x_lay 3 f) 109 0 (nI 197)) 109 1 (nI 207)) 109 2 (nI 157)) 109 3 (nI 167)) 109 4 (nI 177), g))) rfl ?_
  refine am_Ev.go hcd 3 (s' := (26, [(0, .ref 0), (1, .ref 186), (2, .int 6)], [], am_SH, (am_up (am_up (am_up (am_up (am_up (x_lay 3 f) 109 0 (nI 197)) 109 1 (nI 207)) 109 2 (nI 157)) 109 3 (nI 167)) 109 4 (nI 177), g))) rfl ?_
  refine am_Ev.go hcd 8 (s' := (34, [(0, .ref 0), (1, .ref 186), (2, .int 6)], [], am_SH, (am_up (am_up (am_up (am_up (am_up (am_up (am_up (x_lay 3 f) 109 0 (nI 197)) 109 1 (nI 207)) 109 2 (nI 157)) 109 3 (nI 167)) 109 4 (nI 177)) 109 5 (nI 187)) 0 4 5, g))) rfl ?_
  have e : am_up (am_up (am_up (am_up (am_up (am_up (x_lay 3 f) 109 0 (nI 197)) 109 1 (nI 207)) 109 2 (nI 157)) 109 3 (nI 167)) 109 4 (nI 177)) 109 5 (nI 187) = x_lay 4 f := by
    funext a j
    unfold x_lay am_up am_row upd
    by_cases ha : a = 109
    · subst ha
      by_cases j0 : j = 0
      · subst j0; rfl
      by_cases j1 : j = 1
      · subst j1; rfl
      by_cases j2 : j = 2
      · subst j2; rfl
      by_cases j3 : j = 3
      · subst j3; rfl
      by_cases j4 : j = 4
      · subst j4; rfl
      by_cases j5 : j = 5
      · subst j5; rfl
      have j6 : ¬ j < 6 := by omega
      simp only [j0, j1, j2, j3, j4, j5, j6, if_true, if_false]
    · simp only [ha, if_false]
  rw [e]
  exact am_Ev.weak' kk (am_sub_cons rfl am_sub_nil) rfl
set_option maxRecDepth 100000 in
set_option maxHeartbeats 4000000 in
theorem x_shift_4 {sc : Nat × (Nat → Int32)} (d : Nat) (f g : (Nat → Nat → Int32)) {r : am_R} (kk : am_Ev sc (d + 3) 174 (34, [(0, .ref 0)], [], am_SH, (am_up (x_lay 5 f) 0 4 5, g)) r) : am_Ev sc (d + 3) 174 (4, [(0, .ref 0)], [], am_SH, (x_lay 4 f, g)) r := by
  have hcd : am_code 174 = am_c174 := rfl
  refine am_Ev.go hcd 7 (s' := (11, [(0, .ref 0), (1, .ref 196), (2, .int 1)], [], am_SH, (x_lay 4 f, g))) rfl ?_
  refine am_Ev.go hcd 15 (s' := (11, [(0, .ref 0), (1, .ref 196), (2, .int 2)], [], am_SH, (am_up (x_lay 4 f) 109 0 (nI 207), g))) rfl ?_
  refine am_Ev.go hcd 15 (s' := (11, [(0, .ref 0), (1, .ref 196), (2, .int 3)], [], am_SH, (am_up (am_up (x_lay 4 f) 109 0 (nI 207)) 109 1 (nI 157), g))) rfl ?_
  refine am_Ev.go hcd 15 (s' := (11, [(0, .ref 0), (1, .ref 196), (2, .int 4)], [], am_SH, (am_up (am_up (am_up (x_lay 4 f) 109 0 (nI 207)) 109 1 (nI 157)) 109 2 (nI 167), g))) rfl ?_
  refine am_Ev.go hcd 15 (s' := (11, [(0, .ref 0), (1, .ref 196), (2, .int 5)], [], am_SH, (am_up (am_up (am_up (am_up (x_lay 4 f) 109 0 (nI 207)) 109 1 (nI 157)) 109 2 (nI 167)) 109 3 (nI 177), g))) rfl ?_
  refine am_Ev.go hcd 15 (s' := (11, [(0, .ref 0), (1, .ref 196), (2, .int 6)], [], am_SH, (am_up (am_up (am_up (am_up (am_up (x_lay 4 f) 109 0 (nI 207)) 109 1 (nI 157)) 109 2 (nI 167)) 109 3 (nI 177)) 109 4 (nI 187), g))) rfl ?_
  refine am_Ev.go hcd 3 (s' := (26, [(0, .ref 0), (1, .ref 196), (2, .int 6)], [], am_SH, (am_up (am_up (am_up (am_up (am_up (x_lay 4 f) 109 0 (nI 207)) 109 1 (nI 157)) 109 2 (nI 167)) 109 3 (nI 177)) 109 4 (nI 187), g))) rfl ?_
  refine am_Ev.go hcd 8 (s' := (34, [(0, .ref 0), (1, .ref 196), (2, .int 6)], [], am_SH, (am_up (am_up (am_up (am_up (am_up (am_up (am_up (x_lay 4 f) 109 0 (nI 207)) 109 1 (nI 157)) 109 2 (nI 167)) 109 3 (nI 177)) 109 4 (nI 187)) 109 5 (nI 197)) 0 4 5, g))) rfl ?_
  have e : am_up (am_up (am_up (am_up (am_up (am_up (x_lay 4 f) 109 0 (nI 207)) 109 1 (nI 157)) 109 2 (nI 167)) 109 3 (nI 177)) 109 4 (nI 187)) 109 5 (nI 197) = x_lay 5 f := by
    funext a j
    unfold x_lay am_up am_row upd
    by_cases ha : a = 109
    · subst ha
      by_cases j0 : j = 0
      · subst j0; rfl
      by_cases j1 : j = 1
      · subst j1; rfl
      by_cases j2 : j = 2
      · subst j2; rfl
      by_cases j3 : j = 3
      · subst j3; rfl
      by_cases j4 : j = 4
      · subst j4; rfl
      by_cases j5 : j = 5
      · subst j5; rfl
      have j6 : ¬ j < 6 := by omega
      simp only [j0, j1, j2, j3, j4, j5, j6, if_true, if_false]
    · simp only [ha, if_false]
  rw [e]
  exact am_Ev.weak' kk (am_sub_cons rfl am_sub_nil) rfl
set_option maxRecDepth 100000 in
set_option maxHeartbeats 4000000 in
theorem x_shift_5 {sc : Nat × (Nat → Int32)} (d : Nat) (f g : (Nat → Nat → Int32)) {r : am_R} (kk : am_Ev sc (d + 3) 174 (34, [(0, .ref 0)], [], am_SH, (am_up (x_lay 6 f) 0 4 5, g)) r) : am_Ev sc (d + 3) 174 (4, [(0, .ref 0)], [], am_SH, (x_lay 5 f, g)) r := by
  have hcd : am_code 174 = am_c174 := rfl
  refine am_Ev.go hcd 7 (s' := (11, [(0, .ref 0), (1, .ref 206), (2, .int 1)], [], am_SH, (x_lay 5 f, g))) rfl ?_
  refine am_Ev.go hcd 15 (s' := (11, [(0, .ref 0), (1, .ref 206), (2, .int 2)], [], am_SH, (am_up (x_lay 5 f) 109 0 (nI 157), g))) rfl ?_
  refine am_Ev.go hcd 15 (s' := (11, [(0, .ref 0), (1, .ref 206), (2, .int 3)], [], am_SH, (am_up (am_up (x_lay 5 f) 109 0 (nI 157)) 109 1 (nI 167), g))) rfl ?_
  refine am_Ev.go hcd 15 (s' := (11, [(0, .ref 0), (1, .ref 206), (2, .int 4)], [], am_SH, (am_up (am_up (am_up (x_lay 5 f) 109 0 (nI 157)) 109 1 (nI 167)) 109 2 (nI 177), g))) rfl ?_
  refine am_Ev.go hcd 15 (s' := (11, [(0, .ref 0), (1, .ref 206), (2, .int 5)], [], am_SH, (am_up (am_up (am_up (am_up (x_lay 5 f) 109 0 (nI 157)) 109 1 (nI 167)) 109 2 (nI 177)) 109 3 (nI 187), g))) rfl ?_
  refine am_Ev.go hcd 15 (s' := (11, [(0, .ref 0), (1, .ref 206), (2, .int 6)], [], am_SH, (am_up (am_up (am_up (am_up (am_up (x_lay 5 f) 109 0 (nI 157)) 109 1 (nI 167)) 109 2 (nI 177)) 109 3 (nI 187)) 109 4 (nI 197), g))) rfl ?_
  refine am_Ev.go hcd 3 (s' := (26, [(0, .ref 0), (1, .ref 206), (2, .int 6)], [], am_SH, (am_up (am_up (am_up (am_up (am_up (x_lay 5 f) 109 0 (nI 157)) 109 1 (nI 167)) 109 2 (nI 177)) 109 3 (nI 187)) 109 4 (nI 197), g))) rfl ?_
  refine am_Ev.go hcd 8 (s' := (34, [(0, .ref 0), (1, .ref 206), (2, .int 6)], [], am_SH, (am_up (am_up (am_up (am_up (am_up (am_up (am_up (x_lay 5 f) 109 0 (nI 157)) 109 1 (nI 167)) 109 2 (nI 177)) 109 3 (nI 187)) 109 4 (nI 197)) 109 5 (nI 207)) 0 4 5, g))) rfl ?_
  have e : am_up (am_up (am_up (am_up (am_up (am_up (x_lay 5 f) 109 0 (nI 157)) 109 1 (nI 167)) 109 2 (nI 177)) 109 3 (nI 187)) 109 4 (nI 197)) 109 5 (nI 207) = x_lay 6 f := by
    funext a j
    unfold x_lay am_up am_row upd
    by_cases ha : a = 109
    · subst ha
      by_cases j0 : j = 0
      · subst j0; rfl
      by_cases j1 : j = 1
      · subst j1; rfl
      by_cases j2 : j = 2
      · subst j2; rfl
      by_cases j3 : j = 3
      · subst j3; rfl
      by_cases j4 : j = 4
      · subst j4; rfl
      by_cases j5 : j = 5
      · subst j5; rfl
      have j6 : ¬ j < 6 := by omega
      simp only [j0, j1, j2, j3, j4, j5, j6, if_true, if_false]
    · simp only [ha, if_false]
  rw [e]
  exact am_Ev.weak' kk (am_sub_cons rfl am_sub_nil) rfl
theorem x_shift {sc : Nat × (Nat → Int32)} {k : Nat} (hk : k < 6) (d : Nat) (f g : (Nat → Nat → Int32)) {r : am_R} (kk : am_Ev sc (d + 3) 174 (34, [(0, .ref 0)], [], am_SH, (am_up (x_lay (k + 1) f) 0 4 5, g)) r) : am_Ev sc (d + 3) 174 (4, [(0, .ref 0)], [], am_SH, (x_lay k f, g)) r := by
  match k, hk with
  | 0, _ => exact x_shift_0 d f g kk
  | 1, _ => exact x_shift_1 d f g kk
  | 2, _ => exact x_shift_2 d f g kk
  | 3, _ => exact x_shift_3 d f g kk
  | 4, _ => exact x_shift_4 d f g kk
  | 5, _ => exact x_shift_5 d f g kk
theorem x_rk_some {f : (Nat → Nat → Int32)} {k : Nat} (h : x_rk f = some k) : k < 6 ∧ ∀ j, j < 6 → f 109 j = nI (x_pl j k + 1) := by
  unfold x_rk at h
  have h1 := List.find?_some h
  have h2 := List.mem_of_find?_eq_some h
  refine ⟨List.mem_range.mp h2, fun j hj => ?_⟩
  unfold x_ro at h1
  exact of_decide_eq_true (List.all_eq_true.mp h1 j (List.mem_range.mpr hj))
theorem x_cnt_some {f : (Nat → Nat → Int32)} {n : Nat} (h : x_cnt f = some n) : n < 7 ∧ f 0 4 = nI n := by
  unfold x_cnt at h
  have h1 := List.find?_some h
  exact ⟨List.mem_range.mp (List.mem_of_find?_eq_some h), of_decide_eq_true h1⟩
theorem x_lay_self {f : (Nat → Nat → Int32)} {k : Nat} (h : ∀ j, j < 6 → f 109 j = nI (x_pl j k + 1)) : x_lay k f = f := by
  funext a j
  unfold x_lay am_row
  by_cases ha : a = 109
  · subst ha
    by_cases hj : j < 6
    · simp only [if_true, hj]; exact (h j hj).symm
    · simp only [if_true, hj, if_false]
  · simp only [ha, if_false]
set_option maxRecDepth 100000 in
set_option maxHeartbeats 4000000 in
theorem x_keepPast_ok {sc : Nat × (Nat → Int32)} (d : Nat) (f g : (Nat → Nat → Int32)) (r : (Nat → Nat → Int32)) (h : x_keepPast f = some r) : am_Ev sc (d + 3) 174 (0, [(0, .ref 0)], [], am_SH, (f, g)) (none, am_SH, (r, g)) := by
  have hcd : am_code 174 = am_c174 := rfl
  unfold x_keepPast at h
  obtain ⟨k, hk, h⟩ := am_bind_some h
  obtain ⟨n, hn, h⟩ := am_bind_some h
  obtain ⟨hk6, hrow⟩ := x_rk_some hk
  obtain ⟨hn7, hcnt⟩ := x_cnt_some hn
  refine am_Ev.go hcd 3 (s' := (3, [(0, .ref 0)], [.int 6, .int (f 0 4)], am_SH, (f, g))) rfl ?_
  replace h := am_ite h
  rcases h with ⟨c, h⟩ | ⟨c, h⟩
  · obtain ⟨i1, i2, i3, i4⟩ := x_n6 n c
    refine am_Ev.t hcd (c := f 0 4 < 6) (s1 := (34, [(0, .ref 0)], [], am_SH, (f, g))) rfl (by rw [hcnt]; exact i4) ?_
    cases h
    exact x_kpz d f g c (x_pl_isP n k) hcnt (hrow n c)
  · have hn6 : n = 6 := by omega
    subst hn6
    refine am_Ev.f hcd (c := f 0 4 < 6) (s1 := (4, [(0, .ref 0)], [], am_SH, (f, g))) rfl (by rw [hcnt]; decide) ?_
    obtain ⟨f1, Ef1, h⟩ := am_let_eq h
    cases h
    have key := @x_shift sc k hk6 d f g (none, am_SH, (am_up (x_tk (x_pl 5 (k + 1)) 2 f1) 0 4 6, g))
    rw [x_lay_self hrow] at key
    refine key ?_
    have e1 : am_up (x_lay (k + 1) f) 0 4 5 = f1 := Ef1.symm
    rw [e1]
    exact x_kpz d f1 g (n := 5) (by decide) (x_pl_isP 5 (k + 1)) (by subst Ef1; rfl) (by subst Ef1; rfl)
theorem x_n6' : ∀ n, n < 7 → n ≠ 0 → nI n - 1 = nI (n - 1) ∧ ¬ nI n = 0 ∧ am_in (nI (n - 1)) 6 = true ∧ (nI (n - 1)).toNatClampNeg = n - 1 := by decide
set_option maxRecDepth 100000 in
set_option maxHeartbeats 4000000 in
theorem x_undo_ok {sc : Nat × (Nat → Int32)} (d : Nat) (f g : (Nat → Nat → Int32)) (r : Bool × (Nat → Nat → Int32)) (h : x_undo f = some r) : am_Ev sc (d + 3) 167 (0, [(0, .ref 0)], [], am_SH, (f, g)) ((some (.int (am_b r.1))), am_SH, (r.2, g)) := by
  have hcd : am_code 167 = am_c167 := rfl
  unfold x_undo at h
  obtain ⟨k, hk, h⟩ := am_bind_some h
  obtain ⟨n, hn, h⟩ := am_bind_some h
  obtain ⟨hk6, hrow⟩ := x_rk_some hk
  obtain ⟨hn7, hcnt⟩ := x_cnt_some hn
  refine am_Ev.go hcd 2 (s' := (2, [(0, .ref 0)], [.int (f 0 4)], am_SH, (f, g))) rfl ?_
  replace h := am_ite h
  rcases h with ⟨c, h⟩ | ⟨c, h⟩
  · subst c
    cases h
    refine am_Ev.t hcd (c := f 0 4 = 0) (s1 := (3, [(0, .ref 0)], [], am_SH, (f, g))) rfl (by rw [hcnt]; rfl) ?_
    refine am_Ev.go hcd 1 (s' := (4, [(0, .ref 0)], [.int 0], am_SH, (f, g))) rfl ?_
    exact am_Ev.ret hcd rfl
  · obtain ⟨i1, i2, i3, i4⟩ := x_n6' n hn7 c
    refine am_Ev.f hcd (c := f 0 4 = 0) (s1 := (5, [(0, .ref 0)], [], am_SH, (f, g))) rfl (by rw [hcnt]; exact i2) ?_
    obtain ⟨f1, Ef1, h⟩ := am_let_eq h
    cases h
    have hr := x_pl_isP (n - 1) k
    obtain ⟨rr, hrr⟩ : ∃ rr, rr = x_pl (n - 1) k := ⟨_, rfl⟩
    rw [← hrr] at hr
    rw [← hrr]
    refine am_Ev.go hcd 6 (s' := (11, [(0, .ref 0)], [], am_SH, (f1, g))) (by rw [Ef1, ← i1, ← hcnt]; exact rfl) ?_
    refine am_Ev.go hcd 7 (s' := (18, [(0, .ref 0)], [.int (f1 0 4), .ref 109, .ref 2], am_SH, (f1, g))) rfl ?_
    have e4 : f1 0 4 = nI (n - 1) := by rw [Ef1]; rfl
    have e9 : f1 109 (n - 1) = nI (rr + 1) := by
      rw [Ef1, hrr]
      exact hrow (n - 1) (by omega)
    have hv : am_rv (f1 109 (f1 0 4).toNatClampNeg) = .ref rr := by rw [e4, i4, e9]; exact x_rv hr
    refine am_Ev.t hcd (o := none) (c := am_in (f1 0 4) 6 = true) (s1 := (19, [(0, .ref 0)], [.ref rr, .ref 2], am_SH, (f1, g))) (by rw [← hv]; exact rfl) (by rw [e4]; exact i3) ?_
    refine am_Ev.call hcd (a := 30) (s0 := (0, [(0, .ref 2), (1, .ref rr)], [], am_SH, (f1, g))) (q := (none, am_SH, (x_tk 2 rr f1, g))) (s1 := (20, [(0, .ref 0)], [], am_SH, (x_tk 2 rr f1, g))) rfl rfl (x_tk_oks hr (d + 1) f1 g) ?_
    refine am_Ev.go hcd 1 (s' := (21, [(0, .ref 0)], [.int 1], am_SH, (x_tk 2 rr f1, g))) rfl ?_
    exact am_Ev.ret hcd rfl
