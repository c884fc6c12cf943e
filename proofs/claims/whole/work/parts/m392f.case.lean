set_option maxRecDepth 100000 in
set_option maxHeartbeats 4000000 in
theorem am_case_40 {sc : Nat × (Nat → Int32)} {f g f1 g1 : (Nat → Nat → Int32)} {i : Nat} {v : Bool} {r : am_R} (hi : i + 6 ≤ sc.1) (hL : sc.1 ≤ 3072) (hx : x_undo f = some (v, f1)) (hm : m_undo g = some (v, g1)) (kk : am_Ev sc 60 313 (10, [(0, .ref am_SC), (1, .ref 0), (2, .ref 216), (3, .int (nI (i + 6)))], [], am_SH, (f1, g1)) r) : am_Ev sc 60 313 (1002, [(0, .ref am_SC), (1, .ref 0), (2, .ref 216), (3, .int (nI i))], [], am_SH, (f, g)) r := by
  have hcd : am_code 313 = am_c313 := rfl
  refine am_Ev.go hcd 1 (s' := (1003, [(0, .ref am_SC), (1, .ref 0), (2, .ref 216), (3, .int (nI i))], [.ref 0], am_SH, (f, g))) rfl ?_
  refine am_Ev.call hcd (a := 167) (s0 := (0, [(0, .ref 0)], [], am_SH, (f, g))) (q := (some (.int (am_b v)), am_SH, (f1, g))) (s1 := (1004, [(0, .ref am_SC), (1, .ref 0), (2, .ref 216), (3, .int (nI i))], [.int (am_b v)], am_SH, (f1, g))) rfl rfl (x_undo_ok 56 f g (v, f1) hx) ?_
  refine am_Ev.go hcd 1 (s' := (1005, [(0, .ref am_SC), (1, .ref 0), (2, .ref 216), (3, .int (nI i))], [.ref 216, .int (am_b v)], am_SH, (f1, g))) rfl ?_
  refine am_Ev.call hcd (a := 237) (s0 := (0, [(0, .ref 216)], [], am_SH, (f1, g))) (q := (some (.int (am_b v)), am_SH, (f1, g1))) (s1 := (1006, [(0, .ref am_SC), (1, .ref 0), (2, .ref 216), (3, .int (nI i))], [.int (am_b v), .int (am_b v)], am_SH, (f1, g1))) rfl rfl (m_undo_ok 59 g f1 (v, g1) hm) ?_
  refine am_Ev.t hcd (c := am_b v = am_b v) (s1 := (1051, [(0, .ref am_SC), (1, .ref 0), (2, .ref 216), (3, .int (nI i))], [], am_SH, (f1, g1))) rfl rfl ?_
  refine am_Ev.go hcd 2 (s' := (10, [(0, .ref am_SC), (1, .ref 0), (2, .ref 216), (3, .int (nI i + 6))], [], am_SH, (f1, g1))) rfl ?_
  rw [show nI i + 6 = nI (i + 6) from nI_add i 6]
  exact kk
set_option maxRecDepth 100000 in
set_option maxHeartbeats 4000000 in
theorem am_case_41 {sc : Nat × (Nat → Int32)} {f g f1 g1 : (Nat → Nat → Int32)} {i : Nat} {v : Bool} {r : am_R} (hi : i + 6 ≤ sc.1) (hL : sc.1 ≤ 3072) (hx : x_image (decide (¬ (sc.2 (nI i + 1).toNatClampNeg) = 0)) f = (v, f1)) (hm : m_image (decide (¬ (sc.2 (nI i + 1).toNatClampNeg) = 0)) g = some (v, g1)) (kk : am_Ev sc 60 313 (10, [(0, .ref am_SC), (1, .ref 0), (2, .ref 216), (3, .int (nI (i + 6)))], [], am_SH, (f1, g1)) r) : am_Ev sc 60 313 (1009, [(0, .ref am_SC), (1, .ref 0), (2, .ref 216), (3, .int (nI i))], [], am_SH, (f, g)) r := by
  have hcd : am_code 313 = am_c313 := rfl
  obtain ⟨x1, e1⟩ : ∃ x, x = sc.2 (nI i + 1).toNatClampNeg := ⟨_, rfl⟩
  rw [← e1] at hx hm
  obtain ⟨b1, eb⟩ : ∃ b, b = decide (¬ x1 = 0) := ⟨_, rfl⟩
  rw [← eb] at hx hm
  refine am_Ev.go hcd 1 (s' := (1010, [(0, .ref am_SC), (1, .ref 0), (2, .ref 216), (3, .int (nI i))], [.ref 0], am_SH, (f, g))) rfl ?_
  refine am_Ev.go hcd 4 (s' := (1014, [(0, .ref am_SC), (1, .ref 0), (2, .ref 216), (3, .int (nI i))], [.int (nI i + 1), .ref am_SC, .ref 0], am_SH, (f, g))) rfl ?_
  refine am_Ev.t hcd (o := none) (c := am_in (nI i + 1) sc.1 = true) (s1 := (1015, [(0, .ref am_SC), (1, .ref 0), (2, .ref 216), (3, .int (nI i))], [.int x1, .ref 0], am_SH, (f, g))) (by rw [e1]; exact lw_ial rfl) (lw_inx (k := 1) (by omega) hL) ?_
  have hst : am_Ev sc 60 313 (1019, [(0, .ref am_SC), (1, .ref 0), (2, .ref 216), (3, .int (nI i))], [.int (am_b b1), .ref 0], am_SH, (f, g)) r → am_Ev sc 60 313 (1015, [(0, .ref am_SC), (1, .ref 0), (2, .ref 216), (3, .int (nI i))], [.int x1, .ref 0], am_SH, (f, g)) r := by
    intro k0
    by_cases hz : x1 = 0
    · have hb : b1 = false := by rw [eb]; exact decide_eq_false (fun z => z hz)
      rw [hb] at k0
      refine am_Ev.t hcd (c := x1 = 0) (s1 := (1018, [(0, .ref am_SC), (1, .ref 0), (2, .ref 216), (3, .int (nI i))], [.ref 0], am_SH, (f, g))) rfl hz ?_
      exact am_Ev.go hcd 1 (s' := (1019, [(0, .ref am_SC), (1, .ref 0), (2, .ref 216), (3, .int (nI i))], [.int (am_b false), .ref 0], am_SH, (f, g))) rfl k0
    · have hb : b1 = true := by rw [eb]; exact decide_eq_true hz
      rw [hb] at k0
      refine am_Ev.f hcd (c := x1 = 0) (s1 := (1016, [(0, .ref am_SC), (1, .ref 0), (2, .ref 216), (3, .int (nI i))], [.ref 0], am_SH, (f, g))) rfl hz ?_
      exact am_Ev.go hcd 2 (s' := (1019, [(0, .ref am_SC), (1, .ref 0), (2, .ref 216), (3, .int (nI i))], [.int (am_b true), .ref 0], am_SH, (f, g))) rfl k0
  refine hst ?_
  clear hst
  refine am_Ev.call hcd (a := 168) (s0 := (0, [(0, .ref 0), (1, .int (am_b b1))], [], am_SH, (f, g))) (q := (some (.int (am_b v)), am_SH, (f1, g))) (s1 := (1020, [(0, .ref am_SC), (1, .ref 0), (2, .ref 216), (3, .int (nI i))], [.int (am_b v)], am_SH, (f1, g))) rfl rfl (by have key := x_image_ok (sc := sc) 56 b1 f g; rw [hx] at key; exact key) ?_
  refine am_Ev.go hcd 1 (s' := (1021, [(0, .ref am_SC), (1, .ref 0), (2, .ref 216), (3, .int (nI i))], [.ref 216, .int (am_b v)], am_SH, (f1, g))) rfl ?_
  refine am_Ev.go hcd 4 (s' := (1025, [(0, .ref am_SC), (1, .ref 0), (2, .ref 216), (3, .int (nI i))], [.int (nI i + 1), .ref am_SC, .ref 216, .int (am_b v)], am_SH, (f1, g))) rfl ?_
  refine am_Ev.t hcd (o := none) (c := am_in (nI i + 1) sc.1 = true) (s1 := (1026, [(0, .ref am_SC), (1, .ref 0), (2, .ref 216), (3, .int (nI i))], [.int x1, .ref 216, .int (am_b v)], am_SH, (f1, g))) (by rw [e1]; exact lw_ial rfl) (lw_inx (k := 1) (by omega) hL) ?_
  have hst : am_Ev sc 60 313 (1030, [(0, .ref am_SC), (1, .ref 0), (2, .ref 216), (3, .int (nI i))], [.int (am_b b1), .ref 216, .int (am_b v)], am_SH, (f1, g)) r → am_Ev sc 60 313 (1026, [(0, .ref am_SC), (1, .ref 0), (2, .ref 216), (3, .int (nI i))], [.int x1, .ref 216, .int (am_b v)], am_SH, (f1, g)) r := by
    intro k0
    by_cases hz : x1 = 0
    · have hb : b1 = false := by rw [eb]; exact decide_eq_false (fun z => z hz)
      rw [hb] at k0
      refine am_Ev.t hcd (c := x1 = 0) (s1 := (1029, [(0, .ref am_SC), (1, .ref 0), (2, .ref 216), (3, .int (nI i))], [.ref 216, .int (am_b v)], am_SH, (f1, g))) rfl hz ?_
      exact am_Ev.go hcd 1 (s' := (1030, [(0, .ref am_SC), (1, .ref 0), (2, .ref 216), (3, .int (nI i))], [.int (am_b false), .ref 216, .int (am_b v)], am_SH, (f1, g))) rfl k0
    · have hb : b1 = true := by rw [eb]; exact decide_eq_true hz
      rw [hb] at k0
      refine am_Ev.f hcd (c := x1 = 0) (s1 := (1027, [(0, .ref am_SC), (1, .ref 0), (2, .ref 216), (3, .int (nI i))], [.ref 216, .int (am_b v)], am_SH, (f1, g))) rfl hz ?_
      exact am_Ev.go hcd 2 (s' := (1030, [(0, .ref am_SC), (1, .ref 0), (2, .ref 216), (3, .int (nI i))], [.int (am_b true), .ref 216, .int (am_b v)], am_SH, (f1, g))) rfl k0
  refine hst ?_
  clear hst
  refine am_Ev.call hcd (a := 308) (s0 := (0, [(0, .ref 216), (1, .int (am_b b1))], [], am_SH, (f1, g))) (q := (some (.int (am_b v)), am_SH, (f1, g1))) (s1 := (1031, [(0, .ref am_SC), (1, .ref 0), (2, .ref 216), (3, .int (nI i))], [.int (am_b v), .int (am_b v)], am_SH, (f1, g1))) rfl rfl (m_image_ok 58 b1 g f1 (v, g1) hm) ?_
  refine am_Ev.t hcd (c := am_b v = am_b v) (s1 := (1051, [(0, .ref am_SC), (1, .ref 0), (2, .ref 216), (3, .int (nI i))], [], am_SH, (f1, g1))) rfl rfl ?_
  refine am_Ev.go hcd 2 (s' := (10, [(0, .ref am_SC), (1, .ref 0), (2, .ref 216), (3, .int (nI i + 6))], [], am_SH, (f1, g1))) rfl ?_
  rw [show nI i + 6 = nI (i + 6) from nI_add i 6]
  exact kk
set_option maxRecDepth 100000 in
set_option maxHeartbeats 4000000 in
theorem am_case_42 {sc : Nat × (Nat → Int32)} {f g f1 g1 : (Nat → Nat → Int32)} {i : Nat} {v : Int32} {r : am_R} (hi : i + 6 ≤ sc.1) (hL : sc.1 ≤ 3072) (hx : x_look (sc.2 (nI i + 1).toNatClampNeg) f = some v) (hm : m_look (sc.2 (nI i + 1).toNatClampNeg) g = some v) (kk : am_Ev sc 60 313 (10, [(0, .ref am_SC), (1, .ref 0), (2, .ref 216), (3, .int (nI (i + 6)))], [], am_SH, (f, g)) r) : am_Ev sc 60 313 (1034, [(0, .ref am_SC), (1, .ref 0), (2, .ref 216), (3, .int (nI i))], [], am_SH, (f, g)) r := by
  have hcd : am_code 313 = am_c313 := rfl
  obtain ⟨x1, e1⟩ : ∃ x, x = sc.2 (nI i + 1).toNatClampNeg := ⟨_, rfl⟩
  rw [← e1] at hx hm
  refine am_Ev.go hcd 1 (s' := (1035, [(0, .ref am_SC), (1, .ref 0), (2, .ref 216), (3, .int (nI i))], [.ref 0], am_SH, (f, g))) rfl ?_
  refine am_Ev.go hcd 4 (s' := (1039, [(0, .ref am_SC), (1, .ref 0), (2, .ref 216), (3, .int (nI i))], [.int (nI i + 1), .ref am_SC, .ref 0], am_SH, (f, g))) rfl ?_
  refine am_Ev.t hcd (o := none) (c := am_in (nI i + 1) sc.1 = true) (s1 := (1040, [(0, .ref am_SC), (1, .ref 0), (2, .ref 216), (3, .int (nI i))], [.int x1, .ref 0], am_SH, (f, g))) (by rw [e1]; exact lw_ial rfl) (lw_inx (k := 1) (by omega) hL) ?_
  refine am_Ev.call hcd (a := 169) (s0 := (0, [(0, .ref 0), (1, .int x1)], [], am_SH, (f, g))) (q := (some (.int v), am_SH, (f, g))) (s1 := (1041, [(0, .ref am_SC), (1, .ref 0), (2, .ref 216), (3, .int (nI i))], [.int v], am_SH, (f, g))) rfl rfl (x_look_ok 58 x1 f g v hx) ?_
  refine am_Ev.go hcd 1 (s' := (1042, [(0, .ref am_SC), (1, .ref 0), (2, .ref 216), (3, .int (nI i))], [.ref 216, .int v], am_SH, (f, g))) rfl ?_
  refine am_Ev.go hcd 4 (s' := (1046, [(0, .ref am_SC), (1, .ref 0), (2, .ref 216), (3, .int (nI i))], [.int (nI i + 1), .ref am_SC, .ref 216, .int v], am_SH, (f, g))) rfl ?_
  refine am_Ev.t hcd (o := none) (c := am_in (nI i + 1) sc.1 = true) (s1 := (1047, [(0, .ref am_SC), (1, .ref 0), (2, .ref 216), (3, .int (nI i))], [.int x1, .ref 216, .int v], am_SH, (f, g))) (by rw [e1]; exact lw_ial rfl) (lw_inx (k := 1) (by omega) hL) ?_
  refine am_Ev.call hcd (a := 310) (s0 := (0, [(0, .ref 216), (1, .int x1)], [], am_SH, (f, g))) (q := (some (.int v), am_SH, (f, g))) (s1 := (1048, [(0, .ref am_SC), (1, .ref 0), (2, .ref 216), (3, .int (nI i))], [.int v, .int v], am_SH, (f, g))) rfl rfl (m_look_ok 58 x1 g f v hm) ?_
  refine am_Ev.t hcd (c := v = v) (s1 := (1051, [(0, .ref am_SC), (1, .ref 0), (2, .ref 216), (3, .int (nI i))], [], am_SH, (f, g))) rfl rfl ?_
  refine am_Ev.go hcd 2 (s' := (10, [(0, .ref am_SC), (1, .ref 0), (2, .ref 216), (3, .int (nI i + 6))], [], am_SH, (f, g))) rfl ?_
  rw [show nI i + 6 = nI (i + 6) from nI_add i 6]
  exact kk
