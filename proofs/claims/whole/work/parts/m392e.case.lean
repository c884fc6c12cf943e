set_option maxRecDepth 100000 in
set_option maxHeartbeats 4000000 in
theorem am_case_32 {sc : Nat × (Nat → Int32)} {f g f1 g1 : (Nat → Nat → Int32)} {i : Nat} {v : Int32} {r : am_R} (hi : i + 6 ≤ sc.1) (hL : sc.1 ≤ 3072) (hx : x_dear (sc.2 (nI i + 1).toNatClampNeg) (sc.2 (nI i + 2).toNatClampNeg) f = some (v, f1)) (hm : m_dear (sc.2 (nI i + 1).toNatClampNeg) (sc.2 (nI i + 2).toNatClampNeg) g = some (v, g1)) (kk : am_Ev sc 60 313 (10, [(0, .ref am_SC), (1, .ref 0), (2, .ref 216), (3, .int (nI (i + 6)))], [], am_SH, (f1, g1)) r) : am_Ev sc 60 313 (826, [(0, .ref am_SC), (1, .ref 0), (2, .ref 216), (3, .int (nI i))], [], am_SH, (f, g)) r := by
  have hcd : am_code 313 = am_c313 := rfl
  obtain ⟨x1, e1⟩ : ∃ x, x = sc.2 (nI i + 1).toNatClampNeg := ⟨_, rfl⟩
  rw [← e1] at hx hm
  obtain ⟨x2, e2⟩ : ∃ x, x = sc.2 (nI i + 2).toNatClampNeg := ⟨_, rfl⟩
  rw [← e2] at hx hm
  refine am_Ev.go hcd 1 (s' := (827, [(0, .ref am_SC), (1, .ref 0), (2, .ref 216), (3, .int (nI i))], [.ref 0], am_SH, (f, g))) rfl ?_
  refine am_Ev.go hcd 4 (s' := (831, [(0, .ref am_SC), (1, .ref 0), (2, .ref 216), (3, .int (nI i))], [.int (nI i + 1), .ref am_SC, .ref 0], am_SH, (f, g))) rfl ?_
  refine am_Ev.t hcd (o := none) (c := am_in (nI i + 1) sc.1 = true) (s1 := (832, [(0, .ref am_SC), (1, .ref 0), (2, .ref 216), (3, .int (nI i))], [.int x1, .ref 0], am_SH, (f, g))) (by rw [e1]; exact lw_ial rfl) (lw_inx (k := 1) (by omega) hL) ?_
  refine am_Ev.go hcd 4 (s' := (836, [(0, .ref am_SC), (1, .ref 0), (2, .ref 216), (3, .int (nI i))], [.int (nI i + 2), .ref am_SC, .int x1, .ref 0], am_SH, (f, g))) rfl ?_
  refine am_Ev.t hcd (o := none) (c := am_in (nI i + 2) sc.1 = true) (s1 := (837, [(0, .ref am_SC), (1, .ref 0), (2, .ref 216), (3, .int (nI i))], [.int x2, .int x1, .ref 0], am_SH, (f, g))) (by rw [e2]; exact lw_ial rfl) (lw_inx (k := 2) (by omega) hL) ?_
  refine am_Ev.call hcd (a := 159) (s0 := (0, [(0, .ref 0), (1, .int x1), (2, .int x2)], [], am_SH, (f, g))) (q := (some (.int v), am_SH, (f1, g))) (s1 := (838, [(0, .ref am_SC), (1, .ref 0), (2, .ref 216), (3, .int (nI i))], [.int v], am_SH, (f1, g))) rfl rfl (x_dear_ok 55 x1 x2 f g (v, f1) hx) ?_
  refine am_Ev.go hcd 1 (s' := (839, [(0, .ref am_SC), (1, .ref 0), (2, .ref 216), (3, .int (nI i))], [.ref 216, .int v], am_SH, (f1, g))) rfl ?_
  refine am_Ev.go hcd 4 (s' := (843, [(0, .ref am_SC), (1, .ref 0), (2, .ref 216), (3, .int (nI i))], [.int (nI i + 1), .ref am_SC, .ref 216, .int v], am_SH, (f1, g))) rfl ?_
  refine am_Ev.t hcd (o := none) (c := am_in (nI i + 1) sc.1 = true) (s1 := (844, [(0, .ref am_SC), (1, .ref 0), (2, .ref 216), (3, .int (nI i))], [.int x1, .ref 216, .int v], am_SH, (f1, g))) (by rw [e1]; exact lw_ial rfl) (lw_inx (k := 1) (by omega) hL) ?_
  refine am_Ev.go hcd 4 (s' := (848, [(0, .ref am_SC), (1, .ref 0), (2, .ref 216), (3, .int (nI i))], [.int (nI i + 2), .ref am_SC, .int x1, .ref 216, .int v], am_SH, (f1, g))) rfl ?_
  refine am_Ev.t hcd (o := none) (c := am_in (nI i + 2) sc.1 = true) (s1 := (849, [(0, .ref am_SC), (1, .ref 0), (2, .ref 216), (3, .int (nI i))], [.int x2, .int x1, .ref 216, .int v], am_SH, (f1, g))) (by rw [e2]; exact lw_ial rfl) (lw_inx (k := 2) (by omega) hL) ?_
  refine am_Ev.call hcd (a := 294) (s0 := (0, [(0, .ref 216), (1, .int x1), (2, .int x2)], [], am_SH, (f1, g))) (q := (some (.int v), am_SH, (f1, g1))) (s1 := (850, [(0, .ref am_SC), (1, .ref 0), (2, .ref 216), (3, .int (nI i))], [.int v, .int v], am_SH, (f1, g1))) rfl rfl (m_dear_ok 56 x1 x2 g f1 (v, g1) hm) ?_
  refine am_Ev.t hcd (c := v = v) (s1 := (1051, [(0, .ref am_SC), (1, .ref 0), (2, .ref 216), (3, .int (nI i))], [], am_SH, (f1, g1))) rfl rfl ?_
  refine am_Ev.go hcd 2 (s' := (10, [(0, .ref am_SC), (1, .ref 0), (2, .ref 216), (3, .int (nI i + 6))], [], am_SH, (f1, g1))) rfl ?_
  rw [show nI i + 6 = nI (i + 6) from nI_add i 6]
  exact kk
set_option maxRecDepth 100000 in
set_option maxHeartbeats 4000000 in
theorem am_case_33 {sc : Nat × (Nat → Int32)} {f g f1 g1 : (Nat → Nat → Int32)} {i : Nat} {v : Int32} {r : am_R} (hi : i + 6 ≤ sc.1) (hL : sc.1 ≤ 3072) (hx : x_reading (sc.2 (nI i + 1).toNatClampNeg) f = some (v, f1)) (hm : m_reading (sc.2 (nI i + 1).toNatClampNeg) g = some (v, g1)) (kk : am_Ev sc 60 313 (10, [(0, .ref am_SC), (1, .ref 0), (2, .ref 216), (3, .int (nI (i + 6)))], [], am_SH, (f1, g1)) r) : am_Ev sc 60 313 (853, [(0, .ref am_SC), (1, .ref 0), (2, .ref 216), (3, .int (nI i))], [], am_SH, (f, g)) r := by
  have hcd : am_code 313 = am_c313 := rfl
  obtain ⟨x1, e1⟩ : ∃ x, x = sc.2 (nI i + 1).toNatClampNeg := ⟨_, rfl⟩
  rw [← e1] at hx hm
  refine am_Ev.go hcd 1 (s' := (854, [(0, .ref am_SC), (1, .ref 0), (2, .ref 216), (3, .int (nI i))], [.ref 0], am_SH, (f, g))) rfl ?_
  refine am_Ev.go hcd 4 (s' := (858, [(0, .ref am_SC), (1, .ref 0), (2, .ref 216), (3, .int (nI i))], [.int (nI i + 1), .ref am_SC, .ref 0], am_SH, (f, g))) rfl ?_
  refine am_Ev.t hcd (o := none) (c := am_in (nI i + 1) sc.1 = true) (s1 := (859, [(0, .ref am_SC), (1, .ref 0), (2, .ref 216), (3, .int (nI i))], [.int x1, .ref 0], am_SH, (f, g))) (by rw [e1]; exact lw_ial rfl) (lw_inx (k := 1) (by omega) hL) ?_
  refine am_Ev.call hcd (a := 160) (s0 := (0, [(0, .ref 0), (1, .int x1)], [], am_SH, (f, g))) (q := (some (.int v), am_SH, (f1, g))) (s1 := (860, [(0, .ref am_SC), (1, .ref 0), (2, .ref 216), (3, .int (nI i))], [.int v], am_SH, (f1, g))) rfl rfl (x_reading_ok 58 x1 f g (v, f1) hx) ?_
  refine am_Ev.go hcd 1 (s' := (861, [(0, .ref am_SC), (1, .ref 0), (2, .ref 216), (3, .int (nI i))], [.ref 216, .int v], am_SH, (f1, g))) rfl ?_
  refine am_Ev.go hcd 4 (s' := (865, [(0, .ref am_SC), (1, .ref 0), (2, .ref 216), (3, .int (nI i))], [.int (nI i + 1), .ref am_SC, .ref 216, .int v], am_SH, (f1, g))) rfl ?_
  refine am_Ev.t hcd (o := none) (c := am_in (nI i + 1) sc.1 = true) (s1 := (866, [(0, .ref am_SC), (1, .ref 0), (2, .ref 216), (3, .int (nI i))], [.int x1, .ref 216, .int v], am_SH, (f1, g))) (by rw [e1]; exact lw_ial rfl) (lw_inx (k := 1) (by omega) hL) ?_
  refine am_Ev.call hcd (a := 295) (s0 := (0, [(0, .ref 216), (1, .int x1)], [], am_SH, (f1, g))) (q := (some (.int v), am_SH, (f1, g1))) (s1 := (867, [(0, .ref am_SC), (1, .ref 0), (2, .ref 216), (3, .int (nI i))], [.int v, .int v], am_SH, (f1, g1))) rfl rfl (m_reading_ok 58 x1 g f1 (v, g1) hm) ?_
  refine am_Ev.t hcd (c := v = v) (s1 := (1051, [(0, .ref am_SC), (1, .ref 0), (2, .ref 216), (3, .int (nI i))], [], am_SH, (f1, g1))) rfl rfl ?_
  refine am_Ev.go hcd 2 (s' := (10, [(0, .ref am_SC), (1, .ref 0), (2, .ref 216), (3, .int (nI i + 6))], [], am_SH, (f1, g1))) rfl ?_
  rw [show nI i + 6 = nI (i + 6) from nI_add i 6]
  exact kk
set_option maxRecDepth 100000 in
set_option maxHeartbeats 4000000 in
theorem am_case_34 {sc : Nat × (Nat → Int32)} {f g f1 g1 : (Nat → Nat → Int32)} {i : Nat} {v : Int32} {r : am_R} (hi : i + 6 ≤ sc.1) (hL : sc.1 ≤ 3072) (hx : x_steady (sc.2 (nI i + 1).toNatClampNeg) (sc.2 (nI i + 2).toNatClampNeg) f = some v) (hm : m_steady (sc.2 (nI i + 1).toNatClampNeg) (sc.2 (nI i + 2).toNatClampNeg) g = some v) (kk : am_Ev sc 60 313 (10, [(0, .ref am_SC), (1, .ref 0), (2, .ref 216), (3, .int (nI (i + 6)))], [], am_SH, (f, g)) r) : am_Ev sc 60 313 (870, [(0, .ref am_SC), (1, .ref 0), (2, .ref 216), (3, .int (nI i))], [], am_SH, (f, g)) r := by
  have hcd : am_code 313 = am_c313 := rfl
  obtain ⟨x1, e1⟩ : ∃ x, x = sc.2 (nI i + 1).toNatClampNeg := ⟨_, rfl⟩
  rw [← e1] at hx hm
  obtain ⟨x2, e2⟩ : ∃ x, x = sc.2 (nI i + 2).toNatClampNeg := ⟨_, rfl⟩
  rw [← e2] at hx hm
  refine am_Ev.go hcd 1 (s' := (871, [(0, .ref am_SC), (1, .ref 0), (2, .ref 216), (3, .int (nI i))], [.ref 0], am_SH, (f, g))) rfl ?_
  refine am_Ev.go hcd 4 (s' := (875, [(0, .ref am_SC), (1, .ref 0), (2, .ref 216), (3, .int (nI i))], [.int (nI i + 1), .ref am_SC, .ref 0], am_SH, (f, g))) rfl ?_
  refine am_Ev.t hcd (o := none) (c := am_in (nI i + 1) sc.1 = true) (s1 := (876, [(0, .ref am_SC), (1, .ref 0), (2, .ref 216), (3, .int (nI i))], [.int x1, .ref 0], am_SH, (f, g))) (by rw [e1]; exact lw_ial rfl) (lw_inx (k := 1) (by omega) hL) ?_
  refine am_Ev.go hcd 4 (s' := (880, [(0, .ref am_SC), (1, .ref 0), (2, .ref 216), (3, .int (nI i))], [.int (nI i + 2), .ref am_SC, .int x1, .ref 0], am_SH, (f, g))) rfl ?_
  refine am_Ev.t hcd (o := none) (c := am_in (nI i + 2) sc.1 = true) (s1 := (881, [(0, .ref am_SC), (1, .ref 0), (2, .ref 216), (3, .int (nI i))], [.int x2, .int x1, .ref 0], am_SH, (f, g))) (by rw [e2]; exact lw_ial rfl) (lw_inx (k := 2) (by omega) hL) ?_
  refine am_Ev.call hcd (a := 161) (s0 := (0, [(0, .ref 0), (1, .int x1), (2, .int x2)], [], am_SH, (f, g))) (q := (some (.int v), am_SH, (f, g))) (s1 := (882, [(0, .ref am_SC), (1, .ref 0), (2, .ref 216), (3, .int (nI i))], [.int v], am_SH, (f, g))) rfl rfl (x_steady_ok 56 x1 x2 f g v hx) ?_
  refine am_Ev.go hcd 1 (s' := (883, [(0, .ref am_SC), (1, .ref 0), (2, .ref 216), (3, .int (nI i))], [.ref 216, .int v], am_SH, (f, g))) rfl ?_
  refine am_Ev.go hcd 4 (s' := (887, [(0, .ref am_SC), (1, .ref 0), (2, .ref 216), (3, .int (nI i))], [.int (nI i + 1), .ref am_SC, .ref 216, .int v], am_SH, (f, g))) rfl ?_
  refine am_Ev.t hcd (o := none) (c := am_in (nI i + 1) sc.1 = true) (s1 := (888, [(0, .ref am_SC), (1, .ref 0), (2, .ref 216), (3, .int (nI i))], [.int x1, .ref 216, .int v], am_SH, (f, g))) (by rw [e1]; exact lw_ial rfl) (lw_inx (k := 1) (by omega) hL) ?_
  refine am_Ev.go hcd 4 (s' := (892, [(0, .ref am_SC), (1, .ref 0), (2, .ref 216), (3, .int (nI i))], [.int (nI i + 2), .ref am_SC, .int x1, .ref 216, .int v], am_SH, (f, g))) rfl ?_
  refine am_Ev.t hcd (o := none) (c := am_in (nI i + 2) sc.1 = true) (s1 := (893, [(0, .ref am_SC), (1, .ref 0), (2, .ref 216), (3, .int (nI i))], [.int x2, .int x1, .ref 216, .int v], am_SH, (f, g))) (by rw [e2]; exact lw_ial rfl) (lw_inx (k := 2) (by omega) hL) ?_
  refine am_Ev.call hcd (a := 297) (s0 := (0, [(0, .ref 216), (1, .int x1), (2, .int x2)], [], am_SH, (f, g))) (q := (some (.int v), am_SH, (f, g))) (s1 := (894, [(0, .ref am_SC), (1, .ref 0), (2, .ref 216), (3, .int (nI i))], [.int v, .int v], am_SH, (f, g))) rfl rfl (m_steady_ok 57 x1 x2 g f v hm) ?_
  refine am_Ev.t hcd (c := v = v) (s1 := (1051, [(0, .ref am_SC), (1, .ref 0), (2, .ref 216), (3, .int (nI i))], [], am_SH, (f, g))) rfl rfl ?_
  refine am_Ev.go hcd 2 (s' := (10, [(0, .ref am_SC), (1, .ref 0), (2, .ref 216), (3, .int (nI i + 6))], [], am_SH, (f, g))) rfl ?_
  rw [show nI i + 6 = nI (i + 6) from nI_add i 6]
  exact kk
set_option maxRecDepth 100000 in
set_option maxHeartbeats 4000000 in
theorem am_case_35 {sc : Nat × (Nat → Int32)} {f g f1 g1 : (Nat → Nat → Int32)} {i : Nat} {v : Int32} {r : am_R} (hi : i + 6 ≤ sc.1) (hL : sc.1 ≤ 3072) (hx : x_quiet (sc.2 (nI i + 1).toNatClampNeg) (sc.2 (nI i + 2).toNatClampNeg) f = some (v, f1)) (hm : m_quiet (sc.2 (nI i + 1).toNatClampNeg) (sc.2 (nI i + 2).toNatClampNeg) g = some (v, g1)) (kk : am_Ev sc 60 313 (10, [(0, .ref am_SC), (1, .ref 0), (2, .ref 216), (3, .int (nI (i + 6)))], [], am_SH, (f1, g1)) r) : am_Ev sc 60 313 (897, [(0, .ref am_SC), (1, .ref 0), (2, .ref 216), (3, .int (nI i))], [], am_SH, (f, g)) r := by
  have hcd : am_code 313 = am_c313 := rfl
  obtain ⟨x1, e1⟩ : ∃ x, x = sc.2 (nI i + 1).toNatClampNeg := ⟨_, rfl⟩
  rw [← e1] at hx hm
  obtain ⟨x2, e2⟩ : ∃ x, x = sc.2 (nI i + 2).toNatClampNeg := ⟨_, rfl⟩
  rw [← e2] at hx hm
  refine am_Ev.go hcd 1 (s' := (898, [(0, .ref am_SC), (1, .ref 0), (2, .ref 216), (3, .int (nI i))], [.ref 0], am_SH, (f, g))) rfl ?_
  refine am_Ev.go hcd 4 (s' := (902, [(0, .ref am_SC), (1, .ref 0), (2, .ref 216), (3, .int (nI i))], [.int (nI i + 1), .ref am_SC, .ref 0], am_SH, (f, g))) rfl ?_
  refine am_Ev.t hcd (o := none) (c := am_in (nI i + 1) sc.1 = true) (s1 := (903, [(0, .ref am_SC), (1, .ref 0), (2, .ref 216), (3, .int (nI i))], [.int x1, .ref 0], am_SH, (f, g))) (by rw [e1]; exact lw_ial rfl) (lw_inx (k := 1) (by omega) hL) ?_
  refine am_Ev.go hcd 4 (s' := (907, [(0, .ref am_SC), (1, .ref 0), (2, .ref 216), (3, .int (nI i))], [.int (nI i + 2), .ref am_SC, .int x1, .ref 0], am_SH, (f, g))) rfl ?_
  refine am_Ev.t hcd (o := none) (c := am_in (nI i + 2) sc.1 = true) (s1 := (908, [(0, .ref am_SC), (1, .ref 0), (2, .ref 216), (3, .int (nI i))], [.int x2, .int x1, .ref 0], am_SH, (f, g))) (by rw [e2]; exact lw_ial rfl) (lw_inx (k := 2) (by omega) hL) ?_
  refine am_Ev.call hcd (a := 162) (s0 := (0, [(0, .ref 0), (1, .int x1), (2, .int x2)], [], am_SH, (f, g))) (q := (some (.int v), am_SH, (f1, g))) (s1 := (909, [(0, .ref am_SC), (1, .ref 0), (2, .ref 216), (3, .int (nI i))], [.int v], am_SH, (f1, g))) rfl rfl (x_quiet_ok 58 x1 x2 f g (v, f1) hx) ?_
  refine am_Ev.go hcd 1 (s' := (910, [(0, .ref am_SC), (1, .ref 0), (2, .ref 216), (3, .int (nI i))], [.ref 216, .int v], am_SH, (f1, g))) rfl ?_
  refine am_Ev.go hcd 4 (s' := (914, [(0, .ref am_SC), (1, .ref 0), (2, .ref 216), (3, .int (nI i))], [.int (nI i + 1), .ref am_SC, .ref 216, .int v], am_SH, (f1, g))) rfl ?_
  refine am_Ev.t hcd (o := none) (c := am_in (nI i + 1) sc.1 = true) (s1 := (915, [(0, .ref am_SC), (1, .ref 0), (2, .ref 216), (3, .int (nI i))], [.int x1, .ref 216, .int v], am_SH, (f1, g))) (by rw [e1]; exact lw_ial rfl) (lw_inx (k := 1) (by omega) hL) ?_
  refine am_Ev.go hcd 4 (s' := (919, [(0, .ref am_SC), (1, .ref 0), (2, .ref 216), (3, .int (nI i))], [.int (nI i + 2), .ref am_SC, .int x1, .ref 216, .int v], am_SH, (f1, g))) rfl ?_
  refine am_Ev.t hcd (o := none) (c := am_in (nI i + 2) sc.1 = true) (s1 := (920, [(0, .ref am_SC), (1, .ref 0), (2, .ref 216), (3, .int (nI i))], [.int x2, .int x1, .ref 216, .int v], am_SH, (f1, g))) (by rw [e2]; exact lw_ial rfl) (lw_inx (k := 2) (by omega) hL) ?_
  refine am_Ev.call hcd (a := 298) (s0 := (0, [(0, .ref 216), (1, .int x1), (2, .int x2)], [], am_SH, (f1, g))) (q := (some (.int v), am_SH, (f1, g1))) (s1 := (921, [(0, .ref am_SC), (1, .ref 0), (2, .ref 216), (3, .int (nI i))], [.int v, .int v], am_SH, (f1, g1))) rfl rfl (m_quiet_ok 58 x1 x2 g f1 (v, g1) hm) ?_
  refine am_Ev.t hcd (c := v = v) (s1 := (1051, [(0, .ref am_SC), (1, .ref 0), (2, .ref 216), (3, .int (nI i))], [], am_SH, (f1, g1))) rfl rfl ?_
  refine am_Ev.go hcd 2 (s' := (10, [(0, .ref am_SC), (1, .ref 0), (2, .ref 216), (3, .int (nI i + 6))], [], am_SH, (f1, g1))) rfl ?_
  rw [show nI i + 6 = nI (i + 6) from nI_add i 6]
  exact kk
set_option maxRecDepth 100000 in
set_option maxHeartbeats 4000000 in
theorem am_case_36 {sc : Nat × (Nat → Int32)} {f g f1 g1 : (Nat → Nat → Int32)} {i : Nat} {v : Int32} {r : am_R} (hi : i + 6 ≤ sc.1) (hL : sc.1 ≤ 3072) (hx : x_dog (sc.2 (nI i + 1).toNatClampNeg) f = some (v, f1)) (hm : m_dog (sc.2 (nI i + 1).toNatClampNeg) g = some (v, g1)) (kk : am_Ev sc 60 313 (10, [(0, .ref am_SC), (1, .ref 0), (2, .ref 216), (3, .int (nI (i + 6)))], [], am_SH, (f1, g1)) r) : am_Ev sc 60 313 (924, [(0, .ref am_SC), (1, .ref 0), (2, .ref 216), (3, .int (nI i))], [], am_SH, (f, g)) r := by
  have hcd : am_code 313 = am_c313 := rfl
  obtain ⟨x1, e1⟩ : ∃ x, x = sc.2 (nI i + 1).toNatClampNeg := ⟨_, rfl⟩
  rw [← e1] at hx hm
  refine am_Ev.go hcd 1 (s' := (925, [(0, .ref am_SC), (1, .ref 0), (2, .ref 216), (3, .int (nI i))], [.ref 0], am_SH, (f, g))) rfl ?_
  refine am_Ev.go hcd 4 (s' := (929, [(0, .ref am_SC), (1, .ref 0), (2, .ref 216), (3, .int (nI i))], [.int (nI i + 1), .ref am_SC, .ref 0], am_SH, (f, g))) rfl ?_
  refine am_Ev.t hcd (o := none) (c := am_in (nI i + 1) sc.1 = true) (s1 := (930, [(0, .ref am_SC), (1, .ref 0), (2, .ref 216), (3, .int (nI i))], [.int x1, .ref 0], am_SH, (f, g))) (by rw [e1]; exact lw_ial rfl) (lw_inx (k := 1) (by omega) hL) ?_
  refine am_Ev.call hcd (a := 163) (s0 := (0, [(0, .ref 0), (1, .int x1)], [], am_SH, (f, g))) (q := (some (.int v), am_SH, (f1, g))) (s1 := (931, [(0, .ref am_SC), (1, .ref 0), (2, .ref 216), (3, .int (nI i))], [.int v], am_SH, (f1, g))) rfl rfl (x_dog_ok 58 x1 f g (v, f1) hx) ?_
  refine am_Ev.go hcd 1 (s' := (932, [(0, .ref am_SC), (1, .ref 0), (2, .ref 216), (3, .int (nI i))], [.ref 216, .int v], am_SH, (f1, g))) rfl ?_
  refine am_Ev.go hcd 4 (s' := (936, [(0, .ref am_SC), (1, .ref 0), (2, .ref 216), (3, .int (nI i))], [.int (nI i + 1), .ref am_SC, .ref 216, .int v], am_SH, (f1, g))) rfl ?_
  refine am_Ev.t hcd (o := none) (c := am_in (nI i + 1) sc.1 = true) (s1 := (937, [(0, .ref am_SC), (1, .ref 0), (2, .ref 216), (3, .int (nI i))], [.int x1, .ref 216, .int v], am_SH, (f1, g))) (by rw [e1]; exact lw_ial rfl) (lw_inx (k := 1) (by omega) hL) ?_
  refine am_Ev.call hcd (a := 299) (s0 := (0, [(0, .ref 216), (1, .int x1)], [], am_SH, (f1, g))) (q := (some (.int v), am_SH, (f1, g1))) (s1 := (938, [(0, .ref am_SC), (1, .ref 0), (2, .ref 216), (3, .int (nI i))], [.int v, .int v], am_SH, (f1, g1))) rfl rfl (m_dog_ok 58 x1 g f1 (v, g1) hm) ?_
  refine am_Ev.t hcd (c := v = v) (s1 := (1051, [(0, .ref am_SC), (1, .ref 0), (2, .ref 216), (3, .int (nI i))], [], am_SH, (f1, g1))) rfl rfl ?_
  refine am_Ev.go hcd 2 (s' := (10, [(0, .ref am_SC), (1, .ref 0), (2, .ref 216), (3, .int (nI i + 6))], [], am_SH, (f1, g1))) rfl ?_
  rw [show nI i + 6 = nI (i + 6) from nI_add i 6]
  exact kk
set_option maxRecDepth 100000 in
set_option maxHeartbeats 4000000 in
theorem am_case_37 {sc : Nat × (Nat → Int32)} {f g f1 g1 : (Nat → Nat → Int32)} {i : Nat} {v : Int32} {r : am_R} (hi : i + 6 ≤ sc.1) (hL : sc.1 ≤ 3072) (hx : x_dogs (sc.2 (nI i + 1).toNatClampNeg) f = some (v, f1)) (hm : m_dogs (sc.2 (nI i + 1).toNatClampNeg) g = some v) (kk : am_Ev sc 60 313 (10, [(0, .ref am_SC), (1, .ref 0), (2, .ref 216), (3, .int (nI (i + 6)))], [], am_SH, (f1, g)) r) : am_Ev sc 60 313 (941, [(0, .ref am_SC), (1, .ref 0), (2, .ref 216), (3, .int (nI i))], [], am_SH, (f, g)) r := by
  have hcd : am_code 313 = am_c313 := rfl
  obtain ⟨x1, e1⟩ : ∃ x, x = sc.2 (nI i + 1).toNatClampNeg := ⟨_, rfl⟩
  rw [← e1] at hx hm
  refine am_Ev.go hcd 1 (s' := (942, [(0, .ref am_SC), (1, .ref 0), (2, .ref 216), (3, .int (nI i))], [.ref 0], am_SH, (f, g))) rfl ?_
  refine am_Ev.go hcd 4 (s' := (946, [(0, .ref am_SC), (1, .ref 0), (2, .ref 216), (3, .int (nI i))], [.int (nI i + 1), .ref am_SC, .ref 0], am_SH, (f, g))) rfl ?_
  refine am_Ev.t hcd (o := none) (c := am_in (nI i + 1) sc.1 = true) (s1 := (947, [(0, .ref am_SC), (1, .ref 0), (2, .ref 216), (3, .int (nI i))], [.int x1, .ref 0], am_SH, (f, g))) (by rw [e1]; exact lw_ial rfl) (lw_inx (k := 1) (by omega) hL) ?_
  refine am_Ev.call hcd (a := 164) (s0 := (0, [(0, .ref 0), (1, .int x1)], [], am_SH, (f, g))) (q := (some (.int v), am_SH, (f1, g))) (s1 := (948, [(0, .ref am_SC), (1, .ref 0), (2, .ref 216), (3, .int (nI i))], [.int v], am_SH, (f1, g))) rfl rfl (x_dogs_ok 55 x1 f g (v, f1) hx) ?_
  refine am_Ev.go hcd 1 (s' := (949, [(0, .ref am_SC), (1, .ref 0), (2, .ref 216), (3, .int (nI i))], [.ref 216, .int v], am_SH, (f1, g))) rfl ?_
  refine am_Ev.go hcd 4 (s' := (953, [(0, .ref am_SC), (1, .ref 0), (2, .ref 216), (3, .int (nI i))], [.int (nI i + 1), .ref am_SC, .ref 216, .int v], am_SH, (f1, g))) rfl ?_
  refine am_Ev.t hcd (o := none) (c := am_in (nI i + 1) sc.1 = true) (s1 := (954, [(0, .ref am_SC), (1, .ref 0), (2, .ref 216), (3, .int (nI i))], [.int x1, .ref 216, .int v], am_SH, (f1, g))) (by rw [e1]; exact lw_ial rfl) (lw_inx (k := 1) (by omega) hL) ?_
  refine am_Ev.call hcd (a := 304) (s0 := (0, [(0, .ref 216), (1, .int x1)], [], am_SH, (f1, g))) (q := (some (.int v), am_SH, (f1, g))) (s1 := (955, [(0, .ref am_SC), (1, .ref 0), (2, .ref 216), (3, .int (nI i))], [.int v, .int v], am_SH, (f1, g))) rfl rfl (m_dogs_ok 56 x1 g f1 v hm) ?_
  refine am_Ev.t hcd (c := v = v) (s1 := (1051, [(0, .ref am_SC), (1, .ref 0), (2, .ref 216), (3, .int (nI i))], [], am_SH, (f1, g))) rfl rfl ?_
  refine am_Ev.go hcd 2 (s' := (10, [(0, .ref am_SC), (1, .ref 0), (2, .ref 216), (3, .int (nI i + 6))], [], am_SH, (f1, g))) rfl ?_
  rw [show nI i + 6 = nI (i + 6) from nI_add i 6]
  exact kk
set_option maxRecDepth 100000 in
set_option maxHeartbeats 4000000 in
theorem am_case_38 {sc : Nat × (Nat → Int32)} {f g f1 g1 : (Nat → Nat → Int32)} {i : Nat} {v : Int32} {r : am_R} (hi : i + 6 ≤ sc.1) (hL : sc.1 ≤ 3072) (hx : x_juror (sc.2 (nI i + 1).toNatClampNeg) f = some (v, f1)) (hm : m_juror (sc.2 (nI i + 1).toNatClampNeg) g = some (v, g1)) (kk : am_Ev sc 60 313 (10, [(0, .ref am_SC), (1, .ref 0), (2, .ref 216), (3, .int (nI (i + 6)))], [], am_SH, (f1, g1)) r) : am_Ev sc 60 313 (958, [(0, .ref am_SC), (1, .ref 0), (2, .ref 216), (3, .int (nI i))], [], am_SH, (f, g)) r := by
  have hcd : am_code 313 = am_c313 := rfl
  obtain ⟨x1, e1⟩ : ∃ x, x = sc.2 (nI i + 1).toNatClampNeg := ⟨_, rfl⟩
  rw [← e1] at hx hm
  refine am_Ev.go hcd 1 (s' := (959, [(0, .ref am_SC), (1, .ref 0), (2, .ref 216), (3, .int (nI i))], [.ref 0], am_SH, (f, g))) rfl ?_
  refine am_Ev.go hcd 4 (s' := (963, [(0, .ref am_SC), (1, .ref 0), (2, .ref 216), (3, .int (nI i))], [.int (nI i + 1), .ref am_SC, .ref 0], am_SH, (f, g))) rfl ?_
  refine am_Ev.t hcd (o := none) (c := am_in (nI i + 1) sc.1 = true) (s1 := (964, [(0, .ref am_SC), (1, .ref 0), (2, .ref 216), (3, .int (nI i))], [.int x1, .ref 0], am_SH, (f, g))) (by rw [e1]; exact lw_ial rfl) (lw_inx (k := 1) (by omega) hL) ?_
  refine am_Ev.call hcd (a := 165) (s0 := (0, [(0, .ref 0), (1, .int x1)], [], am_SH, (f, g))) (q := (some (.int v), am_SH, (f1, g))) (s1 := (965, [(0, .ref am_SC), (1, .ref 0), (2, .ref 216), (3, .int (nI i))], [.int v], am_SH, (f1, g))) rfl rfl (x_juror_ok 58 x1 f g (v, f1) hx) ?_
  refine am_Ev.go hcd 1 (s' := (966, [(0, .ref am_SC), (1, .ref 0), (2, .ref 216), (3, .int (nI i))], [.ref 216, .int v], am_SH, (f1, g))) rfl ?_
  refine am_Ev.go hcd 4 (s' := (970, [(0, .ref am_SC), (1, .ref 0), (2, .ref 216), (3, .int (nI i))], [.int (nI i + 1), .ref am_SC, .ref 216, .int v], am_SH, (f1, g))) rfl ?_
  refine am_Ev.t hcd (o := none) (c := am_in (nI i + 1) sc.1 = true) (s1 := (971, [(0, .ref am_SC), (1, .ref 0), (2, .ref 216), (3, .int (nI i))], [.int x1, .ref 216, .int v], am_SH, (f1, g))) (by rw [e1]; exact lw_ial rfl) (lw_inx (k := 1) (by omega) hL) ?_
  refine am_Ev.call hcd (a := 305) (s0 := (0, [(0, .ref 216), (1, .int x1)], [], am_SH, (f1, g))) (q := (some (.int v), am_SH, (f1, g1))) (s1 := (972, [(0, .ref am_SC), (1, .ref 0), (2, .ref 216), (3, .int (nI i))], [.int v, .int v], am_SH, (f1, g1))) rfl rfl (m_juror_ok 58 x1 g f1 (v, g1) hm) ?_
  refine am_Ev.t hcd (c := v = v) (s1 := (1051, [(0, .ref am_SC), (1, .ref 0), (2, .ref 216), (3, .int (nI i))], [], am_SH, (f1, g1))) rfl rfl ?_
  refine am_Ev.go hcd 2 (s' := (10, [(0, .ref am_SC), (1, .ref 0), (2, .ref 216), (3, .int (nI i + 6))], [], am_SH, (f1, g1))) rfl ?_
  rw [show nI i + 6 = nI (i + 6) from nI_add i 6]
  exact kk
set_option maxRecDepth 100000 in
set_option maxHeartbeats 4000000 in
theorem am_case_39 {sc : Nat × (Nat → Int32)} {f g f1 g1 : (Nat → Nat → Int32)} {i : Nat} {v : Int32} {r : am_R} (hi : i + 6 ≤ sc.1) (hL : sc.1 ≤ 3072) (hx : x_jury (sc.2 (nI i + 1).toNatClampNeg) (sc.2 (nI i + 2).toNatClampNeg) f = some v) (hm : m_jury (sc.2 (nI i + 1).toNatClampNeg) (sc.2 (nI i + 2).toNatClampNeg) g = some v) (kk : am_Ev sc 60 313 (10, [(0, .ref am_SC), (1, .ref 0), (2, .ref 216), (3, .int (nI (i + 6)))], [], am_SH, (f, g)) r) : am_Ev sc 60 313 (975, [(0, .ref am_SC), (1, .ref 0), (2, .ref 216), (3, .int (nI i))], [], am_SH, (f, g)) r := by
  have hcd : am_code 313 = am_c313 := rfl
  obtain ⟨x1, e1⟩ : ∃ x, x = sc.2 (nI i + 1).toNatClampNeg := ⟨_, rfl⟩
  rw [← e1] at hx hm
  obtain ⟨x2, e2⟩ : ∃ x, x = sc.2 (nI i + 2).toNatClampNeg := ⟨_, rfl⟩
  rw [← e2] at hx hm
  refine am_Ev.go hcd 1 (s' := (976, [(0, .ref am_SC), (1, .ref 0), (2, .ref 216), (3, .int (nI i))], [.ref 0], am_SH, (f, g))) rfl ?_
  refine am_Ev.go hcd 4 (s' := (980, [(0, .ref am_SC), (1, .ref 0), (2, .ref 216), (3, .int (nI i))], [.int (nI i + 1), .ref am_SC, .ref 0], am_SH, (f, g))) rfl ?_
  refine am_Ev.t hcd (o := none) (c := am_in (nI i + 1) sc.1 = true) (s1 := (981, [(0, .ref am_SC), (1, .ref 0), (2, .ref 216), (3, .int (nI i))], [.int x1, .ref 0], am_SH, (f, g))) (by rw [e1]; exact lw_ial rfl) (lw_inx (k := 1) (by omega) hL) ?_
  refine am_Ev.go hcd 4 (s' := (985, [(0, .ref am_SC), (1, .ref 0), (2, .ref 216), (3, .int (nI i))], [.int (nI i + 2), .ref am_SC, .int x1, .ref 0], am_SH, (f, g))) rfl ?_
  refine am_Ev.t hcd (o := none) (c := am_in (nI i + 2) sc.1 = true) (s1 := (986, [(0, .ref am_SC), (1, .ref 0), (2, .ref 216), (3, .int (nI i))], [.int x2, .int x1, .ref 0], am_SH, (f, g))) (by rw [e2]; exact lw_ial rfl) (lw_inx (k := 2) (by omega) hL) ?_
  refine am_Ev.call hcd (a := 166) (s0 := (0, [(0, .ref 0), (1, .int x1), (2, .int x2)], [], am_SH, (f, g))) (q := (some (.int v), am_SH, (f, g))) (s1 := (987, [(0, .ref am_SC), (1, .ref 0), (2, .ref 216), (3, .int (nI i))], [.int v], am_SH, (f, g))) rfl rfl (x_jury_ok 57 x1 x2 f g v hx) ?_
  refine am_Ev.go hcd 1 (s' := (988, [(0, .ref am_SC), (1, .ref 0), (2, .ref 216), (3, .int (nI i))], [.ref 216, .int v], am_SH, (f, g))) rfl ?_
  refine am_Ev.go hcd 4 (s' := (992, [(0, .ref am_SC), (1, .ref 0), (2, .ref 216), (3, .int (nI i))], [.int (nI i + 1), .ref am_SC, .ref 216, .int v], am_SH, (f, g))) rfl ?_
  refine am_Ev.t hcd (o := none) (c := am_in (nI i + 1) sc.1 = true) (s1 := (993, [(0, .ref am_SC), (1, .ref 0), (2, .ref 216), (3, .int (nI i))], [.int x1, .ref 216, .int v], am_SH, (f, g))) (by rw [e1]; exact lw_ial rfl) (lw_inx (k := 1) (by omega) hL) ?_
  refine am_Ev.go hcd 4 (s' := (997, [(0, .ref am_SC), (1, .ref 0), (2, .ref 216), (3, .int (nI i))], [.int (nI i + 2), .ref am_SC, .int x1, .ref 216, .int v], am_SH, (f, g))) rfl ?_
  refine am_Ev.t hcd (o := none) (c := am_in (nI i + 2) sc.1 = true) (s1 := (998, [(0, .ref am_SC), (1, .ref 0), (2, .ref 216), (3, .int (nI i))], [.int x2, .int x1, .ref 216, .int v], am_SH, (f, g))) (by rw [e2]; exact lw_ial rfl) (lw_inx (k := 2) (by omega) hL) ?_
  refine am_Ev.call hcd (a := 307) (s0 := (0, [(0, .ref 216), (1, .int x1), (2, .int x2)], [], am_SH, (f, g))) (q := (some (.int v), am_SH, (f, g))) (s1 := (999, [(0, .ref am_SC), (1, .ref 0), (2, .ref 216), (3, .int (nI i))], [.int v, .int v], am_SH, (f, g))) rfl rfl (m_jury_ok 58 x1 x2 g f v hm) ?_
  refine am_Ev.t hcd (c := v = v) (s1 := (1051, [(0, .ref am_SC), (1, .ref 0), (2, .ref 216), (3, .int (nI i))], [], am_SH, (f, g))) rfl rfl ?_
  refine am_Ev.go hcd 2 (s' := (10, [(0, .ref am_SC), (1, .ref 0), (2, .ref 216), (3, .int (nI i + 6))], [], am_SH, (f, g))) rfl ?_
  rw [show nI i + 6 = nI (i + 6) from nI_add i 6]
  exact kk
