set_option maxRecDepth 100000 in
set_option maxHeartbeats 4000000 in
theorem am_case_24 {sc : Nat × (Nat → Int32)} {f g f1 g1 : (Nat → Nat → Int32)} {i : Nat} {v : Int32} {r : am_R} (hi : i + 6 ≤ sc.1) (hL : sc.1 ≤ 3072) (hx : x_saying (sc.2 (nI i + 1).toNatClampNeg) (sc.2 (nI i + 2).toNatClampNeg) f = some (v, f1)) (hm : m_saying (sc.2 (nI i + 1).toNatClampNeg) (sc.2 (nI i + 2).toNatClampNeg) g = some (v, g1)) (kk : am_Ev sc 60 313 (10, [(0, .ref am_SC), (1, .ref 0), (2, .ref 216), (3, .int (nI (i + 6)))], [], am_SH, (f1, g1)) r) : am_Ev sc 60 313 (630, [(0, .ref am_SC), (1, .ref 0), (2, .ref 216), (3, .int (nI i))], [], am_SH, (f, g)) r := by
  have hcd : am_code 313 = am_c313 := rfl
  obtain ⟨x1, e1⟩ : ∃ x, x = sc.2 (nI i + 1).toNatClampNeg := ⟨_, rfl⟩
  rw [← e1] at hx hm
  obtain ⟨x2, e2⟩ : ∃ x, x = sc.2 (nI i + 2).toNatClampNeg := ⟨_, rfl⟩
  rw [← e2] at hx hm
  refine am_Ev.go hcd 1 (s' := (631, [(0, .ref am_SC), (1, .ref 0), (2, .ref 216), (3, .int (nI i))], [.ref 0], am_SH, (f, g))) rfl ?_
  refine am_Ev.go hcd 4 (s' := (635, [(0, .ref am_SC), (1, .ref 0), (2, .ref 216), (3, .int (nI i))], [.int (nI i + 1), .ref am_SC, .ref 0], am_SH, (f, g))) rfl ?_
  refine am_Ev.t hcd (o := none) (c := am_in (nI i + 1) sc.1 = true) (s1 := (636, [(0, .ref am_SC), (1, .ref 0), (2, .ref 216), (3, .int (nI i))], [.int x1, .ref 0], am_SH, (f, g))) (by rw [e1]; exact lw_ial rfl) (lw_inx (k := 1) (by omega) hL) ?_
  refine am_Ev.go hcd 4 (s' := (640, [(0, .ref am_SC), (1, .ref 0), (2, .ref 216), (3, .int (nI i))], [.int (nI i + 2), .ref am_SC, .int x1, .ref 0], am_SH, (f, g))) rfl ?_
  refine am_Ev.t hcd (o := none) (c := am_in (nI i + 2) sc.1 = true) (s1 := (641, [(0, .ref am_SC), (1, .ref 0), (2, .ref 216), (3, .int (nI i))], [.int x2, .int x1, .ref 0], am_SH, (f, g))) (by rw [e2]; exact lw_ial rfl) (lw_inx (k := 2) (by omega) hL) ?_
  refine am_Ev.call hcd (a := 151) (s0 := (0, [(0, .ref 0), (1, .int x1), (2, .int x2)], [], am_SH, (f, g))) (q := (some (.int v), am_SH, (f1, g))) (s1 := (642, [(0, .ref am_SC), (1, .ref 0), (2, .ref 216), (3, .int (nI i))], [.int v], am_SH, (f1, g))) rfl rfl (x_saying_ok 58 x1 x2 f g (v, f1) hx) ?_
  refine am_Ev.go hcd 1 (s' := (643, [(0, .ref am_SC), (1, .ref 0), (2, .ref 216), (3, .int (nI i))], [.ref 216, .int v], am_SH, (f1, g))) rfl ?_
  refine am_Ev.go hcd 4 (s' := (647, [(0, .ref am_SC), (1, .ref 0), (2, .ref 216), (3, .int (nI i))], [.int (nI i + 1), .ref am_SC, .ref 216, .int v], am_SH, (f1, g))) rfl ?_
  refine am_Ev.t hcd (o := none) (c := am_in (nI i + 1) sc.1 = true) (s1 := (648, [(0, .ref am_SC), (1, .ref 0), (2, .ref 216), (3, .int (nI i))], [.int x1, .ref 216, .int v], am_SH, (f1, g))) (by rw [e1]; exact lw_ial rfl) (lw_inx (k := 1) (by omega) hL) ?_
  refine am_Ev.go hcd 4 (s' := (652, [(0, .ref am_SC), (1, .ref 0), (2, .ref 216), (3, .int (nI i))], [.int (nI i + 2), .ref am_SC, .int x1, .ref 216, .int v], am_SH, (f1, g))) rfl ?_
  refine am_Ev.t hcd (o := none) (c := am_in (nI i + 2) sc.1 = true) (s1 := (653, [(0, .ref am_SC), (1, .ref 0), (2, .ref 216), (3, .int (nI i))], [.int x2, .int x1, .ref 216, .int v], am_SH, (f1, g))) (by rw [e2]; exact lw_ial rfl) (lw_inx (k := 2) (by omega) hL) ?_
  refine am_Ev.call hcd (a := 278) (s0 := (0, [(0, .ref 216), (1, .int x1), (2, .int x2)], [], am_SH, (f1, g))) (q := (some (.int v), am_SH, (f1, g1))) (s1 := (654, [(0, .ref am_SC), (1, .ref 0), (2, .ref 216), (3, .int (nI i))], [.int v, .int v], am_SH, (f1, g1))) rfl rfl (m_saying_ok 58 x1 x2 g f1 (v, g1) hm) ?_
  refine am_Ev.t hcd (c := v = v) (s1 := (1051, [(0, .ref am_SC), (1, .ref 0), (2, .ref 216), (3, .int (nI i))], [], am_SH, (f1, g1))) rfl rfl ?_
  refine am_Ev.go hcd 2 (s' := (10, [(0, .ref am_SC), (1, .ref 0), (2, .ref 216), (3, .int (nI i + 6))], [], am_SH, (f1, g1))) rfl ?_
  rw [show nI i + 6 = nI (i + 6) from nI_add i 6]
  exact kk
set_option maxRecDepth 100000 in
set_option maxHeartbeats 4000000 in
theorem am_case_25 {sc : Nat × (Nat → Int32)} {f g f1 g1 : (Nat → Nat → Int32)} {i : Nat} {v : Int32} {r : am_R} (hi : i + 6 ≤ sc.1) (hL : sc.1 ≤ 3072) (hx : x_cool (sc.2 (nI i + 1).toNatClampNeg) (sc.2 (nI i + 2).toNatClampNeg) f = some (v, f1)) (hm : m_cool (sc.2 (nI i + 1).toNatClampNeg) (sc.2 (nI i + 2).toNatClampNeg) g = some (v, g1)) (kk : am_Ev sc 60 313 (10, [(0, .ref am_SC), (1, .ref 0), (2, .ref 216), (3, .int (nI (i + 6)))], [], am_SH, (f1, g1)) r) : am_Ev sc 60 313 (657, [(0, .ref am_SC), (1, .ref 0), (2, .ref 216), (3, .int (nI i))], [], am_SH, (f, g)) r := by
  have hcd : am_code 313 = am_c313 := rfl
  obtain ⟨x1, e1⟩ : ∃ x, x = sc.2 (nI i + 1).toNatClampNeg := ⟨_, rfl⟩
  rw [← e1] at hx hm
  obtain ⟨x2, e2⟩ : ∃ x, x = sc.2 (nI i + 2).toNatClampNeg := ⟨_, rfl⟩
  rw [← e2] at hx hm
  refine am_Ev.go hcd 1 (s' := (658, [(0, .ref am_SC), (1, .ref 0), (2, .ref 216), (3, .int (nI i))], [.ref 0], am_SH, (f, g))) rfl ?_
  refine am_Ev.go hcd 4 (s' := (662, [(0, .ref am_SC), (1, .ref 0), (2, .ref 216), (3, .int (nI i))], [.int (nI i + 1), .ref am_SC, .ref 0], am_SH, (f, g))) rfl ?_
  refine am_Ev.t hcd (o := none) (c := am_in (nI i + 1) sc.1 = true) (s1 := (663, [(0, .ref am_SC), (1, .ref 0), (2, .ref 216), (3, .int (nI i))], [.int x1, .ref 0], am_SH, (f, g))) (by rw [e1]; exact lw_ial rfl) (lw_inx (k := 1) (by omega) hL) ?_
  refine am_Ev.go hcd 4 (s' := (667, [(0, .ref am_SC), (1, .ref 0), (2, .ref 216), (3, .int (nI i))], [.int (nI i + 2), .ref am_SC, .int x1, .ref 0], am_SH, (f, g))) rfl ?_
  refine am_Ev.t hcd (o := none) (c := am_in (nI i + 2) sc.1 = true) (s1 := (668, [(0, .ref am_SC), (1, .ref 0), (2, .ref 216), (3, .int (nI i))], [.int x2, .int x1, .ref 0], am_SH, (f, g))) (by rw [e2]; exact lw_ial rfl) (lw_inx (k := 2) (by omega) hL) ?_
  refine am_Ev.call hcd (a := 152) (s0 := (0, [(0, .ref 0), (1, .int x1), (2, .int x2)], [], am_SH, (f, g))) (q := (some (.int v), am_SH, (f1, g))) (s1 := (669, [(0, .ref am_SC), (1, .ref 0), (2, .ref 216), (3, .int (nI i))], [.int v], am_SH, (f1, g))) rfl rfl (x_cool_ok 57 x1 x2 f g (v, f1) hx) ?_
  refine am_Ev.go hcd 1 (s' := (670, [(0, .ref am_SC), (1, .ref 0), (2, .ref 216), (3, .int (nI i))], [.ref 216, .int v], am_SH, (f1, g))) rfl ?_
  refine am_Ev.go hcd 4 (s' := (674, [(0, .ref am_SC), (1, .ref 0), (2, .ref 216), (3, .int (nI i))], [.int (nI i + 1), .ref am_SC, .ref 216, .int v], am_SH, (f1, g))) rfl ?_
  refine am_Ev.t hcd (o := none) (c := am_in (nI i + 1) sc.1 = true) (s1 := (675, [(0, .ref am_SC), (1, .ref 0), (2, .ref 216), (3, .int (nI i))], [.int x1, .ref 216, .int v], am_SH, (f1, g))) (by rw [e1]; exact lw_ial rfl) (lw_inx (k := 1) (by omega) hL) ?_
  refine am_Ev.go hcd 4 (s' := (679, [(0, .ref am_SC), (1, .ref 0), (2, .ref 216), (3, .int (nI i))], [.int (nI i + 2), .ref am_SC, .int x1, .ref 216, .int v], am_SH, (f1, g))) rfl ?_
  refine am_Ev.t hcd (o := none) (c := am_in (nI i + 2) sc.1 = true) (s1 := (680, [(0, .ref am_SC), (1, .ref 0), (2, .ref 216), (3, .int (nI i))], [.int x2, .int x1, .ref 216, .int v], am_SH, (f1, g))) (by rw [e2]; exact lw_ial rfl) (lw_inx (k := 2) (by omega) hL) ?_
  refine am_Ev.call hcd (a := 280) (s0 := (0, [(0, .ref 216), (1, .int x1), (2, .int x2)], [], am_SH, (f1, g))) (q := (some (.int v), am_SH, (f1, g1))) (s1 := (681, [(0, .ref am_SC), (1, .ref 0), (2, .ref 216), (3, .int (nI i))], [.int v, .int v], am_SH, (f1, g1))) rfl rfl (m_cool_ok 58 x1 x2 g f1 (v, g1) hm) ?_
  refine am_Ev.t hcd (c := v = v) (s1 := (1051, [(0, .ref am_SC), (1, .ref 0), (2, .ref 216), (3, .int (nI i))], [], am_SH, (f1, g1))) rfl rfl ?_
  refine am_Ev.go hcd 2 (s' := (10, [(0, .ref am_SC), (1, .ref 0), (2, .ref 216), (3, .int (nI i + 6))], [], am_SH, (f1, g1))) rfl ?_
  rw [show nI i + 6 = nI (i + 6) from nI_add i 6]
  exact kk
set_option maxRecDepth 100000 in
set_option maxHeartbeats 4000000 in
theorem am_case_26 {sc : Nat × (Nat → Int32)} {f g f1 g1 : (Nat → Nat → Int32)} {i : Nat} {v : Int32} {r : am_R} (hi : i + 6 ≤ sc.1) (hL : sc.1 ≤ 3072) (hx : x_coal (sc.2 (nI i + 1).toNatClampNeg) f = some (v, f1)) (hm : m_coal (sc.2 (nI i + 1).toNatClampNeg) g = some (v, g1)) (kk : am_Ev sc 60 313 (10, [(0, .ref am_SC), (1, .ref 0), (2, .ref 216), (3, .int (nI (i + 6)))], [], am_SH, (f1, g1)) r) : am_Ev sc 60 313 (684, [(0, .ref am_SC), (1, .ref 0), (2, .ref 216), (3, .int (nI i))], [], am_SH, (f, g)) r := by
  have hcd : am_code 313 = am_c313 := rfl
  obtain ⟨x1, e1⟩ : ∃ x, x = sc.2 (nI i + 1).toNatClampNeg := ⟨_, rfl⟩
  rw [← e1] at hx hm
  refine am_Ev.go hcd 1 (s' := (685, [(0, .ref am_SC), (1, .ref 0), (2, .ref 216), (3, .int (nI i))], [.ref 0], am_SH, (f, g))) rfl ?_
  refine am_Ev.go hcd 4 (s' := (689, [(0, .ref am_SC), (1, .ref 0), (2, .ref 216), (3, .int (nI i))], [.int (nI i + 1), .ref am_SC, .ref 0], am_SH, (f, g))) rfl ?_
  refine am_Ev.t hcd (o := none) (c := am_in (nI i + 1) sc.1 = true) (s1 := (690, [(0, .ref am_SC), (1, .ref 0), (2, .ref 216), (3, .int (nI i))], [.int x1, .ref 0], am_SH, (f, g))) (by rw [e1]; exact lw_ial rfl) (lw_inx (k := 1) (by omega) hL) ?_
  refine am_Ev.call hcd (a := 153) (s0 := (0, [(0, .ref 0), (1, .int x1)], [], am_SH, (f, g))) (q := (some (.int v), am_SH, (f1, g))) (s1 := (691, [(0, .ref am_SC), (1, .ref 0), (2, .ref 216), (3, .int (nI i))], [.int v], am_SH, (f1, g))) rfl rfl (x_coal_ok 58 x1 f g (v, f1) hx) ?_
  refine am_Ev.go hcd 1 (s' := (692, [(0, .ref am_SC), (1, .ref 0), (2, .ref 216), (3, .int (nI i))], [.ref 216, .int v], am_SH, (f1, g))) rfl ?_
  refine am_Ev.go hcd 4 (s' := (696, [(0, .ref am_SC), (1, .ref 0), (2, .ref 216), (3, .int (nI i))], [.int (nI i + 1), .ref am_SC, .ref 216, .int v], am_SH, (f1, g))) rfl ?_
  refine am_Ev.t hcd (o := none) (c := am_in (nI i + 1) sc.1 = true) (s1 := (697, [(0, .ref am_SC), (1, .ref 0), (2, .ref 216), (3, .int (nI i))], [.int x1, .ref 216, .int v], am_SH, (f1, g))) (by rw [e1]; exact lw_ial rfl) (lw_inx (k := 1) (by omega) hL) ?_
  refine am_Ev.call hcd (a := 281) (s0 := (0, [(0, .ref 216), (1, .int x1)], [], am_SH, (f1, g))) (q := (some (.int v), am_SH, (f1, g1))) (s1 := (698, [(0, .ref am_SC), (1, .ref 0), (2, .ref 216), (3, .int (nI i))], [.int v, .int v], am_SH, (f1, g1))) rfl rfl (m_coal_ok 58 x1 g f1 (v, g1) hm) ?_
  refine am_Ev.t hcd (c := v = v) (s1 := (1051, [(0, .ref am_SC), (1, .ref 0), (2, .ref 216), (3, .int (nI i))], [], am_SH, (f1, g1))) rfl rfl ?_
  refine am_Ev.go hcd 2 (s' := (10, [(0, .ref am_SC), (1, .ref 0), (2, .ref 216), (3, .int (nI i + 6))], [], am_SH, (f1, g1))) rfl ?_
  rw [show nI i + 6 = nI (i + 6) from nI_add i 6]
  exact kk
set_option maxRecDepth 100000 in
set_option maxHeartbeats 4000000 in
theorem am_case_27 {sc : Nat × (Nat → Int32)} {f g f1 g1 : (Nat → Nat → Int32)} {i : Nat} {v : Int32} {r : am_R} (hi : i + 6 ≤ sc.1) (hL : sc.1 ≤ 3072) (hx : x_coals (sc.2 (nI i + 1).toNatClampNeg) f = some (v, f1)) (hm : m_coals (sc.2 (nI i + 1).toNatClampNeg) g = some (v, g1)) (kk : am_Ev sc 60 313 (10, [(0, .ref am_SC), (1, .ref 0), (2, .ref 216), (3, .int (nI (i + 6)))], [], am_SH, (f1, g1)) r) : am_Ev sc 60 313 (701, [(0, .ref am_SC), (1, .ref 0), (2, .ref 216), (3, .int (nI i))], [], am_SH, (f, g)) r := by
  have hcd : am_code 313 = am_c313 := rfl
  obtain ⟨x1, e1⟩ : ∃ x, x = sc.2 (nI i + 1).toNatClampNeg := ⟨_, rfl⟩
  rw [← e1] at hx hm
  refine am_Ev.go hcd 1 (s' := (702, [(0, .ref am_SC), (1, .ref 0), (2, .ref 216), (3, .int (nI i))], [.ref 0], am_SH, (f, g))) rfl ?_
  refine am_Ev.go hcd 4 (s' := (706, [(0, .ref am_SC), (1, .ref 0), (2, .ref 216), (3, .int (nI i))], [.int (nI i + 1), .ref am_SC, .ref 0], am_SH, (f, g))) rfl ?_
  refine am_Ev.t hcd (o := none) (c := am_in (nI i + 1) sc.1 = true) (s1 := (707, [(0, .ref am_SC), (1, .ref 0), (2, .ref 216), (3, .int (nI i))], [.int x1, .ref 0], am_SH, (f, g))) (by rw [e1]; exact lw_ial rfl) (lw_inx (k := 1) (by omega) hL) ?_
  refine am_Ev.call hcd (a := 154) (s0 := (0, [(0, .ref 0), (1, .int x1)], [], am_SH, (f, g))) (q := (some (.int v), am_SH, (f1, g))) (s1 := (708, [(0, .ref am_SC), (1, .ref 0), (2, .ref 216), (3, .int (nI i))], [.int v], am_SH, (f1, g))) rfl rfl (x_coals_ok 56 x1 f g (v, f1) hx) ?_
  refine am_Ev.go hcd 1 (s' := (709, [(0, .ref am_SC), (1, .ref 0), (2, .ref 216), (3, .int (nI i))], [.ref 216, .int v], am_SH, (f1, g))) rfl ?_
  refine am_Ev.go hcd 4 (s' := (713, [(0, .ref am_SC), (1, .ref 0), (2, .ref 216), (3, .int (nI i))], [.int (nI i + 1), .ref am_SC, .ref 216, .int v], am_SH, (f1, g))) rfl ?_
  refine am_Ev.t hcd (o := none) (c := am_in (nI i + 1) sc.1 = true) (s1 := (714, [(0, .ref am_SC), (1, .ref 0), (2, .ref 216), (3, .int (nI i))], [.int x1, .ref 216, .int v], am_SH, (f1, g))) (by rw [e1]; exact lw_ial rfl) (lw_inx (k := 1) (by omega) hL) ?_
  refine am_Ev.call hcd (a := 283) (s0 := (0, [(0, .ref 216), (1, .int x1)], [], am_SH, (f1, g))) (q := (some (.int v), am_SH, (f1, g1))) (s1 := (715, [(0, .ref am_SC), (1, .ref 0), (2, .ref 216), (3, .int (nI i))], [.int v, .int v], am_SH, (f1, g1))) rfl rfl (m_coals_ok 58 x1 g f1 (v, g1) hm) ?_
  refine am_Ev.t hcd (c := v = v) (s1 := (1051, [(0, .ref am_SC), (1, .ref 0), (2, .ref 216), (3, .int (nI i))], [], am_SH, (f1, g1))) rfl rfl ?_
  refine am_Ev.go hcd 2 (s' := (10, [(0, .ref am_SC), (1, .ref 0), (2, .ref 216), (3, .int (nI i + 6))], [], am_SH, (f1, g1))) rfl ?_
  rw [show nI i + 6 = nI (i + 6) from nI_add i 6]
  exact kk
set_option maxRecDepth 100000 in
set_option maxHeartbeats 4000000 in
theorem am_case_28 {sc : Nat × (Nat → Int32)} {f g f1 g1 : (Nat → Nat → Int32)} {i : Nat} {v : Int32} {r : am_R} (hi : i + 6 ≤ sc.1) (hL : sc.1 ≤ 3072) (hx : x_shown (sc.2 (nI i + 1).toNatClampNeg) f = some (v, f1)) (hm : m_shown (sc.2 (nI i + 1).toNatClampNeg) g = some (v, g1)) (kk : am_Ev sc 60 313 (10, [(0, .ref am_SC), (1, .ref 0), (2, .ref 216), (3, .int (nI (i + 6)))], [], am_SH, (f1, g1)) r) : am_Ev sc 60 313 (718, [(0, .ref am_SC), (1, .ref 0), (2, .ref 216), (3, .int (nI i))], [], am_SH, (f, g)) r := by
  have hcd : am_code 313 = am_c313 := rfl
  obtain ⟨x1, e1⟩ : ∃ x, x = sc.2 (nI i + 1).toNatClampNeg := ⟨_, rfl⟩
  rw [← e1] at hx hm
  refine am_Ev.go hcd 1 (s' := (719, [(0, .ref am_SC), (1, .ref 0), (2, .ref 216), (3, .int (nI i))], [.ref 0], am_SH, (f, g))) rfl ?_
  refine am_Ev.go hcd 4 (s' := (723, [(0, .ref am_SC), (1, .ref 0), (2, .ref 216), (3, .int (nI i))], [.int (nI i + 1), .ref am_SC, .ref 0], am_SH, (f, g))) rfl ?_
  refine am_Ev.t hcd (o := none) (c := am_in (nI i + 1) sc.1 = true) (s1 := (724, [(0, .ref am_SC), (1, .ref 0), (2, .ref 216), (3, .int (nI i))], [.int x1, .ref 0], am_SH, (f, g))) (by rw [e1]; exact lw_ial rfl) (lw_inx (k := 1) (by omega) hL) ?_
  refine am_Ev.call hcd (a := 155) (s0 := (0, [(0, .ref 0), (1, .int x1)], [], am_SH, (f, g))) (q := (some (.int v), am_SH, (f1, g))) (s1 := (725, [(0, .ref am_SC), (1, .ref 0), (2, .ref 216), (3, .int (nI i))], [.int v], am_SH, (f1, g))) rfl rfl (x_shown_ok 58 x1 f g (v, f1) hx) ?_
  refine am_Ev.go hcd 1 (s' := (726, [(0, .ref am_SC), (1, .ref 0), (2, .ref 216), (3, .int (nI i))], [.ref 216, .int v], am_SH, (f1, g))) rfl ?_
  refine am_Ev.go hcd 4 (s' := (730, [(0, .ref am_SC), (1, .ref 0), (2, .ref 216), (3, .int (nI i))], [.int (nI i + 1), .ref am_SC, .ref 216, .int v], am_SH, (f1, g))) rfl ?_
  refine am_Ev.t hcd (o := none) (c := am_in (nI i + 1) sc.1 = true) (s1 := (731, [(0, .ref am_SC), (1, .ref 0), (2, .ref 216), (3, .int (nI i))], [.int x1, .ref 216, .int v], am_SH, (f1, g))) (by rw [e1]; exact lw_ial rfl) (lw_inx (k := 1) (by omega) hL) ?_
  refine am_Ev.call hcd (a := 284) (s0 := (0, [(0, .ref 216), (1, .int x1)], [], am_SH, (f1, g))) (q := (some (.int v), am_SH, (f1, g1))) (s1 := (732, [(0, .ref am_SC), (1, .ref 0), (2, .ref 216), (3, .int (nI i))], [.int v, .int v], am_SH, (f1, g1))) rfl rfl (m_shown_ok 58 x1 g f1 (v, g1) hm) ?_
  refine am_Ev.t hcd (c := v = v) (s1 := (1051, [(0, .ref am_SC), (1, .ref 0), (2, .ref 216), (3, .int (nI i))], [], am_SH, (f1, g1))) rfl rfl ?_
  refine am_Ev.go hcd 2 (s' := (10, [(0, .ref am_SC), (1, .ref 0), (2, .ref 216), (3, .int (nI i + 6))], [], am_SH, (f1, g1))) rfl ?_
  rw [show nI i + 6 = nI (i + 6) from nI_add i 6]
  exact kk
set_option maxRecDepth 100000 in
set_option maxHeartbeats 4000000 in
theorem am_case_29 {sc : Nat × (Nat → Int32)} {f g f1 g1 : (Nat → Nat → Int32)} {i : Nat} {v : Int32} {r : am_R} (hi : i + 6 ≤ sc.1) (hL : sc.1 ≤ 3072) (hx : x_show (sc.2 (nI i + 1).toNatClampNeg) (sc.2 (nI i + 2).toNatClampNeg) f = some (v, f1)) (hm : m_show (sc.2 (nI i + 1).toNatClampNeg) (sc.2 (nI i + 2).toNatClampNeg) g = some v) (kk : am_Ev sc 60 313 (10, [(0, .ref am_SC), (1, .ref 0), (2, .ref 216), (3, .int (nI (i + 6)))], [], am_SH, (f1, g)) r) : am_Ev sc 60 313 (735, [(0, .ref am_SC), (1, .ref 0), (2, .ref 216), (3, .int (nI i))], [], am_SH, (f, g)) r := by
  have hcd : am_code 313 = am_c313 := rfl
  obtain ⟨x1, e1⟩ : ∃ x, x = sc.2 (nI i + 1).toNatClampNeg := ⟨_, rfl⟩
  rw [← e1] at hx hm
  obtain ⟨x2, e2⟩ : ∃ x, x = sc.2 (nI i + 2).toNatClampNeg := ⟨_, rfl⟩
  rw [← e2] at hx hm
  refine am_Ev.go hcd 1 (s' := (736, [(0, .ref am_SC), (1, .ref 0), (2, .ref 216), (3, .int (nI i))], [.ref 0], am_SH, (f, g))) rfl ?_
  refine am_Ev.go hcd 4 (s' := (740, [(0, .ref am_SC), (1, .ref 0), (2, .ref 216), (3, .int (nI i))], [.int (nI i + 1), .ref am_SC, .ref 0], am_SH, (f, g))) rfl ?_
  refine am_Ev.t hcd (o := none) (c := am_in (nI i + 1) sc.1 = true) (s1 := (741, [(0, .ref am_SC), (1, .ref 0), (2, .ref 216), (3, .int (nI i))], [.int x1, .ref 0], am_SH, (f, g))) (by rw [e1]; exact lw_ial rfl) (lw_inx (k := 1) (by omega) hL) ?_
  refine am_Ev.go hcd 4 (s' := (745, [(0, .ref am_SC), (1, .ref 0), (2, .ref 216), (3, .int (nI i))], [.int (nI i + 2), .ref am_SC, .int x1, .ref 0], am_SH, (f, g))) rfl ?_
  refine am_Ev.t hcd (o := none) (c := am_in (nI i + 2) sc.1 = true) (s1 := (746, [(0, .ref am_SC), (1, .ref 0), (2, .ref 216), (3, .int (nI i))], [.int x2, .int x1, .ref 0], am_SH, (f, g))) (by rw [e2]; exact lw_ial rfl) (lw_inx (k := 2) (by omega) hL) ?_
  refine am_Ev.call hcd (a := 156) (s0 := (0, [(0, .ref 0), (1, .int x1), (2, .int x2)], [], am_SH, (f, g))) (q := (some (.int v), am_SH, (f1, g))) (s1 := (747, [(0, .ref am_SC), (1, .ref 0), (2, .ref 216), (3, .int (nI i))], [.int v], am_SH, (f1, g))) rfl rfl (x_show_ok 57 x1 x2 f g (v, f1) hx) ?_
  refine am_Ev.go hcd 1 (s' := (748, [(0, .ref am_SC), (1, .ref 0), (2, .ref 216), (3, .int (nI i))], [.ref 216, .int v], am_SH, (f1, g))) rfl ?_
  refine am_Ev.go hcd 4 (s' := (752, [(0, .ref am_SC), (1, .ref 0), (2, .ref 216), (3, .int (nI i))], [.int (nI i + 1), .ref am_SC, .ref 216, .int v], am_SH, (f1, g))) rfl ?_
  refine am_Ev.t hcd (o := none) (c := am_in (nI i + 1) sc.1 = true) (s1 := (753, [(0, .ref am_SC), (1, .ref 0), (2, .ref 216), (3, .int (nI i))], [.int x1, .ref 216, .int v], am_SH, (f1, g))) (by rw [e1]; exact lw_ial rfl) (lw_inx (k := 1) (by omega) hL) ?_
  refine am_Ev.go hcd 4 (s' := (757, [(0, .ref am_SC), (1, .ref 0), (2, .ref 216), (3, .int (nI i))], [.int (nI i + 2), .ref am_SC, .int x1, .ref 216, .int v], am_SH, (f1, g))) rfl ?_
  refine am_Ev.t hcd (o := none) (c := am_in (nI i + 2) sc.1 = true) (s1 := (758, [(0, .ref am_SC), (1, .ref 0), (2, .ref 216), (3, .int (nI i))], [.int x2, .int x1, .ref 216, .int v], am_SH, (f1, g))) (by rw [e2]; exact lw_ial rfl) (lw_inx (k := 2) (by omega) hL) ?_
  refine am_Ev.call hcd (a := 288) (s0 := (0, [(0, .ref 216), (1, .int x1), (2, .int x2)], [], am_SH, (f1, g))) (q := (some (.int v), am_SH, (f1, g))) (s1 := (759, [(0, .ref am_SC), (1, .ref 0), (2, .ref 216), (3, .int (nI i))], [.int v, .int v], am_SH, (f1, g))) rfl rfl (m_show_ok 57 x1 x2 g f1 v hm) ?_
  refine am_Ev.t hcd (c := v = v) (s1 := (1051, [(0, .ref am_SC), (1, .ref 0), (2, .ref 216), (3, .int (nI i))], [], am_SH, (f1, g))) rfl rfl ?_
  refine am_Ev.go hcd 2 (s' := (10, [(0, .ref am_SC), (1, .ref 0), (2, .ref 216), (3, .int (nI i + 6))], [], am_SH, (f1, g))) rfl ?_
  rw [show nI i + 6 = nI (i + 6) from nI_add i 6]
  exact kk
set_option maxRecDepth 100000 in
set_option maxHeartbeats 4000000 in
theorem am_case_30 {sc : Nat × (Nat → Int32)} {f g f1 g1 : (Nat → Nat → Int32)} {i : Nat} {v : Bool} {r : am_R} (hi : i + 6 ≤ sc.1) (hL : sc.1 ≤ 3072) (hx : x_cost (sc.2 (nI i + 1).toNatClampNeg) (sc.2 (nI i + 2).toNatClampNeg) f = some (v, f1)) (hm : m_cost (sc.2 (nI i + 1).toNatClampNeg) (sc.2 (nI i + 2).toNatClampNeg) g = some (v, g1)) (kk : am_Ev sc 60 313 (10, [(0, .ref am_SC), (1, .ref 0), (2, .ref 216), (3, .int (nI (i + 6)))], [], am_SH, (f1, g1)) r) : am_Ev sc 60 313 (762, [(0, .ref am_SC), (1, .ref 0), (2, .ref 216), (3, .int (nI i))], [], am_SH, (f, g)) r := by
  have hcd : am_code 313 = am_c313 := rfl
  obtain ⟨x1, e1⟩ : ∃ x, x = sc.2 (nI i + 1).toNatClampNeg := ⟨_, rfl⟩
  rw [← e1] at hx hm
  obtain ⟨x2, e2⟩ : ∃ x, x = sc.2 (nI i + 2).toNatClampNeg := ⟨_, rfl⟩
  rw [← e2] at hx hm
  refine am_Ev.go hcd 1 (s' := (763, [(0, .ref am_SC), (1, .ref 0), (2, .ref 216), (3, .int (nI i))], [.ref 0], am_SH, (f, g))) rfl ?_
  refine am_Ev.go hcd 4 (s' := (767, [(0, .ref am_SC), (1, .ref 0), (2, .ref 216), (3, .int (nI i))], [.int (nI i + 1), .ref am_SC, .ref 0], am_SH, (f, g))) rfl ?_
  refine am_Ev.t hcd (o := none) (c := am_in (nI i + 1) sc.1 = true) (s1 := (768, [(0, .ref am_SC), (1, .ref 0), (2, .ref 216), (3, .int (nI i))], [.int x1, .ref 0], am_SH, (f, g))) (by rw [e1]; exact lw_ial rfl) (lw_inx (k := 1) (by omega) hL) ?_
  refine am_Ev.go hcd 4 (s' := (772, [(0, .ref am_SC), (1, .ref 0), (2, .ref 216), (3, .int (nI i))], [.int (nI i + 2), .ref am_SC, .int x1, .ref 0], am_SH, (f, g))) rfl ?_
  refine am_Ev.t hcd (o := none) (c := am_in (nI i + 2) sc.1 = true) (s1 := (773, [(0, .ref am_SC), (1, .ref 0), (2, .ref 216), (3, .int (nI i))], [.int x2, .int x1, .ref 0], am_SH, (f, g))) (by rw [e2]; exact lw_ial rfl) (lw_inx (k := 2) (by omega) hL) ?_
  refine am_Ev.call hcd (a := 157) (s0 := (0, [(0, .ref 0), (1, .int x1), (2, .int x2)], [], am_SH, (f, g))) (q := (some (.int (am_b v)), am_SH, (f1, g))) (s1 := (774, [(0, .ref am_SC), (1, .ref 0), (2, .ref 216), (3, .int (nI i))], [.int (am_b v)], am_SH, (f1, g))) rfl rfl (x_cost_ok 58 x1 x2 f g (v, f1) hx) ?_
  refine am_Ev.go hcd 1 (s' := (775, [(0, .ref am_SC), (1, .ref 0), (2, .ref 216), (3, .int (nI i))], [.ref 216, .int (am_b v)], am_SH, (f1, g))) rfl ?_
  refine am_Ev.go hcd 4 (s' := (779, [(0, .ref am_SC), (1, .ref 0), (2, .ref 216), (3, .int (nI i))], [.int (nI i + 1), .ref am_SC, .ref 216, .int (am_b v)], am_SH, (f1, g))) rfl ?_
  refine am_Ev.t hcd (o := none) (c := am_in (nI i + 1) sc.1 = true) (s1 := (780, [(0, .ref am_SC), (1, .ref 0), (2, .ref 216), (3, .int (nI i))], [.int x1, .ref 216, .int (am_b v)], am_SH, (f1, g))) (by rw [e1]; exact lw_ial rfl) (lw_inx (k := 1) (by omega) hL) ?_
  refine am_Ev.go hcd 4 (s' := (784, [(0, .ref am_SC), (1, .ref 0), (2, .ref 216), (3, .int (nI i))], [.int (nI i + 2), .ref am_SC, .int x1, .ref 216, .int (am_b v)], am_SH, (f1, g))) rfl ?_
  refine am_Ev.t hcd (o := none) (c := am_in (nI i + 2) sc.1 = true) (s1 := (785, [(0, .ref am_SC), (1, .ref 0), (2, .ref 216), (3, .int (nI i))], [.int x2, .int x1, .ref 216, .int (am_b v)], am_SH, (f1, g))) (by rw [e2]; exact lw_ial rfl) (lw_inx (k := 2) (by omega) hL) ?_
  refine am_Ev.call hcd (a := 289) (s0 := (0, [(0, .ref 216), (1, .int x1), (2, .int x2)], [], am_SH, (f1, g))) (q := (some (.int (am_b v)), am_SH, (f1, g1))) (s1 := (786, [(0, .ref am_SC), (1, .ref 0), (2, .ref 216), (3, .int (nI i))], [.int (am_b v), .int (am_b v)], am_SH, (f1, g1))) rfl rfl (m_cost_ok 58 x1 x2 g f1 (v, g1) hm) ?_
  refine am_Ev.t hcd (c := am_b v = am_b v) (s1 := (1051, [(0, .ref am_SC), (1, .ref 0), (2, .ref 216), (3, .int (nI i))], [], am_SH, (f1, g1))) rfl rfl ?_
  refine am_Ev.go hcd 2 (s' := (10, [(0, .ref am_SC), (1, .ref 0), (2, .ref 216), (3, .int (nI i + 6))], [], am_SH, (f1, g1))) rfl ?_
  rw [show nI i + 6 = nI (i + 6) from nI_add i 6]
  exact kk
set_option maxRecDepth 100000 in
set_option maxHeartbeats 4000000 in
theorem am_case_31 {sc : Nat × (Nat → Int32)} {f g f1 g1 : (Nat → Nat → Int32)} {i : Nat} {v : Int32} {r : am_R} (hi : i + 6 ≤ sc.1) (hL : sc.1 ≤ 3072) (hx : x_change (sc.2 (nI i + 1).toNatClampNeg) (sc.2 (nI i + 2).toNatClampNeg) (sc.2 (nI i + 3).toNatClampNeg) f = some (v, f1)) (hm : m_change (sc.2 (nI i + 1).toNatClampNeg) (sc.2 (nI i + 2).toNatClampNeg) (sc.2 (nI i + 3).toNatClampNeg) g = some (v, g1)) (kk : am_Ev sc 60 313 (10, [(0, .ref am_SC), (1, .ref 0), (2, .ref 216), (3, .int (nI (i + 6)))], [], am_SH, (f1, g1)) r) : am_Ev sc 60 313 (789, [(0, .ref am_SC), (1, .ref 0), (2, .ref 216), (3, .int (nI i))], [], am_SH, (f, g)) r := by
  have hcd : am_code 313 = am_c313 := rfl
  obtain ⟨x1, e1⟩ : ∃ x, x = sc.2 (nI i + 1).toNatClampNeg := ⟨_, rfl⟩
  rw [← e1] at hx hm
  obtain ⟨x2, e2⟩ : ∃ x, x = sc.2 (nI i + 2).toNatClampNeg := ⟨_, rfl⟩
  rw [← e2] at hx hm
  obtain ⟨x3, e3⟩ : ∃ x, x = sc.2 (nI i + 3).toNatClampNeg := ⟨_, rfl⟩
  rw [← e3] at hx hm
  refine am_Ev.go hcd 1 (s' := (790, [(0, .ref am_SC), (1, .ref 0), (2, .ref 216), (3, .int (nI i))], [.ref 0], am_SH, (f, g))) rfl ?_
  refine am_Ev.go hcd 4 (s' := (794, [(0, .ref am_SC), (1, .ref 0), (2, .ref 216), (3, .int (nI i))], [.int (nI i + 1), .ref am_SC, .ref 0], am_SH, (f, g))) rfl ?_
  refine am_Ev.t hcd (o := none) (c := am_in (nI i + 1) sc.1 = true) (s1 := (795, [(0, .ref am_SC), (1, .ref 0), (2, .ref 216), (3, .int (nI i))], [.int x1, .ref 0], am_SH, (f, g))) (by rw [e1]; exact lw_ial rfl) (lw_inx (k := 1) (by omega) hL) ?_
  refine am_Ev.go hcd 4 (s' := (799, [(0, .ref am_SC), (1, .ref 0), (2, .ref 216), (3, .int (nI i))], [.int (nI i + 2), .ref am_SC, .int x1, .ref 0], am_SH, (f, g))) rfl ?_
  refine am_Ev.t hcd (o := none) (c := am_in (nI i + 2) sc.1 = true) (s1 := (800, [(0, .ref am_SC), (1, .ref 0), (2, .ref 216), (3, .int (nI i))], [.int x2, .int x1, .ref 0], am_SH, (f, g))) (by rw [e2]; exact lw_ial rfl) (lw_inx (k := 2) (by omega) hL) ?_
  refine am_Ev.go hcd 4 (s' := (804, [(0, .ref am_SC), (1, .ref 0), (2, .ref 216), (3, .int (nI i))], [.int (nI i + 3), .ref am_SC, .int x2, .int x1, .ref 0], am_SH, (f, g))) rfl ?_
  refine am_Ev.t hcd (o := none) (c := am_in (nI i + 3) sc.1 = true) (s1 := (805, [(0, .ref am_SC), (1, .ref 0), (2, .ref 216), (3, .int (nI i))], [.int x3, .int x2, .int x1, .ref 0], am_SH, (f, g))) (by rw [e3]; exact lw_ial rfl) (lw_inx (k := 3) (by omega) hL) ?_
  refine am_Ev.call hcd (a := 158) (s0 := (0, [(0, .ref 0), (1, .int x1), (2, .int x2), (3, .int x3)], [], am_SH, (f, g))) (q := (some (.int v), am_SH, (f1, g))) (s1 := (806, [(0, .ref am_SC), (1, .ref 0), (2, .ref 216), (3, .int (nI i))], [.int v], am_SH, (f1, g))) rfl rfl (x_change_ok 58 x1 x2 x3 f g (v, f1) hx) ?_
  refine am_Ev.go hcd 1 (s' := (807, [(0, .ref am_SC), (1, .ref 0), (2, .ref 216), (3, .int (nI i))], [.ref 216, .int v], am_SH, (f1, g))) rfl ?_
  refine am_Ev.go hcd 4 (s' := (811, [(0, .ref am_SC), (1, .ref 0), (2, .ref 216), (3, .int (nI i))], [.int (nI i + 1), .ref am_SC, .ref 216, .int v], am_SH, (f1, g))) rfl ?_
  refine am_Ev.t hcd (o := none) (c := am_in (nI i + 1) sc.1 = true) (s1 := (812, [(0, .ref am_SC), (1, .ref 0), (2, .ref 216), (3, .int (nI i))], [.int x1, .ref 216, .int v], am_SH, (f1, g))) (by rw [e1]; exact lw_ial rfl) (lw_inx (k := 1) (by omega) hL) ?_
  refine am_Ev.go hcd 4 (s' := (816, [(0, .ref am_SC), (1, .ref 0), (2, .ref 216), (3, .int (nI i))], [.int (nI i + 2), .ref am_SC, .int x1, .ref 216, .int v], am_SH, (f1, g))) rfl ?_
  refine am_Ev.t hcd (o := none) (c := am_in (nI i + 2) sc.1 = true) (s1 := (817, [(0, .ref am_SC), (1, .ref 0), (2, .ref 216), (3, .int (nI i))], [.int x2, .int x1, .ref 216, .int v], am_SH, (f1, g))) (by rw [e2]; exact lw_ial rfl) (lw_inx (k := 2) (by omega) hL) ?_
  refine am_Ev.go hcd 4 (s' := (821, [(0, .ref am_SC), (1, .ref 0), (2, .ref 216), (3, .int (nI i))], [.int (nI i + 3), .ref am_SC, .int x2, .int x1, .ref 216, .int v], am_SH, (f1, g))) rfl ?_
  refine am_Ev.t hcd (o := none) (c := am_in (nI i + 3) sc.1 = true) (s1 := (822, [(0, .ref am_SC), (1, .ref 0), (2, .ref 216), (3, .int (nI i))], [.int x3, .int x2, .int x1, .ref 216, .int v], am_SH, (f1, g))) (by rw [e3]; exact lw_ial rfl) (lw_inx (k := 3) (by omega) hL) ?_
  refine am_Ev.call hcd (a := 291) (s0 := (0, [(0, .ref 216), (1, .int x1), (2, .int x2), (3, .int x3)], [], am_SH, (f1, g))) (q := (some (.int v), am_SH, (f1, g1))) (s1 := (823, [(0, .ref am_SC), (1, .ref 0), (2, .ref 216), (3, .int (nI i))], [.int v, .int v], am_SH, (f1, g1))) rfl rfl (m_change_ok 58 x1 x2 x3 g f1 (v, g1) hm) ?_
  refine am_Ev.t hcd (c := v = v) (s1 := (1051, [(0, .ref am_SC), (1, .ref 0), (2, .ref 216), (3, .int (nI i))], [], am_SH, (f1, g1))) rfl rfl ?_
  refine am_Ev.go hcd 2 (s' := (10, [(0, .ref am_SC), (1, .ref 0), (2, .ref 216), (3, .int (nI i + 6))], [], am_SH, (f1, g1))) rfl ?_
  rw [show nI i + 6 = nI (i + 6) from nI_add i 6]
  exact kk
