set_option maxRecDepth 100000 in
set_option maxHeartbeats 4000000 in
theorem am_case_0 {sc : Nat × (Nat → Int32)} {f g f1 g1 : (Nat → Nat → Int32)} {i : Nat} {v : Int32} {r : am_R} (hi : i + 6 ≤ sc.1) (hL : sc.1 ≤ 3072) (hx : x_state (sc.2 (nI i + 1).toNatClampNeg) f = (v, f1)) (hm : m_state (sc.2 (nI i + 1).toNatClampNeg) g = (v, g1)) (kk : am_Ev sc 60 313 (10, [(0, .ref am_SC), (1, .ref 0), (2, .ref 216), (3, .int (nI (i + 6)))], [], am_SH, (f1, g1)) r) : am_Ev sc 60 313 (22, [(0, .ref am_SC), (1, .ref 0), (2, .ref 216), (3, .int (nI i))], [], am_SH, (f, g)) r := by
  have hcd : am_code 313 = am_c313 := rfl
  obtain ⟨x1, e1⟩ : ∃ x, x = sc.2 (nI i + 1).toNatClampNeg := ⟨_, rfl⟩
  rw [← e1] at hx hm
  refine am_Ev.go hcd 1 (s' := (23, [(0, .ref am_SC), (1, .ref 0), (2, .ref 216), (3, .int (nI i))], [.ref 0], am_SH, (f, g))) rfl ?_
  refine am_Ev.go hcd 4 (s' := (27, [(0, .ref am_SC), (1, .ref 0), (2, .ref 216), (3, .int (nI i))], [.int (nI i + 1), .ref am_SC, .ref 0], am_SH, (f, g))) rfl ?_
  refine am_Ev.t hcd (o := none) (c := am_in (nI i + 1) sc.1 = true) (s1 := (28, [(0, .ref am_SC), (1, .ref 0), (2, .ref 216), (3, .int (nI i))], [.int x1, .ref 0], am_SH, (f, g))) (by rw [e1]; exact lw_ial rfl) (lw_inx (k := 1) (by omega) hL) ?_
  refine am_Ev.call hcd (a := 127) (s0 := (0, [(0, .ref 0), (1, .int x1)], [], am_SH, (f, g))) (q := (some (.int v), am_SH, (f1, g))) (s1 := (29, [(0, .ref am_SC), (1, .ref 0), (2, .ref 216), (3, .int (nI i))], [.int v], am_SH, (f1, g))) rfl rfl (by have key := x_state_ok (sc := sc) 58 x1 f g; rw [hx] at key; exact key) ?_
  refine am_Ev.go hcd 1 (s' := (30, [(0, .ref am_SC), (1, .ref 0), (2, .ref 216), (3, .int (nI i))], [.ref 216, .int v], am_SH, (f1, g))) rfl ?_
  refine am_Ev.go hcd 4 (s' := (34, [(0, .ref am_SC), (1, .ref 0), (2, .ref 216), (3, .int (nI i))], [.int (nI i + 1), .ref am_SC, .ref 216, .int v], am_SH, (f1, g))) rfl ?_
  refine am_Ev.t hcd (o := none) (c := am_in (nI i + 1) sc.1 = true) (s1 := (35, [(0, .ref am_SC), (1, .ref 0), (2, .ref 216), (3, .int (nI i))], [.int x1, .ref 216, .int v], am_SH, (f1, g))) (by rw [e1]; exact lw_ial rfl) (lw_inx (k := 1) (by omega) hL) ?_
  refine am_Ev.call hcd (a := 185) (s0 := (0, [(0, .ref 216), (1, .int x1)], [], am_SH, (f1, g))) (q := (some (.int v), am_SH, (f1, g1))) (s1 := (36, [(0, .ref am_SC), (1, .ref 0), (2, .ref 216), (3, .int (nI i))], [.int v, .int v], am_SH, (f1, g1))) rfl rfl (by have key := m_state_ok (sc := sc) 58 x1 g f1; rw [hm] at key; exact key) ?_
  refine am_Ev.t hcd (c := v = v) (s1 := (1051, [(0, .ref am_SC), (1, .ref 0), (2, .ref 216), (3, .int (nI i))], [], am_SH, (f1, g1))) rfl rfl ?_
  refine am_Ev.go hcd 2 (s' := (10, [(0, .ref am_SC), (1, .ref 0), (2, .ref 216), (3, .int (nI i + 6))], [], am_SH, (f1, g1))) rfl ?_
  rw [show nI i + 6 = nI (i + 6) from nI_add i 6]
  exact kk
set_option maxRecDepth 100000 in
set_option maxHeartbeats 4000000 in
theorem am_case_1 {sc : Nat × (Nat → Int32)} {f g f1 g1 : (Nat → Nat → Int32)} {i : Nat} {v : Int32} {r : am_R} (hi : i + 6 ≤ sc.1) (hL : sc.1 ≤ 3072) (hx : x_glass (sc.2 (nI i + 1).toNatClampNeg) f = some (v, f1)) (hm : m_glass (sc.2 (nI i + 1).toNatClampNeg) g = some (v, g1)) (kk : am_Ev sc 60 313 (10, [(0, .ref am_SC), (1, .ref 0), (2, .ref 216), (3, .int (nI (i + 6)))], [], am_SH, (f1, g1)) r) : am_Ev sc 60 313 (39, [(0, .ref am_SC), (1, .ref 0), (2, .ref 216), (3, .int (nI i))], [], am_SH, (f, g)) r := by
  have hcd : am_code 313 = am_c313 := rfl
  obtain ⟨x1, e1⟩ : ∃ x, x = sc.2 (nI i + 1).toNatClampNeg := ⟨_, rfl⟩
  rw [← e1] at hx hm
  refine am_Ev.go hcd 1 (s' := (40, [(0, .ref am_SC), (1, .ref 0), (2, .ref 216), (3, .int (nI i))], [.ref 0], am_SH, (f, g))) rfl ?_
  refine am_Ev.go hcd 4 (s' := (44, [(0, .ref am_SC), (1, .ref 0), (2, .ref 216), (3, .int (nI i))], [.int (nI i + 1), .ref am_SC, .ref 0], am_SH, (f, g))) rfl ?_
  refine am_Ev.t hcd (o := none) (c := am_in (nI i + 1) sc.1 = true) (s1 := (45, [(0, .ref am_SC), (1, .ref 0), (2, .ref 216), (3, .int (nI i))], [.int x1, .ref 0], am_SH, (f, g))) (by rw [e1]; exact lw_ial rfl) (lw_inx (k := 1) (by omega) hL) ?_
  refine am_Ev.call hcd (a := 128) (s0 := (0, [(0, .ref 0), (1, .int x1)], [], am_SH, (f, g))) (q := (some (.int v), am_SH, (f1, g))) (s1 := (46, [(0, .ref am_SC), (1, .ref 0), (2, .ref 216), (3, .int (nI i))], [.int v], am_SH, (f1, g))) rfl rfl (x_glass_ok 58 x1 f g (v, f1) hx) ?_
  refine am_Ev.go hcd 1 (s' := (47, [(0, .ref am_SC), (1, .ref 0), (2, .ref 216), (3, .int (nI i))], [.ref 216, .int v], am_SH, (f1, g))) rfl ?_
  refine am_Ev.go hcd 4 (s' := (51, [(0, .ref am_SC), (1, .ref 0), (2, .ref 216), (3, .int (nI i))], [.int (nI i + 1), .ref am_SC, .ref 216, .int v], am_SH, (f1, g))) rfl ?_
  refine am_Ev.t hcd (o := none) (c := am_in (nI i + 1) sc.1 = true) (s1 := (52, [(0, .ref am_SC), (1, .ref 0), (2, .ref 216), (3, .int (nI i))], [.int x1, .ref 216, .int v], am_SH, (f1, g))) (by rw [e1]; exact lw_ial rfl) (lw_inx (k := 1) (by omega) hL) ?_
  refine am_Ev.call hcd (a := 187) (s0 := (0, [(0, .ref 216), (1, .int x1)], [], am_SH, (f1, g))) (q := (some (.int v), am_SH, (f1, g1))) (s1 := (53, [(0, .ref am_SC), (1, .ref 0), (2, .ref 216), (3, .int (nI i))], [.int v, .int v], am_SH, (f1, g1))) rfl rfl (m_glass_ok 58 x1 g f1 (v, g1) hm) ?_
  refine am_Ev.t hcd (c := v = v) (s1 := (1051, [(0, .ref am_SC), (1, .ref 0), (2, .ref 216), (3, .int (nI i))], [], am_SH, (f1, g1))) rfl rfl ?_
  refine am_Ev.go hcd 2 (s' := (10, [(0, .ref am_SC), (1, .ref 0), (2, .ref 216), (3, .int (nI i + 6))], [], am_SH, (f1, g1))) rfl ?_
  rw [show nI i + 6 = nI (i + 6) from nI_add i 6]
  exact kk
set_option maxRecDepth 100000 in
set_option maxHeartbeats 4000000 in
theorem am_case_2 {sc : Nat × (Nat → Int32)} {f g f1 g1 : (Nat → Nat → Int32)} {i : Nat} {v : Int32} {r : am_R} (hi : i + 6 ≤ sc.1) (hL : sc.1 ≤ 3072) (hx : x_witness (sc.2 (nI i + 1).toNatClampNeg) f = some (v, f1)) (hm : m_witness (sc.2 (nI i + 1).toNatClampNeg) g = some (v, g1)) (kk : am_Ev sc 60 313 (10, [(0, .ref am_SC), (1, .ref 0), (2, .ref 216), (3, .int (nI (i + 6)))], [], am_SH, (f1, g1)) r) : am_Ev sc 60 313 (56, [(0, .ref am_SC), (1, .ref 0), (2, .ref 216), (3, .int (nI i))], [], am_SH, (f, g)) r := by
  have hcd : am_code 313 = am_c313 := rfl
  obtain ⟨x1, e1⟩ : ∃ x, x = sc.2 (nI i + 1).toNatClampNeg := ⟨_, rfl⟩
  rw [← e1] at hx hm
  refine am_Ev.go hcd 1 (s' := (57, [(0, .ref am_SC), (1, .ref 0), (2, .ref 216), (3, .int (nI i))], [.ref 0], am_SH, (f, g))) rfl ?_
  refine am_Ev.go hcd 4 (s' := (61, [(0, .ref am_SC), (1, .ref 0), (2, .ref 216), (3, .int (nI i))], [.int (nI i + 1), .ref am_SC, .ref 0], am_SH, (f, g))) rfl ?_
  refine am_Ev.t hcd (o := none) (c := am_in (nI i + 1) sc.1 = true) (s1 := (62, [(0, .ref am_SC), (1, .ref 0), (2, .ref 216), (3, .int (nI i))], [.int x1, .ref 0], am_SH, (f, g))) (by rw [e1]; exact lw_ial rfl) (lw_inx (k := 1) (by omega) hL) ?_
  refine am_Ev.call hcd (a := 129) (s0 := (0, [(0, .ref 0), (1, .int x1)], [], am_SH, (f, g))) (q := (some (.int v), am_SH, (f1, g))) (s1 := (63, [(0, .ref am_SC), (1, .ref 0), (2, .ref 216), (3, .int (nI i))], [.int v], am_SH, (f1, g))) rfl rfl (x_witness_ok 58 x1 f g (v, f1) hx) ?_
  refine am_Ev.go hcd 1 (s' := (64, [(0, .ref am_SC), (1, .ref 0), (2, .ref 216), (3, .int (nI i))], [.ref 216, .int v], am_SH, (f1, g))) rfl ?_
  refine am_Ev.go hcd 4 (s' := (68, [(0, .ref am_SC), (1, .ref 0), (2, .ref 216), (3, .int (nI i))], [.int (nI i + 1), .ref am_SC, .ref 216, .int v], am_SH, (f1, g))) rfl ?_
  refine am_Ev.t hcd (o := none) (c := am_in (nI i + 1) sc.1 = true) (s1 := (69, [(0, .ref am_SC), (1, .ref 0), (2, .ref 216), (3, .int (nI i))], [.int x1, .ref 216, .int v], am_SH, (f1, g))) (by rw [e1]; exact lw_ial rfl) (lw_inx (k := 1) (by omega) hL) ?_
  refine am_Ev.call hcd (a := 188) (s0 := (0, [(0, .ref 216), (1, .int x1)], [], am_SH, (f1, g))) (q := (some (.int v), am_SH, (f1, g1))) (s1 := (70, [(0, .ref am_SC), (1, .ref 0), (2, .ref 216), (3, .int (nI i))], [.int v, .int v], am_SH, (f1, g1))) rfl rfl (m_witness_ok 58 x1 g f1 (v, g1) hm) ?_
  refine am_Ev.t hcd (c := v = v) (s1 := (1051, [(0, .ref am_SC), (1, .ref 0), (2, .ref 216), (3, .int (nI i))], [], am_SH, (f1, g1))) rfl rfl ?_
  refine am_Ev.go hcd 2 (s' := (10, [(0, .ref am_SC), (1, .ref 0), (2, .ref 216), (3, .int (nI i + 6))], [], am_SH, (f1, g1))) rfl ?_
  rw [show nI i + 6 = nI (i + 6) from nI_add i 6]
  exact kk
set_option maxRecDepth 100000 in
set_option maxHeartbeats 4000000 in
theorem am_case_3 {sc : Nat × (Nat → Int32)} {f g f1 g1 : (Nat → Nat → Int32)} {i : Nat} {v : Bool} {r : am_R} (hi : i + 6 ≤ sc.1) (hL : sc.1 ≤ 3072) (hx : x_set (sc.2 (nI i + 1).toNatClampNeg) (sc.2 (nI i + 2).toNatClampNeg) (sc.2 (nI i + 3).toNatClampNeg) f = some (v, f1)) (hm : m_set (sc.2 (nI i + 1).toNatClampNeg) (sc.2 (nI i + 2).toNatClampNeg) (sc.2 (nI i + 3).toNatClampNeg) g = some (v, g1)) (kk : am_Ev sc 60 313 (10, [(0, .ref am_SC), (1, .ref 0), (2, .ref 216), (3, .int (nI (i + 6)))], [], am_SH, (f1, g1)) r) : am_Ev sc 60 313 (73, [(0, .ref am_SC), (1, .ref 0), (2, .ref 216), (3, .int (nI i))], [], am_SH, (f, g)) r := by
  have hcd : am_code 313 = am_c313 := rfl
  obtain ⟨x1, e1⟩ : ∃ x, x = sc.2 (nI i + 1).toNatClampNeg := ⟨_, rfl⟩
  rw [← e1] at hx hm
  obtain ⟨x2, e2⟩ : ∃ x, x = sc.2 (nI i + 2).toNatClampNeg := ⟨_, rfl⟩
  rw [← e2] at hx hm
  obtain ⟨x3, e3⟩ : ∃ x, x = sc.2 (nI i + 3).toNatClampNeg := ⟨_, rfl⟩
  rw [← e3] at hx hm
  refine am_Ev.go hcd 1 (s' := (74, [(0, .ref am_SC), (1, .ref 0), (2, .ref 216), (3, .int (nI i))], [.ref 0], am_SH, (f, g))) rfl ?_
  refine am_Ev.go hcd 4 (s' := (78, [(0, .ref am_SC), (1, .ref 0), (2, .ref 216), (3, .int (nI i))], [.int (nI i + 1), .ref am_SC, .ref 0], am_SH, (f, g))) rfl ?_
  refine am_Ev.t hcd (o := none) (c := am_in (nI i + 1) sc.1 = true) (s1 := (79, [(0, .ref am_SC), (1, .ref 0), (2, .ref 216), (3, .int (nI i))], [.int x1, .ref 0], am_SH, (f, g))) (by rw [e1]; exact lw_ial rfl) (lw_inx (k := 1) (by omega) hL) ?_
  refine am_Ev.go hcd 4 (s' := (83, [(0, .ref am_SC), (1, .ref 0), (2, .ref 216), (3, .int (nI i))], [.int (nI i + 2), .ref am_SC, .int x1, .ref 0], am_SH, (f, g))) rfl ?_
  refine am_Ev.t hcd (o := none) (c := am_in (nI i + 2) sc.1 = true) (s1 := (84, [(0, .ref am_SC), (1, .ref 0), (2, .ref 216), (3, .int (nI i))], [.int x2, .int x1, .ref 0], am_SH, (f, g))) (by rw [e2]; exact lw_ial rfl) (lw_inx (k := 2) (by omega) hL) ?_
  refine am_Ev.go hcd 4 (s' := (88, [(0, .ref am_SC), (1, .ref 0), (2, .ref 216), (3, .int (nI i))], [.int (nI i + 3), .ref am_SC, .int x2, .int x1, .ref 0], am_SH, (f, g))) rfl ?_
  refine am_Ev.t hcd (o := none) (c := am_in (nI i + 3) sc.1 = true) (s1 := (89, [(0, .ref am_SC), (1, .ref 0), (2, .ref 216), (3, .int (nI i))], [.int x3, .int x2, .int x1, .ref 0], am_SH, (f, g))) (by rw [e3]; exact lw_ial rfl) (lw_inx (k := 3) (by omega) hL) ?_
  refine am_Ev.call hcd (a := 130) (s0 := (0, [(0, .ref 0), (1, .int x1), (2, .int x2), (3, .int x3)], [], am_SH, (f, g))) (q := (some (.int (am_b v)), am_SH, (f1, g))) (s1 := (90, [(0, .ref am_SC), (1, .ref 0), (2, .ref 216), (3, .int (nI i))], [.int (am_b v)], am_SH, (f1, g))) rfl rfl (x_set_ok 58 x1 x2 x3 f g (v, f1) hx) ?_
  refine am_Ev.go hcd 1 (s' := (91, [(0, .ref am_SC), (1, .ref 0), (2, .ref 216), (3, .int (nI i))], [.ref 216, .int (am_b v)], am_SH, (f1, g))) rfl ?_
  refine am_Ev.go hcd 4 (s' := (95, [(0, .ref am_SC), (1, .ref 0), (2, .ref 216), (3, .int (nI i))], [.int (nI i + 1), .ref am_SC, .ref 216, .int (am_b v)], am_SH, (f1, g))) rfl ?_
  refine am_Ev.t hcd (o := none) (c := am_in (nI i + 1) sc.1 = true) (s1 := (96, [(0, .ref am_SC), (1, .ref 0), (2, .ref 216), (3, .int (nI i))], [.int x1, .ref 216, .int (am_b v)], am_SH, (f1, g))) (by rw [e1]; exact lw_ial rfl) (lw_inx (k := 1) (by omega) hL) ?_
  refine am_Ev.go hcd 4 (s' := (100, [(0, .ref am_SC), (1, .ref 0), (2, .ref 216), (3, .int (nI i))], [.int (nI i + 2), .ref am_SC, .int x1, .ref 216, .int (am_b v)], am_SH, (f1, g))) rfl ?_
  refine am_Ev.t hcd (o := none) (c := am_in (nI i + 2) sc.1 = true) (s1 := (101, [(0, .ref am_SC), (1, .ref 0), (2, .ref 216), (3, .int (nI i))], [.int x2, .int x1, .ref 216, .int (am_b v)], am_SH, (f1, g))) (by rw [e2]; exact lw_ial rfl) (lw_inx (k := 2) (by omega) hL) ?_
  refine am_Ev.go hcd 4 (s' := (105, [(0, .ref am_SC), (1, .ref 0), (2, .ref 216), (3, .int (nI i))], [.int (nI i + 3), .ref am_SC, .int x2, .int x1, .ref 216, .int (am_b v)], am_SH, (f1, g))) rfl ?_
  refine am_Ev.t hcd (o := none) (c := am_in (nI i + 3) sc.1 = true) (s1 := (106, [(0, .ref am_SC), (1, .ref 0), (2, .ref 216), (3, .int (nI i))], [.int x3, .int x2, .int x1, .ref 216, .int (am_b v)], am_SH, (f1, g))) (by rw [e3]; exact lw_ial rfl) (lw_inx (k := 3) (by omega) hL) ?_
  refine am_Ev.call hcd (a := 189) (s0 := (0, [(0, .ref 216), (1, .int x1), (2, .int x2), (3, .int x3)], [], am_SH, (f1, g))) (q := (some (.int (am_b v)), am_SH, (f1, g1))) (s1 := (107, [(0, .ref am_SC), (1, .ref 0), (2, .ref 216), (3, .int (nI i))], [.int (am_b v), .int (am_b v)], am_SH, (f1, g1))) rfl rfl (m_set_ok 57 x1 x2 x3 g f1 (v, g1) hm) ?_
  refine am_Ev.t hcd (c := am_b v = am_b v) (s1 := (1051, [(0, .ref am_SC), (1, .ref 0), (2, .ref 216), (3, .int (nI i))], [], am_SH, (f1, g1))) rfl rfl ?_
  refine am_Ev.go hcd 2 (s' := (10, [(0, .ref am_SC), (1, .ref 0), (2, .ref 216), (3, .int (nI i + 6))], [], am_SH, (f1, g1))) rfl ?_
  rw [show nI i + 6 = nI (i + 6) from nI_add i 6]
  exact kk
set_option maxRecDepth 100000 in
set_option maxHeartbeats 4000000 in
theorem am_case_4 {sc : Nat × (Nat → Int32)} {f g f1 g1 : (Nat → Nat → Int32)} {i : Nat} {v : Bool} {r : am_R} (hi : i + 6 ≤ sc.1) (hL : sc.1 ≤ 3072) (hx : x_act (sc.2 (nI i + 1).toNatClampNeg) (sc.2 (nI i + 2).toNatClampNeg) (sc.2 (nI i + 3).toNatClampNeg) f = some (v, f1)) (hm : m_act (sc.2 (nI i + 1).toNatClampNeg) (sc.2 (nI i + 2).toNatClampNeg) (sc.2 (nI i + 3).toNatClampNeg) g = some (v, g1)) (kk : am_Ev sc 60 313 (10, [(0, .ref am_SC), (1, .ref 0), (2, .ref 216), (3, .int (nI (i + 6)))], [], am_SH, (f1, g1)) r) : am_Ev sc 60 313 (110, [(0, .ref am_SC), (1, .ref 0), (2, .ref 216), (3, .int (nI i))], [], am_SH, (f, g)) r := by
  have hcd : am_code 313 = am_c313 := rfl
  obtain ⟨x1, e1⟩ : ∃ x, x = sc.2 (nI i + 1).toNatClampNeg := ⟨_, rfl⟩
  rw [← e1] at hx hm
  obtain ⟨x2, e2⟩ : ∃ x, x = sc.2 (nI i + 2).toNatClampNeg := ⟨_, rfl⟩
  rw [← e2] at hx hm
  obtain ⟨x3, e3⟩ : ∃ x, x = sc.2 (nI i + 3).toNatClampNeg := ⟨_, rfl⟩
  rw [← e3] at hx hm
  refine am_Ev.go hcd 1 (s' := (111, [(0, .ref am_SC), (1, .ref 0), (2, .ref 216), (3, .int (nI i))], [.ref 0], am_SH, (f, g))) rfl ?_
  refine am_Ev.go hcd 4 (s' := (115, [(0, .ref am_SC), (1, .ref 0), (2, .ref 216), (3, .int (nI i))], [.int (nI i + 1), .ref am_SC, .ref 0], am_SH, (f, g))) rfl ?_
  refine am_Ev.t hcd (o := none) (c := am_in (nI i + 1) sc.1 = true) (s1 := (116, [(0, .ref am_SC), (1, .ref 0), (2, .ref 216), (3, .int (nI i))], [.int x1, .ref 0], am_SH, (f, g))) (by rw [e1]; exact lw_ial rfl) (lw_inx (k := 1) (by omega) hL) ?_
  refine am_Ev.go hcd 4 (s' := (120, [(0, .ref am_SC), (1, .ref 0), (2, .ref 216), (3, .int (nI i))], [.int (nI i + 2), .ref am_SC, .int x1, .ref 0], am_SH, (f, g))) rfl ?_
  refine am_Ev.t hcd (o := none) (c := am_in (nI i + 2) sc.1 = true) (s1 := (121, [(0, .ref am_SC), (1, .ref 0), (2, .ref 216), (3, .int (nI i))], [.int x2, .int x1, .ref 0], am_SH, (f, g))) (by rw [e2]; exact lw_ial rfl) (lw_inx (k := 2) (by omega) hL) ?_
  refine am_Ev.go hcd 4 (s' := (125, [(0, .ref am_SC), (1, .ref 0), (2, .ref 216), (3, .int (nI i))], [.int (nI i + 3), .ref am_SC, .int x2, .int x1, .ref 0], am_SH, (f, g))) rfl ?_
  refine am_Ev.t hcd (o := none) (c := am_in (nI i + 3) sc.1 = true) (s1 := (126, [(0, .ref am_SC), (1, .ref 0), (2, .ref 216), (3, .int (nI i))], [.int x3, .int x2, .int x1, .ref 0], am_SH, (f, g))) (by rw [e3]; exact lw_ial rfl) (lw_inx (k := 3) (by omega) hL) ?_
  refine am_Ev.call hcd (a := 131) (s0 := (0, [(0, .ref 0), (1, .int x1), (2, .int x2), (3, .int x3)], [], am_SH, (f, g))) (q := (some (.int (am_b v)), am_SH, (f1, g))) (s1 := (127, [(0, .ref am_SC), (1, .ref 0), (2, .ref 216), (3, .int (nI i))], [.int (am_b v)], am_SH, (f1, g))) rfl rfl (x_act_ok 55 x1 x2 x3 f g (v, f1) hx) ?_
  refine am_Ev.go hcd 1 (s' := (128, [(0, .ref am_SC), (1, .ref 0), (2, .ref 216), (3, .int (nI i))], [.ref 216, .int (am_b v)], am_SH, (f1, g))) rfl ?_
  refine am_Ev.go hcd 4 (s' := (132, [(0, .ref am_SC), (1, .ref 0), (2, .ref 216), (3, .int (nI i))], [.int (nI i + 1), .ref am_SC, .ref 216, .int (am_b v)], am_SH, (f1, g))) rfl ?_
  refine am_Ev.t hcd (o := none) (c := am_in (nI i + 1) sc.1 = true) (s1 := (133, [(0, .ref am_SC), (1, .ref 0), (2, .ref 216), (3, .int (nI i))], [.int x1, .ref 216, .int (am_b v)], am_SH, (f1, g))) (by rw [e1]; exact lw_ial rfl) (lw_inx (k := 1) (by omega) hL) ?_
  refine am_Ev.go hcd 4 (s' := (137, [(0, .ref am_SC), (1, .ref 0), (2, .ref 216), (3, .int (nI i))], [.int (nI i + 2), .ref am_SC, .int x1, .ref 216, .int (am_b v)], am_SH, (f1, g))) rfl ?_
  refine am_Ev.t hcd (o := none) (c := am_in (nI i + 2) sc.1 = true) (s1 := (138, [(0, .ref am_SC), (1, .ref 0), (2, .ref 216), (3, .int (nI i))], [.int x2, .int x1, .ref 216, .int (am_b v)], am_SH, (f1, g))) (by rw [e2]; exact lw_ial rfl) (lw_inx (k := 2) (by omega) hL) ?_
  refine am_Ev.go hcd 4 (s' := (142, [(0, .ref am_SC), (1, .ref 0), (2, .ref 216), (3, .int (nI i))], [.int (nI i + 3), .ref am_SC, .int x2, .int x1, .ref 216, .int (am_b v)], am_SH, (f1, g))) rfl ?_
  refine am_Ev.t hcd (o := none) (c := am_in (nI i + 3) sc.1 = true) (s1 := (143, [(0, .ref am_SC), (1, .ref 0), (2, .ref 216), (3, .int (nI i))], [.int x3, .int x2, .int x1, .ref 216, .int (am_b v)], am_SH, (f1, g))) (by rw [e3]; exact lw_ial rfl) (lw_inx (k := 3) (by omega) hL) ?_
  refine am_Ev.call hcd (a := 245) (s0 := (0, [(0, .ref 216), (1, .int x1), (2, .int x2), (3, .int x3)], [], am_SH, (f1, g))) (q := (some (.int (am_b v)), am_SH, (f1, g1))) (s1 := (144, [(0, .ref am_SC), (1, .ref 0), (2, .ref 216), (3, .int (nI i))], [.int (am_b v), .int (am_b v)], am_SH, (f1, g1))) rfl rfl (m_act_ok 56 x1 x2 x3 g f1 (v, g1) hm) ?_
  refine am_Ev.t hcd (c := am_b v = am_b v) (s1 := (1051, [(0, .ref am_SC), (1, .ref 0), (2, .ref 216), (3, .int (nI i))], [], am_SH, (f1, g1))) rfl rfl ?_
  refine am_Ev.go hcd 2 (s' := (10, [(0, .ref am_SC), (1, .ref 0), (2, .ref 216), (3, .int (nI i + 6))], [], am_SH, (f1, g1))) rfl ?_
  rw [show nI i + 6 = nI (i + 6) from nI_add i 6]
  exact kk
set_option maxRecDepth 100000 in
set_option maxHeartbeats 4000000 in
theorem am_case_5 {sc : Nat × (Nat → Int32)} {f g f1 g1 : (Nat → Nat → Int32)} {i : Nat} {v : Int32} {r : am_R} (hi : i + 6 ≤ sc.1) (hL : sc.1 ≤ 3072) (hx : x_minutes (sc.2 (nI i + 1).toNatClampNeg) f = some (v, f1)) (hm : m_minutes (sc.2 (nI i + 1).toNatClampNeg) g = some (v, g1)) (kk : am_Ev sc 60 313 (10, [(0, .ref am_SC), (1, .ref 0), (2, .ref 216), (3, .int (nI (i + 6)))], [], am_SH, (f1, g1)) r) : am_Ev sc 60 313 (147, [(0, .ref am_SC), (1, .ref 0), (2, .ref 216), (3, .int (nI i))], [], am_SH, (f, g)) r := by
  have hcd : am_code 313 = am_c313 := rfl
  obtain ⟨x1, e1⟩ : ∃ x, x = sc.2 (nI i + 1).toNatClampNeg := ⟨_, rfl⟩
  rw [← e1] at hx hm
  refine am_Ev.go hcd 1 (s' := (148, [(0, .ref am_SC), (1, .ref 0), (2, .ref 216), (3, .int (nI i))], [.ref 0], am_SH, (f, g))) rfl ?_
  refine am_Ev.go hcd 4 (s' := (152, [(0, .ref am_SC), (1, .ref 0), (2, .ref 216), (3, .int (nI i))], [.int (nI i + 1), .ref am_SC, .ref 0], am_SH, (f, g))) rfl ?_
  refine am_Ev.t hcd (o := none) (c := am_in (nI i + 1) sc.1 = true) (s1 := (153, [(0, .ref am_SC), (1, .ref 0), (2, .ref 216), (3, .int (nI i))], [.int x1, .ref 0], am_SH, (f, g))) (by rw [e1]; exact lw_ial rfl) (lw_inx (k := 1) (by omega) hL) ?_
  refine am_Ev.call hcd (a := 132) (s0 := (0, [(0, .ref 0), (1, .int x1)], [], am_SH, (f, g))) (q := (some (.int v), am_SH, (f1, g))) (s1 := (154, [(0, .ref am_SC), (1, .ref 0), (2, .ref 216), (3, .int (nI i))], [.int v], am_SH, (f1, g))) rfl rfl (x_minutes_ok 53 x1 f g (v, f1) hx) ?_
  refine am_Ev.go hcd 1 (s' := (155, [(0, .ref am_SC), (1, .ref 0), (2, .ref 216), (3, .int (nI i))], [.ref 216, .int v], am_SH, (f1, g))) rfl ?_
  refine am_Ev.go hcd 4 (s' := (159, [(0, .ref am_SC), (1, .ref 0), (2, .ref 216), (3, .int (nI i))], [.int (nI i + 1), .ref am_SC, .ref 216, .int v], am_SH, (f1, g))) rfl ?_
  refine am_Ev.t hcd (o := none) (c := am_in (nI i + 1) sc.1 = true) (s1 := (160, [(0, .ref am_SC), (1, .ref 0), (2, .ref 216), (3, .int (nI i))], [.int x1, .ref 216, .int v], am_SH, (f1, g))) (by rw [e1]; exact lw_ial rfl) (lw_inx (k := 1) (by omega) hL) ?_
  refine am_Ev.call hcd (a := 249) (s0 := (0, [(0, .ref 216), (1, .int x1)], [], am_SH, (f1, g))) (q := (some (.int v), am_SH, (f1, g1))) (s1 := (161, [(0, .ref am_SC), (1, .ref 0), (2, .ref 216), (3, .int (nI i))], [.int v, .int v], am_SH, (f1, g1))) rfl rfl (m_minutes_ok 52 x1 g f1 (v, g1) hm) ?_
  refine am_Ev.t hcd (c := v = v) (s1 := (1051, [(0, .ref am_SC), (1, .ref 0), (2, .ref 216), (3, .int (nI i))], [], am_SH, (f1, g1))) rfl rfl ?_
  refine am_Ev.go hcd 2 (s' := (10, [(0, .ref am_SC), (1, .ref 0), (2, .ref 216), (3, .int (nI i + 6))], [], am_SH, (f1, g1))) rfl ?_
  rw [show nI i + 6 = nI (i + 6) from nI_add i 6]
  exact kk
set_option maxRecDepth 100000 in
set_option maxHeartbeats 4000000 in
theorem am_case_6 {sc : Nat × (Nat → Int32)} {f g f1 g1 : (Nat → Nat → Int32)} {i : Nat} {v : Int32} {r : am_R} (hi : i + 6 ≤ sc.1) (hL : sc.1 ≤ 3072) (hx : x_feed (sc.2 (nI i + 1).toNatClampNeg) (sc.2 (nI i + 2).toNatClampNeg) (sc.2 (nI i + 3).toNatClampNeg) (sc.2 (nI i + 4).toNatClampNeg) (sc.2 (nI i + 5).toNatClampNeg) f = some (v, f1)) (hm : m_feed (sc.2 (nI i + 1).toNatClampNeg) (sc.2 (nI i + 2).toNatClampNeg) (sc.2 (nI i + 3).toNatClampNeg) (sc.2 (nI i + 4).toNatClampNeg) (sc.2 (nI i + 5).toNatClampNeg) g = some (v, g1)) (kk : am_Ev sc 60 313 (10, [(0, .ref am_SC), (1, .ref 0), (2, .ref 216), (3, .int (nI (i + 6)))], [], am_SH, (f1, g1)) r) : am_Ev sc 60 313 (164, [(0, .ref am_SC), (1, .ref 0), (2, .ref 216), (3, .int (nI i))], [], am_SH, (f, g)) r := by
  have hcd : am_code 313 = am_c313 := rfl
  obtain ⟨x1, e1⟩ : ∃ x, x = sc.2 (nI i + 1).toNatClampNeg := ⟨_, rfl⟩
  rw [← e1] at hx hm
  obtain ⟨x2, e2⟩ : ∃ x, x = sc.2 (nI i + 2).toNatClampNeg := ⟨_, rfl⟩
  rw [← e2] at hx hm
  obtain ⟨x3, e3⟩ : ∃ x, x = sc.2 (nI i + 3).toNatClampNeg := ⟨_, rfl⟩
  rw [← e3] at hx hm
  obtain ⟨x4, e4⟩ : ∃ x, x = sc.2 (nI i + 4).toNatClampNeg := ⟨_, rfl⟩
  rw [← e4] at hx hm
  obtain ⟨x5, e5⟩ : ∃ x, x = sc.2 (nI i + 5).toNatClampNeg := ⟨_, rfl⟩
  rw [← e5] at hx hm
  refine am_Ev.go hcd 1 (s' := (165, [(0, .ref am_SC), (1, .ref 0), (2, .ref 216), (3, .int (nI i))], [.ref 0], am_SH, (f, g))) rfl ?_
  refine am_Ev.go hcd 4 (s' := (169, [(0, .ref am_SC), (1, .ref 0), (2, .ref 216), (3, .int (nI i))], [.int (nI i + 1), .ref am_SC, .ref 0], am_SH, (f, g))) rfl ?_
  refine am_Ev.t hcd (o := none) (c := am_in (nI i + 1) sc.1 = true) (s1 := (170, [(0, .ref am_SC), (1, .ref 0), (2, .ref 216), (3, .int (nI i))], [.int x1, .ref 0], am_SH, (f, g))) (by rw [e1]; exact lw_ial rfl) (lw_inx (k := 1) (by omega) hL) ?_
  refine am_Ev.go hcd 4 (s' := (174, [(0, .ref am_SC), (1, .ref 0), (2, .ref 216), (3, .int (nI i))], [.int (nI i + 2), .ref am_SC, .int x1, .ref 0], am_SH, (f, g))) rfl ?_
  refine am_Ev.t hcd (o := none) (c := am_in (nI i + 2) sc.1 = true) (s1 := (175, [(0, .ref am_SC), (1, .ref 0), (2, .ref 216), (3, .int (nI i))], [.int x2, .int x1, .ref 0], am_SH, (f, g))) (by rw [e2]; exact lw_ial rfl) (lw_inx (k := 2) (by omega) hL) ?_
  refine am_Ev.go hcd 4 (s' := (179, [(0, .ref am_SC), (1, .ref 0), (2, .ref 216), (3, .int (nI i))], [.int (nI i + 3), .ref am_SC, .int x2, .int x1, .ref 0], am_SH, (f, g))) rfl ?_
  refine am_Ev.t hcd (o := none) (c := am_in (nI i + 3) sc.1 = true) (s1 := (180, [(0, .ref am_SC), (1, .ref 0), (2, .ref 216), (3, .int (nI i))], [.int x3, .int x2, .int x1, .ref 0], am_SH, (f, g))) (by rw [e3]; exact lw_ial rfl) (lw_inx (k := 3) (by omega) hL) ?_
  refine am_Ev.go hcd 4 (s' := (184, [(0, .ref am_SC), (1, .ref 0), (2, .ref 216), (3, .int (nI i))], [.int (nI i + 4), .ref am_SC, .int x3, .int x2, .int x1, .ref 0], am_SH, (f, g))) rfl ?_
  refine am_Ev.t hcd (o := none) (c := am_in (nI i + 4) sc.1 = true) (s1 := (185, [(0, .ref am_SC), (1, .ref 0), (2, .ref 216), (3, .int (nI i))], [.int x4, .int x3, .int x2, .int x1, .ref 0], am_SH, (f, g))) (by rw [e4]; exact lw_ial rfl) (lw_inx (k := 4) (by omega) hL) ?_
  refine am_Ev.go hcd 4 (s' := (189, [(0, .ref am_SC), (1, .ref 0), (2, .ref 216), (3, .int (nI i))], [.int (nI i + 5), .ref am_SC, .int x4, .int x3, .int x2, .int x1, .ref 0], am_SH, (f, g))) rfl ?_
  refine am_Ev.t hcd (o := none) (c := am_in (nI i + 5) sc.1 = true) (s1 := (190, [(0, .ref am_SC), (1, .ref 0), (2, .ref 216), (3, .int (nI i))], [.int x5, .int x4, .int x3, .int x2, .int x1, .ref 0], am_SH, (f, g))) (by rw [e5]; exact lw_ial rfl) (lw_inx (k := 5) (by omega) hL) ?_
  refine am_Ev.call hcd (a := 133) (s0 := (0, [(0, .ref 0), (1, .int x1), (2, .int x2), (3, .int x3), (4, .int x4), (5, .int x5)], [], am_SH, (f, g))) (q := (some (.int v), am_SH, (f1, g))) (s1 := (191, [(0, .ref am_SC), (1, .ref 0), (2, .ref 216), (3, .int (nI i))], [.int v], am_SH, (f1, g))) rfl rfl (x_feed_ok 58 x1 x2 x3 x4 x5 f g (v, f1) hx) ?_
  refine am_Ev.go hcd 1 (s' := (192, [(0, .ref am_SC), (1, .ref 0), (2, .ref 216), (3, .int (nI i))], [.ref 216, .int v], am_SH, (f1, g))) rfl ?_
  refine am_Ev.go hcd 4 (s' := (196, [(0, .ref am_SC), (1, .ref 0), (2, .ref 216), (3, .int (nI i))], [.int (nI i + 1), .ref am_SC, .ref 216, .int v], am_SH, (f1, g))) rfl ?_
  refine am_Ev.t hcd (o := none) (c := am_in (nI i + 1) sc.1 = true) (s1 := (197, [(0, .ref am_SC), (1, .ref 0), (2, .ref 216), (3, .int (nI i))], [.int x1, .ref 216, .int v], am_SH, (f1, g))) (by rw [e1]; exact lw_ial rfl) (lw_inx (k := 1) (by omega) hL) ?_
  refine am_Ev.go hcd 4 (s' := (201, [(0, .ref am_SC), (1, .ref 0), (2, .ref 216), (3, .int (nI i))], [.int (nI i + 2), .ref am_SC, .int x1, .ref 216, .int v], am_SH, (f1, g))) rfl ?_
  refine am_Ev.t hcd (o := none) (c := am_in (nI i + 2) sc.1 = true) (s1 := (202, [(0, .ref am_SC), (1, .ref 0), (2, .ref 216), (3, .int (nI i))], [.int x2, .int x1, .ref 216, .int v], am_SH, (f1, g))) (by rw [e2]; exact lw_ial rfl) (lw_inx (k := 2) (by omega) hL) ?_
  refine am_Ev.go hcd 4 (s' := (206, [(0, .ref am_SC), (1, .ref 0), (2, .ref 216), (3, .int (nI i))], [.int (nI i + 3), .ref am_SC, .int x2, .int x1, .ref 216, .int v], am_SH, (f1, g))) rfl ?_
  refine am_Ev.t hcd (o := none) (c := am_in (nI i + 3) sc.1 = true) (s1 := (207, [(0, .ref am_SC), (1, .ref 0), (2, .ref 216), (3, .int (nI i))], [.int x3, .int x2, .int x1, .ref 216, .int v], am_SH, (f1, g))) (by rw [e3]; exact lw_ial rfl) (lw_inx (k := 3) (by omega) hL) ?_
  refine am_Ev.go hcd 4 (s' := (211, [(0, .ref am_SC), (1, .ref 0), (2, .ref 216), (3, .int (nI i))], [.int (nI i + 4), .ref am_SC, .int x3, .int x2, .int x1, .ref 216, .int v], am_SH, (f1, g))) rfl ?_
  refine am_Ev.t hcd (o := none) (c := am_in (nI i + 4) sc.1 = true) (s1 := (212, [(0, .ref am_SC), (1, .ref 0), (2, .ref 216), (3, .int (nI i))], [.int x4, .int x3, .int x2, .int x1, .ref 216, .int v], am_SH, (f1, g))) (by rw [e4]; exact lw_ial rfl) (lw_inx (k := 4) (by omega) hL) ?_
  refine am_Ev.go hcd 4 (s' := (216, [(0, .ref am_SC), (1, .ref 0), (2, .ref 216), (3, .int (nI i))], [.int (nI i + 5), .ref am_SC, .int x4, .int x3, .int x2, .int x1, .ref 216, .int v], am_SH, (f1, g))) rfl ?_
  refine am_Ev.t hcd (o := none) (c := am_in (nI i + 5) sc.1 = true) (s1 := (217, [(0, .ref am_SC), (1, .ref 0), (2, .ref 216), (3, .int (nI i))], [.int x5, .int x4, .int x3, .int x2, .int x1, .ref 216, .int v], am_SH, (f1, g))) (by rw [e5]; exact lw_ial rfl) (lw_inx (k := 5) (by omega) hL) ?_
  refine am_Ev.call hcd (a := 190) (s0 := (0, [(0, .ref 216), (1, .int x1), (2, .int x2), (3, .int x3), (4, .int x4), (5, .int x5)], [], am_SH, (f1, g))) (q := (some (.int v), am_SH, (f1, g1))) (s1 := (218, [(0, .ref am_SC), (1, .ref 0), (2, .ref 216), (3, .int (nI i))], [.int v, .int v], am_SH, (f1, g1))) rfl rfl (m_feed_ok 59 x1 x2 x3 x4 x5 g f1 (v, g1) hm) ?_
  refine am_Ev.t hcd (c := v = v) (s1 := (1051, [(0, .ref am_SC), (1, .ref 0), (2, .ref 216), (3, .int (nI i))], [], am_SH, (f1, g1))) rfl rfl ?_
  refine am_Ev.go hcd 2 (s' := (10, [(0, .ref am_SC), (1, .ref 0), (2, .ref 216), (3, .int (nI i + 6))], [], am_SH, (f1, g1))) rfl ?_
  rw [show nI i + 6 = nI (i + 6) from nI_add i 6]
  exact kk
set_option maxRecDepth 100000 in
set_option maxHeartbeats 4000000 in
theorem am_case_7 {sc : Nat × (Nat → Int32)} {f g f1 g1 : (Nat → Nat → Int32)} {i : Nat} {v : Bool} {r : am_R} (hi : i + 6 ≤ sc.1) (hL : sc.1 ≤ 3072) (hx : x_end (sc.2 (nI i + 1).toNatClampNeg) f = (v, f1)) (hm : m_end (sc.2 (nI i + 1).toNatClampNeg) g = (v, g1)) (kk : am_Ev sc 60 313 (10, [(0, .ref am_SC), (1, .ref 0), (2, .ref 216), (3, .int (nI (i + 6)))], [], am_SH, (f1, g1)) r) : am_Ev sc 60 313 (221, [(0, .ref am_SC), (1, .ref 0), (2, .ref 216), (3, .int (nI i))], [], am_SH, (f, g)) r := by
  have hcd : am_code 313 = am_c313 := rfl
  obtain ⟨x1, e1⟩ : ∃ x, x = sc.2 (nI i + 1).toNatClampNeg := ⟨_, rfl⟩
  rw [← e1] at hx hm
  refine am_Ev.go hcd 1 (s' := (222, [(0, .ref am_SC), (1, .ref 0), (2, .ref 216), (3, .int (nI i))], [.ref 0], am_SH, (f, g))) rfl ?_
  refine am_Ev.go hcd 4 (s' := (226, [(0, .ref am_SC), (1, .ref 0), (2, .ref 216), (3, .int (nI i))], [.int (nI i + 1), .ref am_SC, .ref 0], am_SH, (f, g))) rfl ?_
  refine am_Ev.t hcd (o := none) (c := am_in (nI i + 1) sc.1 = true) (s1 := (227, [(0, .ref am_SC), (1, .ref 0), (2, .ref 216), (3, .int (nI i))], [.int x1, .ref 0], am_SH, (f, g))) (by rw [e1]; exact lw_ial rfl) (lw_inx (k := 1) (by omega) hL) ?_
  refine am_Ev.call hcd (a := 134) (s0 := (0, [(0, .ref 0), (1, .int x1)], [], am_SH, (f, g))) (q := (some (.int (am_b v)), am_SH, (f1, g))) (s1 := (228, [(0, .ref am_SC), (1, .ref 0), (2, .ref 216), (3, .int (nI i))], [.int (am_b v)], am_SH, (f1, g))) rfl rfl (by have key := x_end_ok (sc := sc) 58 x1 f g; rw [hx] at key; exact key) ?_
  refine am_Ev.go hcd 1 (s' := (229, [(0, .ref am_SC), (1, .ref 0), (2, .ref 216), (3, .int (nI i))], [.ref 216, .int (am_b v)], am_SH, (f1, g))) rfl ?_
  refine am_Ev.go hcd 4 (s' := (233, [(0, .ref am_SC), (1, .ref 0), (2, .ref 216), (3, .int (nI i))], [.int (nI i + 1), .ref am_SC, .ref 216, .int (am_b v)], am_SH, (f1, g))) rfl ?_
  refine am_Ev.t hcd (o := none) (c := am_in (nI i + 1) sc.1 = true) (s1 := (234, [(0, .ref am_SC), (1, .ref 0), (2, .ref 216), (3, .int (nI i))], [.int x1, .ref 216, .int (am_b v)], am_SH, (f1, g))) (by rw [e1]; exact lw_ial rfl) (lw_inx (k := 1) (by omega) hL) ?_
  refine am_Ev.call hcd (a := 191) (s0 := (0, [(0, .ref 216), (1, .int x1)], [], am_SH, (f1, g))) (q := (some (.int (am_b v)), am_SH, (f1, g1))) (s1 := (235, [(0, .ref am_SC), (1, .ref 0), (2, .ref 216), (3, .int (nI i))], [.int (am_b v), .int (am_b v)], am_SH, (f1, g1))) rfl rfl (by have key := m_end_ok (sc := sc) 58 x1 g f1; rw [hm] at key; exact key) ?_
  refine am_Ev.t hcd (c := am_b v = am_b v) (s1 := (1051, [(0, .ref am_SC), (1, .ref 0), (2, .ref 216), (3, .int (nI i))], [], am_SH, (f1, g1))) rfl rfl ?_
  refine am_Ev.go hcd 2 (s' := (10, [(0, .ref am_SC), (1, .ref 0), (2, .ref 216), (3, .int (nI i + 6))], [], am_SH, (f1, g1))) rfl ?_
  rw [show nI i + 6 = nI (i + 6) from nI_add i 6]
  exact kk
