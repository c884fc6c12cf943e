set_option maxRecDepth 100000 in
set_option maxHeartbeats 4000000 in
theorem am_case_16 {sc : Nat × (Nat → Int32)} {f g f1 g1 : (Nat → Nat → Int32)} {i : Nat} {v : Int32} {r : am_R} (hi : i + 6 ≤ sc.1) (hL : sc.1 ≤ 3072) (hx : x_hottest (sc.2 (nI i + 1).toNatClampNeg) (sc.2 (nI i + 2).toNatClampNeg) f = some (v, f1)) (hm : m_hottest (sc.2 (nI i + 1).toNatClampNeg) (sc.2 (nI i + 2).toNatClampNeg) g = some (v, g1)) (kk : am_Ev sc 60 313 (10, [(0, .ref am_SC), (1, .ref 0), (2, .ref 216), (3, .int (nI (i + 6)))], [], am_SH, (f1, g1)) r) : am_Ev sc 60 313 (424, [(0, .ref am_SC), (1, .ref 0), (2, .ref 216), (3, .int (nI i))], [], am_SH, (f, g)) r := by
  have hcd : am_code 313 = am_c313 := rfl
  obtain ⟨x1, e1⟩ : ∃ x, x = sc.2 (nI i + 1).toNatClampNeg := ⟨_, rfl⟩
  rw [← e1] at hx hm
  obtain ⟨x2, e2⟩ : ∃ x, x = sc.2 (nI i + 2).toNatClampNeg := ⟨_, rfl⟩
  rw [← e2] at hx hm
  refine am_Ev.go hcd 1 (s' := (425, [(0, .ref am_SC), (1, .ref 0), (2, .ref 216), (3, .int (nI i))], [.ref 0], am_SH, (f, g))) rfl ?_
  refine am_Ev.go hcd 4 (s' := (429, [(0, .ref am_SC), (1, .ref 0), (2, .ref 216), (3, .int (nI i))], [.int (nI i + 1), .ref am_SC, .ref 0], am_SH, (f, g))) rfl ?_
  refine am_Ev.t hcd (o := none) (c := am_in (nI i + 1) sc.1 = true) (s1 := (430, [(0, .ref am_SC), (1, .ref 0), (2, .ref 216), (3, .int (nI i))], [.int x1, .ref 0], am_SH, (f, g))) (by rw [e1]; exact lw_ial rfl) (lw_inx (k := 1) (by omega) hL) ?_
  refine am_Ev.go hcd 4 (s' := (434, [(0, .ref am_SC), (1, .ref 0), (2, .ref 216), (3, .int (nI i))], [.int (nI i + 2), .ref am_SC, .int x1, .ref 0], am_SH, (f, g))) rfl ?_
  refine am_Ev.t hcd (o := none) (c := am_in (nI i + 2) sc.1 = true) (s1 := (435, [(0, .ref am_SC), (1, .ref 0), (2, .ref 216), (3, .int (nI i))], [.int x2, .int x1, .ref 0], am_SH, (f, g))) (by rw [e2]; exact lw_ial rfl) (lw_inx (k := 2) (by omega) hL) ?_
  refine am_Ev.call hcd (a := 143) (s0 := (0, [(0, .ref 0), (1, .int x1), (2, .int x2)], [], am_SH, (f, g))) (q := (some (.int v), am_SH, (f1, g))) (s1 := (436, [(0, .ref am_SC), (1, .ref 0), (2, .ref 216), (3, .int (nI i))], [.int v], am_SH, (f1, g))) rfl rfl (x_hottest_ok 55 x1 x2 f g (v, f1) hx) ?_
  refine am_Ev.go hcd 1 (s' := (437, [(0, .ref am_SC), (1, .ref 0), (2, .ref 216), (3, .int (nI i))], [.ref 216, .int v], am_SH, (f1, g))) rfl ?_
  refine am_Ev.go hcd 4 (s' := (441, [(0, .ref am_SC), (1, .ref 0), (2, .ref 216), (3, .int (nI i))], [.int (nI i + 1), .ref am_SC, .ref 216, .int v], am_SH, (f1, g))) rfl ?_
  refine am_Ev.t hcd (o := none) (c := am_in (nI i + 1) sc.1 = true) (s1 := (442, [(0, .ref am_SC), (1, .ref 0), (2, .ref 216), (3, .int (nI i))], [.int x1, .ref 216, .int v], am_SH, (f1, g))) (by rw [e1]; exact lw_ial rfl) (lw_inx (k := 1) (by omega) hL) ?_
  refine am_Ev.go hcd 4 (s' := (446, [(0, .ref am_SC), (1, .ref 0), (2, .ref 216), (3, .int (nI i))], [.int (nI i + 2), .ref am_SC, .int x1, .ref 216, .int v], am_SH, (f1, g))) rfl ?_
  refine am_Ev.t hcd (o := none) (c := am_in (nI i + 2) sc.1 = true) (s1 := (447, [(0, .ref am_SC), (1, .ref 0), (2, .ref 216), (3, .int (nI i))], [.int x2, .int x1, .ref 216, .int v], am_SH, (f1, g))) (by rw [e2]; exact lw_ial rfl) (lw_inx (k := 2) (by omega) hL) ?_
  refine am_Ev.call hcd (a := 259) (s0 := (0, [(0, .ref 216), (1, .int x1), (2, .int x2)], [], am_SH, (f1, g))) (q := (some (.int v), am_SH, (f1, g1))) (s1 := (448, [(0, .ref am_SC), (1, .ref 0), (2, .ref 216), (3, .int (nI i))], [.int v, .int v], am_SH, (f1, g1))) rfl rfl (m_hottest_ok 54 x1 x2 g f1 (v, g1) hm) ?_
  refine am_Ev.t hcd (c := v = v) (s1 := (1051, [(0, .ref am_SC), (1, .ref 0), (2, .ref 216), (3, .int (nI i))], [], am_SH, (f1, g1))) rfl rfl ?_
  refine am_Ev.go hcd 2 (s' := (10, [(0, .ref am_SC), (1, .ref 0), (2, .ref 216), (3, .int (nI i + 6))], [], am_SH, (f1, g1))) rfl ?_
  rw [show nI i + 6 = nI (i + 6) from nI_add i 6]
  exact kk
set_option maxRecDepth 100000 in
set_option maxHeartbeats 4000000 in
theorem am_case_17 {sc : Nat × (Nat → Int32)} {f g f1 g1 : (Nat → Nat → Int32)} {i : Nat} {v : Int32} {r : am_R} (hi : i + 6 ≤ sc.1) (hL : sc.1 ≤ 3072) (hx : x_warmth (sc.2 (nI i + 1).toNatClampNeg) (sc.2 (nI i + 2).toNatClampNeg) f = some (v, f1)) (hm : m_warmth (sc.2 (nI i + 1).toNatClampNeg) (sc.2 (nI i + 2).toNatClampNeg) g = some (v, g1)) (kk : am_Ev sc 60 313 (10, [(0, .ref am_SC), (1, .ref 0), (2, .ref 216), (3, .int (nI (i + 6)))], [], am_SH, (f1, g1)) r) : am_Ev sc 60 313 (451, [(0, .ref am_SC), (1, .ref 0), (2, .ref 216), (3, .int (nI i))], [], am_SH, (f, g)) r := by
  have hcd : am_code 313 = am_c313 := rfl
  obtain ⟨x1, e1⟩ : ∃ x, x = sc.2 (nI i + 1).toNatClampNeg := ⟨_, rfl⟩
  rw [← e1] at hx hm
  obtain ⟨x2, e2⟩ : ∃ x, x = sc.2 (nI i + 2).toNatClampNeg := ⟨_, rfl⟩
  rw [← e2] at hx hm
  refine am_Ev.go hcd 1 (s' := (452, [(0, .ref am_SC), (1, .ref 0), (2, .ref 216), (3, .int (nI i))], [.ref 0], am_SH, (f, g))) rfl ?_
  refine am_Ev.go hcd 4 (s' := (456, [(0, .ref am_SC), (1, .ref 0), (2, .ref 216), (3, .int (nI i))], [.int (nI i + 1), .ref am_SC, .ref 0], am_SH, (f, g))) rfl ?_
  refine am_Ev.t hcd (o := none) (c := am_in (nI i + 1) sc.1 = true) (s1 := (457, [(0, .ref am_SC), (1, .ref 0), (2, .ref 216), (3, .int (nI i))], [.int x1, .ref 0], am_SH, (f, g))) (by rw [e1]; exact lw_ial rfl) (lw_inx (k := 1) (by omega) hL) ?_
  refine am_Ev.go hcd 4 (s' := (461, [(0, .ref am_SC), (1, .ref 0), (2, .ref 216), (3, .int (nI i))], [.int (nI i + 2), .ref am_SC, .int x1, .ref 0], am_SH, (f, g))) rfl ?_
  refine am_Ev.t hcd (o := none) (c := am_in (nI i + 2) sc.1 = true) (s1 := (462, [(0, .ref am_SC), (1, .ref 0), (2, .ref 216), (3, .int (nI i))], [.int x2, .int x1, .ref 0], am_SH, (f, g))) (by rw [e2]; exact lw_ial rfl) (lw_inx (k := 2) (by omega) hL) ?_
  refine am_Ev.call hcd (a := 144) (s0 := (0, [(0, .ref 0), (1, .int x1), (2, .int x2)], [], am_SH, (f, g))) (q := (some (.int v), am_SH, (f1, g))) (s1 := (463, [(0, .ref am_SC), (1, .ref 0), (2, .ref 216), (3, .int (nI i))], [.int v], am_SH, (f1, g))) rfl rfl (x_warmth_ok 57 x1 x2 f g (v, f1) hx) ?_
  refine am_Ev.go hcd 1 (s' := (464, [(0, .ref am_SC), (1, .ref 0), (2, .ref 216), (3, .int (nI i))], [.ref 216, .int v], am_SH, (f1, g))) rfl ?_
  refine am_Ev.go hcd 4 (s' := (468, [(0, .ref am_SC), (1, .ref 0), (2, .ref 216), (3, .int (nI i))], [.int (nI i + 1), .ref am_SC, .ref 216, .int v], am_SH, (f1, g))) rfl ?_
  refine am_Ev.t hcd (o := none) (c := am_in (nI i + 1) sc.1 = true) (s1 := (469, [(0, .ref am_SC), (1, .ref 0), (2, .ref 216), (3, .int (nI i))], [.int x1, .ref 216, .int v], am_SH, (f1, g))) (by rw [e1]; exact lw_ial rfl) (lw_inx (k := 1) (by omega) hL) ?_
  refine am_Ev.go hcd 4 (s' := (473, [(0, .ref am_SC), (1, .ref 0), (2, .ref 216), (3, .int (nI i))], [.int (nI i + 2), .ref am_SC, .int x1, .ref 216, .int v], am_SH, (f1, g))) rfl ?_
  refine am_Ev.t hcd (o := none) (c := am_in (nI i + 2) sc.1 = true) (s1 := (474, [(0, .ref am_SC), (1, .ref 0), (2, .ref 216), (3, .int (nI i))], [.int x2, .int x1, .ref 216, .int v], am_SH, (f1, g))) (by rw [e2]; exact lw_ial rfl) (lw_inx (k := 2) (by omega) hL) ?_
  refine am_Ev.call hcd (a := 263) (s0 := (0, [(0, .ref 216), (1, .int x1), (2, .int x2)], [], am_SH, (f1, g))) (q := (some (.int v), am_SH, (f1, g1))) (s1 := (475, [(0, .ref am_SC), (1, .ref 0), (2, .ref 216), (3, .int (nI i))], [.int v, .int v], am_SH, (f1, g1))) rfl rfl (m_warmth_ok 57 x1 x2 g f1 (v, g1) hm) ?_
  refine am_Ev.t hcd (c := v = v) (s1 := (1051, [(0, .ref am_SC), (1, .ref 0), (2, .ref 216), (3, .int (nI i))], [], am_SH, (f1, g1))) rfl rfl ?_
  refine am_Ev.go hcd 2 (s' := (10, [(0, .ref am_SC), (1, .ref 0), (2, .ref 216), (3, .int (nI i + 6))], [], am_SH, (f1, g1))) rfl ?_
  rw [show nI i + 6 = nI (i + 6) from nI_add i 6]
  exact kk
set_option maxRecDepth 100000 in
set_option maxHeartbeats 4000000 in
theorem am_case_18 {sc : Nat × (Nat → Int32)} {f g f1 g1 : (Nat → Nat → Int32)} {i : Nat} {v : Int32} {r : am_R} (hi : i + 6 ≤ sc.1) (hL : sc.1 ≤ 3072) (hx : x_fits (sc.2 (nI i + 1).toNatClampNeg) (sc.2 (nI i + 2).toNatClampNeg) f = some v) (hm : m_fits (sc.2 (nI i + 1).toNatClampNeg) (sc.2 (nI i + 2).toNatClampNeg) g = some v) (kk : am_Ev sc 60 313 (10, [(0, .ref am_SC), (1, .ref 0), (2, .ref 216), (3, .int (nI (i + 6)))], [], am_SH, (f, g)) r) : am_Ev sc 60 313 (478, [(0, .ref am_SC), (1, .ref 0), (2, .ref 216), (3, .int (nI i))], [], am_SH, (f, g)) r := by
  have hcd : am_code 313 = am_c313 := rfl
  obtain ⟨x1, e1⟩ : ∃ x, x = sc.2 (nI i + 1).toNatClampNeg := ⟨_, rfl⟩
  rw [← e1] at hx hm
  obtain ⟨x2, e2⟩ : ∃ x, x = sc.2 (nI i + 2).toNatClampNeg := ⟨_, rfl⟩
  rw [← e2] at hx hm
  refine am_Ev.go hcd 1 (s' := (479, [(0, .ref am_SC), (1, .ref 0), (2, .ref 216), (3, .int (nI i))], [.ref 0], am_SH, (f, g))) rfl ?_
  refine am_Ev.go hcd 4 (s' := (483, [(0, .ref am_SC), (1, .ref 0), (2, .ref 216), (3, .int (nI i))], [.int (nI i + 1), .ref am_SC, .ref 0], am_SH, (f, g))) rfl ?_
  refine am_Ev.t hcd (o := none) (c := am_in (nI i + 1) sc.1 = true) (s1 := (484, [(0, .ref am_SC), (1, .ref 0), (2, .ref 216), (3, .int (nI i))], [.int x1, .ref 0], am_SH, (f, g))) (by rw [e1]; exact lw_ial rfl) (lw_inx (k := 1) (by omega) hL) ?_
  refine am_Ev.go hcd 4 (s' := (488, [(0, .ref am_SC), (1, .ref 0), (2, .ref 216), (3, .int (nI i))], [.int (nI i + 2), .ref am_SC, .int x1, .ref 0], am_SH, (f, g))) rfl ?_
  refine am_Ev.t hcd (o := none) (c := am_in (nI i + 2) sc.1 = true) (s1 := (489, [(0, .ref am_SC), (1, .ref 0), (2, .ref 216), (3, .int (nI i))], [.int x2, .int x1, .ref 0], am_SH, (f, g))) (by rw [e2]; exact lw_ial rfl) (lw_inx (k := 2) (by omega) hL) ?_
  refine am_Ev.call hcd (a := 145) (s0 := (0, [(0, .ref 0), (1, .int x1), (2, .int x2)], [], am_SH, (f, g))) (q := (some (.int v), am_SH, (f, g))) (s1 := (490, [(0, .ref am_SC), (1, .ref 0), (2, .ref 216), (3, .int (nI i))], [.int v], am_SH, (f, g))) rfl rfl (x_fits_ok 55 x1 x2 f g v hx) ?_
  refine am_Ev.go hcd 1 (s' := (491, [(0, .ref am_SC), (1, .ref 0), (2, .ref 216), (3, .int (nI i))], [.ref 216, .int v], am_SH, (f, g))) rfl ?_
  refine am_Ev.go hcd 4 (s' := (495, [(0, .ref am_SC), (1, .ref 0), (2, .ref 216), (3, .int (nI i))], [.int (nI i + 1), .ref am_SC, .ref 216, .int v], am_SH, (f, g))) rfl ?_
  refine am_Ev.t hcd (o := none) (c := am_in (nI i + 1) sc.1 = true) (s1 := (496, [(0, .ref am_SC), (1, .ref 0), (2, .ref 216), (3, .int (nI i))], [.int x1, .ref 216, .int v], am_SH, (f, g))) (by rw [e1]; exact lw_ial rfl) (lw_inx (k := 1) (by omega) hL) ?_
  refine am_Ev.go hcd 4 (s' := (500, [(0, .ref am_SC), (1, .ref 0), (2, .ref 216), (3, .int (nI i))], [.int (nI i + 2), .ref am_SC, .int x1, .ref 216, .int v], am_SH, (f, g))) rfl ?_
  refine am_Ev.t hcd (o := none) (c := am_in (nI i + 2) sc.1 = true) (s1 := (501, [(0, .ref am_SC), (1, .ref 0), (2, .ref 216), (3, .int (nI i))], [.int x2, .int x1, .ref 216, .int v], am_SH, (f, g))) (by rw [e2]; exact lw_ial rfl) (lw_inx (k := 2) (by omega) hL) ?_
  refine am_Ev.call hcd (a := 265) (s0 := (0, [(0, .ref 216), (1, .int x1), (2, .int x2)], [], am_SH, (f, g))) (q := (some (.int v), am_SH, (f, g))) (s1 := (502, [(0, .ref am_SC), (1, .ref 0), (2, .ref 216), (3, .int (nI i))], [.int v, .int v], am_SH, (f, g))) rfl rfl (m_fits_ok 56 x1 x2 g f v hm) ?_
  refine am_Ev.t hcd (c := v = v) (s1 := (1051, [(0, .ref am_SC), (1, .ref 0), (2, .ref 216), (3, .int (nI i))], [], am_SH, (f, g))) rfl rfl ?_
  refine am_Ev.go hcd 2 (s' := (10, [(0, .ref am_SC), (1, .ref 0), (2, .ref 216), (3, .int (nI i + 6))], [], am_SH, (f, g))) rfl ?_
  rw [show nI i + 6 = nI (i + 6) from nI_add i 6]
  exact kk
set_option maxRecDepth 100000 in
set_option maxHeartbeats 4000000 in
theorem am_case_19 {sc : Nat × (Nat → Int32)} {f g f1 g1 : (Nat → Nat → Int32)} {i : Nat} {v : Int32} {r : am_R} (hi : i + 6 ≤ sc.1) (hL : sc.1 ≤ 3072) (hx : x_words (sc.2 (nI i + 1).toNatClampNeg) (sc.2 (nI i + 2).toNatClampNeg) f = some (v, f1)) (hm : m_words (sc.2 (nI i + 1).toNatClampNeg) (sc.2 (nI i + 2).toNatClampNeg) g = some (v, g1)) (kk : am_Ev sc 60 313 (10, [(0, .ref am_SC), (1, .ref 0), (2, .ref 216), (3, .int (nI (i + 6)))], [], am_SH, (f1, g1)) r) : am_Ev sc 60 313 (505, [(0, .ref am_SC), (1, .ref 0), (2, .ref 216), (3, .int (nI i))], [], am_SH, (f, g)) r := by
  have hcd : am_code 313 = am_c313 := rfl
  obtain ⟨x1, e1⟩ : ∃ x, x = sc.2 (nI i + 1).toNatClampNeg := ⟨_, rfl⟩
  rw [← e1] at hx hm
  obtain ⟨x2, e2⟩ : ∃ x, x = sc.2 (nI i + 2).toNatClampNeg := ⟨_, rfl⟩
  rw [← e2] at hx hm
  refine am_Ev.go hcd 1 (s' := (506, [(0, .ref am_SC), (1, .ref 0), (2, .ref 216), (3, .int (nI i))], [.ref 0], am_SH, (f, g))) rfl ?_
  refine am_Ev.go hcd 4 (s' := (510, [(0, .ref am_SC), (1, .ref 0), (2, .ref 216), (3, .int (nI i))], [.int (nI i + 1), .ref am_SC, .ref 0], am_SH, (f, g))) rfl ?_
  refine am_Ev.t hcd (o := none) (c := am_in (nI i + 1) sc.1 = true) (s1 := (511, [(0, .ref am_SC), (1, .ref 0), (2, .ref 216), (3, .int (nI i))], [.int x1, .ref 0], am_SH, (f, g))) (by rw [e1]; exact lw_ial rfl) (lw_inx (k := 1) (by omega) hL) ?_
  refine am_Ev.go hcd 4 (s' := (515, [(0, .ref am_SC), (1, .ref 0), (2, .ref 216), (3, .int (nI i))], [.int (nI i + 2), .ref am_SC, .int x1, .ref 0], am_SH, (f, g))) rfl ?_
  refine am_Ev.t hcd (o := none) (c := am_in (nI i + 2) sc.1 = true) (s1 := (516, [(0, .ref am_SC), (1, .ref 0), (2, .ref 216), (3, .int (nI i))], [.int x2, .int x1, .ref 0], am_SH, (f, g))) (by rw [e2]; exact lw_ial rfl) (lw_inx (k := 2) (by omega) hL) ?_
  refine am_Ev.call hcd (a := 146) (s0 := (0, [(0, .ref 0), (1, .int x1), (2, .int x2)], [], am_SH, (f, g))) (q := (some (.int v), am_SH, (f1, g))) (s1 := (517, [(0, .ref am_SC), (1, .ref 0), (2, .ref 216), (3, .int (nI i))], [.int v], am_SH, (f1, g))) rfl rfl (x_words_ok 55 x1 x2 f g (v, f1) hx) ?_
  refine am_Ev.go hcd 1 (s' := (518, [(0, .ref am_SC), (1, .ref 0), (2, .ref 216), (3, .int (nI i))], [.ref 216, .int v], am_SH, (f1, g))) rfl ?_
  refine am_Ev.go hcd 4 (s' := (522, [(0, .ref am_SC), (1, .ref 0), (2, .ref 216), (3, .int (nI i))], [.int (nI i + 1), .ref am_SC, .ref 216, .int v], am_SH, (f1, g))) rfl ?_
  refine am_Ev.t hcd (o := none) (c := am_in (nI i + 1) sc.1 = true) (s1 := (523, [(0, .ref am_SC), (1, .ref 0), (2, .ref 216), (3, .int (nI i))], [.int x1, .ref 216, .int v], am_SH, (f1, g))) (by rw [e1]; exact lw_ial rfl) (lw_inx (k := 1) (by omega) hL) ?_
  refine am_Ev.go hcd 4 (s' := (527, [(0, .ref am_SC), (1, .ref 0), (2, .ref 216), (3, .int (nI i))], [.int (nI i + 2), .ref am_SC, .int x1, .ref 216, .int v], am_SH, (f1, g))) rfl ?_
  refine am_Ev.t hcd (o := none) (c := am_in (nI i + 2) sc.1 = true) (s1 := (528, [(0, .ref am_SC), (1, .ref 0), (2, .ref 216), (3, .int (nI i))], [.int x2, .int x1, .ref 216, .int v], am_SH, (f1, g))) (by rw [e2]; exact lw_ial rfl) (lw_inx (k := 2) (by omega) hL) ?_
  refine am_Ev.call hcd (a := 268) (s0 := (0, [(0, .ref 216), (1, .int x1), (2, .int x2)], [], am_SH, (f1, g))) (q := (some (.int v), am_SH, (f1, g1))) (s1 := (529, [(0, .ref am_SC), (1, .ref 0), (2, .ref 216), (3, .int (nI i))], [.int v, .int v], am_SH, (f1, g1))) rfl rfl (m_words_ok 55 x1 x2 g f1 (v, g1) hm) ?_
  refine am_Ev.t hcd (c := v = v) (s1 := (1051, [(0, .ref am_SC), (1, .ref 0), (2, .ref 216), (3, .int (nI i))], [], am_SH, (f1, g1))) rfl rfl ?_
  refine am_Ev.go hcd 2 (s' := (10, [(0, .ref am_SC), (1, .ref 0), (2, .ref 216), (3, .int (nI i + 6))], [], am_SH, (f1, g1))) rfl ?_
  rw [show nI i + 6 = nI (i + 6) from nI_add i 6]
  exact kk
set_option maxRecDepth 100000 in
set_option maxHeartbeats 4000000 in
theorem am_case_20 {sc : Nat × (Nat → Int32)} {f g f1 g1 : (Nat → Nat → Int32)} {i : Nat} {v : Int32} {r : am_R} (hi : i + 6 ≤ sc.1) (hL : sc.1 ≤ 3072) (hx : x_world (sc.2 (nI i + 1).toNatClampNeg) (sc.2 (nI i + 2).toNatClampNeg) f = some (v, f1)) (hm : m_world (sc.2 (nI i + 1).toNatClampNeg) (sc.2 (nI i + 2).toNatClampNeg) g = some (v, g1)) (kk : am_Ev sc 60 313 (10, [(0, .ref am_SC), (1, .ref 0), (2, .ref 216), (3, .int (nI (i + 6)))], [], am_SH, (f1, g1)) r) : am_Ev sc 60 313 (532, [(0, .ref am_SC), (1, .ref 0), (2, .ref 216), (3, .int (nI i))], [], am_SH, (f, g)) r := by
  have hcd : am_code 313 = am_c313 := rfl
  obtain ⟨x1, e1⟩ : ∃ x, x = sc.2 (nI i + 1).toNatClampNeg := ⟨_, rfl⟩
  rw [← e1] at hx hm
  obtain ⟨x2, e2⟩ : ∃ x, x = sc.2 (nI i + 2).toNatClampNeg := ⟨_, rfl⟩
  rw [← e2] at hx hm
  refine am_Ev.go hcd 1 (s' := (533, [(0, .ref am_SC), (1, .ref 0), (2, .ref 216), (3, .int (nI i))], [.ref 0], am_SH, (f, g))) rfl ?_
  refine am_Ev.go hcd 4 (s' := (537, [(0, .ref am_SC), (1, .ref 0), (2, .ref 216), (3, .int (nI i))], [.int (nI i + 1), .ref am_SC, .ref 0], am_SH, (f, g))) rfl ?_
  refine am_Ev.t hcd (o := none) (c := am_in (nI i + 1) sc.1 = true) (s1 := (538, [(0, .ref am_SC), (1, .ref 0), (2, .ref 216), (3, .int (nI i))], [.int x1, .ref 0], am_SH, (f, g))) (by rw [e1]; exact lw_ial rfl) (lw_inx (k := 1) (by omega) hL) ?_
  refine am_Ev.go hcd 4 (s' := (542, [(0, .ref am_SC), (1, .ref 0), (2, .ref 216), (3, .int (nI i))], [.int (nI i + 2), .ref am_SC, .int x1, .ref 0], am_SH, (f, g))) rfl ?_
  refine am_Ev.t hcd (o := none) (c := am_in (nI i + 2) sc.1 = true) (s1 := (543, [(0, .ref am_SC), (1, .ref 0), (2, .ref 216), (3, .int (nI i))], [.int x2, .int x1, .ref 0], am_SH, (f, g))) (by rw [e2]; exact lw_ial rfl) (lw_inx (k := 2) (by omega) hL) ?_
  refine am_Ev.call hcd (a := 147) (s0 := (0, [(0, .ref 0), (1, .int x1), (2, .int x2)], [], am_SH, (f, g))) (q := (some (.int v), am_SH, (f1, g))) (s1 := (544, [(0, .ref am_SC), (1, .ref 0), (2, .ref 216), (3, .int (nI i))], [.int v], am_SH, (f1, g))) rfl rfl (x_world_ok 58 x1 x2 f g (v, f1) hx) ?_
  refine am_Ev.go hcd 1 (s' := (545, [(0, .ref am_SC), (1, .ref 0), (2, .ref 216), (3, .int (nI i))], [.ref 216, .int v], am_SH, (f1, g))) rfl ?_
  refine am_Ev.go hcd 4 (s' := (549, [(0, .ref am_SC), (1, .ref 0), (2, .ref 216), (3, .int (nI i))], [.int (nI i + 1), .ref am_SC, .ref 216, .int v], am_SH, (f1, g))) rfl ?_
  refine am_Ev.t hcd (o := none) (c := am_in (nI i + 1) sc.1 = true) (s1 := (550, [(0, .ref am_SC), (1, .ref 0), (2, .ref 216), (3, .int (nI i))], [.int x1, .ref 216, .int v], am_SH, (f1, g))) (by rw [e1]; exact lw_ial rfl) (lw_inx (k := 1) (by omega) hL) ?_
  refine am_Ev.go hcd 4 (s' := (554, [(0, .ref am_SC), (1, .ref 0), (2, .ref 216), (3, .int (nI i))], [.int (nI i + 2), .ref am_SC, .int x1, .ref 216, .int v], am_SH, (f1, g))) rfl ?_
  refine am_Ev.t hcd (o := none) (c := am_in (nI i + 2) sc.1 = true) (s1 := (555, [(0, .ref am_SC), (1, .ref 0), (2, .ref 216), (3, .int (nI i))], [.int x2, .int x1, .ref 216, .int v], am_SH, (f1, g))) (by rw [e2]; exact lw_ial rfl) (lw_inx (k := 2) (by omega) hL) ?_
  refine am_Ev.call hcd (a := 269) (s0 := (0, [(0, .ref 216), (1, .int x1), (2, .int x2)], [], am_SH, (f1, g))) (q := (some (.int v), am_SH, (f1, g1))) (s1 := (556, [(0, .ref am_SC), (1, .ref 0), (2, .ref 216), (3, .int (nI i))], [.int v, .int v], am_SH, (f1, g1))) rfl rfl (m_world_ok 58 x1 x2 g f1 (v, g1) hm) ?_
  refine am_Ev.t hcd (c := v = v) (s1 := (1051, [(0, .ref am_SC), (1, .ref 0), (2, .ref 216), (3, .int (nI i))], [], am_SH, (f1, g1))) rfl rfl ?_
  refine am_Ev.go hcd 2 (s' := (10, [(0, .ref am_SC), (1, .ref 0), (2, .ref 216), (3, .int (nI i + 6))], [], am_SH, (f1, g1))) rfl ?_
  rw [show nI i + 6 = nI (i + 6) from nI_add i 6]
  exact kk
set_option maxRecDepth 100000 in
set_option maxHeartbeats 4000000 in
theorem am_case_21 {sc : Nat × (Nat → Int32)} {f g f1 g1 : (Nat → Nat → Int32)} {i : Nat} {v : Int32} {r : am_R} (hi : i + 6 ≤ sc.1) (hL : sc.1 ≤ 3072) (hx : x_sure (sc.2 (nI i + 1).toNatClampNeg) (sc.2 (nI i + 2).toNatClampNeg) (sc.2 (nI i + 3).toNatClampNeg) f = some v) (hm : m_sure (sc.2 (nI i + 1).toNatClampNeg) (sc.2 (nI i + 2).toNatClampNeg) (sc.2 (nI i + 3).toNatClampNeg) g = some v) (kk : am_Ev sc 60 313 (10, [(0, .ref am_SC), (1, .ref 0), (2, .ref 216), (3, .int (nI (i + 6)))], [], am_SH, (f, g)) r) : am_Ev sc 60 313 (559, [(0, .ref am_SC), (1, .ref 0), (2, .ref 216), (3, .int (nI i))], [], am_SH, (f, g)) r := by
  have hcd : am_code 313 = am_c313 := rfl
  obtain ⟨x1, e1⟩ : ∃ x, x = sc.2 (nI i + 1).toNatClampNeg := ⟨_, rfl⟩
  rw [← e1] at hx hm
  obtain ⟨x2, e2⟩ : ∃ x, x = sc.2 (nI i + 2).toNatClampNeg := ⟨_, rfl⟩
  rw [← e2] at hx hm
  obtain ⟨x3, e3⟩ : ∃ x, x = sc.2 (nI i + 3).toNatClampNeg := ⟨_, rfl⟩
  rw [← e3] at hx hm
  refine am_Ev.go hcd 1 (s' := (560, [(0, .ref am_SC), (1, .ref 0), (2, .ref 216), (3, .int (nI i))], [.ref 0], am_SH, (f, g))) rfl ?_
  refine am_Ev.go hcd 4 (s' := (564, [(0, .ref am_SC), (1, .ref 0), (2, .ref 216), (3, .int (nI i))], [.int (nI i + 1), .ref am_SC, .ref 0], am_SH, (f, g))) rfl ?_
  refine am_Ev.t hcd (o := none) (c := am_in (nI i + 1) sc.1 = true) (s1 := (565, [(0, .ref am_SC), (1, .ref 0), (2, .ref 216), (3, .int (nI i))], [.int x1, .ref 0], am_SH, (f, g))) (by rw [e1]; exact lw_ial rfl) (lw_inx (k := 1) (by omega) hL) ?_
  refine am_Ev.go hcd 4 (s' := (569, [(0, .ref am_SC), (1, .ref 0), (2, .ref 216), (3, .int (nI i))], [.int (nI i + 2), .ref am_SC, .int x1, .ref 0], am_SH, (f, g))) rfl ?_
  refine am_Ev.t hcd (o := none) (c := am_in (nI i + 2) sc.1 = true) (s1 := (570, [(0, .ref am_SC), (1, .ref 0), (2, .ref 216), (3, .int (nI i))], [.int x2, .int x1, .ref 0], am_SH, (f, g))) (by rw [e2]; exact lw_ial rfl) (lw_inx (k := 2) (by omega) hL) ?_
  refine am_Ev.go hcd 4 (s' := (574, [(0, .ref am_SC), (1, .ref 0), (2, .ref 216), (3, .int (nI i))], [.int (nI i + 3), .ref am_SC, .int x2, .int x1, .ref 0], am_SH, (f, g))) rfl ?_
  refine am_Ev.t hcd (o := none) (c := am_in (nI i + 3) sc.1 = true) (s1 := (575, [(0, .ref am_SC), (1, .ref 0), (2, .ref 216), (3, .int (nI i))], [.int x3, .int x2, .int x1, .ref 0], am_SH, (f, g))) (by rw [e3]; exact lw_ial rfl) (lw_inx (k := 3) (by omega) hL) ?_
  refine am_Ev.call hcd (a := 148) (s0 := (0, [(0, .ref 0), (1, .int x1), (2, .int x2), (3, .int x3)], [], am_SH, (f, g))) (q := (some (.int v), am_SH, (f, g))) (s1 := (576, [(0, .ref am_SC), (1, .ref 0), (2, .ref 216), (3, .int (nI i))], [.int v], am_SH, (f, g))) rfl rfl (x_sure_ok 56 x1 x2 x3 f g v hx) ?_
  refine am_Ev.go hcd 1 (s' := (577, [(0, .ref am_SC), (1, .ref 0), (2, .ref 216), (3, .int (nI i))], [.ref 216, .int v], am_SH, (f, g))) rfl ?_
  refine am_Ev.go hcd 4 (s' := (581, [(0, .ref am_SC), (1, .ref 0), (2, .ref 216), (3, .int (nI i))], [.int (nI i + 1), .ref am_SC, .ref 216, .int v], am_SH, (f, g))) rfl ?_
  refine am_Ev.t hcd (o := none) (c := am_in (nI i + 1) sc.1 = true) (s1 := (582, [(0, .ref am_SC), (1, .ref 0), (2, .ref 216), (3, .int (nI i))], [.int x1, .ref 216, .int v], am_SH, (f, g))) (by rw [e1]; exact lw_ial rfl) (lw_inx (k := 1) (by omega) hL) ?_
  refine am_Ev.go hcd 4 (s' := (586, [(0, .ref am_SC), (1, .ref 0), (2, .ref 216), (3, .int (nI i))], [.int (nI i + 2), .ref am_SC, .int x1, .ref 216, .int v], am_SH, (f, g))) rfl ?_
  refine am_Ev.t hcd (o := none) (c := am_in (nI i + 2) sc.1 = true) (s1 := (587, [(0, .ref am_SC), (1, .ref 0), (2, .ref 216), (3, .int (nI i))], [.int x2, .int x1, .ref 216, .int v], am_SH, (f, g))) (by rw [e2]; exact lw_ial rfl) (lw_inx (k := 2) (by omega) hL) ?_
  refine am_Ev.go hcd 4 (s' := (591, [(0, .ref am_SC), (1, .ref 0), (2, .ref 216), (3, .int (nI i))], [.int (nI i + 3), .ref am_SC, .int x2, .int x1, .ref 216, .int v], am_SH, (f, g))) rfl ?_
  refine am_Ev.t hcd (o := none) (c := am_in (nI i + 3) sc.1 = true) (s1 := (592, [(0, .ref am_SC), (1, .ref 0), (2, .ref 216), (3, .int (nI i))], [.int x3, .int x2, .int x1, .ref 216, .int v], am_SH, (f, g))) (by rw [e3]; exact lw_ial rfl) (lw_inx (k := 3) (by omega) hL) ?_
  refine am_Ev.call hcd (a := 271) (s0 := (0, [(0, .ref 216), (1, .int x1), (2, .int x2), (3, .int x3)], [], am_SH, (f, g))) (q := (some (.int v), am_SH, (f, g))) (s1 := (593, [(0, .ref am_SC), (1, .ref 0), (2, .ref 216), (3, .int (nI i))], [.int v, .int v], am_SH, (f, g))) rfl rfl (m_sure_ok 58 x1 x2 x3 g f v hm) ?_
  refine am_Ev.t hcd (c := v = v) (s1 := (1051, [(0, .ref am_SC), (1, .ref 0), (2, .ref 216), (3, .int (nI i))], [], am_SH, (f, g))) rfl rfl ?_
  refine am_Ev.go hcd 2 (s' := (10, [(0, .ref am_SC), (1, .ref 0), (2, .ref 216), (3, .int (nI i + 6))], [], am_SH, (f, g))) rfl ?_
  rw [show nI i + 6 = nI (i + 6) from nI_add i 6]
  exact kk
set_option maxRecDepth 100000 in
set_option maxHeartbeats 4000000 in
theorem am_case_22 {sc : Nat × (Nat → Int32)} {f g f1 g1 : (Nat → Nat → Int32)} {i : Nat} {v : Int32} {r : am_R} (hi : i + 6 ≤ sc.1) (hL : sc.1 ≤ 3072) (hx : x_point (sc.2 (nI i + 1).toNatClampNeg) (sc.2 (nI i + 2).toNatClampNeg) f = some (v, f1)) (hm : m_point (sc.2 (nI i + 1).toNatClampNeg) (sc.2 (nI i + 2).toNatClampNeg) g = some (v, g1)) (kk : am_Ev sc 60 313 (10, [(0, .ref am_SC), (1, .ref 0), (2, .ref 216), (3, .int (nI (i + 6)))], [], am_SH, (f1, g1)) r) : am_Ev sc 60 313 (596, [(0, .ref am_SC), (1, .ref 0), (2, .ref 216), (3, .int (nI i))], [], am_SH, (f, g)) r := by
  have hcd : am_code 313 = am_c313 := rfl
  obtain ⟨x1, e1⟩ : ∃ x, x = sc.2 (nI i + 1).toNatClampNeg := ⟨_, rfl⟩
  rw [← e1] at hx hm
  obtain ⟨x2, e2⟩ : ∃ x, x = sc.2 (nI i + 2).toNatClampNeg := ⟨_, rfl⟩
  rw [← e2] at hx hm
  refine am_Ev.go hcd 1 (s' := (597, [(0, .ref am_SC), (1, .ref 0), (2, .ref 216), (3, .int (nI i))], [.ref 0], am_SH, (f, g))) rfl ?_
  refine am_Ev.go hcd 4 (s' := (601, [(0, .ref am_SC), (1, .ref 0), (2, .ref 216), (3, .int (nI i))], [.int (nI i + 1), .ref am_SC, .ref 0], am_SH, (f, g))) rfl ?_
  refine am_Ev.t hcd (o := none) (c := am_in (nI i + 1) sc.1 = true) (s1 := (602, [(0, .ref am_SC), (1, .ref 0), (2, .ref 216), (3, .int (nI i))], [.int x1, .ref 0], am_SH, (f, g))) (by rw [e1]; exact lw_ial rfl) (lw_inx (k := 1) (by omega) hL) ?_
  refine am_Ev.go hcd 4 (s' := (606, [(0, .ref am_SC), (1, .ref 0), (2, .ref 216), (3, .int (nI i))], [.int (nI i + 2), .ref am_SC, .int x1, .ref 0], am_SH, (f, g))) rfl ?_
  refine am_Ev.t hcd (o := none) (c := am_in (nI i + 2) sc.1 = true) (s1 := (607, [(0, .ref am_SC), (1, .ref 0), (2, .ref 216), (3, .int (nI i))], [.int x2, .int x1, .ref 0], am_SH, (f, g))) (by rw [e2]; exact lw_ial rfl) (lw_inx (k := 2) (by omega) hL) ?_
  refine am_Ev.call hcd (a := 149) (s0 := (0, [(0, .ref 0), (1, .int x1), (2, .int x2)], [], am_SH, (f, g))) (q := (some (.int v), am_SH, (f1, g))) (s1 := (608, [(0, .ref am_SC), (1, .ref 0), (2, .ref 216), (3, .int (nI i))], [.int v], am_SH, (f1, g))) rfl rfl (x_point_ok 58 x1 x2 f g (v, f1) hx) ?_
  refine am_Ev.go hcd 1 (s' := (609, [(0, .ref am_SC), (1, .ref 0), (2, .ref 216), (3, .int (nI i))], [.ref 216, .int v], am_SH, (f1, g))) rfl ?_
  refine am_Ev.go hcd 4 (s' := (613, [(0, .ref am_SC), (1, .ref 0), (2, .ref 216), (3, .int (nI i))], [.int (nI i + 1), .ref am_SC, .ref 216, .int v], am_SH, (f1, g))) rfl ?_
  refine am_Ev.t hcd (o := none) (c := am_in (nI i + 1) sc.1 = true) (s1 := (614, [(0, .ref am_SC), (1, .ref 0), (2, .ref 216), (3, .int (nI i))], [.int x1, .ref 216, .int v], am_SH, (f1, g))) (by rw [e1]; exact lw_ial rfl) (lw_inx (k := 1) (by omega) hL) ?_
  refine am_Ev.go hcd 4 (s' := (618, [(0, .ref am_SC), (1, .ref 0), (2, .ref 216), (3, .int (nI i))], [.int (nI i + 2), .ref am_SC, .int x1, .ref 216, .int v], am_SH, (f1, g))) rfl ?_
  refine am_Ev.t hcd (o := none) (c := am_in (nI i + 2) sc.1 = true) (s1 := (619, [(0, .ref am_SC), (1, .ref 0), (2, .ref 216), (3, .int (nI i))], [.int x2, .int x1, .ref 216, .int v], am_SH, (f1, g))) (by rw [e2]; exact lw_ial rfl) (lw_inx (k := 2) (by omega) hL) ?_
  refine am_Ev.call hcd (a := 272) (s0 := (0, [(0, .ref 216), (1, .int x1), (2, .int x2)], [], am_SH, (f1, g))) (q := (some (.int v), am_SH, (f1, g1))) (s1 := (620, [(0, .ref am_SC), (1, .ref 0), (2, .ref 216), (3, .int (nI i))], [.int v, .int v], am_SH, (f1, g1))) rfl rfl (m_point_ok 58 x1 x2 g f1 (v, g1) hm) ?_
  refine am_Ev.t hcd (c := v = v) (s1 := (1051, [(0, .ref am_SC), (1, .ref 0), (2, .ref 216), (3, .int (nI i))], [], am_SH, (f1, g1))) rfl rfl ?_
  refine am_Ev.go hcd 2 (s' := (10, [(0, .ref am_SC), (1, .ref 0), (2, .ref 216), (3, .int (nI i + 6))], [], am_SH, (f1, g1))) rfl ?_
  rw [show nI i + 6 = nI (i + 6) from nI_add i 6]
  exact kk
set_option maxRecDepth 100000 in
set_option maxHeartbeats 4000000 in
theorem am_case_23 {sc : Nat × (Nat → Int32)} {f g f1 g1 : (Nat → Nat → Int32)} {i : Nat} {v : Int32} {r : am_R} (hi : i + 6 ≤ sc.1) (hL : sc.1 ≤ 3072) (hx : x_term f = some (v, f1)) (hm : m_term g = some v) (kk : am_Ev sc 60 313 (10, [(0, .ref am_SC), (1, .ref 0), (2, .ref 216), (3, .int (nI (i + 6)))], [], am_SH, (f1, g)) r) : am_Ev sc 60 313 (623, [(0, .ref am_SC), (1, .ref 0), (2, .ref 216), (3, .int (nI i))], [], am_SH, (f, g)) r := by
  have hcd : am_code 313 = am_c313 := rfl
  refine am_Ev.go hcd 1 (s' := (624, [(0, .ref am_SC), (1, .ref 0), (2, .ref 216), (3, .int (nI i))], [.ref 0], am_SH, (f, g))) rfl ?_
  refine am_Ev.call hcd (a := 150) (s0 := (0, [(0, .ref 0)], [], am_SH, (f, g))) (q := (some (.int v), am_SH, (f1, g))) (s1 := (625, [(0, .ref am_SC), (1, .ref 0), (2, .ref 216), (3, .int (nI i))], [.int v], am_SH, (f1, g))) rfl rfl (x_term_ok 54 f g (v, f1) hx) ?_
  refine am_Ev.go hcd 1 (s' := (626, [(0, .ref am_SC), (1, .ref 0), (2, .ref 216), (3, .int (nI i))], [.ref 216, .int v], am_SH, (f1, g))) rfl ?_
  refine am_Ev.call hcd (a := 277) (s0 := (0, [(0, .ref 216)], [], am_SH, (f1, g))) (q := (some (.int v), am_SH, (f1, g))) (s1 := (627, [(0, .ref am_SC), (1, .ref 0), (2, .ref 216), (3, .int (nI i))], [.int v, .int v], am_SH, (f1, g))) rfl rfl (m_term_ok 56 g f1 v hm) ?_
  refine am_Ev.t hcd (c := v = v) (s1 := (1051, [(0, .ref am_SC), (1, .ref 0), (2, .ref 216), (3, .int (nI i))], [], am_SH, (f1, g))) rfl rfl ?_
  refine am_Ev.go hcd 2 (s' := (10, [(0, .ref am_SC), (1, .ref 0), (2, .ref 216), (3, .int (nI i + 6))], [], am_SH, (f1, g))) rfl ?_
  rw [show nI i + 6 = nI (i + 6) from nI_add i 6]
  exact kk
