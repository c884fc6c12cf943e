/-! A GLASS BEHELD -/
def bh_m (rd le sd kp ca of i ti : Int32) (nr co : Int32) (u : Nat → Int32) : Nat → Int32 := upd (upd (upd (upd (upd (upd (upd (upd (upd (upd u 1 nr) 2 co) 3 rd) 4 le) 5 sd) 6 kp) 7 ca) 8 of) 9 i) 10 ti
def bh_x (rd le sd kp ca of i ti : Int32) (nr co : Int32) (u : Nat → Int32) : Nat → Int32 := upd (upd (upd (upd (upd (upd (upd (upd (upd (upd u 7 nr) 8 co) 9 rd) 10 le) 11 sd) 12 kp) 13 ca) 14 of) 15 i) 16 ti
theorem bh_xm (rd le sd kp ca of i ti nr co : Int32) (u u' : Nat → Int32) (q : Nat) (h1 : 1 ≤ q) (h2 : q ≤ 10) : bh_x rd le sd kp ca of i ti nr co u (q + 6) = bh_m rd le sd kp ca of i ti nr co u' q := by
  rcases (show q = 1 ∨ q = 2 ∨ q = 3 ∨ q = 4 ∨ q = 5 ∨ q = 6 ∨ q = 7 ∨ q = 8 ∨ q = 9 ∨ q = 10 by omega) with rfl | rfl | rfl | rfl | rfl | rfl | rfl | rfl | rfl | rfl <;> rfl
def bh_s (t : Int32) : Int32 := am_b (if t = -1 then false else true)
/-- the model's part, without and with a witness -/
theorem bh_m0 {g : Nat → Nat → Int32} {i : Nat} (hi : i < 6) (t : Int32) (hu : g 217 (15 + i) = -1) : m_asks (nI i) t g = some (am_row g 226 (bh_m (g 217 (9 + i)) (g 217 (3 + i)) (bh_s t) 0 0 (g 217 (27 + i)) (nI i) (g 217 0) 0 0 (g 226))) ∧ m_nearOf (nI i) t g = some 0 := by
  have d15 : am_in (nI (15 + i)) 2008 = true := pu_in (by omega) (by omega)
  have d9 : am_in (nI (9 + i)) 2008 = true := pu_in (by omega) (by omega)
  have d3 : am_in (nI (3 + i)) 2008 = true := pu_in (by omega) (by omega)
  have d27 : am_in (nI (27 + i)) 2008 = true := pu_in (by omega) (by omega)
  have a15 : (15 : Int32) + nI i = nI (15 + i) := nI_add 15 i
  have a9 : (9 : Int32) + nI i = nI (9 + i) := nI_add 9 i
  have a3 : (3 : Int32) + nI i = nI (3 + i) := nI_add 3 i
  have a27 : (27 : Int32) + nI i = nI (27 + i) := nI_add 27 i
  have hn : m_nearOf (nI i) t g = some 0 := by
    unfold m_nearOf
    rw [a15, if_pos d15, nI_clamp (by omega), if_pos hu]
  refine ⟨?_, hn⟩
  unfold m_asks
  rw [a15, if_pos d15, nI_clamp (by omega), hu, pu_letE, hn, pu_bs, pu_letE, if_pos rfl, pu_bs, pu_letE]
  have e0 : am_up g 226 1 0 = am_row g 226 (upd (g 226) 1 0) := rfl
  simp only [e0, row_up, row_ne g _ (show (217 : Nat) ≠ 226 by decide), a9, a3, a27, d9, d3, d27, if_true, nI_clamp (show 9 + i < 2 ^ 31 by omega), nI_clamp (show 3 + i < 2 ^ 31 by omega), nI_clamp (show 27 + i < 2 ^ 31 by omega), pu_letE, pu_bs]
  rfl
theorem bh_m1 {g : Nat → Nat → Int32} {i p S : Nat} {t z : Int32} (hi : i < 6) (hp : p < 12) (hu : g 217 (15 + i) = nI p) (hS : S < 65536) (hk : g 217 (75 + p) = nI S) (hz : m_nearnessOf (nI S) t g = some z) : m_asks (nI i) t g = some (am_row g 226 (bh_m (g 217 (9 + i)) (g 217 (3 + i)) (bh_s t) (ji_bitCount (nI S)) (g 217 (45 + p)) (g 217 (27 + i)) (nI i) (g 217 0) z (g 217 (33 + p)) (g 226))) ∧ m_nearOf (nI i) t g = some z := by
  have d15 : am_in (nI (15 + i)) 2008 = true := pu_in (by omega) (by omega)
  have d9 : am_in (nI (9 + i)) 2008 = true := pu_in (by omega) (by omega)
  have d3 : am_in (nI (3 + i)) 2008 = true := pu_in (by omega) (by omega)
  have d27 : am_in (nI (27 + i)) 2008 = true := pu_in (by omega) (by omega)
  have d75 : am_in (nI (75 + p)) 2008 = true := pu_in (by omega) (by omega)
  have d45 : am_in (nI (45 + p)) 2008 = true := pu_in (by omega) (by omega)
  have d33 : am_in (nI (33 + p)) 2008 = true := pu_in (by omega) (by omega)
  have a15 : (15 : Int32) + nI i = nI (15 + i) := nI_add 15 i
  have a9 : (9 : Int32) + nI i = nI (9 + i) := nI_add 9 i
  have a3 : (3 : Int32) + nI i = nI (3 + i) := nI_add 3 i
  have a27 : (27 : Int32) + nI i = nI (27 + i) := nI_add 27 i
  have a75 : (75 : Int32) + nI p = nI (75 + p) := nI_add 75 p
  have a45 : (45 : Int32) + nI p = nI (45 + p) := nI_add 45 p
  have a33 : (33 : Int32) + nI p = nI (33 + p) := nI_add 33 p
  have np : ¬ nI p = -1 := pu_neg1 (by omega)
  have hn : m_nearOf (nI i) t g = some z := by
    unfold m_nearOf
    rw [a15, if_pos d15, nI_clamp (by omega), hu, if_neg np, if_pos d15, a75, if_pos d75, nI_clamp (by omega), hk, hz, pu_bs]
  refine ⟨?_, hn⟩
  unfold m_asks
  rw [a15, if_pos d15, nI_clamp (by omega), hu, pu_letE, hn, pu_bs, pu_letE, if_neg np, a33, if_pos d33, pu_bs, pu_letE]
  have e0 : am_up g 226 1 z = am_row g 226 (upd (g 226) 1 z) := rfl
  simp only [e0, row_up, row_ne g _ (show (217 : Nat) ≠ 226 by decide), a9, a3, a27, a75, a45, d9, d3, d27, d75, d45, np, if_true, if_false, nI_clamp (show 9 + i < 2 ^ 31 by omega), nI_clamp (show 3 + i < 2 ^ 31 by omega), nI_clamp (show 27 + i < 2 ^ 31 by omega), nI_clamp (show 75 + p < 2 ^ 31 by omega), nI_clamp (show 45 + p < 2 ^ 31 by omega), nI_clamp (show 33 + p < 2 ^ 31 by omega), hk, bt_eq hS, pu_letE, pu_bs]
  rfl
theorem bh_x0_2 {f : Nat → Nat → Int32} {i : Nat} (hi : i < 6) (hu : f 5 i = -1) : xb_behold_2 (nI i) f = some (am_row f 121 (bh_x (f 4 i) (f 3 i) (bh_s (f 6 i)) 0 0 (f 7 i) (nI i) (f 2 2) 0 0 (f 121))) := by
  have c6 : am_in (nI i) 6 = true := pu_in (by omega) (by omega)
  have hw : xc_hasWitness_2 (-1) f = false := by
    unfold xc_hasWitness_2
    rw [if_pos (by decide)]
  unfold xb_behold_2
  rw [if_pos c6, nI_clamp (by omega), hu, pu_letE, hw, pu_letE, if_neg (show ¬ false = true by decide), pu_bs, pu_letE]
  have e0 : am_up f 121 7 0 = am_row f 121 (upd (f 121) 7 0) := rfl
  simp only [e0, row_up, row_ne f _ (show (2 : Nat) ≠ 121 by decide), row_ne f _ (show (3 : Nat) ≠ 121 by decide), row_ne f _ (show (4 : Nat) ≠ 121 by decide), row_ne f _ (show (6 : Nat) ≠ 121 by decide), row_ne f _ (show (7 : Nat) ≠ 121 by decide), c6, if_true, Bool.false_eq_true, if_false, nI_clamp (show i < 2 ^ 31 by omega), pu_letE, pu_bs]
  rfl
theorem bh_x1_2 {f : Nat → Nat → Int32} {i p m : Nat} {z : Int32} (hi : i < 6) (hm : f 2 1 = nI m) (hm12 : m ≤ 12) (hp : p < m) (hu : f 5 i = nI p) (hz : xn_nearness_25 (f 9 p) (f 6 i) f = some z) : xb_behold_2 (nI i) f = some (am_row f 121 (bh_x (f 4 i) (f 3 i) (bh_s (f 6 i)) (ji_bitCount (f 9 p)) (f 10 p) (f 7 i) (nI i) (f 2 2) z (f 8 p) (f 121))) := by
  have c6 : am_in (nI i) 6 = true := pu_in (by omega) (by omega)
  have c12 : am_in (nI p) 12 = true := pu_in (by omega) (by omega)
  have hw : xc_hasWitness_2 (nI p) f = true := by
    unfold xc_hasWitness_2
    rw [hm, if_neg (nI_pos (by omega)), if_pos (nI_lt hp (by omega))]
  unfold xb_behold_2
  rw [if_pos c6, nI_clamp (by omega), hu, pu_letE, hw, pu_letE, if_pos rfl, if_pos c12, if_pos c6, nI_clamp (by omega), hz, pu_bs, pu_bs, pu_letE]
  have e0 : am_up f 121 7 z = am_row f 121 (upd (f 121) 7 z) := rfl
  simp only [e0, row_up, row_ne f _ (show (2 : Nat) ≠ 121 by decide), row_ne f _ (show (3 : Nat) ≠ 121 by decide), row_ne f _ (show (4 : Nat) ≠ 121 by decide), row_ne f _ (show (6 : Nat) ≠ 121 by decide), row_ne f _ (show (7 : Nat) ≠ 121 by decide), row_ne f _ (show (8 : Nat) ≠ 121 by decide), row_ne f _ (show (9 : Nat) ≠ 121 by decide), row_ne f _ (show (10 : Nat) ≠ 121 by decide), c6, c12, if_true, nI_clamp (show i < 2 ^ 31 by omega), nI_clamp (show p < 2 ^ 31 by omega), pu_letE, pu_bs]
  rfl
theorem bh_2 {c : Nat → Nat} {T : Nat} {f g : Nat → Nat → Int32} (h : tk_P 0 c T f g) {n i : Nat} (en : g 217 69 = nI n) (hn : n ≤ 6) (hi : i < n) (ht : f 6 i = -1 ∨ ∃ q, q < 16 ∧ f 6 i = nI q) : ∃ r r' : Nat → Int32, xb_behold_2 (nI i) f = some (am_row f 121 r) ∧ m_asks (nI i) (f 6 i) g = some (am_row g 226 r') ∧ m_nearOf (nI i) (f 6 i) g = some (r' 1) ∧ (∀ q, 1 ≤ q → q ≤ 10 → r (q + 6) = r' q) ∧ (∃ a, a ≤ 10 ∧ r' 1 = nI a) ∧ (∃ d, d ≤ 9 ∧ r' 2 = nI d) := by
  obtain ⟨n', m, t, b, x1, x2, x3, x4, x5, x6, x7, x8, x9, x10, x11, x12, x13⟩ := id h.2.2.1
  have enn : n = n' := pu_nIinj (by omega) (by omega) (en.symm.trans x1)
  subst enn
  have u1 : f 5 i = g 217 (15 + i) := rl_g_un (o := 0) h.1 (by omega)
  have v2 : f 4 i = g 217 (9 + i) := rl_g_re (o := 0) h.1 (by omega)
  have v1 : f 3 i = g 217 (3 + i) := rl_g_le (o := 0) h.1 (by omega)
  have v5 : f 7 i = g 217 (27 + i) := rl_g_of (o := 0) h.1 (by omega)
  have vt : f 2 2 = g 217 0 := rl_g_ti (o := 0) h.1
  have vm : f 2 1 = nI m := (rl_g_wn (o := 0) h.1).trans x3
  rcases x10 i hi with hu | ⟨p, hp, hu⟩
  · obtain ⟨m1, m2⟩ := bh_m0 (show i < 6 by omega) (f 6 i) hu
    refine ⟨_, _, bh_x0_2 (by omega) (u1.trans hu), m1, m2, ?_, ⟨0, by decide, rfl⟩, ⟨0, by decide, rfl⟩⟩
    intro q q1 q2
    rw [v2, v1, v5, vt]
    exact bh_xm _ _ _ _ _ _ _ _ _ _ _ _ q q1 q2
  · obtain ⟨S, hS, hk, -⟩ := h.2.2.2.1 p (by omega)
    have v7 : f 9 p = g 217 (75 + p) := rl_g_ke (o := 0) h.1 (by omega)
    have v8 : f 10 p = g 217 (45 + p) := rl_g_ca (o := 0) h.1 (by omega)
    have v6 : f 8 p = g 217 (33 + p) := rl_g_co (o := 0) h.1 (by omega)
    have hf26 : ∀ j, j < 256 → f 26 j = g 217 (87 + j) := by
      intro j hj
      have hq : ((26, 0, 87, 256, 1) : rl_B) ∈ rl_X := List.mem_of_getElem? (i := 4) rfl
      have := h.2.1 _ hq j hj
      rw [show rl_ix (26, 0, 87, 256, 1) j = 87 + j from by show 87 + 1 * j = _; omega] at this
      rw [← this]
      show f 26 j = f 26 (0 + j)
      rw [Nat.zero_add]
    obtain ⟨z, hz, z1, z2⟩ := nr_eq hf26 h.2.2.2.2.1 (nI S) ht
    obtain ⟨m1, m2⟩ := bh_m1 (show i < 6 by omega) (show p < 12 by omega) hu hS hk z2
    obtain ⟨d, d1, d2⟩ := (x13 p (by omega)).1
    refine ⟨_, _, bh_x1_2 (by omega) vm x4 hp (u1.trans hu) (by rw [v7, hk]; exact z1), m1, m2, ?_, ⟨z, hz, rfl⟩, ⟨d, d1, d2⟩⟩
    intro q q1 q2
    rw [v2, v1, v5, vt, v6, v7, v8, hk]
    exact bh_xm _ _ _ _ _ _ _ _ _ _ _ _ q q1 q2
theorem bh_x0_110 {f : Nat → Nat → Int32} {i : Nat} (hi : i < 6) (hu : f 113 i = -1) : xb_behold_110 (nI i) f = some (am_row f 121 (bh_x (f 112 i) (f 111 i) (bh_s (f 114 i)) 0 0 (f 115 i) (nI i) (f 110 2) 0 0 (f 121))) := by
  have c6 : am_in (nI i) 6 = true := pu_in (by omega) (by omega)
  have hw : xc_hasWitness_110 (-1) f = false := by
    unfold xc_hasWitness_110
    rw [if_pos (by decide)]
  unfold xb_behold_110
  rw [if_pos c6, nI_clamp (by omega), hu, pu_letE, hw, pu_letE, if_neg (show ¬ false = true by decide), pu_bs, pu_letE]
  have e0 : am_up f 121 7 0 = am_row f 121 (upd (f 121) 7 0) := rfl
  simp only [e0, row_up, row_ne f _ (show (110 : Nat) ≠ 121 by decide), row_ne f _ (show (111 : Nat) ≠ 121 by decide), row_ne f _ (show (112 : Nat) ≠ 121 by decide), row_ne f _ (show (114 : Nat) ≠ 121 by decide), row_ne f _ (show (115 : Nat) ≠ 121 by decide), c6, if_true, Bool.false_eq_true, if_false, nI_clamp (show i < 2 ^ 31 by omega), pu_letE, pu_bs]
  rfl
theorem bh_x1_110 {f : Nat → Nat → Int32} {i p m : Nat} {z : Int32} (hi : i < 6) (hm : f 110 1 = nI m) (hm12 : m ≤ 12) (hp : p < m) (hu : f 113 i = nI p) (hz : xn_nearness_25 (f 117 p) (f 114 i) f = some z) : xb_behold_110 (nI i) f = some (am_row f 121 (bh_x (f 112 i) (f 111 i) (bh_s (f 114 i)) (ji_bitCount (f 117 p)) (f 118 p) (f 115 i) (nI i) (f 110 2) z (f 116 p) (f 121))) := by
  have c6 : am_in (nI i) 6 = true := pu_in (by omega) (by omega)
  have c12 : am_in (nI p) 12 = true := pu_in (by omega) (by omega)
  have hw : xc_hasWitness_110 (nI p) f = true := by
    unfold xc_hasWitness_110
    rw [hm, if_neg (nI_pos (by omega)), if_pos (nI_lt hp (by omega))]
  unfold xb_behold_110
  rw [if_pos c6, nI_clamp (by omega), hu, pu_letE, hw, pu_letE, if_pos rfl, if_pos c12, if_pos c6, nI_clamp (by omega), hz, pu_bs, pu_bs, pu_letE]
  have e0 : am_up f 121 7 z = am_row f 121 (upd (f 121) 7 z) := rfl
  simp only [e0, row_up, row_ne f _ (show (110 : Nat) ≠ 121 by decide), row_ne f _ (show (111 : Nat) ≠ 121 by decide), row_ne f _ (show (112 : Nat) ≠ 121 by decide), row_ne f _ (show (114 : Nat) ≠ 121 by decide), row_ne f _ (show (115 : Nat) ≠ 121 by decide), row_ne f _ (show (116 : Nat) ≠ 121 by decide), row_ne f _ (show (117 : Nat) ≠ 121 by decide), row_ne f _ (show (118 : Nat) ≠ 121 by decide), c6, c12, if_true, nI_clamp (show i < 2 ^ 31 by omega), nI_clamp (show p < 2 ^ 31 by omega), pu_letE, pu_bs]
  rfl
theorem bh_110 {c : Nat → Nat} {T : Nat} {f g : Nat → Nat → Int32} (h : tk_P 108 c T f g) {n i : Nat} (en : g 217 69 = nI n) (hn : n ≤ 6) (hi : i < n) (ht : f 114 i = -1 ∨ ∃ q, q < 16 ∧ f 114 i = nI q) : ∃ r r' : Nat → Int32, xb_behold_110 (nI i) f = some (am_row f 121 r) ∧ m_asks (nI i) (f 114 i) g = some (am_row g 226 r') ∧ m_nearOf (nI i) (f 114 i) g = some (r' 1) ∧ (∀ q, 1 ≤ q → q ≤ 10 → r (q + 6) = r' q) ∧ (∃ a, a ≤ 10 ∧ r' 1 = nI a) ∧ (∃ d, d ≤ 9 ∧ r' 2 = nI d) := by
  obtain ⟨n', m, t, b, x1, x2, x3, x4, x5, x6, x7, x8, x9, x10, x11, x12, x13⟩ := id h.2.2.1
  have enn : n = n' := pu_nIinj (by omega) (by omega) (en.symm.trans x1)
  subst enn
  have u1 : f 113 i = g 217 (15 + i) := rl_g_un (o := 108) h.1 (by omega)
  have v2 : f 112 i = g 217 (9 + i) := rl_g_re (o := 108) h.1 (by omega)
  have v1 : f 111 i = g 217 (3 + i) := rl_g_le (o := 108) h.1 (by omega)
  have v5 : f 115 i = g 217 (27 + i) := rl_g_of (o := 108) h.1 (by omega)
  have vt : f 110 2 = g 217 0 := rl_g_ti (o := 108) h.1
  have vm : f 110 1 = nI m := (rl_g_wn (o := 108) h.1).trans x3
  rcases x10 i hi with hu | ⟨p, hp, hu⟩
  · obtain ⟨m1, m2⟩ := bh_m0 (show i < 6 by omega) (f 114 i) hu
    refine ⟨_, _, bh_x0_110 (by omega) (u1.trans hu), m1, m2, ?_, ⟨0, by decide, rfl⟩, ⟨0, by decide, rfl⟩⟩
    intro q q1 q2
    rw [v2, v1, v5, vt]
    exact bh_xm _ _ _ _ _ _ _ _ _ _ _ _ q q1 q2
  · obtain ⟨S, hS, hk, -⟩ := h.2.2.2.1 p (by omega)
    have v7 : f 117 p = g 217 (75 + p) := rl_g_ke (o := 108) h.1 (by omega)
    have v8 : f 118 p = g 217 (45 + p) := rl_g_ca (o := 108) h.1 (by omega)
    have v6 : f 116 p = g 217 (33 + p) := rl_g_co (o := 108) h.1 (by omega)
    have hf26 : ∀ j, j < 256 → f 26 j = g 217 (87 + j) := by
      intro j hj
      have hq : ((26, 0, 87, 256, 1) : rl_B) ∈ rl_X := List.mem_of_getElem? (i := 4) rfl
      have := h.2.1 _ hq j hj
      rw [show rl_ix (26, 0, 87, 256, 1) j = 87 + j from by show 87 + 1 * j = _; omega] at this
      rw [← this]
      show f 26 j = f 26 (0 + j)
      rw [Nat.zero_add]
    obtain ⟨z, hz, z1, z2⟩ := nr_eq hf26 h.2.2.2.2.1 (nI S) ht
    obtain ⟨m1, m2⟩ := bh_m1 (show i < 6 by omega) (show p < 12 by omega) hu hS hk z2
    obtain ⟨d, d1, d2⟩ := (x13 p (by omega)).1
    refine ⟨_, _, bh_x1_110 (by omega) vm x4 hp (u1.trans hu) (by rw [v7, hk]; exact z1), m1, m2, ?_, ⟨z, hz, rfl⟩, ⟨d, d1, d2⟩⟩
    intro q q1 q2
    rw [v2, v1, v5, vt, v6, v7, v8, hk]
    exact bh_xm _ _ _ _ _ _ _ _ _ _ _ _ q q1 q2
