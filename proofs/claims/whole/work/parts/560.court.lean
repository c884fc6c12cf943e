/-! THE CALLS of the court: glass, witness, set -/
theorem rl_n {f g : Nat → Nat → Int32} (h : rl_Rel f g) : ∃ n m t b : Nat, n ≤ 6 ∧ m ≤ 12 ∧ t ≤ 9999 ∧ b ≤ 150 ∧ f 2 0 = nI n ∧ g 217 69 = nI n ∧ f 2 1 = nI m ∧ g 217 70 = nI m ∧ f 2 2 = nI t ∧ g 217 0 = nI t ∧ f 2 4 = nI b ∧ g 217 2 = nI b := by
  obtain ⟨n, m, t, b, x1, x2, x3, x4, x5, x6, x7, x8, -⟩ := h.1.2.1
  exact ⟨n, m, t, b, x2, x4, x6, x8, by rw [rl_f_gn h]; exact x1, x1, by rw [rl_f_wn h]; exact x3, x3, by rw [rl_f_ti h]; exact x5, x5, by rw [rl_f_bn h]; exact x7, x7⟩
theorem sm_glass (x1 : Int32) (f g : Nat → Nat → Int32) (h : rl_Rel f g) : ∃ (v : Int32) (f1 g1 : Nat → Nat → Int32), x_glass x1 f = some (v, f1) ∧ m_glass x1 g = some (v, g1) ∧ rl_Rel f1 g1 := by
  obtain ⟨n, m, t, b, hn, hm, ht, hb, e1, e2, -⟩ := rl_n h
  unfold x_glass m_glass
  rw [pu_isIn]
  rcases pu_within_cases x1 (lo := 0) (hi := 99) 0 99 with ⟨ca, a, a1, a2, rfl⟩ | ca
  rotate_left
  · exact ⟨-1, f, g, by rw [ca]; rfl, by rw [ca]; rfl, h⟩
  rw [if_pos ca, if_pos ca, e1, e2]
  by_cases h6 : n < 6
  rotate_left
  · have e6 : n = 6 := by omega
    subst e6
    exact ⟨-1, f, g, by rw [if_neg (by decide)], by rw [if_pos (by decide)], h⟩
  rw [if_pos (show nI n < (6 : Int32) from nI_lt (b := 6) h6 (by omega)), if_neg (fun z : nI n = (6 : Int32) => by have := pu_nIinj (a := n) (b := 6) (by omega) (by omega) z; omega)]
  have c1 : am_in (nI n) 6 = true := pu_in h6 (by omega)
  have d3 : am_in (nI (3 + n)) 2008 = true := pu_in (by omega) (by omega)
  have d9 : am_in (nI (9 + n)) 2008 = true := pu_in (by omega) (by omega)
  have d15 : am_in (nI (15 + n)) 2008 = true := pu_in (by omega) (by omega)
  have d21 : am_in (nI (21 + n)) 2008 = true := pu_in (by omega) (by omega)
  refine ⟨nI n, am_up (am_up (am_up (am_up (am_up (am_up (am_up f 0 4 0) 3 n (nI a)) 4 n 300) 5 n (-1)) 6 n (-1)) 7 n 0) 2 0 (nI (n + 1)), am_up (am_up (am_up (am_up (am_up (am_up g 217 (3 + n) (nI a)) 217 (9 + n) 300) 217 (15 + n) (-1)) 217 (21 + n) (-1)) 217 69 (nI (n + 1))) 216 4 0, ?_, ?_, ?_⟩
  · unfold xc_addGlass_2 x_forgetPasts
    simp only [am_let, pu_up_ne _ _ (show (2 : Nat) ≠ 0 by decide), e1, c1, if_true, nI_clamp (show n < 2 ^ 31 by omega), pu_up_ne _ _ (show (2 : Nat) ≠ 3 by decide), pu_up_ne _ _ (show (2 : Nat) ≠ 4 by decide), pu_up_ne _ _ (show (2 : Nat) ≠ 5 by decide), pu_up_ne _ _ (show (2 : Nat) ≠ 6 by decide), pu_up_ne _ _ (show (2 : Nat) ≠ 7 by decide), nI_1]
    rfl
  · unfold m_forgets
    rw [show (3 : Int32) = nI 3 from rfl, show (9 : Int32) = nI 9 from rfl, show (15 : Int32) = nI 15 from rfl, show (21 : Int32) = nI 21 from rfl]
    simp only [am_let, nI_add, d3, d9, d15, d21, if_true, nI_clamp (show 3 + n < 2 ^ 31 by omega), nI_clamp (show 9 + n < 2 ^ 31 by omega), nI_clamp (show 15 + n < 2 ^ 31 by omega), nI_clamp (show 21 + n < 2 ^ 31 by omega), pu_up_row, pu_upd_ne _ _ (show 69 ≠ 3 + n by omega), pu_upd_ne _ _ (show 69 ≠ 9 + n by omega), pu_upd_ne _ _ (show 69 ≠ 15 + n by omega), pu_upd_ne _ _ (show 69 ≠ 21 + n by omega), e2, nI_1]
  · have ew : (am_up (am_up (am_up (am_up (am_up (am_up g 217 (3 + n) (nI a)) 217 (9 + n) 300) 217 (15 + n) (-1)) 217 (21 + n) (-1)) 217 69 (nI (n + 1))) 216 4 0) 217 = upd (upd (upd (upd (upd (g 217) (3 + n) (nI a)) (9 + n) 300) (15 + n) (-1)) (21 + n) (-1)) 69 (nI (n + 1)) := by
      rw [pu_up_ne _ _ (by decide), pu_up_row, pu_up_row, pu_up_row, pu_up_row, pu_up_row]
    have e27 : g 217 (27 + n) = 0 := by
      obtain ⟨n', m', t', b', x1, x2, x3, x4, x5, x6, x7, x8, x9, x10, x11, x12, x13⟩ := h.1.2.1
      obtain ⟨z, z1, z2, z3⟩ := x12 n h6
      have : n = n' := pu_nIinj (by omega) (by omega) (e2.symm.trans x1)
      rw [z1, z3 (by omega)]
      rfl
    refine rl_anew h ⟨fun a h1 h2 => by rw [pu_up_ne _ _ (by omega), pu_up_ne _ _ (by omega), pu_up_ne _ _ (by omega), pu_up_ne _ _ (by omega), pu_up_ne _ _ (by omega), pu_up_ne _ _ (by omega), pu_up_ne _ _ (by omega)], rfl, rfl, rfl, rfl, rfl, rfl, rfl, rfl, rfl, rfl, rfl, rfl, rfl, rfl, rfl, rfl⟩ ?_ (h.rot.none rfl rfl rfl)
    rw [ew]
    refine iv_othx h.1 ?_ ?_ (fun a h1 h2 => by rw [pu_up_ne _ _ (by omega), pu_up_ne _ _ (by omega), pu_up_ne _ _ (by omega), pu_up_ne _ _ (by omega), pu_up_ne _ _ (by omega), pu_up_ne _ _ (by omega), pu_up_ne _ _ (by omega)]) (fun n' e en6 => ⟨n' + 1, by rw [pu_upd_eq, nI_succ n, nI_succ n', ← e, ← e2], by have := pu_nIinj (a := n') (b := n) (by omega) (by omega) (e.symm.trans e2); omega, by omega⟩) (fun m' e em12 => ⟨m', by rw [pu_upd_ne _ _ (by omega), pu_upd_ne _ _ (by omega), pu_upd_ne _ _ (by omega), pu_upd_ne _ _ (by omega), pu_upd_ne _ _ (by omega)]; exact e, em12, Nat.le_refl _⟩) (fun m' e e12 => ⟨m', e12, by rw [pu_upd_ne _ _ (by omega), pu_upd_ne _ _ (by omega), pu_upd_ne _ _ (by omega), pu_upd_ne _ _ (by omega), pu_upd_ne _ _ (by omega)] at e; exact e, Nat.le_refl _⟩) (fun i h1 h2 => by rw [pu_upd_ne _ _ (by omega), pu_upd_ne _ _ (by omega), pu_upd_ne _ _ (by omega), pu_upd_ne _ _ (by omega), pu_upd_ne _ _ (by omega)])
    · have s0 : rl_T rl_W 0 (am_up f 0 4 0) (g 217) := h.1.1.row fun q hq => pu_up_ne _ _ (by have := (rl_lo q hq).1; omega)
      have s1 := rl_w_le (o := 0) s0 h6 (nI a)
      have s2 := rl_w_re (o := 0) s1 h6 300
      have s3 := rl_w_un (o := 0) s2 h6 (-1)
      have s4 := rl_w_sa (o := 0) s3 h6 (-1)
      have s5 := rl_w_of (o := 0) s4 h6 0
      have e5 : upd (upd (upd (upd (upd (g 217) (3 + n) (nI a)) (9 + n) 300) (15 + n) (-1)) (21 + n) (-1)) (27 + n) 0 = upd (upd (upd (upd (g 217) (3 + n) (nI a)) (9 + n) 300) (15 + n) (-1)) (21 + n) (-1) := by
        have : (0 : Int32) = upd (upd (upd (upd (g 217) (3 + n) (nI a)) (9 + n) 300) (15 + n) (-1)) (21 + n) (-1) (27 + n) := by
          rw [pu_upd_ne _ _ (by omega), pu_upd_ne _ _ (by omega), pu_upd_ne _ _ (by omega), pu_upd_ne _ _ (by omega), e27]
        rw [this, pu_upd_self]
      rw [e5] at s5
      exact rl_w_gn (o := 0) s5 (nI (n + 1))
    · have s1 := iv_c_le h.1.2.1 h6 (z := a) (by omega)
      have s2 := iv_c_re s1 h6 300
      have s3 := iv_c_un s2 h6 (v := -1) (Or.inl rfl)
      have s4 := iv_c_sa s3 h6 (v := -1) (Or.inl rfl)
      refine iv_c_gn s4 ?_ h6 ?_ (pu_upd_eq _ _ _)
      · rw [pu_upd_ne _ _ (by omega), pu_upd_ne _ _ (by omega), pu_upd_ne _ _ (by omega), pu_upd_ne _ _ (by omega)]
        exact e2
      · rw [pu_upd_ne _ _ (by omega), pu_upd_eq]
theorem sm_witness (x1 : Int32) (f g : Nat → Nat → Int32) (h : rl_Rel f g) : ∃ (v : Int32) (f1 g1 : Nat → Nat → Int32), x_witness x1 f = some (v, f1) ∧ m_witness x1 g = some (v, g1) ∧ rl_Rel f1 g1 := by
  obtain ⟨n, m, t, b, hn, hm, ht, hb, -, -, e1, e2, -⟩ := rl_n h
  unfold x_witness m_witness
  rw [pu_isIn]
  rcases pu_within_cases x1 (lo := 0) (hi := 9) 0 9 with ⟨ca, a, a1, a2, rfl⟩ | ca
  rotate_left
  · exact ⟨-1, f, g, by rw [ca]; rfl, by rw [ca]; rfl, h⟩
  rw [if_pos ca, if_pos ca, e1, e2]
  by_cases h6 : m < 12
  rotate_left
  · have e6 : m = 12 := by omega
    subst e6
    exact ⟨-1, f, g, by rw [if_neg (by decide)], by rw [if_pos (by decide)], h⟩
  rw [if_pos (show nI m < (12 : Int32) from nI_lt (b := 12) h6 (by omega)), if_neg (fun z : nI m = (12 : Int32) => by have := pu_nIinj (a := m) (b := 12) (by omega) (by omega) z; omega)]
  have c1 : am_in (nI m) 12 = true := pu_in h6 (by omega)
  have d33 : am_in (nI (33 + m)) 2008 = true := pu_in (by omega) (by omega)
  refine ⟨nI m, am_up (am_up (am_up (am_up (am_up (am_up f 0 4 0) 8 m (nI a)) 9 m 0) 10 m 0) 11 m 0) 2 1 (nI (m + 1)), am_up (am_up (am_up g 217 (33 + m) (nI a)) 217 70 (nI (m + 1))) 216 4 0, ?_, ?_, ?_⟩
  · unfold xc_addWitness_2 x_forgetPasts
    simp only [am_let, pu_up_ne _ _ (show (2 : Nat) ≠ 0 by decide), e1, c1, if_true, nI_clamp (show m < 2 ^ 31 by omega), pu_up_ne _ _ (show (2 : Nat) ≠ 8 by decide), pu_up_ne _ _ (show (2 : Nat) ≠ 9 by decide), pu_up_ne _ _ (show (2 : Nat) ≠ 10 by decide), pu_up_ne _ _ (show (2 : Nat) ≠ 11 by decide), nI_1]
    rfl
  · unfold m_forgets
    rw [show (33 : Int32) = nI 33 from rfl]
    simp only [am_let, nI_add, d33, if_true, nI_clamp (show 33 + m < 2 ^ 31 by omega), pu_up_row, pu_up_ne _ _ (show (217 : Nat) ≠ 216 by decide), pu_upd_ne _ _ (show 70 ≠ 33 + m by omega), e2, nI_1, pu_upd_eq, nI_pred]
  · have ew : (am_up (am_up (am_up g 217 (33 + m) (nI a)) 217 70 (nI (m + 1))) 216 4 0) 217 = upd (upd (g 217) (33 + m) (nI a)) 70 (nI (m + 1)) := by
      rw [pu_up_ne _ _ (by decide), pu_up_row, pu_up_row]
    have e0 : g 217 (75 + m) = 0 ∧ g 217 (45 + m) = 0 ∧ g 217 (57 + m) = 0 := by
      obtain ⟨n', m', t', b', x1, x2, x3, x4, x5, x6, x7, x8, x9, x10, x11, x12, x13⟩ := h.1.2.1
      obtain ⟨s, s1, s2, s3⟩ := h.1.2.2.1 m h6
      have : m = m' := pu_nIinj (by omega) (by omega) (e2.symm.trans x3)
      refine ⟨?_, (x13 m h6).2 (by omega)⟩
      rw [s2, s3 m e2 (by omega) (by omega)]
      rfl
    refine rl_anew h ⟨fun a h1 h2 => by rw [pu_up_ne _ _ (by omega), pu_up_ne _ _ (by omega), pu_up_ne _ _ (by omega), pu_up_ne _ _ (by omega), pu_up_ne _ _ (by omega), pu_up_ne _ _ (by omega)], rfl, rfl, rfl, rfl, rfl, rfl, rfl, rfl, rfl, rfl, rfl, rfl, rfl, rfl, rfl, rfl⟩ ?_ (h.rot.none rfl rfl rfl)
    rw [ew]
    refine iv_othx h.1 ?_ ?_ (fun a h1 h2 => by rw [pu_up_ne _ _ (by omega), pu_up_ne _ _ (by omega), pu_up_ne _ _ (by omega), pu_up_ne _ _ (by omega), pu_up_ne _ _ (by omega), pu_up_ne _ _ (by omega)]) (fun n' e en6 => ⟨n', by rw [pu_upd_ne _ _ (by omega), pu_upd_ne _ _ (by omega)]; exact e, en6, Nat.le_refl _⟩) (fun m' e em12 => ⟨m' + 1, by rw [pu_upd_eq, nI_succ m, nI_succ m', ← e, ← e2], by have := pu_nIinj (a := m') (b := m) (by omega) (by omega) (e.symm.trans e2); omega, by omega⟩) (fun m' e e12 => ⟨m, hm, e2, by
        rw [pu_upd_eq] at e
        have := pu_nIinj (by omega) (by omega) e
        omega⟩) (fun i h1 h2 => by rw [pu_upd_ne _ _ (by omega), pu_upd_ne _ _ (by omega)])
    · have s0 : rl_T rl_W 0 (am_up f 0 4 0) (g 217) := h.1.1.row fun q hq => pu_up_ne _ _ (by have := (rl_lo q hq).1; omega)
      have s1 := rl_w_co (o := 0) s0 h6 (nI a)
      have s2 := rl_w_ke (o := 0) s1 h6 0
      have s3 := rl_w_ca (o := 0) s2 h6 0
      have s4 := rl_w_gi (o := 0) s3 h6 0
      have q1 : upd (upd (g 217) (33 + m) (nI a)) (75 + m) 0 = upd (g 217) (33 + m) (nI a) := by
        have : (0 : Int32) = upd (g 217) (33 + m) (nI a) (75 + m) := by rw [pu_upd_ne _ _ (by omega), e0.1]
        rw [this, pu_upd_self]
      have q2 : upd (upd (g 217) (33 + m) (nI a)) (45 + m) 0 = upd (g 217) (33 + m) (nI a) := by
        have : (0 : Int32) = upd (g 217) (33 + m) (nI a) (45 + m) := by rw [pu_upd_ne _ _ (by omega), e0.2.1]
        rw [this, pu_upd_self]
      have q3 : upd (upd (g 217) (33 + m) (nI a)) (57 + m) 0 = upd (g 217) (33 + m) (nI a) := by
        have : (0 : Int32) = upd (g 217) (33 + m) (nI a) (57 + m) := by rw [pu_upd_ne _ _ (by omega), e0.2.2]
        rw [this, pu_upd_self]
      rw [q1, q2, q3] at s4
      exact rl_w_wn (o := 0) s4 (nI (m + 1))
    · refine iv_c_wn (iv_c_co h.1.2.1 h6 (z := a) a2) ?_ h6
      rw [pu_upd_ne _ _ (by omega)]
      exact e2
/-- a cell of the court, and its place, are written; nothing can be undone then -/
theorem rl_court0 {f g : Nat → Nat → Int32} (h : rl_Rel f g) {a j i : Nat} {v : Int32} (ha : 2 ≤ a) (ha2 : a ≤ 11) (hT : rl_T rl_W 0 (am_up f a j v) (upd (g 217) i v)) (hC : iv_C 9999 (upd (g 217) i v)) (hi : i < 69) : rl_Rel (am_up (am_up f a j v) 0 4 0) (am_up (am_up g 217 i v) 216 4 0) := by
  have ne : ∀ x, x ≠ a → x ≠ 0 → am_up (am_up f a j v) 0 4 0 x = f x := fun x h1 h2 => by rw [pu_up_ne _ _ h2, pu_up_ne _ _ h1]
  have n0 : ∀ y, y ≠ 4 → am_up (am_up f a j v) 0 4 0 0 y = f 0 y := fun y hy => by rw [pu_up_row, pu_upd_ne _ _ hy, pu_up_ne _ _ (by omega)]
  refine rl_anew h ⟨fun x h1 h2 => ne x (by omega) (by omega), n0 2 (by decide), by rw [ne 123 (by omega) (by decide)], ne 124 (by omega) (by decide), by rw [ne 128 (by omega) (by decide)], by rw [ne 128 (by omega) (by decide)], by rw [ne 143 (by omega) (by decide)], by rw [ne 143 (by omega) (by decide)], ne 150 (by omega) (by decide), ne 153 (by omega) (by decide), by rw [ne 144 (by omega) (by decide)], rfl, rfl, rfl, rfl, rfl, rfl⟩ ?_ (h.rot.none (ne 109 (by omega) (by decide)) (by rw [pu_up_row, pu_upd_eq]) rfl)
  rw [show (am_up (am_up g 217 i v) 216 4 0) 217 = upd (g 217) i v from by rw [pu_up_ne _ _ (by decide), pu_up_row]]
  refine iv_oth h.1 (hT.row fun q hq => pu_up_ne _ _ (by have := (rl_lo q hq).1; omega)) hC (fun x h1 h2 => ne _ (by omega) (by omega)) (fun x h1 h2 => pu_upd_ne _ _ (by omega))
theorem sm_set (x1 x2 x3 : Int32) (f g : Nat → Nat → Int32) (h : rl_Rel f g) : ∃ (v : Bool) (f1 g1 : Nat → Nat → Int32), x_set x1 x2 x3 f = some (v, f1) ∧ m_set x1 x2 x3 g = some (v, g1) ∧ rl_Rel f1 g1 := by
  obtain ⟨n, m, t, b, hn, hm, ht, hb, e1, e2, e3, e4, -⟩ := rl_n h
  unfold x_set m_set x_forgetPasts m_forgets
  simp only [am_let, pu_isIn]
  by_cases h0 : x1 = 0
  · subst h0
    simp only [if_true, show ¬ ((0 : Int32) = 1) by decide, show ¬ ((0 : Int32) = 2) by decide, if_false]
    rcases pu_glass x2 hn e1 e2 with ⟨i, hi, rfl, b1, b2⟩ | ⟨b1, b2⟩
    · rcases pu_within_cases x3 (lo := 0) (hi := 99) 0 99 with ⟨ca, a, a1, a2, rfl⟩ | ca
      · simp only [b1, b2, ca, if_true, pu_in (show i < 6 by omega) (by omega), nI_clamp (show i < 2 ^ 31 by omega), show (3 : Int32) = nI 3 from rfl, nI_add, pu_in (show 3 + i < 2008 by omega) (by omega), nI_clamp (show 3 + i < 2 ^ 31 by omega)]
        exact ⟨true, _, _, rfl, rfl, rl_court0 h (by decide) (by decide) (rl_w_le (o := 0) h.1.1 (by omega) _) (iv_c_le h.1.2.1 (by omega) a2) (by omega)⟩
      · simp only [b1, b2, ca, if_true, Bool.false_eq_true, if_false]
        exact ⟨false, f, g, rfl, rfl, h⟩
    · simp only [b1, b2, Bool.false_eq_true, if_false]
      exact ⟨false, f, g, rfl, rfl, h⟩
  simp only [h0, if_false]
  by_cases h1 : x1 = 1
  · subst h1
    simp only [if_true, show ¬ ((1 : Int32) = 2) by decide, if_false]
    rcases pu_glass x2 hn e1 e2 with ⟨i, hi, rfl, b1, b2⟩ | ⟨b1, b2⟩
    · rcases pu_within_cases x3 (lo := 300) (hi := 420) 300 420 with ⟨ca, a, a1, a2, rfl⟩ | ca
      · simp only [b1, b2, ca, if_true, pu_in (show i < 6 by omega) (by omega), nI_clamp (show i < 2 ^ 31 by omega), show (9 : Int32) = nI 9 from rfl, nI_add, pu_in (show 9 + i < 2008 by omega) (by omega), nI_clamp (show 9 + i < 2 ^ 31 by omega)]
        exact ⟨true, _, _, rfl, rfl, rl_court0 h (by decide) (by decide) (rl_w_re (o := 0) h.1.1 (by omega) _) (iv_c_re h.1.2.1 (by omega) _) (by omega)⟩
      · simp only [b1, b2, ca, if_true, Bool.false_eq_true, if_false]
        exact ⟨false, f, g, rfl, rfl, h⟩
    · simp only [b1, b2, Bool.false_eq_true, if_false]
      exact ⟨false, f, g, rfl, rfl, h⟩
  simp only [h1, if_false]
  by_cases h2 : x1 = 2
  · subst h2
    simp only [if_true]
    rcases pu_witness x2 hm e3 e4 with ⟨i, hi, rfl, b1, b2⟩ | ⟨b1, b2⟩
    · rcases pu_within_cases x3 (lo := 0) (hi := 9) 0 9 with ⟨ca, a, a1, a2, rfl⟩ | ca
      · simp only [b1, b2, ca, if_true, pu_in (show i < 12 by omega) (by omega), nI_clamp (show i < 2 ^ 31 by omega), show (33 : Int32) = nI 33 from rfl, nI_add, pu_in (show 33 + i < 2008 by omega) (by omega), nI_clamp (show 33 + i < 2 ^ 31 by omega)]
        exact ⟨true, _, _, rfl, rfl, rl_court0 h (by decide) (by decide) (rl_w_co (o := 0) h.1.1 (by omega) _) (iv_c_co h.1.2.1 (by omega) a2) (by omega)⟩
      · simp only [b1, b2, ca, if_true, Bool.false_eq_true, if_false]
        exact ⟨false, f, g, rfl, rfl, h⟩
    · simp only [b1, b2, Bool.false_eq_true, if_false]
      exact ⟨false, f, g, rfl, rfl, h⟩
  · simp only [h2, Bool.false_eq_true, if_false]
    exact ⟨false, f, g, rfl, rfl, h⟩
