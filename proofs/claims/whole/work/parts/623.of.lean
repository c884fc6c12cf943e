theorem of_law {f g : Nat → Nat → Int32} (h : rl_Rel f g) {n i k : Nat} (en : g 217 69 = nI n) (hn : n ≤ 6) (hi : i < n) (hk : k < 3) : ∃ v f1 g1 g0, xb_lawTells_2 (nI i) (nI k) f = some (v, f1) ∧ m_asks (nI i) (g 217 (21 + i)) g = some g0 ∧ m_lawSays (nI (20 + k)) (lw_def (g0 226) k) (lw_top k) g0 = some (v, g1) ∧ m_nearOf (nI i) (g 217 (21 + i)) g = some (g0 226 1) ∧ rl_Rel f1 g1 := by
  obtain ⟨n', m, t, b, x1, x2, x3, x4, x5, x6, x7, x8, x9, x10, x11, x12, x13⟩ := id h.1.2.1
  have enn : n = n' := pu_nIinj (by omega) (by omega) (en.symm.trans x1)
  subst enn
  have e6 : f 6 i = g 217 (21 + i) := rl_f_sa h (by omega)
  obtain ⟨f1, g1, b1, b2, b3, b4, b5, b6, b7, b8⟩ := ask_2 h.P en hn hi (by rw [e6]; exact x11 i hi)
  obtain ⟨v, u1, u1', c1, c2, c3⟩ := b8 k hk (f1 122) (g1 225)
  rw [row_self] at c1 c2
  rw [e6] at b2 b5
  refine ⟨v, am_row f1 122 u1, _, g1, ?_, b2, c2, b5, ?_⟩
  · unfold xb_lawTells_2
    rw [b1, pu_bs, c1, pu_bs]
  · refine h.congr ?_ ?_
    · have q : ∀ x, x ≠ 121 → x ≠ 122 → am_row f1 122 u1 x = f x := fun x y z => by rw [row_ne _ _ z, b3 x y]
      exact ⟨fun a y z => q a (by omega) (by omega), fun a y => q a (by omega) (by omega), by rw [q 0 (by decide) (by decide)], by rw [q 0 (by decide) (by decide)], by rw [q 123 (by decide) (by decide)], q 124 (by decide) (by decide), by rw [q 128 (by decide) (by decide)], by rw [q 128 (by decide) (by decide)], by rw [q 143 (by decide) (by decide)], by rw [q 143 (by decide) (by decide)], q 150 (by decide) (by decide), q 153 (by decide) (by decide), by rw [q 144 (by decide) (by decide)]⟩
    · have q : ∀ x, x ≠ 226 → x ≠ 225 → am_row g1 225 u1' x = g x := fun x y z => by rw [row_ne _ _ z, b4 x y]
      exact ⟨q 217 (by decide) (by decide), q 218 (by decide) (by decide), q 219 (by decide) (by decide), q 224 (by decide) (by decide), by rw [q 216 (by decide) (by decide)], by rw [q 216 (by decide) (by decide)], by rw [q 216 (by decide) (by decide)], by rw [q 216 (by decide) (by decide)], by rw [q 216 (by decide) (by decide)]⟩
theorem of_near {f g : Nat → Nat → Int32} (h : rl_Rel f g) {n i : Nat} (en : g 217 69 = nI n) (hn : n ≤ 6) (hi : i < n) : ∃ v f1, xb_glassNearness_2 (nI i) f = some (v, f1) ∧ m_nearOf (nI i) (g 217 (21 + i)) g = some v ∧ rl_Rel f1 g := by
  obtain ⟨n', m, t, b, x1, x2, x3, x4, x5, x6, x7, x8, x9, x10, x11, x12, x13⟩ := id h.1.2.1
  have enn : n = n' := pu_nIinj (by omega) (by omega) (en.symm.trans x1)
  subst enn
  have e6 : f 6 i = g 217 (21 + i) := rl_f_sa h (by omega)
  obtain ⟨f1, g1, b1, b2, b3, b4, b5, b6, b7, b8⟩ := ask_2 h.P en hn hi (by rw [e6]; exact x11 i hi)
  rw [e6] at b2 b5
  refine ⟨_, f1, ?_, b5, h.congr ?_ rl_sm.rf⟩
  · unfold xb_glassNearness_2
    rw [b1, pu_bs, b6]
  · exact ⟨fun a y z => b3 a (by omega), fun a y => b3 a (by omega), by rw [b3 0 (by decide)], by rw [b3 0 (by decide)], by rw [b3 123 (by decide)], b3 124 (by decide), by rw [b3 128 (by decide)], by rw [b3 128 (by decide)], by rw [b3 143 (by decide)], by rw [b3 143 (by decide)], b3 150 (by decide), b3 153 (by decide), by rw [b3 144 (by decide)]⟩
theorem sm_of (x1 x2 : Int32) (f g : Nat → Nat → Int32) (h : rl_Rel f g) : ∃ (v : Int32) (f1 g1 : Nat → Nat → Int32), x_of x1 x2 f = some (v, f1) ∧ m_of x1 x2 g = some (v, g1) ∧ rl_Rel f1 g1 := by
  obtain ⟨n, m, t, b, hn, hm, ht, hb, e1, e2, -⟩ := rl_n h
  unfold x_of m_of
  rcases pu_glass x1 hn e1 e2 with ⟨i, hi, rfl, c1, c2⟩ | ⟨c1, c2⟩
  rotate_left
  · exact ⟨-2, f, g, by rw [c1]; rfl, by rw [c2]; rfl, h⟩
  have c6 : am_in (nI i) 6 = true := pu_in (by omega) (by omega)
  have k0 : ∀ k, k ≤ 100 → (nI k + nI i) = nI (k + i) := fun k hk => nI_add k i
  have k1 : ∀ k, k ≤ 100 → am_in (nI (k + i)) 2008 = true := fun k hk => pu_in (by omega) (by omega)
  rw [if_pos c1, if_pos c2, if_pos c6, nI_clamp (by omega)]
  rw [show (3 : Int32) + nI i = nI (3 + i) from k0 3 (by decide), show (9 : Int32) + nI i = nI (9 + i) from k0 9 (by decide), show (15 : Int32) + nI i = nI (15 + i) from k0 15 (by decide), show (21 : Int32) + nI i = nI (21 + i) from k0 21 (by decide), show (27 : Int32) + nI i = nI (27 + i) from k0 27 (by decide), if_pos (k1 3 (by decide)), if_pos (k1 9 (by decide)), if_pos (k1 15 (by decide)), if_pos (k1 21 (by decide)), if_pos (k1 27 (by decide)), nI_clamp (by omega), nI_clamp (by omega), nI_clamp (by omega), nI_clamp (by omega), nI_clamp (by omega)]
  have s21 : am_in (21 + nI i) 2008 = true := by rw [show (21 : Int32) + nI i = nI (21 + i) from k0 21 (by decide)]; exact k1 21 (by decide)
  by_cases z0 : x2 = 0
  · subst z0
    exact ⟨f 3 i, f, g, rfl, by rw [if_pos rfl, rl_f_le h (by omega)], h⟩
  by_cases z1 : x2 = 1
  · subst z1
    exact ⟨f 4 i, f, g, by rw [if_neg (by decide), if_pos rfl, if_pos c6], by rw [if_neg (by decide), if_pos rfl, rl_f_re h (by omega)], h⟩
  by_cases z2 : x2 = 2
  · subst z2
    exact ⟨f 5 i, f, g, by rw [if_neg (by decide), if_neg (by decide), if_pos rfl, if_pos c6], by rw [if_neg (by decide), if_neg (by decide), if_pos rfl, rl_f_un h (by omega)], h⟩
  by_cases z3 : x2 = 3
  · subst z3
    exact ⟨f 6 i, f, g, by rw [if_neg (by decide), if_neg (by decide), if_neg (by decide), if_pos rfl, if_pos c6], by rw [if_neg (by decide), if_neg (by decide), if_neg (by decide), if_pos rfl, rl_f_sa h (by omega)], h⟩
  by_cases z4 : x2 = 4
  · subst z4
    exact ⟨f 7 i, f, g, by rw [if_neg (by decide), if_neg (by decide), if_neg (by decide), if_neg (by decide), if_pos rfl, if_pos c6], by rw [if_neg (by decide), if_neg (by decide), if_neg (by decide), if_neg (by decide), if_pos rfl, rl_f_of h (by omega)], h⟩
  rw [if_neg z0, if_neg z1, if_neg z2, if_neg z3, if_neg z4, if_neg z0, if_neg z1, if_neg z2, if_neg z3, if_neg z4]
  by_cases z5 : x2 = 5
  · subst z5
    obtain ⟨v, f1, g1, g0, a1, a2, a3, a4, a5⟩ := of_law h e2 hn hi (k := 0) (by decide)
    refine ⟨v, f1, g1, ?_, ?_, a5⟩
    · rw [if_pos rfl, show (0 : Int32) = nI 0 from rfl, a1, pu_bs]
    · unfold m_warmsOf
      rw [if_pos rfl, a2, pu_bs, show m_lawSays 20 (3 * g0 226 1 - 2 * g0 226 2) 99 g0 = some (v, g1) from a3, pu_bs, pu_bs, if_pos (k1 21 (by decide))]
  by_cases z6 : x2 = 6
  · subst z6
    obtain ⟨v, f1, g1, g0, a1, a2, a3, a4, a5⟩ := of_law h e2 hn hi (k := 1) (by decide)
    refine ⟨v, f1, g1, ?_, ?_, a5⟩
    · rw [if_neg (by decide), if_pos rfl, show (1 : Int32) = nI 1 from rfl, a1, pu_bs]
    · unfold m_slipsOf
      rw [if_neg (by decide), if_pos rfl, if_pos s21, show (21 : Int32) + nI i = nI (21 + i) from k0 21 (by decide), nI_clamp (by omega), a2, pu_bs, show m_lawSays 21 0 1000 g0 = some (v, g1) from a3, pu_bs, pu_bs]
  by_cases z7 : x2 = 7
  · subst z7
    obtain ⟨v, f1, g1, g0, a1, a2, a3, a4, a5⟩ := of_law h e2 hn hi (k := 2) (by decide)
    refine ⟨v, f1, g1, ?_, ?_, a5⟩
    · rw [if_neg (by decide), if_neg (by decide), if_pos rfl, show (2 : Int32) = nI 2 from rfl, a1, pu_bs]
    · unfold m_coolsOf
      rw [if_neg (by decide), if_neg (by decide), if_pos rfl, if_pos s21, show (21 : Int32) + nI i = nI (21 + i) from k0 21 (by decide), nI_clamp (by omega), a2, pu_bs, show m_lawSays 22 5 99 g0 = some (v, g1) from a3, pu_bs, pu_bs]
  by_cases z8 : x2 = 8
  · subst z8
    obtain ⟨v, f1, a1, a2, a3⟩ := of_near h e2 hn hi
    refine ⟨v, f1, g, ?_, ?_, a3⟩
    · rw [if_neg (by decide), if_neg (by decide), if_neg (by decide), if_pos rfl, a1, pu_bs]
    · rw [if_neg (by decide), if_neg (by decide), if_neg (by decide), if_pos rfl, a2, pu_bs, if_pos (k1 21 (by decide))]
  rw [if_neg z5, if_neg z6, if_neg z7, if_neg z8, if_neg z5, if_neg z6, if_neg z7, if_neg z8]
  exact ⟨-2, f, g, rfl, rfl, h⟩
