theorem wh_in : ∀ q, q < 16 → x_within (nI (q + 10)) 10 25 = true := by decide
theorem wh_in0 : ∀ q, q < 16 → x_within (nI q) 0 15 = true := by decide
theorem sm_who (x1 x2 : Int32) (f g : Nat → Nat → Int32) (h : rl_Rel f g) : ∃ (v : Int32), x_who x1 x2 f = some v ∧ m_who x1 x2 g = some v ∧ rl_Rel f g := by
  obtain ⟨n, m, t, b, hn, hm, ht, hb, e1, e2, e3, e4, -⟩ := rl_n h
  unfold x_who m_who
  have e3' : f 2 1 = nI m := by first | exact e3 | exact e4
  have e4' : g 217 70 = nI m := by first | exact e4 | exact e3
  rcases pu_witness x1 hm e3' e4' with ⟨i, hi, rfl, c1, c2⟩ | ⟨c1, c2⟩
  rotate_left
  · exact ⟨-2, by rw [c1]; rfl, by rw [c2]; rfl, h⟩
  have c12 : am_in (nI i) 12 = true := pu_in (by omega) (by omega)
  have k0 : ∀ k, k ≤ 100 → (nI k + nI i) = nI (k + i) := fun k hk => nI_add k i
  have k1 : ∀ k, k ≤ 100 → am_in (nI (k + i)) 2008 = true := fun k hk => pu_in (by omega) (by omega)
  rw [if_pos c1, if_pos c2, if_pos c12, nI_clamp (by omega)]
  rw [show (75 : Int32) + nI i = nI (75 + i) from k0 75 (by decide), show (33 : Int32) + nI i = nI (33 + i) from k0 33 (by decide), show (45 : Int32) + nI i = nI (45 + i) from k0 45 (by decide), show (57 : Int32) + nI i = nI (57 + i) from k0 57 (by decide), if_pos (k1 75 (by decide)), if_pos (k1 33 (by decide)), if_pos (k1 45 (by decide)), if_pos (k1 57 (by decide)), nI_clamp (by omega), nI_clamp (by omega), nI_clamp (by omega), nI_clamp (by omega)]
  by_cases z0 : x2 = 0
  · subst z0
    exact ⟨f 8 i, by rw [if_pos rfl], by rw [if_neg (by decide), if_pos rfl, rl_f_co h (by omega)], h⟩
  by_cases z1 : x2 = 1
  · subst z1
    exact ⟨f 9 i, by rw [if_neg (by decide), if_pos rfl, if_pos c12], by rw [if_neg (by decide), if_neg (by decide), if_pos rfl, if_pos (k1 75 (by decide)), rl_f_ke h (by omega)], h⟩
  by_cases z2 : x2 = 2
  · subst z2
    exact ⟨f 10 i, by rw [if_neg (by decide), if_neg (by decide), if_pos rfl, if_pos c12], by rw [if_neg (by decide), if_neg (by decide), if_neg (by decide), if_pos rfl, rl_f_ca h (by omega)], h⟩
  by_cases z3 : x2 = 3
  · subst z3
    exact ⟨f 11 i, by rw [if_neg (by decide), if_neg (by decide), if_neg (by decide), if_pos rfl, if_pos c12], by rw [if_neg (by decide), if_neg (by decide), if_neg (by decide), if_neg (by decide), if_pos rfl, rl_f_gi h (by omega)], h⟩
  by_cases z4 : x2 = 4
  · subst z4
    rcases go_2 hn e1 e2 (fun i hi => rl_f_un h (by omega)) (nI i) with ⟨a1, a2⟩ | ⟨j, j1, a1, a2⟩
    · exact ⟨-1, by rw [a1, pu_bs, if_neg (by decide), if_neg (by decide), if_neg (by decide), if_neg (by decide), if_pos rfl], by rw [if_neg (by decide), if_neg (by decide), if_neg (by decide), if_neg (by decide), if_neg (by decide), if_pos rfl, a2, pu_bs], h⟩
    · exact ⟨nI j, by rw [a1, pu_bs, if_neg (by decide), if_neg (by decide), if_neg (by decide), if_neg (by decide), if_pos rfl], by rw [if_neg (by decide), if_neg (by decide), if_neg (by decide), if_neg (by decide), if_neg (by decide), if_pos rfl, a2, pu_bs], h⟩
  rw [if_neg z0, if_neg z1, if_neg z2, if_neg z3, if_neg z4, if_neg z0, if_neg z1, if_neg z2, if_neg z3, if_neg z4]
  obtain ⟨S, hS, hk, -⟩ := h.1.2.2.1 i (by omega)
  rcases pu_topic (x2 - 10) with ⟨q, hq, eq, -, d3⟩ | ⟨-, d3⟩
  · have ex : x2 = nI (q + 10) := by
      rw [← nI_add, ← eq]
      exact (Int32.sub_add_cancel x2 10).symm
    obtain ⟨z, hz, w1, w2⟩ := nr_eq (fun j hj => rl_f_ne h hj) h.1.2.2.2.1 (nI S) (t := nI q) (Or.inr ⟨q, by omega, rfl⟩)
    refine ⟨nI z, ?_, ?_, h⟩
    · rw [if_pos (show x_within x2 10 25 = true from by rw [ex]; exact wh_in q hq), rl_f_ke h (by omega), hk, eq, w1, pu_bs, if_pos c12]
    · rw [if_pos d3, hk, eq, w2, pu_bs]
  · have d2 : x_within x2 10 25 = false := by
      rcases pu_within_cases x2 (lo := 10) (hi := 25) 10 25 with ⟨d2, k, k1', k2, rfl⟩ | d2
      · exfalso
        obtain ⟨q, rfl⟩ : ∃ q, k = q + 10 := ⟨k - 10, by omega⟩
        rw [← nI_add, show nI q + nI 10 - 10 = nI q from Int32.add_sub_cancel _ _] at d3
        unfold m_isTopic at d3
        rw [pu_isIn, wh_in0 q (by omega)] at d3
        cases d3
      · exact d2
    refine ⟨-2, ?_, ?_, h⟩
    · rw [if_neg (by rw [d2]; decide)]
    · rw [if_neg (by rw [d3]; decide)]
