/-! parts of a world that don't change -/
section
variable {T : Nat} {w w' : Nat → Int32} {F F' : Nat → Nat → Int32}
theorem wg_C (h : iv_C T w) (e : ∀ i, i < 71 → w' i = w i) : iv_C T w' := by
  unfold iv_C iv_Cc at h ⊢
  obtain ⟨n, m, t, b, x1, x2, x3, x4, x5, x6, x7, x8, x9, x10, x11, x12, x13⟩ := h
  refine ⟨n, m, t, b, by rw [e _ (by decide)]; exact x1, x2, by rw [e _ (by decide)]; exact x3, x4, by rw [e _ (by decide)]; exact x5, x6, by rw [e _ (by decide)]; exact x7, x8, fun i hi => ?_, fun i hi => ?_, fun i hi => ?_, fun i hi => ?_, fun i hi => ?_⟩
  · rw [e _ (by omega)]; exact x9 i hi
  · rw [e _ (by omega)]; exact x10 i hi
  · rw [e _ (by omega)]; exact x11 i hi
  · rw [e _ (by omega)]; exact x12 i hi
  · rw [e _ (by omega), e _ (by omega), e _ (by omega)]; exact x13 i hi
theorem wg_K (h : iv_K w) (e : ∀ i, 70 ≤ i → i < 87 → (i = 70 ∨ 75 ≤ i) → w' i = w i) : iv_K w' := by
  intro i hi
  rw [e (75 + i) (by omega) (by omega) (by omega), e 70 (by omega) (by omega) (by omega)]
  exact h i hi
theorem wg_N (h : iv_N w) (e : ∀ i, 87 ≤ i → i < 343 → w' i = w i) : iv_N w' := by
  refine ⟨fun j hj => ?_, fun a b ha hb => ?_⟩
  · rw [e _ (by omega) (by omega)]; exact h.1 j hj
  · rw [e _ (by omega) (by omega), e _ (by omega) (by omega)]; exact h.2 a b ha hb
theorem wg_W (h : iv_W F 0 w) (e : ∀ i, 69 ≤ i → i < 407 → (i < 71 ∨ i = 72 ∨ 343 ≤ i) → w' i = w i) (r : ∀ a, 21 ≤ a → a ≤ 24 → F' a = F a) : iv_W F' 0 w' := by
  obtain ⟨l, l1, l2, l3⟩ := h
  refine ⟨l, l1, by rw [e _ (by omega) (by omega) (by omega)]; exact l2, fun i hi => ?_⟩
  have hl := l3 i hi
  unfold iv_L at hl ⊢
  rw [show F' (21 + 0) = F (21 + 0) from r 21 (by omega) (by omega), show F' (22 + 0) = F (22 + 0) from r 22 (by omega) (by omega), show F' (23 + 0) = F (23 + 0) from r 23 (by omega) (by omega), show F' (24 + 0) = F (24 + 0) from r 24 (by omega) (by omega),
    e (343 + 4 * i) (by omega) (by omega) (by omega), e (344 + 4 * i) (by omega) (by omega) (by omega), e (345 + 4 * i) (by omega) (by omega) (by omega), e (346 + 4 * i) (by omega) (by omega) (by omega), e 69 (by omega) (by omega) (by omega), e 70 (by omega) (by omega) (by omega)]
  exact hl
theorem wg_T (h : iv_T w) (hw : ∀ i, 407 ≤ i → i < 524 → w' i = w i) : iv_T w' := by
  obtain ⟨t1, t2, t3, t4, t5, t6, t7, t8, t9, t0⟩ := h
  exact ⟨iv_R.two (P := fun x y => ∃ a b, a < 16 ∧ b ≤ 10 ∧ x = nI a ∧ y = nI b) t1 (fun i h1 h2 => hw i (by omega) (by omega)), iv_R.two (P := fun x y => ∃ a b, 1 ≤ a ∧ a ≤ 9 ∧ b < 256 ∧ x = nI a ∧ y = nI b) t2 (fun i h1 h2 => hw i (by omega) (by omega)), iv_R.two (P := fun x y => ∃ a, a ≤ 9 ∧ x = nI a) t3 (fun i h1 h2 => hw i (by omega) (by omega)), iv_R.two (P := fun x y => ∃ a, a ≤ 3 ∧ x = nI a) t4 (fun i h1 h2 => hw i (by omega) (by omega)), iv_R.one (P := fun x => ∃ a, 1 ≤ a ∧ a ≤ 40 ∧ x = nI a) t5 (fun i h1 h2 => hw i (by omega) (by omega)), iv_R.one (P := fun x => ∃ a, a < 65536 ∧ x = nI a) t6 (fun i h1 h2 => hw i (by omega) (by omega)), iv_R.one (P := fun x => ∃ a, a ≤ 99 ∧ x = nI a) t7 (fun i h1 h2 => hw i (by omega) (by omega)), iv_R.one (P := fun x => ∃ a, 1 ≤ a ∧ a ≤ 9999 ∧ x = nI a) t8 (fun i h1 h2 => hw i (by omega) (by omega)), iv_R.one (P := fun x => ∃ a, 1 ≤ a ∧ a ≤ 20 ∧ x = nI a) t9 (fun i h1 h2 => hw i (by omega) (by omega)), fun i hi => by rw [hw _ (by omega) (by omega)]; exact t0 i hi⟩
theorem wg_Y (h : iv_Y F 0 w) (e : ∀ i, (i = 71 ∨ 1124 ≤ i) → w' i = w i) (r : ∀ a, 14 ≤ a → a ≤ 19 → F' a = F a) : iv_Y F' 0 w' := by
  obtain ⟨l, u, l1, l2, l3, l4, l5⟩ := h
  refine ⟨l, u, l1, l2, by rw [e _ (by omega)]; exact l3, by rw [show F' (14 + 0) = F (14 + 0) from r 14 (by omega) (by omega)]; exact l4, fun i hi => ?_⟩
  have hl := l5 i hi
  unfold lw_Ln lw_cX at hl ⊢
  rw [show F' (15 + 0) = F (15 + 0) from r 15 (by omega) (by omega), show F' (16 + 0) = F (16 + 0) from r 16 (by omega) (by omega), show F' (17 + 0) = F (17 + 0) from r 17 (by omega) (by omega), show F' (18 + 0) = F (18 + 0) from r 18 (by omega) (by omega), show F' (19 + 0) = F (19 + 0) from r 19 (by omega) (by omega),
    e (1172 + i) (by omega), e (1124 + i) (by omega), e (1140 + i) (by omega), e (1156 + i) (by omega)]
  obtain ⟨k, a, a', P, Q, y1, y2, y3, y4, y5, y6, y7, y8, y9, y10, y11, y12, y13, y14, y15, y16, y17⟩ := hl
  refine ⟨k, a, a', P, Q, y1, y2, y3, y4, y5, y6, y7, y8, y9, y10, y11, y12, y13, fun t s z => ?_, fun t s z => ?_, y16, y17⟩
  · rw [e _ (by omega), e _ (by omega)]; exact y14 t s z
  · rw [e _ (by omega), e _ (by omega)]; exact y15 t s z
end
/-- the cells of the relation: none is of the law's, the walk's or scratch rows but the counts -/
theorem wg_q1 : ∀ q ∈ rl_W, (q.1 < 14 ∨ q.1 = 14 ∨ q.1 = 20 ∨ 25 ≤ q.1) := by decide +kernel
theorem wg_q2 : ∀ q ∈ rl_W, ¬ q.1 = 14 ∨ q = (14, 0, 71, 1, 1) := by decide +kernel
theorem wg_q3 : ∀ q ∈ rl_W, ¬ q.1 = 20 ∨ q = (20, 0, 72, 1, 1) := by decide +kernel
theorem wg_q4 : ∀ q ∈ rl_W, q.2.2.1 + q.2.2.2.2 * (q.2.2.2.1 - 1) < 1124 := by decide +kernel
theorem wg_q5 : ∀ q ∈ rl_W, (q = (14, 0, 71, 1, 1) ∨ q.2.2.1 + q.2.2.2.2 * (q.2.2.2.1 - 1) < 71 ∨ 71 < q.2.2.1) := by decide +kernel
theorem wg_q6 : ∀ q ∈ rl_W, (q = (20, 0, 72, 1, 1) ∨ q.2.2.1 + q.2.2.2.2 * (q.2.2.2.1 - 1) < 72 ∨ 72 < q.2.2.1) := by decide +kernel
theorem wg_q7 : ∀ q ∈ rl_W, (q.2.2.1 + q.2.2.2.2 * (q.2.2.2.1 - 1) < 343 ∨ 407 ≤ q.2.2.1) := by decide +kernel
theorem wg_q8 : ∀ q ∈ rl_W, (¬ q.1 = 2 ∨ q = (2, 5, 74, 1, 1) ∨ q.2.1 + q.2.2.2.1 ≤ 5) := by decide +kernel
theorem wg_ix {q : rl_B} {t : Nat} (ht : t < q.2.2.2.1) : q.2.2.1 ≤ rl_ix q t ∧ rl_ix q t ≤ q.2.2.1 + q.2.2.2.2 * (q.2.2.2.1 - 1) := by
  unfold rl_ix
  exact ⟨Nat.le_add_right _ _, Nat.add_le_add_left (Nat.mul_le_mul_left _ (by omega)) _⟩
