/-! DEAR -/
theorem rl_kn {f f' g g' : Nat → Nat → Int32} (h : rl_Rel f g) (hf : ∀ a, a ≠ 143 → a ≠ 150 → a ≠ 153 → f' a = f a) (hN : rl_Ni f') (hP : rl_Pr f') (hg : rl_sm g g') : rl_Rel f' g' := by
  obtain ⟨h1, h2, h3, h4, ⟨h5, h5'⟩, h6, h7⟩ := h
  obtain ⟨b1, b2, b3, b4, b5, b6, b7, b8, b9⟩ := hg
  have f0 := hf 0 (by decide) (by decide) (by decide)
  have f128 := hf 128 (by decide) (by decide) (by decide)
  refine ⟨?_, ?_, ?_, ?_, ⟨?_, ?_⟩, hN, hP⟩
  · rw [b1]
    exact h1.congr fun a x y => hf _ (by omega) (by omega) (by omega)
  · unfold rl_Im at h2 ⊢
    rw [f0, b6, b2]
    rcases h2 with h2 | ⟨x, y, z⟩
    · exact Or.inl h2
    · exact Or.inr ⟨x, y, z.congr fun a x y => hf (a + 54) (by omega) (by omega) (by omega)⟩
  · obtain ⟨k, n, c1, c2, c3, c4, c5, c6⟩ := h3
    refine ⟨k, n, c1, c2, ?_, by rw [f0]; exact c4, by rw [b5]; exact c5, fun p hp => ?_⟩
    · rw [hf 109 (by decide) (by decide) (by decide)]
      exact c3
    · obtain ⟨d1, d2⟩ := c6 p hp
      have e : rl_pw g' p = rl_pw g p := by
        funext i
        unfold rl_pw
        rw [b1, b3]
      rw [e]
      refine ⟨d1.row fun q hq => ?_, d2⟩
      have := (rl_pl_ge p k).1
      have := (rl_loC q hq).1
      exact hf _ (by omega) (by omega) (by omega)
  · unfold rl_Tp at h4 ⊢
    rw [hf 123 (by decide) (by decide) (by decide), hf 124 (by decide) (by decide) (by decide), b4, b7]
    exact h4
  · rw [f128, b8]; exact h5
  · rw [f128, b9]; exact h5'
theorem dr_st : ∀ (k m lo hi : Nat), hi - lo ≤ k → hi - lo ≤ m → dr_D k lo hi = dr_D m lo hi := by
  intro k
  induction k with
  | zero =>
    intro m lo hi h1 h2
    cases m with
    | zero => rfl
    | succ m =>
      show 0 = if hi ≤ lo then 0 else _
      rw [if_pos (by omega)]
  | succ k ih =>
    intro m lo hi h1 h2
    cases m with
    | zero =>
      show (if hi ≤ lo then 0 else _) = 0
      rw [if_pos (by omega)]
    | succ m =>
      show (if hi ≤ lo then 0 else _) = if hi ≤ lo then 0 else _
      by_cases c : hi ≤ lo
      · rw [if_pos c, if_pos c]
      · rw [if_neg c, if_neg c]
        congr 1
        refine List.map_congr_left fun i hi2 => ?_
        have := List.mem_range.mp hi2
        rw [ih m lo (lo + i - 1) (by omega) (by omega), ih m (lo + i + 1) hi (by omega) (by omega)]
def dr_P (lo hi : Nat) : Nat := dr_D (hi - lo) lo hi
def dr_a (lo hi v : Nat) : Nat := v + max (dr_P lo (v - 1)) (dr_P (v + 1) hi)
def dr_b (a : Nat → Nat) (lo : Nat) : Nat → Nat
  | 0 => lo
  | j + 1 => if a (lo + j + 1) < a (dr_b a lo j) then lo + j + 1 else dr_b a lo j
def dr_m (a : Nat → Nat) (lo : Nat) : Nat → Nat
  | 0 => 1000000
  | j + 1 => min (dr_m a lo j) (a (lo + j))
theorem dr_fo (a : Nat → Nat) (lo : Nat) : ∀ N, ((List.range N).map fun i => a (lo + i)).foldl min 1000000 = dr_m a lo N := by
  intro N
  induction N with
  | zero => rfl
  | succ N ih =>
    rw [List.range_succ, List.map_append, List.foldl_append, ih]
    rfl
theorem dr_mb (a : Nat → Nat) (lo : Nat) : ∀ N, dr_m a lo (N + 1) = min 1000000 (a (dr_b a lo N)) := by
  intro N
  induction N with
  | zero => rfl
  | succ N ih =>
    show min (dr_m a lo (N + 1)) (a (lo + (N + 1))) = min 1000000 (a (if a (lo + N + 1) < a (dr_b a lo N) then lo + N + 1 else dr_b a lo N))
    rw [ih]
    by_cases c : a (lo + N + 1) < a (dr_b a lo N)
    · rw [if_pos c]
      rw [show lo + (N + 1) = lo + N + 1 from rfl]
      omega
    · rw [if_neg c]
      rw [show lo + (N + 1) = lo + N + 1 from rfl]
      omega
theorem dr_bp (a : Nat → Nat) (lo : Nat) : ∀ j, lo ≤ dr_b a lo j ∧ dr_b a lo j ≤ lo + j ∧ (∀ v, lo ≤ v → v ≤ lo + j → a (dr_b a lo j) ≤ a v) ∧ (∀ v, lo ≤ v → v < dr_b a lo j → a (dr_b a lo j) < a v) := by
  intro j
  induction j with
  | zero =>
    refine ⟨Nat.le_refl _, Nat.le_refl _, fun v h1 h2 => ?_, fun v h1 h2 => ?_⟩
    · have : v = lo := by omega
      subst this
      exact Nat.le_refl _
    · have : v < lo := h2
      omega
  | succ j ih =>
    obtain ⟨i1, i2, i3, i4⟩ := ih
    have e : dr_b a lo (j + 1) = if a (lo + j + 1) < a (dr_b a lo j) then lo + j + 1 else dr_b a lo j := rfl
    by_cases c : a (lo + j + 1) < a (dr_b a lo j)
    · rw [if_pos c] at e
      rw [e]
      refine ⟨by omega, by omega, fun v h1 h2 => ?_, fun v h1 h2 => ?_⟩
      · by_cases hv : v = lo + j + 1
        · rw [hv]; exact Nat.le_refl _
        · have := i3 v h1 (by omega)
          omega
      · have := i3 v h1 (by omega)
        omega
    · rw [if_neg c] at e
      rw [e]
      refine ⟨i1, by omega, fun v h1 h2 => ?_, i4⟩
      by_cases hv : v = lo + j + 1
      · rw [hv]; omega
      · exact i3 v h1 (by omega)
theorem dr_P0 {lo hi : Nat} (h : hi ≤ lo) : dr_P lo hi = 0 := by
  unfold dr_P
  rw [show hi - lo = 0 by omega]
  rfl
theorem dr_P1 {lo hi : Nat} (h : lo < hi) : dr_P lo hi = dr_m (dr_a lo hi) lo (hi + 1 - lo) := by
  unfold dr_P
  obtain ⟨k, hk⟩ : ∃ k, hi - lo = k + 1 := ⟨hi - lo - 1, by omega⟩
  rw [hk]
  show (if hi ≤ lo then 0 else _) = _
  rw [if_neg (by omega), ← dr_fo]
  congr 1
  refine List.map_congr_left fun i hi2 => ?_
  have := List.mem_range.mp hi2
  unfold dr_a dr_P
  rw [dr_st k _ lo (lo + i - 1) (by omega) (Nat.le_refl _), dr_st k _ (lo + i + 1) hi (by omega) (Nat.le_refl _)]
theorem dr_le : ∀ (k lo hi : Nat), 1 ≤ lo → hi - lo ≤ k → dr_P lo hi ≤ hi * k := by
  intro k
  induction k with
  | zero => intro lo hi h1 h2; rw [dr_P0 (by omega)]; exact Nat.zero_le _
  | succ k ih =>
    intro lo hi h1 h2
    by_cases c : hi ≤ lo
    · rw [dr_P0 c]; exact Nat.zero_le _
    · rw [dr_P1 (by omega), show hi + 1 - lo = (hi - lo) + 1 by omega, dr_mb]
      have b1 := (dr_bp (dr_a lo hi) lo (hi - lo)).2.2.1 lo (Nat.le_refl _) (by omega)
      have b2 : dr_a lo hi lo = lo + dr_P (lo + 1) hi := by
        unfold dr_a
        rw [dr_P0 (lo := lo) (hi := lo - 1) (by omega), Nat.zero_max]
      have b3 := ih (lo + 1) hi (by omega) (by omega)
      rw [Nat.mul_succ]
      omega
theorem dr_P2 {lo hi : Nat} (h1 : 1 ≤ lo) (h : lo < hi) (h40 : hi ≤ 40) : dr_P lo hi = dr_a lo hi (dr_b (dr_a lo hi) lo (hi - lo)) ∧ dr_P lo hi ≤ 1600 := by
  have hl := dr_le 40 lo hi h1 (by omega)
  have hl2 : hi * 40 ≤ 40 * 40 := Nat.mul_le_mul_right _ h40
  have e : dr_P lo hi = min 1000000 (dr_a lo hi (dr_b (dr_a lo hi) lo (hi - lo))) := by
    rw [dr_P1 h, show hi + 1 - lo = (hi - lo) + 1 by omega, dr_mb]
  constructor <;> omega
theorem dr_Pl {lo hi : Nat} (h1 : 1 ≤ lo) (h40 : hi ≤ 40) : dr_P lo hi ≤ 1600 := by
  by_cases c : hi ≤ lo
  · rw [dr_P0 c]; exact Nat.zero_le _
  · exact (dr_P2 h1 (by omega) h40).2
theorem dr_al {lo hi v : Nat} (h1 : 1 ≤ lo) (h40 : hi ≤ 40) (hv : v ≤ hi) : dr_a lo hi v ≤ 1640 := by
  have a1 := dr_Pl (lo := lo) (hi := v - 1) h1 (by omega)
  have a2 := dr_Pl (lo := v + 1) (hi := hi) (by omega) h40
  unfold dr_a
  omega
theorem dr_mxI {a b : Nat} (ha : a < 2 ^ 31) (hb : b < 2 ^ 31) : m_greater (nI a) (nI b) = nI (max a b) := by
  unfold m_greater
  by_cases h : b < a
  · rw [if_pos (nI_lt h ha), show max a b = a by omega]
  · rw [if_neg (nI_nlt (by omega) hb), show max a b = b by omega]
theorem dr_mnI {a b : Nat} (ha : a < 2 ^ 31) (hb : b < 2 ^ 31) : am_min (nI a) (nI b) = nI (min a b) := by
  unfold am_min
  by_cases h : b < a
  · rw [if_pos (nI_lt h ha), show min a b = b by omega]
  · rw [if_neg (nI_nlt (by omega) hb), show min a b = a by omega]
