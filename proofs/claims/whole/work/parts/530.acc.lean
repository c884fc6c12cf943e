/-! WHAT THE RELATION SAYS OF SINGLE CELLS -/
section ACC
variable {f g : Nat → Nat → Int32}
theorem rl_f_gn (h : rl_Rel f g) : f 2 0 = g 217 69 := rl_g_gn (o := 0) h.1.1.C
theorem rl_f_wn (h : rl_Rel f g) : f 2 1 = g 217 70 := rl_g_wn (o := 0) h.1.1.C
theorem rl_f_ti (h : rl_Rel f g) : f 2 2 = g 217 0 := rl_g_ti (o := 0) h.1.1.C
theorem rl_f_dr (h : rl_Rel f g) : f 2 3 = g 217 1 := rl_g_dr (o := 0) h.1.1.C
theorem rl_f_bn (h : rl_Rel f g) : f 2 4 = g 217 2 := rl_g_bn (o := 0) h.1.1.C
theorem rl_f_kn (h : rl_Rel f g) : f 2 5 = g 217 74 := rl_g_kn (o := 0) h.1.1.C
theorem rl_f_le (h : rl_Rel f g) {t : Nat} (ht : t < 6) : f 3 t = g 217 (3 + t) := rl_g_le (o := 0) h.1.1.C ht
theorem rl_f_re (h : rl_Rel f g) {t : Nat} (ht : t < 6) : f 4 t = g 217 (9 + t) := rl_g_re (o := 0) h.1.1.C ht
theorem rl_f_un (h : rl_Rel f g) {t : Nat} (ht : t < 6) : f 5 t = g 217 (15 + t) := rl_g_un (o := 0) h.1.1.C ht
theorem rl_f_sa (h : rl_Rel f g) {t : Nat} (ht : t < 6) : f 6 t = g 217 (21 + t) := rl_g_sa (o := 0) h.1.1.C ht
theorem rl_f_of (h : rl_Rel f g) {t : Nat} (ht : t < 6) : f 7 t = g 217 (27 + t) := rl_g_of (o := 0) h.1.1.C ht
theorem rl_f_co (h : rl_Rel f g) {t : Nat} (ht : t < 12) : f 8 t = g 217 (33 + t) := rl_g_co (o := 0) h.1.1.C ht
theorem rl_f_ke (h : rl_Rel f g) {t : Nat} (ht : t < 12) : f 9 t = g 217 (75 + t) := rl_g_ke (o := 0) h.1.1.C ht
theorem rl_f_ca (h : rl_Rel f g) {t : Nat} (ht : t < 12) : f 10 t = g 217 (45 + t) := rl_g_ca (o := 0) h.1.1.C ht
theorem rl_f_gi (h : rl_Rel f g) {t : Nat} (ht : t < 12) : f 11 t = g 217 (57 + t) := rl_g_gi (o := 0) h.1.1.C ht
theorem rl_f_bk (h : rl_Rel f g) {t : Nat} (ht : t < 600) : f 13 t = g 217 (524 + t) := rl_g_bk (o := 0) h.1.1 ht
theorem rl_f_ll (h : rl_Rel f g) : f 14 0 = g 217 71 := rl_g_ll (o := 0) h.1.1
theorem rl_f_wl (h : rl_Rel f g) : f 20 0 = g 217 72 := rl_g_wl (o := 0) h.1.1
theorem rl_f_nl (h : rl_Rel f g) : f 25 0 = g 217 73 := rl_g_nl (o := 0) h.1.1
theorem rl_f_ne (h : rl_Rel f g) {t : Nat} (ht : t < 256) : f 26 t = g 217 (87 + t) := rl_g_ne (o := 0) h.1.1 ht
theorem rl_f_r1n (h : rl_Rel f g) : f 27 0 = g 217 407 := rl_g_r1n (o := 0) h.1.1
theorem rl_f_r1a (h : rl_Rel f g) {t : Nat} (ht : t < 8) : f 28 t = g 217 (408 + 2 * t) := rl_g_r1a (o := 0) h.1.1 ht
theorem rl_f_r1b (h : rl_Rel f g) {t : Nat} (ht : t < 8) : f 29 t = g 217 (409 + 2 * t) := rl_g_r1b (o := 0) h.1.1 ht
theorem rl_f_r2n (h : rl_Rel f g) : f 30 0 = g 217 424 := rl_g_r2n (o := 0) h.1.1
theorem rl_f_r2a (h : rl_Rel f g) {t : Nat} (ht : t < 6) : f 31 t = g 217 (425 + 2 * t) := rl_g_r2a (o := 0) h.1.1 ht
theorem rl_f_r2b (h : rl_Rel f g) {t : Nat} (ht : t < 6) : f 32 t = g 217 (426 + 2 * t) := rl_g_r2b (o := 0) h.1.1 ht
theorem rl_f_r3n (h : rl_Rel f g) : f 33 0 = g 217 437 := rl_g_r3n (o := 0) h.1.1
theorem rl_f_r3a (h : rl_Rel f g) {t : Nat} (ht : t < 4) : f 34 t = g 217 (438 + 2 * t) := rl_g_r3a (o := 0) h.1.1 ht
theorem rl_f_r3b (h : rl_Rel f g) {t : Nat} (ht : t < 4) : f 35 t = g 217 (439 + 2 * t) := rl_g_r3b (o := 0) h.1.1 ht
theorem rl_f_r4n (h : rl_Rel f g) : f 36 0 = g 217 446 := rl_g_r4n (o := 0) h.1.1
theorem rl_f_r4a (h : rl_Rel f g) {t : Nat} (ht : t < 6) : f 37 t = g 217 (447 + 2 * t) := rl_g_r4a (o := 0) h.1.1 ht
theorem rl_f_r4b (h : rl_Rel f g) {t : Nat} (ht : t < 6) : f 38 t = g 217 (448 + 2 * t) := rl_g_r4b (o := 0) h.1.1 ht
theorem rl_f_r5n (h : rl_Rel f g) : f 39 0 = g 217 459 := rl_g_r5n (o := 0) h.1.1
theorem rl_f_r5a (h : rl_Rel f g) {t : Nat} (ht : t < 4) : f 40 t = g 217 (460 + t) := rl_g_r5a (o := 0) h.1.1 ht
theorem rl_f_r6n (h : rl_Rel f g) : f 42 0 = g 217 464 := rl_g_r6n (o := 0) h.1.1
theorem rl_f_r6a (h : rl_Rel f g) {t : Nat} (ht : t < 8) : f 43 t = g 217 (465 + t) := rl_g_r6a (o := 0) h.1.1 ht
theorem rl_f_r7n (h : rl_Rel f g) : f 45 0 = g 217 481 := rl_g_r7n (o := 0) h.1.1
theorem rl_f_r7a (h : rl_Rel f g) {t : Nat} (ht : t < 24) : f 46 t = g 217 (482 + t) := rl_g_r7a (o := 0) h.1.1 ht
theorem rl_f_r8n (h : rl_Rel f g) : f 48 0 = g 217 506 := rl_g_r8n (o := 0) h.1.1
theorem rl_f_r8a (h : rl_Rel f g) {t : Nat} (ht : t < 8) : f 49 t = g 217 (507 + t) := rl_g_r8a (o := 0) h.1.1 ht
theorem rl_f_r9n (h : rl_Rel f g) : f 51 0 = g 217 515 := rl_g_r9n (o := 0) h.1.1
theorem rl_f_r9a (h : rl_Rel f g) {t : Nat} (ht : t < 8) : f 52 t = g 217 (516 + t) := rl_g_r9a (o := 0) h.1.1 ht
theorem rl_f_cs (h : rl_Rel f g) {t : Nat} (ht : t < 8) : f 54 t = g 217 (473 + t) := rl_g_cs (o := 0) h.1.1 ht
end ACC
theorem pu_within_cases (a : Int32) {lo hi : Int32} (l h : Nat) (el : lo = nI l := by rfl) (eh : hi = nI h := by rfl) (hl : l < 2 ^ 31 := by omega) (hh : h < 2 ^ 31 := by omega) : (x_within a lo hi = true ∧ ∃ k, l ≤ k ∧ k ≤ h ∧ a = nI k) ∨ x_within a lo hi = false := by
  subst el eh
  cases e : x_within a (nI l) (nI h) with
  | false => exact Or.inr rfl
  | true =>
    obtain ⟨k, h1, h2, h3⟩ := pu_within hh e hl
    exact Or.inl ⟨rfl, k, h1, h2, h3⟩
theorem pu_rng (a : Int32) {n : Nat} (hn : n < 2 ^ 31) : (∃ i, i < n ∧ a = nI i ∧ x_within a 0 (nI n - 1) = true) ∨ ((a < 0 ∨ ¬ a < nI n) ∧ x_within a 0 (nI n - 1) = false) := by
  unfold x_within
  rcases pu_cases a with h | ⟨k, hk, rfl⟩
  · rw [if_pos h]
    exact Or.inr ⟨Or.inl h, rfl⟩
  · rw [if_neg (nI_pos hk)]
    by_cases h : k < n
    · refine Or.inl ⟨k, h, rfl, ?_⟩
      have e : nI n - 1 = nI (n - 1) := by
        have := nI_pred (n - 1)
        rw [show n - 1 + 1 = n by omega] at this
        exact this
      rw [e, if_neg (nI_nlt (by omega) (by omega))]
    · refine Or.inr ⟨Or.inr (nI_nlt (by omega) hk), ?_⟩
      by_cases h0 : n = 0
      · subst h0
        rw [show nI 0 - 1 = (-1 : Int32) from by decide, if_pos (pu_m1lt hk)]
      · have e : nI n - 1 = nI (n - 1) := by
          have := nI_pred (n - 1)
          rw [show n - 1 + 1 = n by omega] at this
          exact this
        rw [e, if_pos (nI_lt (by omega) hk)]
theorem pu_has (a : Int32) {n : Nat} (hn : n < 2 ^ 31) {x y : Bool} (hx : x = (if a < 0 then false else if a < nI n then true else false)) (hy : y = x_within a 0 (nI n - 1)) : (∃ i, i < n ∧ a = nI i ∧ x = true ∧ y = true) ∨ (x = false ∧ y = false) := by
  subst hx hy
  rcases pu_rng a hn with ⟨i, hi, rfl, h⟩ | ⟨h1, h⟩
  · refine Or.inl ⟨i, hi, rfl, ?_, h⟩
    rw [if_neg (nI_pos (by omega)), if_pos (nI_lt hi hn)]
  · refine Or.inr ⟨?_, h⟩
    rcases h1 with h1 | h1
    · rw [if_pos h1]
    · by_cases h2 : a < 0
      · rw [if_pos h2]
      · rw [if_neg h2, if_neg h1]
/-- a glass that is, or none -/
theorem pu_glass {f g : Nat → Nat → Int32} (a : Int32) {n : Nat} (hn : n ≤ 6) (e1 : f 2 0 = nI n) (e2 : g 217 69 = nI n) : (∃ i, i < n ∧ a = nI i ∧ xc_hasGlass_2 a f = true ∧ m_isGlass a g = true) ∨ (xc_hasGlass_2 a f = false ∧ m_isGlass a g = false) :=
  pu_has a (n := n) (by omega) (by unfold xc_hasGlass_2; rw [e1]) (by unfold m_isGlass; rw [e2]; rfl)
theorem pu_witness {f g : Nat → Nat → Int32} (a : Int32) {n : Nat} (hn : n ≤ 12) (e1 : f 2 1 = nI n) (e2 : g 217 70 = nI n) : (∃ i, i < n ∧ a = nI i ∧ xc_hasWitness_2 a f = true ∧ m_isWitness a g = true) ∨ (xc_hasWitness_2 a f = false ∧ m_isWitness a g = false) :=
  pu_has a (n := n) (by omega) (by unfold xc_hasWitness_2; rw [e1]) (by unfold m_isWitness; rw [e2]; rfl)
theorem pu_topic (a : Int32) : (∃ i, i < 16 ∧ a = nI i ∧ x_isTopic a = true ∧ m_isTopic a = true) ∨ (x_isTopic a = false ∧ m_isTopic a = false) := by
  rcases pu_within_cases a (lo := 0) (hi := 15) 0 15 with ⟨h, k, h1, h2, rfl⟩ | h
  · exact Or.inl ⟨k, by omega, rfl, h, h⟩
  · exact Or.inr ⟨h, h⟩
/-! the relation anew -/
/-- all but the court, the book, the rows of now and the pasts is as it was -/
def rl_rest (f f' g g' : Nat → Nat → Int32) : Prop := (∀ a, 55 ≤ a → a ≤ 108 → f' a = f a) ∧ f' 0 2 = f 0 2 ∧ f' 123 0 = f 123 0 ∧ f' 124 = f 124 ∧ f' 128 4 = f 128 4 ∧ f' 128 5 = f 128 5 ∧ f' 143 7 = f 143 7 ∧ f' 143 11 = f 143 11 ∧ f' 150 = f 150 ∧ f' 153 = f 153 ∧ f' 144 0 = f 144 0 ∧
  g' 218 = g 218 ∧ g' 224 = g 224 ∧ g' 216 5 = g 216 5 ∧ g' 216 16 = g 216 16 ∧ g' 216 23 = g 216 23 ∧ g' 216 25 = g 216 25
theorem rl_anew {f f' g g' : Nat → Nat → Int32} (h : rl_Rel f g) (hr : rl_rest f f' g g') (hW : rl_Wd 0 9999 f' (g' 217)) (hP : rl_Ps f' g') : rl_Rel f' g' := by
  obtain ⟨h1, h2, h3, h4, ⟨h5, h5'⟩, h6, h7⟩ := h
  obtain ⟨a1, a3, a5, a6, a7, a8, a9, a10, a11, a12, a13, b2, b4, b6, b7, b8, b9⟩ := hr
  refine ⟨hW, ?_, hP, ?_, ⟨?_, ?_⟩, ?_, ?_⟩
  · unfold rl_Im at h2 ⊢
    rw [a3, b6, b2]
    rcases h2 with h2 | ⟨x, y, z⟩
    · exact Or.inl h2
    · exact Or.inr ⟨x, y, z.congr fun a x y => a1 (a + 54) (by omega) (by omega)⟩
  · unfold rl_Tp at h4 ⊢
    rw [a5, a6, b4, b7]
    exact h4
  · rw [a7, b8]; exact h5
  · rw [a8, b9]; exact h5'
  · unfold rl_Ni at h6 ⊢
    rw [a9, a11]
    exact h6
  · unfold rl_Pr at h7 ⊢
    rw [a10, a12, a13]
    exact h7
theorem rl_iC0 : ∀ q ∈ rl_C, q.2.2.2.2 = 1 ∧ q.2.2.1 + q.2.2.2.1 ≤ 87 := by decide +kernel
theorem rl_iC {q : rl_B} (hq : q ∈ rl_C) {t : Nat} (ht : t < q.2.2.2.1) : rl_ix q t < 87 := by
  have h := rl_iC0 q hq
  unfold rl_ix
  rw [h.1]
  omega
/-- nothing can be undone -/
theorem rl_Ps.none {f f' g g' : Nat → Nat → Int32} (h : rl_Ps f g) (h1 : f' 109 = f 109) (h2 : f' 0 4 = 0) (h3 : g' 216 4 = 0) : rl_Ps f' g' := by
  obtain ⟨k, n, c1, c2, c3, c4, c5, c6⟩ := h
  exact ⟨k, 0, c1, Nat.zero_le _, by rw [h1]; exact c3, h2, h3, fun p hp => absurd hp (Nat.not_lt_zero _)⟩
/-- the pasts stay, if neither they nor what they share with now is written -/
theorem rl_Ps.same {f f' g g' : Nat → Nat → Int32} (h : rl_Ps f g) (h1 : f' 109 = f 109) (h2 : f' 0 4 = f 0 4) (h3 : g' 216 4 = g 216 4) (h4 : ∀ a, 156 ≤ a → f' a = f a) (h5 : g' 219 = g 219) (h6 : ∀ i, 69 ≤ i → i < 87 → g' 217 i = g 217 i) : rl_Ps f' g' := by
  obtain ⟨k, n, c1, c2, c3, c4, c5, c6⟩ := h
  refine ⟨k, n, c1, c2, by rw [h1]; exact c3, by rw [h2]; exact c4, by rw [h3]; exact c5, fun p hp => ?_⟩
  obtain ⟨d1, d2⟩ := c6 p hp
  have e : ∀ i, i < 87 → rl_pw g' p i = rl_pw g p i := by
    intro i hi
    unfold rl_pw
    rw [h5]
    by_cases hl : i < 69
    · rw [if_pos hl, if_pos hl]
    · rw [if_neg hl, if_neg hl, h6 i (by omega) hi]
  refine ⟨d1.congr (fun q hq t ht => ?_) (fun q hq t ht => e _ (rl_iC hq ht)), ?_⟩
  · have := (rl_pl_ge p k).1
    have := (rl_loC q hq).1
    rw [h4 _ (by omega)]
  · unfold iv_C iv_Cc at d2 ⊢
    obtain ⟨n, m, t, b, x1, x2, x3, x4, x5, x6, x7, x8, x9, x10, x11, x12, x13⟩ := d2
    refine ⟨n, m, t, b, by rw [e _ (by decide)]; exact x1, x2, by rw [e _ (by decide)]; exact x3, x4, by rw [e _ (by decide)]; exact x5, x6, by rw [e _ (by decide)]; exact x7, x8, fun i hi => ?_, fun i hi => ?_, fun i hi => ?_, fun i hi => ?_, fun i hi => ?_⟩
    · rw [e _ (by omega)]; exact x9 i hi
    · rw [e _ (by omega)]; exact x10 i hi
    · rw [e _ (by omega)]; exact x11 i hi
    · rw [e _ (by omega)]; exact x12 i hi
    · exact ⟨by rw [e _ (by omega)]; exact (x13 i hi).1, fun hm => by rw [e _ (by omega), e _ (by omega)]; exact (x13 i hi).2 hm⟩
