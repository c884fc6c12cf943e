/-! BOTH at a token -/
def tx_C (n : Nat) (b : Nat → Nat) (k N i : Nat) (F G : Nat → Nat → Int32) : Prop :=
  lx_T n b F ∧ md_T n b G ∧ (k < 4 ∧ N ≤ n ∧ i ≤ N ∧ tx_s n b N = n) ∧ F 123 8 = nI N ∧ F 123 9 = nI i ∧
  (∀ j, j ≤ N → (j < N → tx_s n b j < n) ∧ F 125 j = nI (tx_V n b k (tx_s n b j)).1 ∧ F 126 j = (tx_V n b k (tx_s n b j)).2 ∧ F 127 j = nI (tx_s n b j)) ∧
  (F 123 1 = nI (tx_V n b k (tx_s n b i)).1 ∧ F 123 2 = (tx_V n b k (tx_s n b i)).2 ∧ F 123 3 = nI (tx_s n b i)) ∧
  G 216 12 = nI k ∧ G 216 17 = nI (tx_e n b (tx_s n b i)) ∧ G 216 19 = nI (tx_s n b i) ∧ tx_R k (tx_V n b k (tx_s n b i)) G
theorem tx_C.fx {n : Nat} {b : Nat → Nat} {k N i : Nat} {F F' G : Nat → Nat → Int32} (h : tx_C n b k N i F G) (h1 : ∀ a, 123 ≤ a → a ≤ 127 → F' a = F a) : tx_C n b k N i F' G := by
  obtain ⟨a1, a2, a3, a4, a5, a6, a7, a8⟩ := h
  unfold tx_C lx_T
  rw [h1 123 (by omega) (by omega), h1 124 (by omega) (by omega), h1 125 (by omega) (by omega), h1 126 (by omega) (by omega), h1 127 (by omega) (by omega)]
  exact ⟨a1, a2, a3, a4, a5, a6, a7, a8⟩
def tx_gm (G G' : Nat → Nat → Int32) : Prop := G' 224 = G 224 ∧ G' 216 12 = G 216 12 ∧ G' 216 16 = G 216 16 ∧ G' 216 17 = G 216 17 ∧ G' 216 18 = G 216 18 ∧ G' 216 19 = G 216 19 ∧ G' 216 20 = G 216 20
theorem tx_C.gx {n : Nat} {b : Nat → Nat} {k N i : Nat} {F G G' : Nat → Nat → Int32} (h : tx_C n b k N i F G) (h1 : tx_gm G G') : tx_C n b k N i F G' := by
  obtain ⟨a1, a2, a3, a4, a5, a6, a7, a8, a9, a10, a11⟩ := h
  obtain ⟨b1, b2, b3, b4, b5, b6, b7⟩ := h1
  unfold tx_C md_T tx_R
  rw [b1, b2, b3, b4, b5, b6, b7]
  exact ⟨a1, a2, a3, a4, a5, a6, a7, a8, a9, a10, a11⟩
/-- places of the model that no token minds -/
theorem tx_gm.up {G : Nat → Nat → Int32} {j : Nat} (hj : j ≠ 12 ∧ j < 16 ∨ 20 < j) (v : Int32) : tx_gm G (am_up G 216 j v) := by
  refine ⟨pu_up_ne _ _ (by omega), ?_, ?_, ?_, ?_, ?_, ?_⟩ <;> rw [pu_up_row, pu_upd_ne _ _ (by omega)]
theorem tx_gm.row {G : Nat → Nat → Int32} {a j : Nat} (ha : a ≠ 216 ∧ a ≠ 224) (v : Int32) : tx_gm G (am_up G a j v) := by
  refine ⟨pu_up_ne _ _ (by omega), ?_, ?_, ?_, ?_, ?_, ?_⟩ <;> rw [pu_up_ne _ _ (by omega)]
theorem tx_gm.tr {G G' G'' : Nat → Nat → Int32} (h : tx_gm G G') (h' : tx_gm G' G'') : tx_gm G G'' := by
  obtain ⟨b1, b2, b3, b4, b5, b6, b7⟩ := h
  obtain ⟨c1, c2, c3, c4, c5, c6, c7⟩ := h'
  exact ⟨c1.trans b1, c2.trans b2, c3.trans b3, c4.trans b4, c5.trans b5, c6.trans b6, c7.trans b7⟩
theorem tx_V0 {n : Nat} {b : Nat → Nat} {k st : Nat} (h : st < n) : (tx_V n b k st).1 ≠ 0 := by
  unfold tx_V
  rw [if_neg (by omega)]
  by_cases c : lx_L (b st) = true
  · rw [if_pos c]
    dsimp only
    split <;> omega
  · rw [if_neg c]
    by_cases d : lx_D (b st) = true
    · rw [if_pos d]
      split
      · show 2 ≠ 0; omega
      · show 4 ≠ 0; omega
    · rw [if_neg d]
      dsimp only
      split <;> omega
theorem tx_VN {n : Nat} {b : Nat → Nat} {k : Nat} : tx_V n b k n = (0, -1) := by
  unfold tx_V
  rw [if_pos (Nat.le_refl _)]
theorem tx_C.view {n : Nat} {b : Nat → Nat} {k N i : Nat} {F G : Nat → Nat → Int32} (h : tx_C n b k N i F G) : (i = N ∧ F 123 1 = 0 ∧ G 216 18 = 0) ∨ (i < N ∧ ((F 123 1 = 1 ∧ ∃ x, x < (kw_W k).length ∧ F 123 2 = nI x ∧ G 216 18 = nI (kw_c k x)) ∨
    (F 123 1 = 2 ∧ ∃ v, v ≤ 9999 ∧ F 123 2 = nI v ∧ G 216 18 = 2 ∧ G 216 20 = nI v) ∨ (F 123 1 = 3 ∧ ∃ c, c < 256 ∧ lx_S c = true ∧ F 123 2 = nI c ∧ G 216 18 = nI (100 + c)) ∨ (F 123 1 = 4 ∧ G 216 18 = 1))) := by
  obtain ⟨a1, a2, ⟨a30, a31, a32, a33⟩, a4, a5, a6, ⟨a71, a72, a73⟩, a8, a9, a10, a11⟩ := h
  rw [a71, a72]
  by_cases c : i = N
  · left
    rw [c, a33, tx_VN] at a11 ⊢
    rcases a11 with h | h | h | h | h
    · exact ⟨rfl, rfl, h.2⟩
    all_goals exact absurd h.1 (by show ¬ (0 = _); omega)
  · right
    refine ⟨by omega, ?_⟩
    have h0 := tx_V0 (k := k) (b := b) ((a6 i a32).1 (by omega))
    rcases a11 with h | ⟨h, h'⟩ | ⟨h, h'⟩ | ⟨h, h'⟩ | ⟨h, h'⟩
    · exact absurd h.1 h0
    · exact Or.inl ⟨by rw [h]; rfl, h'⟩
    · exact Or.inr (Or.inl ⟨by rw [h]; rfl, h'⟩)
    · exact Or.inr (Or.inr (Or.inl ⟨by rw [h]; rfl, h'⟩))
    · exact Or.inr (Or.inr (Or.inr ⟨by rw [h]; rfl, h'⟩))
theorem tx_adv {n : Nat} {b : Nat → Nat} {k N i : Nat} {F G : Nat → Nat → Int32} (h : tx_C n b k N i F G) (hi : i < N) : ∃ F' G', xt_advance F = some F' ∧ m_next0 G = some G' ∧ tx_C n b k N (i + 1) F' G' ∧ (∀ a, a ≠ 123 → F' a = F a) ∧ tx_fm G G' := by
  obtain ⟨a1, a2, ⟨a30, a31, a32, a33⟩, a4, a5, a6, ⟨a71, a72, a73⟩, a8, a9, a10, a11⟩ := h
  have hn := a1.1
  have hs := (a6 i a32).1 hi
  obtain ⟨u1, u2⟩ := tx_lt (b := b) hs
  obtain ⟨G', r1, r2, r3, r4, r5⟩ := md_next a2 u2 a9 a30 a8
  have c1 : am_in (nI (i + 1)) 401 = true := pu_in (by omega) (by omega)
  have l1 : nI i < nI N := nI_lt hi (by omega)
  refine ⟨am_up (am_up (am_up (am_up F 123 9 (nI (i + 1))) 123 1 (F 125 (i + 1))) 123 2 (F 126 (i + 1))) 123 3 (F 127 (i + 1)), G', ?_, r1, ⟨?_, r2.T a2, ⟨a30, a31, by omega, a33⟩, ?_, ?_, ?_, ⟨?_, ?_, ?_⟩, ?_, r3, r4, r5⟩, fun a ha => ?_, r2⟩
  · unfold xt_advance
    simp only [a4, a5, l1, if_true, pu_letE, nI_1, pu_up_row, pu_upd_eq, pu_upd_ne _ _ (show (9 : Nat) ≠ 1 by omega), pu_upd_ne _ _ (show (9 : Nat) ≠ 2 by omega), c1, nI_clamp (show i + 1 < 2 ^ 31 by omega), pu_up_ne _ _ (show (125 : Nat) ≠ 123 by omega), pu_up_ne _ _ (show (126 : Nat) ≠ 123 by omega), pu_up_ne _ _ (show (127 : Nat) ≠ 123 by omega)]
  · refine ⟨a1.1, ?_, fun j hj => ⟨(a1.2.2 j hj).1, ?_⟩⟩
    · rw [pu_up_row, pu_upd_ne _ _ (by omega), pu_up_row, pu_upd_ne _ _ (by omega), pu_up_row, pu_upd_ne _ _ (by omega), pu_up_row, pu_upd_ne _ _ (by omega)]
      exact a1.2.1
    · rw [pu_up_ne _ _ (by omega), pu_up_ne _ _ (by omega), pu_up_ne _ _ (by omega), pu_up_ne _ _ (by omega)]
      exact (a1.2.2 j hj).2
  · rw [pu_up_row, pu_upd_ne _ _ (by omega), pu_up_row, pu_upd_ne _ _ (by omega), pu_up_row, pu_upd_ne _ _ (by omega), pu_up_row, pu_upd_ne _ _ (by omega)]
    exact a4
  · rw [pu_up_row, pu_upd_ne _ _ (by omega), pu_up_row, pu_upd_ne _ _ (by omega), pu_up_row, pu_upd_ne _ _ (by omega), pu_up_row, pu_upd_eq]
  · intro j hj
    rw [pu_up_ne _ _ (by omega), pu_up_ne _ _ (by omega), pu_up_ne _ _ (by omega), pu_up_ne _ _ (by omega), pu_up_ne _ _ (by omega), pu_up_ne _ _ (by omega), pu_up_ne _ _ (by omega), pu_up_ne _ _ (by omega),
      pu_up_ne _ _ (show (127 : Nat) ≠ 123 by omega), pu_up_ne _ _ (show (127 : Nat) ≠ 123 by omega), pu_up_ne _ _ (show (127 : Nat) ≠ 123 by omega), pu_up_ne _ _ (show (127 : Nat) ≠ 123 by omega)]
    exact a6 j hj
  · rw [pu_up_row, pu_upd_ne _ _ (by omega), pu_up_row, pu_upd_ne _ _ (by omega), pu_up_row, pu_upd_eq]
    exact (a6 (i + 1) hi).2.1
  · rw [pu_up_row, pu_upd_ne _ _ (by omega), pu_up_row, pu_upd_eq]
    exact (a6 (i + 1) hi).2.2.1
  · rw [pu_up_row, pu_upd_eq]
    exact (a6 (i + 1) hi).2.2.2
  · rw [r2.2 12 (by omega) (by omega) (by omega) (by omega)]
    exact a8
  · rw [pu_up_ne _ _ ha, pu_up_ne _ _ ha, pu_up_ne _ _ ha, pu_up_ne _ _ ha]
