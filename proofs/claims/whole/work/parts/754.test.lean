/-! the tests at a token, on both sides -/
theorem kw_cb : (List.range 4).all (fun k => (List.range (kw_W k).length).all fun x => decide (3 ≤ kw_c k x) && decide (kw_c k x ≤ 50) && (List.range (kw_W k).length).all fun y => decide (x = y) || !decide (kw_c k x = kw_c k y)) = true := by decide +kernel
theorem kw_cB {k x : Nat} (hk : k < 4) (hx : x < (kw_W k).length) : 3 ≤ kw_c k x ∧ kw_c k x ≤ 50 ∧ ∀ y, y < (kw_W k).length → kw_c k x = kw_c k y → x = y := by
  have h := List.all_eq_true.mp (List.all_eq_true.mp kw_cb k (List.mem_range.mpr hk)) x (List.mem_range.mpr hx)
  rw [Bool.and_eq_true, Bool.and_eq_true, decide_eq_true_eq, decide_eq_true_eq] at h
  refine ⟨h.1.1, h.1.2, fun y hy e => ?_⟩
  have h2 := List.all_eq_true.mp h.2 y (List.mem_range.mpr hy)
  rw [decide_eq_true e] at h2
  simpa using h2
theorem kw_len {k : Nat} (hk : k < 4) : (kw_W k).length ≤ 17 := by
  have : ∀ k, k < 4 → (kw_W k).length ≤ 17 := by decide
  exact this k hk
theorem lx_S40 {c : Nat} (h : lx_S c = true) : 40 ≤ c ∧ c ≤ 62 := by
  unfold lx_S at h
  simp only [Bool.or_eq_true, Bool.and_eq_true, decide_eq_true_eq] at h
  omega
theorem nI_ne {a b : Nat} (h : a ≠ b) (ha : a < 2 ^ 31 := by omega) (hb : b < 2 ^ 31 := by omega) : ¬ nI a = nI b := fun z => h (pu_nIinj ha hb z)
section
variable {n : Nat} {b : Nat → Nat} {k N i : Nat} {F G : Nat → Nat → Int32}
theorem xt_wordI {x : Int32} : xt_isWord x F = true ↔ F 123 1 = 1 ∧ F 123 2 = x := by
  unfold xt_isWord
  by_cases c : F 123 1 = 1
  · rw [if_pos c]
    by_cases d : F 123 2 = x
    · rw [if_pos d]; exact ⟨fun _ => ⟨c, d⟩, fun _ => rfl⟩
    · rw [if_neg d]; exact ⟨(fun z => by cases z), fun z => absurd z.2 d⟩
  · rw [if_neg c]; exact ⟨(fun z => by cases z), fun z => absurd z.1 c⟩
theorem xt_signI {x : Int32} : xt_isSign x F = true ↔ F 123 1 = 3 ∧ F 123 2 = x := by
  unfold xt_isSign
  by_cases c : F 123 1 = 3
  · rw [if_pos c]
    by_cases d : F 123 2 = x
    · rw [if_pos d]; exact ⟨fun _ => ⟨c, d⟩, fun _ => rfl⟩
    · rw [if_neg d]; exact ⟨(fun z => by cases z), fun z => absurd z.2 d⟩
  · rw [if_neg c]; exact ⟨(fun z => by cases z), fun z => absurd z.1 c⟩
/-- the model's number of a token, by cases -/
theorem tx_C.code (h : tx_C n b k N i F G) : (i = N ∧ F 123 1 = 0 ∧ G 216 18 = nI 0) ∨ (i < N ∧ F 123 1 = 1 ∧ ∃ x, x < (kw_W k).length ∧ F 123 2 = nI x ∧ G 216 18 = nI (kw_c k x) ∧ 3 ≤ kw_c k x ∧ kw_c k x ≤ 50) ∨ (i < N ∧ F 123 1 = 2 ∧ ∃ v, v ≤ 9999 ∧ F 123 2 = nI v ∧ G 216 18 = nI 2 ∧ G 216 20 = nI v) ∨
    (i < N ∧ F 123 1 = 3 ∧ ∃ c, 40 ≤ c ∧ c ≤ 62 ∧ F 123 2 = nI c ∧ G 216 18 = nI (100 + c)) ∨ (i < N ∧ F 123 1 = 4 ∧ G 216 18 = nI 1) := by
  have hk := h.2.2.1.1
  rcases h.view with h | ⟨h0, ⟨h, x, h1, h2, h3⟩ | ⟨h, v, h1⟩ | ⟨h, c, h1, h2, h3⟩ | h⟩
  · exact Or.inl h
  · have := kw_cB hk h1
    exact Or.inr (Or.inl ⟨h0, h, x, h1, h2, h3, this.1, this.2.1⟩)
  · exact Or.inr (Or.inr (Or.inl ⟨h0, h, v, h1⟩))
  · have := lx_S40 h2
    exact Or.inr (Or.inr (Or.inr (Or.inl ⟨h0, h, c, this.1, this.2, h3⟩)))
  · exact Or.inr (Or.inr (Or.inr (Or.inr ⟨h0, h⟩)))
theorem tx_C.sign (h : tx_C n b k N i F G) {c : Nat} (h1 : 40 ≤ c) (h2 : c ≤ 62) : xt_isSign (nI c) F = true ↔ G 216 18 = nI (100 + c) := by
  rw [xt_signI]
  rcases h.code with ⟨a0, a1, a2⟩ | ⟨a0, a1, x, a2, a3, a4, a5, a6⟩ | ⟨a0, a1, v, a2, a3, a4, a5⟩ | ⟨a0, a1, d, a2, a3, a4, a5⟩ | ⟨a0, a1, a2⟩
  · rw [a1, a2]; exact ⟨fun z => absurd z.1 (by decide), fun z => absurd z (nI_ne (by omega))⟩
  · rw [a1, a4]; exact ⟨fun z => absurd z.1 (by decide), fun z => absurd z (nI_ne (by omega))⟩
  · rw [a1, a4]; exact ⟨fun z => absurd z.1 (by decide), fun z => absurd z (nI_ne (by omega))⟩
  · rw [a1, a4, a5]
    constructor
    · rintro ⟨_, z⟩
      rw [pu_nIinj (by omega) (by omega) z]
    · intro z
      have := pu_nIinj (by omega) (by omega) z
      exact ⟨rfl, by rw [show d = c by omega]⟩
  · rw [a1, a2]; exact ⟨fun z => absurd z.1 (by decide), fun z => absurd z (nI_ne (by omega))⟩
theorem tx_C.signN (h : tx_C n b k N i F G) {c : Nat} (h1 : 1 ≤ c) (e : G 216 18 = nI c) (h2 : c < 1000) : i < N := by
  rcases h.code with ⟨a0, a1, a2⟩ | ⟨a0, _⟩ | ⟨a0, _⟩ | ⟨a0, _⟩ | ⟨a0, _⟩
  · rw [a2] at e
    exact absurd e (nI_ne (by omega))
  all_goals exact a0
theorem tx_C.word (h : tx_C n b k N i F G) {x : Nat} (h1 : x < (kw_W k).length) : xt_isWord (nI x) F = true ↔ G 216 18 = nI (kw_c k x) := by
  have hk := h.2.2.1.1
  obtain ⟨c1, c2, c3⟩ := kw_cB hk h1
  have hl := kw_len hk
  rw [xt_wordI]
  rcases h.code with ⟨a0, a1, a2⟩ | ⟨a0, a1, y, a2, a3, a4, a5, a6⟩ | ⟨a0, a1, v, a2, a3, a4, a5⟩ | ⟨a0, a1, d, a2, a3, a4, a5⟩ | ⟨a0, a1, a2⟩
  · rw [a1, a2]; exact ⟨fun z => absurd z.1 (by decide), fun z => absurd z (nI_ne (by omega))⟩
  · rw [a1, a3, a4]
    constructor
    · rintro ⟨_, z⟩
      rw [pu_nIinj (by omega) (by omega) z]
    · intro z
      rw [c3 y a2 (pu_nIinj (by omega) (by omega) z).symm]
      exact ⟨rfl, rfl⟩
  · rw [a1, a4]; exact ⟨fun z => absurd z.1 (by decide), fun z => absurd z (nI_ne (by omega))⟩
  · rw [a1, a5]; exact ⟨fun z => absurd z.1 (by decide), fun z => absurd z (nI_ne (by omega))⟩
  · rw [a1, a2]; exact ⟨fun z => absurd z.1 (by decide), fun z => absurd z (nI_ne (by omega))⟩
theorem tx_C.num (h : tx_C n b k N i F G) : F 123 1 = 2 ↔ G 216 18 = 2 := by
  show _ ↔ G 216 18 = nI 2
  rcases h.code with ⟨a0, a1, a2⟩ | ⟨a0, a1, y, a2, a3, a4, a5, a6⟩ | ⟨a0, a1, v, a2, a3, a4, a5⟩ | ⟨a0, a1, d, a2, a3, a4, a5⟩ | ⟨a0, a1, a2⟩
  · rw [a1, a2]; exact ⟨fun z => absurd z (by decide), fun z => absurd z (nI_ne (by omega))⟩
  · rw [a1, a4]; exact ⟨fun z => absurd z (by decide), fun z => absurd z (nI_ne (by omega))⟩
  · rw [a1, a4]; exact ⟨fun _ => rfl, fun _ => rfl⟩
  · rw [a1, a5]; exact ⟨fun z => absurd z (by decide), fun z => absurd z (nI_ne (by omega))⟩
  · rw [a1, a2]; exact ⟨fun z => absurd z (by decide), fun z => absurd z (nI_ne (by omega))⟩
theorem tx_C.numV (h : tx_C n b k N i F G) (e : F 123 1 = 2) : i < N ∧ ∃ v, v ≤ 9999 ∧ F 123 2 = nI v ∧ G 216 20 = nI v := by
  rcases h.code with ⟨a0, a1, a2⟩ | ⟨a0, a1, _⟩ | ⟨a0, a1, v, a2, a3, a4, a5⟩ | ⟨a0, a1, _⟩ | ⟨a0, a1, a2⟩
  · rw [a1] at e; exact absurd e (by decide)
  · rw [a1] at e; exact absurd e (by decide)
  · exact ⟨a0, v, a2, a3, a5⟩
  · rw [a1] at e; exact absurd e (by decide)
  · rw [a1] at e; exact absurd e (by decide)
theorem tx_C.wrd (h : tx_C n b k N i F G) : (i < N ∧ F 123 1 = 1 ∧ ∃ x, x < (kw_W k).length ∧ F 123 2 = nI x ∧ G 216 18 = nI (kw_c k x) ∧ 3 ≤ kw_c k x ∧ kw_c k x ≤ 50) ∨ (¬ F 123 1 = 1 ∧ ∃ c, (c < 3 ∨ 100 ≤ c) ∧ c < 1000 ∧ G 216 18 = nI c) := by
  rcases h.code with ⟨a0, a1, a2⟩ | ⟨a0, a1, x, a2⟩ | ⟨a0, a1, v, a2, a3, a4, a5⟩ | ⟨a0, a1, d, a2, a3, a4, a5⟩ | ⟨a0, a1, a2⟩
  · exact Or.inr ⟨by rw [a1]; decide, _, by omega, by omega, a2⟩
  · exact Or.inl ⟨a0, a1, x, a2⟩
  · exact Or.inr ⟨by rw [a1]; decide, _, by omega, by omega, a4⟩
  · exact Or.inr ⟨by rw [a1]; decide, _, by omega, by omega, a5⟩
  · exact Or.inr ⟨by rw [a1]; decide, _, by omega, by omega, a2⟩
theorem tx_C.fin (h : tx_C n b k N i F G) : (i = N ∧ F 123 1 = 0 ∧ G 216 18 = 0) ∨ (i < N ∧ ¬ F 123 1 = 0 ∧ ¬ G 216 18 = 0) := by
  rcases h.code with a | ⟨a0, a1, x, a2, a3, a4, a5, a6⟩ | ⟨a0, a1, v, a2, a3, a4, a5⟩ | ⟨a0, a1, d, a2, a3, a4, a5⟩ | ⟨a0, a1, a2⟩
  · exact Or.inl a
  · exact Or.inr ⟨a0, by rw [a1]; decide, by rw [a4]; exact nI_ne (b := 0) (by omega)⟩
  · exact Or.inr ⟨a0, by rw [a1]; decide, by rw [a4]; exact nI_ne (b := 0) (by omega)⟩
  · exact Or.inr ⟨a0, by rw [a1]; decide, by rw [a5]; exact nI_ne (b := 0) (by omega)⟩
  · exact Or.inr ⟨a0, by rw [a1]; decide, by rw [a2]; exact nI_ne (b := 0) (by omega)⟩
/-! frames of what reads -/
def tx_U (F F' : Nat → Nat → Int32) : Prop := (∃ u, u ≤ 400 ∧ F 129 1 = nI u) → ∃ u, u ≤ 400 ∧ F' 129 1 = nI u
def tx_P (F G F' G' : Nat → Nat → Int32) : Prop := (∀ a, a ≠ 123 → a ≠ 128 → a ≠ 129 → a ≠ 130 → F' a = F a) ∧ (F' 128 8 = F 128 8 ∧ F' 128 9 = F 128 9 ∧ F' 129 0 = F 129 0) ∧
  (∀ a, a ≠ 216 → a ≠ 222 → a ≠ 223 → G' a = G a) ∧ (∀ j, j ≤ 13 ∨ j = 15 ∨ j = 16 ∨ j = 23 ∨ 25 ≤ j → G' 216 j = G 216 j) ∧ tx_U F F'
theorem tx_P.rf : tx_P F G F G := ⟨fun _ _ _ _ _ => rfl, ⟨rfl, rfl, rfl⟩, fun _ _ _ _ => rfl, fun _ _ => rfl, fun z => z⟩
theorem tx_P.tr {F' G' F'' G'' : Nat → Nat → Int32} (h : tx_P F G F' G') (h' : tx_P F' G' F'' G'') : tx_P F G F'' G'' :=
  ⟨fun a a1 a2 a3 a4 => (h'.1 a a1 a2 a3 a4).trans (h.1 a a1 a2 a3 a4), ⟨h'.2.1.1.trans h.2.1.1, h'.2.1.2.1.trans h.2.1.2.1, h'.2.1.2.2.trans h.2.1.2.2⟩, fun a a1 a2 a3 => (h'.2.2.1 a a1 a2 a3).trans (h.2.2.1 a a1 a2 a3), fun j hj => (h'.2.2.2.1 j hj).trans (h.2.2.2.1 j hj), fun z => h'.2.2.2.2 (h.2.2.2.2 z)⟩
theorem tx_P.adv {F' G' : Nat → Nat → Int32} (h1 : ∀ a, a ≠ 123 → F' a = F a) (h2 : tx_fm G G') : tx_P F G F' G' :=
  ⟨fun a a1 _ _ _ => h1 a a1, ⟨by rw [h1 128 (by omega)], by rw [h1 128 (by omega)], by rw [h1 129 (by omega)]⟩, fun a a1 _ _ => h2.1 a a1, fun j hj => h2.2 j (by omega) (by omega) (by omega) (by omega), fun z => by rw [h1 129 (by omega)]; exact z⟩
/-- faults -/
def tx_Z (F G : Nat → Nat → Int32) : Prop := F 128 4 = G 216 21 ∧ F 128 5 = G 216 22
theorem tx_bad (h : tx_C n b k N i F G) (c : Int32) : ∃ F' G', xs_refuse c F = (false, F') ∧ m_bad c G = (false, G') ∧ tx_P F G F' G' ∧ tx_Z F' G' := by
  obtain ⟨a1, a2, a3, a4, a5, a6, ⟨a71, a72, a73⟩, a8, a9, a10, a11⟩ := h
  refine ⟨_, _, rfl, rfl, ⟨fun a h1 h2 h3 h4 => ?_, ⟨?_, ?_, ?_⟩, fun a h1 h2 h3 => ?_, fun j hj => ?_, fun z => ?_⟩, ?_, ?_⟩
  · rw [pu_up_ne _ _ h2, pu_up_ne _ _ h2]
  · rw [pu_up_row, pu_upd_ne _ _ (by omega), pu_up_row, pu_upd_ne _ _ (by omega)]
  · rw [pu_up_row, pu_upd_ne _ _ (by omega), pu_up_row, pu_upd_ne _ _ (by omega)]
  · rw [pu_up_ne _ _ (by omega), pu_up_ne _ _ (by omega)]
  · rw [pu_up_ne _ _ h1, pu_up_ne _ _ h1]
  · rw [pu_up_row, pu_upd_ne _ _ (by omega), pu_up_row, pu_upd_ne _ _ (by omega)]
  · rw [pu_up_ne _ _ (by omega), pu_up_ne _ _ (by omega)]
    exact z
  · rw [pu_up_row, pu_upd_ne _ _ (by omega), pu_up_row, pu_upd_eq, pu_up_row, pu_upd_ne _ _ (by omega), pu_up_row, pu_upd_eq]
  · rw [pu_up_row, pu_upd_eq, pu_up_ne _ _ (by omega), a73, pu_up_row, pu_upd_eq, pu_up_row, pu_upd_ne _ _ (by omega), a10]
end
