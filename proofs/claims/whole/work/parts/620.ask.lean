/-! THE LAW ASKED OF A GLASS -/
theorem rl_gX {F : Nat → Nat → Int32} {w : Nat → Int32} (h : rl_T rl_X 0 F w) : F 14 0 = w 71 ∧ F 20 0 = w 72 := by
  have h1 : ((14, 0, 71, 1, 1) : rl_B) ∈ rl_X := List.mem_of_getElem? (i := 1) rfl
  have h2 : ((20, 0, 72, 1, 1) : rl_B) ∈ rl_X := List.mem_of_getElem? (i := 2) rfl
  exact ⟨h _ h1 0 (by decide), h _ h2 0 (by decide)⟩
theorem ask_2 {c : Nat → Nat} {T : Nat} {f g : Nat → Nat → Int32} (h : tk_P 0 c T f g) {n i : Nat} (en : g 217 69 = nI n) (hn : n ≤ 6) (hi : i < n) (ht : f 6 i = -1 ∨ ∃ q, q < 16 ∧ f 6 i = nI q) : ∃ f1 g1, xb_behold_2 (nI i) f = some f1 ∧ m_asks (nI i) (f 6 i) g = some g1 ∧ (∀ x, x ≠ 121 → f1 x = f x) ∧ (∀ x, x ≠ 226 → g1 x = g x) ∧ m_nearOf (nI i) (f 6 i) g = some (g1 226 1) ∧ f1 121 7 = g1 226 1 ∧ (∃ a, a ≤ 10 ∧ g1 226 1 = nI a) ∧
    ∀ k, k < 3 → ∀ u u', ∃ v u1 u1', xb_told (nI k) (am_row f1 122 u) = some (v, am_row f1 122 u1) ∧ m_lawSays (nI (20 + k)) (lw_def (g1 226) k) (lw_top k) (am_row g1 225 u') = some (v, am_row g1 225 u1') ∧ ¬ v < 0 := by
  have ho : 0 = 0 ∨ 0 = 108 := by decide
  obtain ⟨r, r', b1, b2, b3, b4, ⟨a, a1, a2⟩, ⟨d, d1, d2⟩⟩ := bh_2 h en hn hi ht
  have R1 := tk_P.scr (f' := am_row f 121 r) (g' := am_row g 226 r') ho h (fun x x1 x2 => row_ne _ _ x1) (fun x x1 x2 => row_ne _ _ x2)
  refine ⟨_, _, b1, b2, fun x hx => row_ne _ _ hx, fun x hx => row_ne _ _ hx, b3.trans (by rw [row_row]), ?_, ⟨a, a1, by rw [row_row]; exact a2⟩, ?_⟩
  · rw [row_row, row_row]
    exact b4 1 (by decide) (by decide)
  · intro k hk u u'
    exact lw_told (nm := am_row g 226 r' 226) R1.2.2.2.2.2.2.1 (rl_gX R1.2.1).1 (fun q q1 q2 => by rw [row_row, row_row]; exact b4 q q1 q2) (fun q _ _ => rfl) a1 d1 (by rw [row_row]; exact a2) (by rw [row_row]; exact d2) hk u u'
theorem ask_110 {c : Nat → Nat} {T : Nat} {f g : Nat → Nat → Int32} (h : tk_P 108 c T f g) {n i : Nat} (en : g 217 69 = nI n) (hn : n ≤ 6) (hi : i < n) (ht : f 114 i = -1 ∨ ∃ q, q < 16 ∧ f 114 i = nI q) : ∃ f1 g1, xb_behold_110 (nI i) f = some f1 ∧ m_asks (nI i) (f 114 i) g = some g1 ∧ (∀ x, x ≠ 121 → f1 x = f x) ∧ (∀ x, x ≠ 226 → g1 x = g x) ∧ m_nearOf (nI i) (f 114 i) g = some (g1 226 1) ∧ f1 121 7 = g1 226 1 ∧ (∃ a, a ≤ 10 ∧ g1 226 1 = nI a) ∧
    ∀ k, k < 3 → ∀ u u', ∃ v u1 u1', xb_told (nI k) (am_row f1 122 u) = some (v, am_row f1 122 u1) ∧ m_lawSays (nI (20 + k)) (lw_def (g1 226) k) (lw_top k) (am_row g1 225 u') = some (v, am_row g1 225 u1') ∧ ¬ v < 0 := by
  have ho : 108 = 0 ∨ 108 = 108 := by decide
  obtain ⟨r, r', b1, b2, b3, b4, ⟨a, a1, a2⟩, ⟨d, d1, d2⟩⟩ := bh_110 h en hn hi ht
  have R1 := tk_P.scr (f' := am_row f 121 r) (g' := am_row g 226 r') ho h (fun x x1 x2 => row_ne _ _ x1) (fun x x1 x2 => row_ne _ _ x2)
  refine ⟨_, _, b1, b2, fun x hx => row_ne _ _ hx, fun x hx => row_ne _ _ hx, b3.trans (by rw [row_row]), ?_, ⟨a, a1, by rw [row_row]; exact a2⟩, ?_⟩
  · rw [row_row, row_row]
    exact b4 1 (by decide) (by decide)
  · intro k hk u u'
    exact lw_told (nm := am_row g 226 r' 226) R1.2.2.2.2.2.2.1 (rl_gX R1.2.1).1 (fun q q1 q2 => by rw [row_row, row_row]; exact b4 q q1 q2) (fun q _ _ => rfl) a1 d1 (by rw [row_row]; exact a2) (by rw [row_row]; exact d2) hk u u'
