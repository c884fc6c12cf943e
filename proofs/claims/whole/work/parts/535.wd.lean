/-! A WORLD MADE ANEW -/
theorem iv_othx {o T T' : Nat} {F F' : Nat → Nat → Int32} {w w' : Nat → Int32} (h : rl_Wd o T F w) (hT : rl_T rl_W o F' w') (hC : iv_C T' w') (hr : ∀ a, 14 ≤ a → a ≤ 54 → F' (a + o) = F (a + o)) (hn : ∀ n, w 69 = nI n → n ≤ 6 → ∃ n', w' 69 = nI n' ∧ n' ≤ 6 ∧ n ≤ n') (hm : ∀ m, w 70 = nI m → m ≤ 12 → ∃ m', w' 70 = nI m' ∧ m' ≤ 12 ∧ m ≤ m') (hm' : ∀ m', w' 70 = nI m' → m' ≤ 12 → ∃ m, m ≤ 12 ∧ w 70 = nI m ∧ m ≤ m') (hw : ∀ i, 71 ≤ i → (i < 524 ∨ 1124 ≤ i) → w' i = w i) : rl_Wd o T' F' w' := by
  obtain ⟨-, -, h3, h4, h5, h6, h7⟩ := h
  refine ⟨hT, hC, ?_, ?_, ?_, ?_, ?_⟩
  · intro i hi
    obtain ⟨s, s1, s2, s3⟩ := h3 i hi
    refine ⟨s, s1, by rw [hw _ (by omega) (by omega)]; exact s2, fun m2 e1 e2 e3 => ?_⟩
    obtain ⟨m3, y1, y2, y3⟩ := hm' m2 e1 e2
    exact s3 m3 y2 y1 (by omega)
  · obtain ⟨h4, h4'⟩ := h4
    refine ⟨fun j hj => ?_, fun a b ha hb => ?_⟩
    · rw [hw _ (by omega) (by omega)]; exact h4 j hj
    · rw [hw _ (by omega) (by omega), hw _ (by omega) (by omega)]; exact h4' a b ha hb
  · obtain ⟨l, l1, l2, l3⟩ := h5
    refine ⟨l, l1, by rw [hw _ (by omega) (by omega)]; exact l2, fun i hi => ?_⟩
    have hl := l3 i hi
    unfold iv_L at hl ⊢
    rw [hr 21 (by decide) (by decide), hr 22 (by decide) (by decide), hr 23 (by decide) (by decide), hr 24 (by decide) (by decide), hw (343 + 4 * i) (by omega) (by omega), hw (344 + 4 * i) (by omega) (by omega), hw (345 + 4 * i) (by omega) (by omega), hw (346 + 4 * i) (by omega) (by omega)]
    obtain ⟨a, g, d, y1, y2, y3, y4, y5, ⟨n, y6, y60, y6'⟩, y7, y8, y9, y10, y11, y12⟩ := hl
    refine ⟨a, g, d, y1, y2, y3, y4, y5, ?_, y7, y8, y9, y10, y11, fun e => ?_⟩
    · obtain ⟨n', z1, z0, z2⟩ := hn n y6 y60
      exact ⟨n', z1, z0, by omega⟩
    · obtain ⟨v, v1, v2, m, v3, v30, v4⟩ := y12 e
      obtain ⟨m', z1, z0, z2⟩ := hm m v3 v30
      exact ⟨v, v1, v2, m', z1, z0, by omega⟩
  · unfold iv_T at h6 ⊢
    obtain ⟨t1, t2, t3, t4, t5, t6, t7, t8, t9, t10⟩ := h6
    have two : ∀ {p q most : Nat} {P : Int32 → Int32 → Prop}, 71 ≤ p → p < 524 → 71 ≤ q → q + 2 * most + 2 < 524 → iv_R w p most (fun i => P (w (q + 2 * i)) (w (q + 1 + 2 * i))) → iv_R w' p most (fun i => P (w' (q + 2 * i)) (w' (q + 1 + 2 * i))) := by
      intro p q most P h1 h2 h3 h4 ⟨n, n1, n2, n3⟩
      refine ⟨n, n1, by rw [hw _ h1 (Or.inl h2)]; exact n2, fun i hi => ?_⟩
      show P (w' (q + 2 * i)) (w' (q + 1 + 2 * i))
      rw [hw _ (by omega) (by omega), hw _ (by omega) (by omega)]
      exact n3 i hi
    have one : ∀ {p q most : Nat} {P : Int32 → Prop}, 71 ≤ p → p < 524 → 71 ≤ q → q + most < 525 → iv_R w p most (fun i => P (w (q + i))) → iv_R w' p most (fun i => P (w' (q + i))) := by
      intro p q most P h1 h2 h3 h4 ⟨n, n1, n2, n3⟩
      refine ⟨n, n1, by rw [hw _ h1 (Or.inl h2)]; exact n2, fun i hi => ?_⟩
      show P (w' (q + i))
      rw [hw _ (by omega) (by omega)]
      exact n3 i hi
    refine ⟨?_, ?_, ?_, ?_, ?_, ?_, ?_, ?_, ?_, fun i hi => ?_⟩
    · exact two (q := 408) (P := fun x y => ∃ a b, a < 16 ∧ b ≤ 10 ∧ x = nI a ∧ y = nI b) (by decide) (by decide) (by decide) (by decide) t1
    · exact two (q := 425) (P := fun x y => ∃ a b, 1 ≤ a ∧ a ≤ 9 ∧ b < 256 ∧ x = nI a ∧ y = nI b) (by decide) (by decide) (by decide) (by decide) t2
    · exact two (q := 438) (P := fun x _ => ∃ a, a ≤ 9 ∧ x = nI a) (by decide) (by decide) (by decide) (by decide) t3
    · exact two (q := 447) (P := fun x _ => ∃ a, a ≤ 3 ∧ x = nI a) (by decide) (by decide) (by decide) (by decide) t4
    · exact one (q := 460) (P := fun x => ∃ a, 1 ≤ a ∧ a ≤ 40 ∧ x = nI a) (by decide) (by decide) (by decide) (by decide) t5
    · exact one (q := 465) (P := fun x => ∃ a, a < 65536 ∧ x = nI a) (by decide) (by decide) (by decide) (by decide) t6
    · exact one (q := 482) (P := fun x => ∃ a, a ≤ 99 ∧ x = nI a) (by decide) (by decide) (by decide) (by decide) t7
    · exact one (q := 507) (P := fun x => ∃ a, 1 ≤ a ∧ a ≤ 9999 ∧ x = nI a) (by decide) (by decide) (by decide) (by decide) t8
    · exact one (q := 516) (P := fun x => ∃ a, 1 ≤ a ∧ a ≤ 20 ∧ x = nI a) (by decide) (by decide) (by decide) (by decide) t9
    · rw [hw _ (by omega) (by omega)]; exact t10 i hi
  · obtain ⟨l, u, l1, l2, l3, l4, l5⟩ := h7
    refine ⟨l, u, l1, l2, by rw [hw _ (by omega) (by omega)]; exact l3, by rw [hr 14 (by decide) (by decide)]; exact l4, fun i hi => ?_⟩
    have hl := l5 i hi
    unfold lw_Ln lw_cX at hl ⊢
    rw [hr 15 (by decide) (by decide), hr 16 (by decide) (by decide), hr 17 (by decide) (by decide), hr 18 (by decide) (by decide), hr 19 (by decide) (by decide), hw (1172 + i) (by omega) (by omega), hw (1124 + i) (by omega) (by omega), hw (1140 + i) (by omega) (by omega), hw (1156 + i) (by omega) (by omega)]
    obtain ⟨k, a, a', P, Q, y1, y2, y3, y4, y5, y6, y7, y8, y9, y10, y11, y12, y13, y14, y15, y16, y17⟩ := hl
    refine ⟨k, a, a', P, Q, y1, y2, y3, y4, y5, y6, y7, y8, y9, y10, y11, y12, y13, fun t s e => ?_, fun t s e => ?_, y16, y17⟩
    · rw [hw _ (by omega) (by omega), hw _ (by omega) (by omega)]; exact y14 t s e
    · rw [hw _ (by omega) (by omega), hw _ (by omega) (by omega)]; exact y15 t s e
theorem iv_oth {o T T' : Nat} {F F' : Nat → Nat → Int32} {w w' : Nat → Int32} (h : rl_Wd o T F w) (hT : rl_T rl_W o F' w') (hC : iv_C T' w') (hr : ∀ a, 14 ≤ a → a ≤ 54 → F' (a + o) = F (a + o)) (hw : ∀ i, 69 ≤ i → (i < 524 ∨ 1124 ≤ i) → w' i = w i) : rl_Wd o T' F' w' :=
  iv_othx h hT hC hr (fun n e h6 => ⟨n, by rw [hw 69 (by decide) (by decide)]; exact e, h6, Nat.le_refl _⟩) (fun m e h12 => ⟨m, by rw [hw 70 (by decide) (by decide)]; exact e, h12, Nat.le_refl _⟩) (fun m e h12 => ⟨m, h12, by rw [hw 70 (by decide) (by decide)] at e; exact e, Nat.le_refl _⟩) (fun i h1 h2 => hw i (by omega) h2)
section IVC
variable {T : Nat} {c : Nat → Nat} {w : Nat → Int32}
theorem iv_c_dr (h : iv_Cc c T w) (v : Int32) : iv_Cc c T (upd w (1) v) := by
  obtain ⟨n, m, t, b, x1, x2, x3, x4, x5, x6, x7, x8, x9, x10, x11, x12, x13⟩ := h
  refine ⟨n, m, t, b, by rw [pu_upd_ne _ _ (by omega)]; exact x1, x2, by rw [pu_upd_ne _ _ (by omega)]; exact x3, x4, by rw [pu_upd_ne _ _ (by omega)]; exact x5, x6, by rw [pu_upd_ne _ _ (by omega)]; exact x7, x8, fun i hi => ?_, fun i hi => ?_, fun i hi => ?_, fun i hi => ?_, fun i hi => ?_⟩
  · rw [pu_upd_ne _ _ (by omega)]; exact x9 i hi
  · rw [pu_upd_ne _ _ (by omega)]; exact x10 i hi
  · rw [pu_upd_ne _ _ (by omega)]; exact x11 i hi
  · rw [pu_upd_ne _ _ (by omega)]; exact x12 i hi
  · exact ⟨by rw [pu_upd_ne _ _ (by omega)]; exact (x13 i hi).1, fun hm => by rw [pu_upd_ne _ _ (by omega), pu_upd_ne _ _ (by omega)]; exact (x13 i hi).2 hm⟩
theorem iv_c_le (h : iv_Cc c T w) {j z : Nat} (hj : j < 6) (hz : z ≤ 99) : iv_Cc c T (upd w (3 + j) (nI z)) := by
  obtain ⟨n, m, t, b, x1, x2, x3, x4, x5, x6, x7, x8, x9, x10, x11, x12, x13⟩ := h
  refine ⟨n, m, t, b, by rw [pu_upd_ne _ _ (by omega)]; exact x1, x2, by rw [pu_upd_ne _ _ (by omega)]; exact x3, x4, by rw [pu_upd_ne _ _ (by omega)]; exact x5, x6, by rw [pu_upd_ne _ _ (by omega)]; exact x7, x8, fun i hi => ?_, fun i hi => ?_, fun i hi => ?_, fun i hi => ?_, fun i hi => ?_⟩
  · by_cases e : i = j
    · subst e; rw [pu_upd_eq]; exact ⟨z, hz, rfl⟩
    · rw [pu_upd_ne _ _ (by omega)]; exact x9 i hi
  · rw [pu_upd_ne _ _ (by omega)]; exact x10 i hi
  · rw [pu_upd_ne _ _ (by omega)]; exact x11 i hi
  · rw [pu_upd_ne _ _ (by omega)]; exact x12 i hi
  · exact ⟨by rw [pu_upd_ne _ _ (by omega)]; exact (x13 i hi).1, fun hm => by rw [pu_upd_ne _ _ (by omega), pu_upd_ne _ _ (by omega)]; exact (x13 i hi).2 hm⟩
theorem iv_c_re (h : iv_Cc c T w) {j : Nat} (hj : j < 6) (v : Int32) : iv_Cc c T (upd w (9 + j) v) := by
  obtain ⟨n, m, t, b, x1, x2, x3, x4, x5, x6, x7, x8, x9, x10, x11, x12, x13⟩ := h
  refine ⟨n, m, t, b, by rw [pu_upd_ne _ _ (by omega)]; exact x1, x2, by rw [pu_upd_ne _ _ (by omega)]; exact x3, x4, by rw [pu_upd_ne _ _ (by omega)]; exact x5, x6, by rw [pu_upd_ne _ _ (by omega)]; exact x7, x8, fun i hi => ?_, fun i hi => ?_, fun i hi => ?_, fun i hi => ?_, fun i hi => ?_⟩
  · rw [pu_upd_ne _ _ (by omega)]; exact x9 i hi
  · rw [pu_upd_ne _ _ (by omega)]; exact x10 i hi
  · rw [pu_upd_ne _ _ (by omega)]; exact x11 i hi
  · rw [pu_upd_ne _ _ (by omega)]; exact x12 i hi
  · exact ⟨by rw [pu_upd_ne _ _ (by omega)]; exact (x13 i hi).1, fun hm => by rw [pu_upd_ne _ _ (by omega), pu_upd_ne _ _ (by omega)]; exact (x13 i hi).2 hm⟩
theorem iv_c_un (h : iv_Cc c T w) {j : Nat} (hj : j < 6) {v : Int32} (hv : v = -1 ∨ ∃ p m, p < m ∧ m ≤ 12 ∧ w 70 = nI m ∧ v = nI p) : iv_Cc c T (upd w (15 + j) v) := by
  obtain ⟨n, m, t, b, x1, x2, x3, x4, x5, x6, x7, x8, x9, x10, x11, x12, x13⟩ := h
  have hv : v = -1 ∨ ∃ p, p < m ∧ v = nI p := by
    rcases hv with hv | ⟨p, m2, p1, p2, p3, p4⟩
    · exact Or.inl hv
    · rw [x3] at p3
      have := pu_nIinj (by omega) (by omega) p3
      subst this
      exact Or.inr ⟨p, p1, p4⟩
  refine ⟨n, m, t, b, by rw [pu_upd_ne _ _ (by omega)]; exact x1, x2, by rw [pu_upd_ne _ _ (by omega)]; exact x3, x4, by rw [pu_upd_ne _ _ (by omega)]; exact x5, x6, by rw [pu_upd_ne _ _ (by omega)]; exact x7, x8, fun i hi => ?_, fun i hi => ?_, fun i hi => ?_, fun i hi => ?_, fun i hi => ?_⟩
  · rw [pu_upd_ne _ _ (by omega)]; exact x9 i hi
  · by_cases e : i = j
    · subst e; rw [pu_upd_eq]; exact hv
    · rw [pu_upd_ne _ _ (by omega)]; exact x10 i hi
  · rw [pu_upd_ne _ _ (by omega)]; exact x11 i hi
  · rw [pu_upd_ne _ _ (by omega)]; exact x12 i hi
  · exact ⟨by rw [pu_upd_ne _ _ (by omega)]; exact (x13 i hi).1, fun hm => by rw [pu_upd_ne _ _ (by omega), pu_upd_ne _ _ (by omega)]; exact (x13 i hi).2 hm⟩
theorem iv_c_sa (h : iv_Cc c T w) {j : Nat} (hj : j < 6) {v : Int32} (hv : v = -1 ∨ ∃ q, q < 16 ∧ v = nI q) : iv_Cc c T (upd w (21 + j) v) := by
  obtain ⟨n, m, t, b, x1, x2, x3, x4, x5, x6, x7, x8, x9, x10, x11, x12, x13⟩ := h
  refine ⟨n, m, t, b, by rw [pu_upd_ne _ _ (by omega)]; exact x1, x2, by rw [pu_upd_ne _ _ (by omega)]; exact x3, x4, by rw [pu_upd_ne _ _ (by omega)]; exact x5, x6, by rw [pu_upd_ne _ _ (by omega)]; exact x7, x8, fun i hi => ?_, fun i hi => ?_, fun i hi => ?_, fun i hi => ?_, fun i hi => ?_⟩
  · rw [pu_upd_ne _ _ (by omega)]; exact x9 i hi
  · rw [pu_upd_ne _ _ (by omega)]; exact x10 i hi
  · by_cases e : i = j
    · subst e; rw [pu_upd_eq]; exact hv
    · rw [pu_upd_ne _ _ (by omega)]; exact x11 i hi
  · rw [pu_upd_ne _ _ (by omega)]; exact x12 i hi
  · exact ⟨by rw [pu_upd_ne _ _ (by omega)]; exact (x13 i hi).1, fun hm => by rw [pu_upd_ne _ _ (by omega), pu_upd_ne _ _ (by omega)]; exact (x13 i hi).2 hm⟩
theorem iv_c_co (h : iv_Cc c T w) {j z : Nat} (hj : j < 12) (hz : z ≤ 9) : iv_Cc c T (upd w (33 + j) (nI z)) := by
  obtain ⟨n, m, t, b, x1, x2, x3, x4, x5, x6, x7, x8, x9, x10, x11, x12, x13⟩ := h
  refine ⟨n, m, t, b, by rw [pu_upd_ne _ _ (by omega)]; exact x1, x2, by rw [pu_upd_ne _ _ (by omega)]; exact x3, x4, by rw [pu_upd_ne _ _ (by omega)]; exact x5, x6, by rw [pu_upd_ne _ _ (by omega)]; exact x7, x8, fun i hi => ?_, fun i hi => ?_, fun i hi => ?_, fun i hi => ?_, fun i hi => ?_⟩
  · rw [pu_upd_ne _ _ (by omega)]; exact x9 i hi
  · rw [pu_upd_ne _ _ (by omega)]; exact x10 i hi
  · rw [pu_upd_ne _ _ (by omega)]; exact x11 i hi
  · rw [pu_upd_ne _ _ (by omega)]; exact x12 i hi
  · refine ⟨?_, fun hm => by rw [pu_upd_ne _ _ (by omega), pu_upd_ne _ _ (by omega)]; exact (x13 i hi).2 hm⟩
    by_cases e : i = j
    · subst e; rw [pu_upd_eq]; exact ⟨z, hz, rfl⟩
    · rw [pu_upd_ne _ _ (by omega)]; exact (x13 i hi).1
theorem iv_c_ca (h : iv_Cc c T w) {j m0 : Nat} (hm0 : w 70 = nI m0) (h12 : m0 ≤ 12) (hj : j < m0) (v : Int32) : iv_Cc c T (upd w (45 + j) v) := by
  obtain ⟨n, m, t, b, x1, x2, x3, x4, x5, x6, x7, x8, x9, x10, x11, x12, x13⟩ := h
  have e0 : m0 = m := pu_nIinj (by omega) (by omega) (hm0.symm.trans x3)
  subst e0
  refine ⟨n, m0, t, b, by rw [pu_upd_ne _ _ (by omega)]; exact x1, x2, by rw [pu_upd_ne _ _ (by omega)]; exact x3, x4, by rw [pu_upd_ne _ _ (by omega)]; exact x5, x6, by rw [pu_upd_ne _ _ (by omega)]; exact x7, x8, fun i hi => ?_, fun i hi => ?_, fun i hi => ?_, fun i hi => ?_, fun i hi => ?_⟩
  · rw [pu_upd_ne _ _ (by omega)]; exact x9 i hi
  · rw [pu_upd_ne _ _ (by omega)]; exact x10 i hi
  · rw [pu_upd_ne _ _ (by omega)]; exact x11 i hi
  · rw [pu_upd_ne _ _ (by omega)]; exact x12 i hi
  · exact ⟨by rw [pu_upd_ne _ _ (by omega)]; exact (x13 i hi).1, fun hm => by rw [pu_upd_ne _ _ (by omega), pu_upd_ne _ _ (by omega)]; exact (x13 i hi).2 hm⟩
theorem iv_c_gi (h : iv_Cc c T w) {j m0 : Nat} (hm0 : w 70 = nI m0) (h12 : m0 ≤ 12) (hj : j < m0) (v : Int32) : iv_Cc c T (upd w (57 + j) v) := by
  obtain ⟨n, m, t, b, x1, x2, x3, x4, x5, x6, x7, x8, x9, x10, x11, x12, x13⟩ := h
  have e0 : m0 = m := pu_nIinj (by omega) (by omega) (hm0.symm.trans x3)
  subst e0
  refine ⟨n, m0, t, b, by rw [pu_upd_ne _ _ (by omega)]; exact x1, x2, by rw [pu_upd_ne _ _ (by omega)]; exact x3, x4, by rw [pu_upd_ne _ _ (by omega)]; exact x5, x6, by rw [pu_upd_ne _ _ (by omega)]; exact x7, x8, fun i hi => ?_, fun i hi => ?_, fun i hi => ?_, fun i hi => ?_, fun i hi => ?_⟩
  · rw [pu_upd_ne _ _ (by omega)]; exact x9 i hi
  · rw [pu_upd_ne _ _ (by omega)]; exact x10 i hi
  · rw [pu_upd_ne _ _ (by omega)]; exact x11 i hi
  · rw [pu_upd_ne _ _ (by omega)]; exact x12 i hi
  · exact ⟨by rw [pu_upd_ne _ _ (by omega)]; exact (x13 i hi).1, fun hm => by rw [pu_upd_ne _ _ (by omega), pu_upd_ne _ _ (by omega)]; exact (x13 i hi).2 hm⟩
theorem iv_c_bn (h : iv_Cc c T w) {z : Nat} (hz : z ≤ 150) : iv_Cc c T (upd w (2) (nI z)) := by
  obtain ⟨n, m, t, b, x1, x2, x3, x4, x5, x6, x7, x8, x9, x10, x11, x12, x13⟩ := h
  refine ⟨n, m, t, z, by rw [pu_upd_ne _ _ (by omega)]; exact x1, x2, by rw [pu_upd_ne _ _ (by omega)]; exact x3, x4, by rw [pu_upd_ne _ _ (by omega)]; exact x5, x6, pu_upd_eq _ _ _, hz, fun i hi => ?_, fun i hi => ?_, fun i hi => ?_, fun i hi => ?_, fun i hi => ?_⟩
  · rw [pu_upd_ne _ _ (by omega)]; exact x9 i hi
  · rw [pu_upd_ne _ _ (by omega)]; exact x10 i hi
  · rw [pu_upd_ne _ _ (by omega)]; exact x11 i hi
  · rw [pu_upd_ne _ _ (by omega)]; exact x12 i hi
  · exact ⟨by rw [pu_upd_ne _ _ (by omega)]; exact (x13 i hi).1, fun hm => by rw [pu_upd_ne _ _ (by omega), pu_upd_ne _ _ (by omega)]; exact (x13 i hi).2 hm⟩
theorem iv_c_of (h : iv_Cc c T w) {j n0 : Nat} (hn : w 69 = nI n0) (hn6 : n0 ≤ 6) (hj : j < n0) : iv_Cc (fun i => if i = j then c i + 1 else c i) T (upd w (27 + j) (w (27 + j) + 1)) := by
  obtain ⟨n, m, t, b, x1, x2, x3, x4, x5, x6, x7, x8, x9, x10, x11, x12, x13⟩ := h
  have e0 : n0 = n := pu_nIinj (by omega) (by omega) (hn.symm.trans x1)
  subst e0
  refine ⟨n0, m, t, b, by rw [pu_upd_ne _ _ (by omega)]; exact x1, x2, by rw [pu_upd_ne _ _ (by omega)]; exact x3, x4, by rw [pu_upd_ne _ _ (by omega)]; exact x5, x6, by rw [pu_upd_ne _ _ (by omega)]; exact x7, x8, fun i hi => ?_, fun i hi => ?_, fun i hi => ?_, fun i hi => ?_, fun i hi => ?_⟩
  · rw [pu_upd_ne _ _ (by omega)]; exact x9 i hi
  · rw [pu_upd_ne _ _ (by omega)]; exact x10 i hi
  · rw [pu_upd_ne _ _ (by omega)]; exact x11 i hi
  · obtain ⟨z, z1, z2, z3⟩ := x12 i hi
    by_cases e : i = j
    · subst e
      rw [pu_upd_eq, z1, nI_1]
      refine ⟨z + 1, rfl, ?_, fun h => by omega⟩
      show z + 1 ≤ t + (if i = i then c i + 1 else c i)
      rw [if_pos rfl]
      omega
    · rw [pu_upd_ne _ _ (by omega)]
      refine ⟨z, z1, ?_, z3⟩
      show z ≤ t + (if i = j then c i + 1 else c i)
      rw [if_neg e]
      exact z2
  · exact ⟨by rw [pu_upd_ne _ _ (by omega)]; exact (x13 i hi).1, fun hm => by rw [pu_upd_ne _ _ (by omega), pu_upd_ne _ _ (by omega)]; exact (x13 i hi).2 hm⟩
theorem iv_c_ti (h : iv_Cc c T w) (hc : ∀ i, c i ≤ 1) : iv_C (T + 1) (upd w 0 (w 0 + 1)) := by
  obtain ⟨n, m, t, b, x1, x2, x3, x4, x5, x6, x7, x8, x9, x10, x11, x12, x13⟩ := h
  refine ⟨n, m, t + 1, b, by rw [pu_upd_ne _ _ (by omega)]; exact x1, x2, by rw [pu_upd_ne _ _ (by omega)]; exact x3, x4, by rw [pu_upd_eq, x5, nI_1], by omega, by rw [pu_upd_ne _ _ (by omega)]; exact x7, x8, fun i hi => ?_, fun i hi => ?_, fun i hi => ?_, fun i hi => ?_, fun i hi => ?_⟩
  · rw [pu_upd_ne _ _ (by omega)]; exact x9 i hi
  · rw [pu_upd_ne _ _ (by omega)]; exact x10 i hi
  · rw [pu_upd_ne _ _ (by omega)]; exact x11 i hi
  · rw [pu_upd_ne _ _ (by omega)]
    obtain ⟨z, z1, z2, z3⟩ := x12 i hi
    exact ⟨z, z1, by have := hc i; show z ≤ t + 1 + 0; omega, z3⟩
  · exact ⟨by rw [pu_upd_ne _ _ (by omega)]; exact (x13 i hi).1, fun hm => by rw [pu_upd_ne _ _ (by omega), pu_upd_ne _ _ (by omega)]; exact (x13 i hi).2 hm⟩
theorem iv_c_up (h : iv_Cc c T w) {T' : Nat} (hT : T ≤ T') : iv_Cc c T' w := by
  obtain ⟨n, m, t, b, x1, x2, x3, x4, x5, x6, x7⟩ := h
  exact ⟨n, m, t, b, x1, x2, x3, x4, x5, by omega, x7⟩
theorem iv_c_gn (h : iv_Cc c T w) {n0 : Nat} (hn : w 69 = nI n0) (hn6 : n0 < 6) (hu : w (15 + n0) = -1) (hs : w (21 + n0) = -1) : iv_Cc c T (upd w 69 (nI (n0 + 1))) := by
  obtain ⟨n, m, t, b, x1, x2, x3, x4, x5, x6, x7, x8, x9, x10, x11, x12, x13⟩ := h
  have e0 : n0 = n := pu_nIinj (by omega) (by omega) (hn.symm.trans x1)
  subst e0
  refine ⟨n0 + 1, m, t, b, pu_upd_eq _ _ _, by omega, by rw [pu_upd_ne _ _ (by omega)]; exact x3, x4, by rw [pu_upd_ne _ _ (by omega)]; exact x5, x6, by rw [pu_upd_ne _ _ (by omega)]; exact x7, x8, fun i hi => ?_, fun i hi => ?_, fun i hi => ?_, fun i hi => ?_, fun i hi => ?_⟩
  · rw [pu_upd_ne _ _ (by omega)]; exact x9 i hi
  · rw [pu_upd_ne _ _ (by omega)]
    by_cases e : i = n0
    · subst e; exact Or.inl hu
    · exact x10 i (by omega)
  · rw [pu_upd_ne _ _ (by omega)]
    by_cases e : i = n0
    · subst e; exact Or.inl hs
    · exact x11 i (by omega)
  · rw [pu_upd_ne _ _ (by omega)]
    obtain ⟨z, z1, z2, z3⟩ := x12 i hi
    exact ⟨z, z1, z2, fun h => z3 (by omega)⟩
  · exact ⟨by rw [pu_upd_ne _ _ (by omega)]; exact (x13 i hi).1, fun hm => by rw [pu_upd_ne _ _ (by omega), pu_upd_ne _ _ (by omega)]; exact (x13 i hi).2 hm⟩
theorem iv_c_wn (h : iv_Cc c T w) {m0 : Nat} (hm : w 70 = nI m0) (hm6 : m0 < 12) : iv_Cc c T (upd w 70 (nI (m0 + 1))) := by
  obtain ⟨n, m, t, b, x1, x2, x3, x4, x5, x6, x7, x8, x9, x10, x11, x12, x13⟩ := h
  have e0 : m0 = m := pu_nIinj (by omega) (by omega) (hm.symm.trans x3)
  subst e0
  refine ⟨n, m0 + 1, t, b, by rw [pu_upd_ne _ _ (by omega)]; exact x1, x2, pu_upd_eq _ _ _, by omega, by rw [pu_upd_ne _ _ (by omega)]; exact x5, x6, by rw [pu_upd_ne _ _ (by omega)]; exact x7, x8, fun i hi => ?_, fun i hi => ?_, fun i hi => ?_, fun i hi => ?_, fun i hi => ?_⟩
  · rw [pu_upd_ne _ _ (by omega)]; exact x9 i hi
  · rw [pu_upd_ne _ _ (by omega)]
    rcases x10 i hi with e | ⟨p, p1, p2⟩
    · exact Or.inl e
    · exact Or.inr ⟨p, by omega, p2⟩
  · rw [pu_upd_ne _ _ (by omega)]; exact x11 i hi
  · rw [pu_upd_ne _ _ (by omega)]; exact x12 i hi
  · exact ⟨by rw [pu_upd_ne _ _ (by omega)]; exact (x13 i hi).1, fun hm => by rw [pu_upd_ne _ _ (by omega), pu_upd_ne _ _ (by omega)]; exact (x13 i hi).2 (by omega)⟩
end IVC
