/-! THE ROWS TOLD FOR THOUGHT -/
theorem rl_thought {f f' g g' : Nat → Nat → Int32} (h : rl_Rel f g) (hT : rl_T rl_W 0 f' (g' 217)) (hI : iv_T (g' 217)) (hf : ∀ a, (a < 27 ∨ 54 < a) → f' a = f a) (hg : ∀ a, a ≠ 217 → g' a = g a) (hw : ∀ i, (i < 407 ∨ 524 ≤ i) → g' 217 i = g 217 i) : rl_Rel f' g' := by
  have e0 := hf 0 (by decide)
  have e123 := hf 123 (by decide)
  have e128 := hf 128 (by decide)
  have e143 := hf 143 (by decide)
  have g216 := hg 216 (by decide)
  refine rl_anew h ⟨fun a h1 h2 => hf a (by omega), by rw [e0], by rw [e123], hf 124 (by decide), by rw [e128], by rw [e128], by rw [e143], by rw [e143], hf 150 (by decide), hf 153 (by decide), by rw [hf 144 (by decide)], hg 218 (by decide), hg 224 (by decide), by rw [g216], by rw [g216], by rw [g216], by rw [g216]⟩ ?_ (h.rot.same (hf 109 (by decide)) (by rw [e0]) (by rw [g216]) (fun a ha => hf a (by omega)) (hg 219 (by decide)) (fun i h1 h2 => hw i (by omega)))
  obtain ⟨h1, h2, h3, h4, h5, h6, h7⟩ := h.1
  refine ⟨hT, ?_, fun i hi => ?_, ⟨fun j hj => ?_, fun a b ha hb => ?_⟩, ?_, hI, ?_⟩
  · obtain ⟨n, m, t, b, x1, x2, x3, x4, x5, x6, x7, x8, x9, x10, x11, x12, x13⟩ := h2
    refine ⟨n, m, t, b, by rw [hw _ (by omega)]; exact x1, x2, by rw [hw _ (by omega)]; exact x3, x4, by rw [hw _ (by omega)]; exact x5, x6, by rw [hw _ (by omega)]; exact x7, x8, fun i hi => ?_, fun i hi => ?_, fun i hi => ?_, fun i hi => ?_, fun i hi => ?_⟩
    · rw [hw _ (by omega)]; exact x9 i hi
    · rw [hw _ (by omega)]; exact x10 i hi
    · rw [hw _ (by omega)]; exact x11 i hi
    · rw [hw _ (by omega)]; exact x12 i hi
    · exact ⟨by rw [hw _ (by omega)]; exact (x13 i hi).1, fun hm => by rw [hw _ (by omega), hw _ (by omega)]; exact (x13 i hi).2 hm⟩
  · obtain ⟨s, s1, s2, s3⟩ := h3 i hi
    refine ⟨s, s1, by rw [hw _ (by omega)]; exact s2, fun m hm => ?_⟩
    rw [hw _ (by omega)] at hm
    exact s3 m hm
  · rw [hw _ (by omega)]; exact h4.1 j hj
  · rw [hw _ (by omega), hw _ (by omega)]; exact h4.2 a b ha hb
  · obtain ⟨l, l1, l2, l3⟩ := h5
    refine ⟨l, l1, by rw [hw _ (by omega)]; exact l2, fun i hi => ?_⟩
    have hl := l3 i hi
    unfold iv_L at hl ⊢
    rw [show (21 + 0) = 21 from rfl, show (22 + 0) = 22 from rfl, show (23 + 0) = 23 from rfl, show (24 + 0) = 24 from rfl] at hl ⊢
    rw [hf 21 (by decide), hf 22 (by decide), hf 23 (by decide), hf 24 (by decide), hw (343 + 4 * i) (by omega), hw (344 + 4 * i) (by omega), hw (345 + 4 * i) (by omega), hw (346 + 4 * i) (by omega), hw 69 (by decide), hw 70 (by decide)]
    exact hl
  · obtain ⟨l, u, l1, l2, l3, l4, l5⟩ := h7
    refine ⟨l, u, l1, l2, by rw [hw _ (by omega)]; exact l3, by rw [hf (14 + 0) (by decide)]; exact l4, fun i hi => ?_⟩
    have hl := l5 i hi
    unfold lw_Ln lw_cX at hl ⊢
    rw [hf (15 + 0) (by decide), hf (16 + 0) (by decide), hf (17 + 0) (by decide), hf (18 + 0) (by decide), hf (19 + 0) (by decide), hw (1172 + i) (by omega), hw (1124 + i) (by omega), hw (1140 + i) (by omega), hw (1156 + i) (by omega)]
    obtain ⟨k, a, a', P, Q, y1, y2, y3, y4, y5, y6, y7, y8, y9, y10, y11, y12, y13, y14, y15, y16, y17⟩ := hl
    refine ⟨k, a, a', P, Q, y1, y2, y3, y4, y5, y6, y7, y8, y9, y10, y11, y12, y13, fun t s e => ?_, fun t s e => ?_, y16, y17⟩
    · rw [hw _ (by omega), hw _ (by omega)]; exact y14 t s e
    · rw [hw _ (by omega), hw _ (by omega)]; exact y15 t s e
theorem iv_R.two {w w' : Nat → Int32} {p most : Nat} {P : Int32 → Int32 → Prop} (h : iv_R w p most (fun i => P (w (p + 1 + 2 * i)) (w (p + 2 + 2 * i)))) (e : ∀ i, p ≤ i → i < p + 1 + 2 * most → w' i = w i) : iv_R w' p most (fun i => P (w' (p + 1 + 2 * i)) (w' (p + 2 + 2 * i))) := by
  obtain ⟨n, n1, n2, n3⟩ := h
  refine ⟨n, n1, by rw [e _ (by omega) (by omega)]; exact n2, fun i hi => ?_⟩
  show P (w' (p + 1 + 2 * i)) (w' (p + 2 + 2 * i))
  rw [e _ (by omega) (by omega), e _ (by omega) (by omega)]
  exact n3 i hi
theorem iv_R.one {w w' : Nat → Int32} {p most : Nat} {P : Int32 → Prop} (h : iv_R w p most (fun i => P (w (p + 1 + i)))) (e : ∀ i, p ≤ i → i < p + 1 + most → w' i = w i) : iv_R w' p most (fun i => P (w' (p + 1 + i))) := by
  obtain ⟨n, n1, n2, n3⟩ := h
  refine ⟨n, n1, by rw [e _ (by omega) (by omega)]; exact n2, fun i hi => ?_⟩
  show P (w' (p + 1 + i))
  rw [e _ (by omega) (by omega)]
  exact n3 i hi
theorem iv_t1 {w w' : Nat → Int32} (h : iv_T w) (hw : ∀ i, (i < 407 ∨ 424 ≤ i) → w' i = w i) (hn : iv_R w' 407 8 (fun i => (fun x y => ∃ a b, a < 16 ∧ b ≤ 10 ∧ x = nI a ∧ y = nI b) (w' (407 + 1 + 2 * i)) (w' (407 + 2 + 2 * i)))) : iv_T w' := by
  obtain ⟨t1, t2, t3, t4, t5, t6, t7, t8, t9, t0⟩ := h
  exact ⟨hn, iv_R.two (P := fun x y => ∃ a b, 1 ≤ a ∧ a ≤ 9 ∧ b < 256 ∧ x = nI a ∧ y = nI b) t2 (fun i h1 h2 => hw i (by omega)), iv_R.two (P := fun x y => ∃ a, a ≤ 9 ∧ x = nI a) t3 (fun i h1 h2 => hw i (by omega)), iv_R.two (P := fun x y => ∃ a, a ≤ 3 ∧ x = nI a) t4 (fun i h1 h2 => hw i (by omega)), iv_R.one (P := fun x => ∃ a, 1 ≤ a ∧ a ≤ 40 ∧ x = nI a) t5 (fun i h1 h2 => hw i (by omega)), iv_R.one (P := fun x => ∃ a, a < 65536 ∧ x = nI a) t6 (fun i h1 h2 => hw i (by omega)), iv_R.one (P := fun x => ∃ a, a ≤ 99 ∧ x = nI a) t7 (fun i h1 h2 => hw i (by omega)), iv_R.one (P := fun x => ∃ a, 1 ≤ a ∧ a ≤ 9999 ∧ x = nI a) t8 (fun i h1 h2 => hw i (by omega)), iv_R.one (P := fun x => ∃ a, 1 ≤ a ∧ a ≤ 20 ∧ x = nI a) t9 (fun i h1 h2 => hw i (by omega)), fun i hi => by rw [hw _ (by omega)]; exact t0 i hi⟩
theorem iv_t2 {w w' : Nat → Int32} (h : iv_T w) (hw : ∀ i, (i < 424 ∨ 437 ≤ i) → w' i = w i) (hn : iv_R w' 424 6 (fun i => (fun x y => ∃ a b, 1 ≤ a ∧ a ≤ 9 ∧ b < 256 ∧ x = nI a ∧ y = nI b) (w' (424 + 1 + 2 * i)) (w' (424 + 2 + 2 * i)))) : iv_T w' := by
  obtain ⟨t1, t2, t3, t4, t5, t6, t7, t8, t9, t0⟩ := h
  exact ⟨iv_R.two (P := fun x y => ∃ a b, a < 16 ∧ b ≤ 10 ∧ x = nI a ∧ y = nI b) t1 (fun i h1 h2 => hw i (by omega)), hn, iv_R.two (P := fun x y => ∃ a, a ≤ 9 ∧ x = nI a) t3 (fun i h1 h2 => hw i (by omega)), iv_R.two (P := fun x y => ∃ a, a ≤ 3 ∧ x = nI a) t4 (fun i h1 h2 => hw i (by omega)), iv_R.one (P := fun x => ∃ a, 1 ≤ a ∧ a ≤ 40 ∧ x = nI a) t5 (fun i h1 h2 => hw i (by omega)), iv_R.one (P := fun x => ∃ a, a < 65536 ∧ x = nI a) t6 (fun i h1 h2 => hw i (by omega)), iv_R.one (P := fun x => ∃ a, a ≤ 99 ∧ x = nI a) t7 (fun i h1 h2 => hw i (by omega)), iv_R.one (P := fun x => ∃ a, 1 ≤ a ∧ a ≤ 9999 ∧ x = nI a) t8 (fun i h1 h2 => hw i (by omega)), iv_R.one (P := fun x => ∃ a, 1 ≤ a ∧ a ≤ 20 ∧ x = nI a) t9 (fun i h1 h2 => hw i (by omega)), fun i hi => by rw [hw _ (by omega)]; exact t0 i hi⟩
theorem iv_t3 {w w' : Nat → Int32} (h : iv_T w) (hw : ∀ i, (i < 437 ∨ 446 ≤ i) → w' i = w i) (hn : iv_R w' 437 4 (fun i => (fun x y => ∃ a, a ≤ 9 ∧ x = nI a) (w' (437 + 1 + 2 * i)) (w' (437 + 2 + 2 * i)))) : iv_T w' := by
  obtain ⟨t1, t2, t3, t4, t5, t6, t7, t8, t9, t0⟩ := h
  exact ⟨iv_R.two (P := fun x y => ∃ a b, a < 16 ∧ b ≤ 10 ∧ x = nI a ∧ y = nI b) t1 (fun i h1 h2 => hw i (by omega)), iv_R.two (P := fun x y => ∃ a b, 1 ≤ a ∧ a ≤ 9 ∧ b < 256 ∧ x = nI a ∧ y = nI b) t2 (fun i h1 h2 => hw i (by omega)), hn, iv_R.two (P := fun x y => ∃ a, a ≤ 3 ∧ x = nI a) t4 (fun i h1 h2 => hw i (by omega)), iv_R.one (P := fun x => ∃ a, 1 ≤ a ∧ a ≤ 40 ∧ x = nI a) t5 (fun i h1 h2 => hw i (by omega)), iv_R.one (P := fun x => ∃ a, a < 65536 ∧ x = nI a) t6 (fun i h1 h2 => hw i (by omega)), iv_R.one (P := fun x => ∃ a, a ≤ 99 ∧ x = nI a) t7 (fun i h1 h2 => hw i (by omega)), iv_R.one (P := fun x => ∃ a, 1 ≤ a ∧ a ≤ 9999 ∧ x = nI a) t8 (fun i h1 h2 => hw i (by omega)), iv_R.one (P := fun x => ∃ a, 1 ≤ a ∧ a ≤ 20 ∧ x = nI a) t9 (fun i h1 h2 => hw i (by omega)), fun i hi => by rw [hw _ (by omega)]; exact t0 i hi⟩
theorem iv_t4 {w w' : Nat → Int32} (h : iv_T w) (hw : ∀ i, (i < 446 ∨ 459 ≤ i) → w' i = w i) (hn : iv_R w' 446 6 (fun i => (fun x y => ∃ a, a ≤ 3 ∧ x = nI a) (w' (446 + 1 + 2 * i)) (w' (446 + 2 + 2 * i)))) : iv_T w' := by
  obtain ⟨t1, t2, t3, t4, t5, t6, t7, t8, t9, t0⟩ := h
  exact ⟨iv_R.two (P := fun x y => ∃ a b, a < 16 ∧ b ≤ 10 ∧ x = nI a ∧ y = nI b) t1 (fun i h1 h2 => hw i (by omega)), iv_R.two (P := fun x y => ∃ a b, 1 ≤ a ∧ a ≤ 9 ∧ b < 256 ∧ x = nI a ∧ y = nI b) t2 (fun i h1 h2 => hw i (by omega)), iv_R.two (P := fun x y => ∃ a, a ≤ 9 ∧ x = nI a) t3 (fun i h1 h2 => hw i (by omega)), hn, iv_R.one (P := fun x => ∃ a, 1 ≤ a ∧ a ≤ 40 ∧ x = nI a) t5 (fun i h1 h2 => hw i (by omega)), iv_R.one (P := fun x => ∃ a, a < 65536 ∧ x = nI a) t6 (fun i h1 h2 => hw i (by omega)), iv_R.one (P := fun x => ∃ a, a ≤ 99 ∧ x = nI a) t7 (fun i h1 h2 => hw i (by omega)), iv_R.one (P := fun x => ∃ a, 1 ≤ a ∧ a ≤ 9999 ∧ x = nI a) t8 (fun i h1 h2 => hw i (by omega)), iv_R.one (P := fun x => ∃ a, 1 ≤ a ∧ a ≤ 20 ∧ x = nI a) t9 (fun i h1 h2 => hw i (by omega)), fun i hi => by rw [hw _ (by omega)]; exact t0 i hi⟩
theorem iv_t5 {w w' : Nat → Int32} (h : iv_T w) (hw : ∀ i, (i < 459 ∨ 464 ≤ i) → w' i = w i) (hn : iv_R w' 459 4 (fun i => (fun x => ∃ a, 1 ≤ a ∧ a ≤ 40 ∧ x = nI a) (w' (459 + 1 + i)))) : iv_T w' := by
  obtain ⟨t1, t2, t3, t4, t5, t6, t7, t8, t9, t0⟩ := h
  exact ⟨iv_R.two (P := fun x y => ∃ a b, a < 16 ∧ b ≤ 10 ∧ x = nI a ∧ y = nI b) t1 (fun i h1 h2 => hw i (by omega)), iv_R.two (P := fun x y => ∃ a b, 1 ≤ a ∧ a ≤ 9 ∧ b < 256 ∧ x = nI a ∧ y = nI b) t2 (fun i h1 h2 => hw i (by omega)), iv_R.two (P := fun x y => ∃ a, a ≤ 9 ∧ x = nI a) t3 (fun i h1 h2 => hw i (by omega)), iv_R.two (P := fun x y => ∃ a, a ≤ 3 ∧ x = nI a) t4 (fun i h1 h2 => hw i (by omega)), hn, iv_R.one (P := fun x => ∃ a, a < 65536 ∧ x = nI a) t6 (fun i h1 h2 => hw i (by omega)), iv_R.one (P := fun x => ∃ a, a ≤ 99 ∧ x = nI a) t7 (fun i h1 h2 => hw i (by omega)), iv_R.one (P := fun x => ∃ a, 1 ≤ a ∧ a ≤ 9999 ∧ x = nI a) t8 (fun i h1 h2 => hw i (by omega)), iv_R.one (P := fun x => ∃ a, 1 ≤ a ∧ a ≤ 20 ∧ x = nI a) t9 (fun i h1 h2 => hw i (by omega)), fun i hi => by rw [hw _ (by omega)]; exact t0 i hi⟩
theorem iv_t6 {w w' : Nat → Int32} (h : iv_T w) (hw : ∀ i, (i < 464 ∨ 473 ≤ i) → w' i = w i) (hn : iv_R w' 464 8 (fun i => (fun x => ∃ a, a < 65536 ∧ x = nI a) (w' (464 + 1 + i)))) : iv_T w' := by
  obtain ⟨t1, t2, t3, t4, t5, t6, t7, t8, t9, t0⟩ := h
  exact ⟨iv_R.two (P := fun x y => ∃ a b, a < 16 ∧ b ≤ 10 ∧ x = nI a ∧ y = nI b) t1 (fun i h1 h2 => hw i (by omega)), iv_R.two (P := fun x y => ∃ a b, 1 ≤ a ∧ a ≤ 9 ∧ b < 256 ∧ x = nI a ∧ y = nI b) t2 (fun i h1 h2 => hw i (by omega)), iv_R.two (P := fun x y => ∃ a, a ≤ 9 ∧ x = nI a) t3 (fun i h1 h2 => hw i (by omega)), iv_R.two (P := fun x y => ∃ a, a ≤ 3 ∧ x = nI a) t4 (fun i h1 h2 => hw i (by omega)), iv_R.one (P := fun x => ∃ a, 1 ≤ a ∧ a ≤ 40 ∧ x = nI a) t5 (fun i h1 h2 => hw i (by omega)), hn, iv_R.one (P := fun x => ∃ a, a ≤ 99 ∧ x = nI a) t7 (fun i h1 h2 => hw i (by omega)), iv_R.one (P := fun x => ∃ a, 1 ≤ a ∧ a ≤ 9999 ∧ x = nI a) t8 (fun i h1 h2 => hw i (by omega)), iv_R.one (P := fun x => ∃ a, 1 ≤ a ∧ a ≤ 20 ∧ x = nI a) t9 (fun i h1 h2 => hw i (by omega)), fun i hi => by rw [hw _ (by omega)]; exact t0 i hi⟩
theorem iv_t7 {w w' : Nat → Int32} (h : iv_T w) (hw : ∀ i, (i < 481 ∨ 506 ≤ i) → w' i = w i) (hn : iv_R w' 481 24 (fun i => (fun x => ∃ a, a ≤ 99 ∧ x = nI a) (w' (481 + 1 + i)))) : iv_T w' := by
  obtain ⟨t1, t2, t3, t4, t5, t6, t7, t8, t9, t0⟩ := h
  exact ⟨iv_R.two (P := fun x y => ∃ a b, a < 16 ∧ b ≤ 10 ∧ x = nI a ∧ y = nI b) t1 (fun i h1 h2 => hw i (by omega)), iv_R.two (P := fun x y => ∃ a b, 1 ≤ a ∧ a ≤ 9 ∧ b < 256 ∧ x = nI a ∧ y = nI b) t2 (fun i h1 h2 => hw i (by omega)), iv_R.two (P := fun x y => ∃ a, a ≤ 9 ∧ x = nI a) t3 (fun i h1 h2 => hw i (by omega)), iv_R.two (P := fun x y => ∃ a, a ≤ 3 ∧ x = nI a) t4 (fun i h1 h2 => hw i (by omega)), iv_R.one (P := fun x => ∃ a, 1 ≤ a ∧ a ≤ 40 ∧ x = nI a) t5 (fun i h1 h2 => hw i (by omega)), iv_R.one (P := fun x => ∃ a, a < 65536 ∧ x = nI a) t6 (fun i h1 h2 => hw i (by omega)), hn, iv_R.one (P := fun x => ∃ a, 1 ≤ a ∧ a ≤ 9999 ∧ x = nI a) t8 (fun i h1 h2 => hw i (by omega)), iv_R.one (P := fun x => ∃ a, 1 ≤ a ∧ a ≤ 20 ∧ x = nI a) t9 (fun i h1 h2 => hw i (by omega)), fun i hi => by rw [hw _ (by omega)]; exact t0 i hi⟩
theorem iv_t8 {w w' : Nat → Int32} (h : iv_T w) (hw : ∀ i, (i < 506 ∨ 515 ≤ i) → w' i = w i) (hn : iv_R w' 506 8 (fun i => (fun x => ∃ a, 1 ≤ a ∧ a ≤ 9999 ∧ x = nI a) (w' (506 + 1 + i)))) : iv_T w' := by
  obtain ⟨t1, t2, t3, t4, t5, t6, t7, t8, t9, t0⟩ := h
  exact ⟨iv_R.two (P := fun x y => ∃ a b, a < 16 ∧ b ≤ 10 ∧ x = nI a ∧ y = nI b) t1 (fun i h1 h2 => hw i (by omega)), iv_R.two (P := fun x y => ∃ a b, 1 ≤ a ∧ a ≤ 9 ∧ b < 256 ∧ x = nI a ∧ y = nI b) t2 (fun i h1 h2 => hw i (by omega)), iv_R.two (P := fun x y => ∃ a, a ≤ 9 ∧ x = nI a) t3 (fun i h1 h2 => hw i (by omega)), iv_R.two (P := fun x y => ∃ a, a ≤ 3 ∧ x = nI a) t4 (fun i h1 h2 => hw i (by omega)), iv_R.one (P := fun x => ∃ a, 1 ≤ a ∧ a ≤ 40 ∧ x = nI a) t5 (fun i h1 h2 => hw i (by omega)), iv_R.one (P := fun x => ∃ a, a < 65536 ∧ x = nI a) t6 (fun i h1 h2 => hw i (by omega)), iv_R.one (P := fun x => ∃ a, a ≤ 99 ∧ x = nI a) t7 (fun i h1 h2 => hw i (by omega)), hn, iv_R.one (P := fun x => ∃ a, 1 ≤ a ∧ a ≤ 20 ∧ x = nI a) t9 (fun i h1 h2 => hw i (by omega)), fun i hi => by rw [hw _ (by omega)]; exact t0 i hi⟩
theorem iv_t9 {w w' : Nat → Int32} (h : iv_T w) (hw : ∀ i, (i < 515 ∨ 524 ≤ i) → w' i = w i) (hn : iv_R w' 515 8 (fun i => (fun x => ∃ a, 1 ≤ a ∧ a ≤ 20 ∧ x = nI a) (w' (515 + 1 + i)))) : iv_T w' := by
  obtain ⟨t1, t2, t3, t4, t5, t6, t7, t8, t9, t0⟩ := h
  exact ⟨iv_R.two (P := fun x y => ∃ a b, a < 16 ∧ b ≤ 10 ∧ x = nI a ∧ y = nI b) t1 (fun i h1 h2 => hw i (by omega)), iv_R.two (P := fun x y => ∃ a b, 1 ≤ a ∧ a ≤ 9 ∧ b < 256 ∧ x = nI a ∧ y = nI b) t2 (fun i h1 h2 => hw i (by omega)), iv_R.two (P := fun x y => ∃ a, a ≤ 9 ∧ x = nI a) t3 (fun i h1 h2 => hw i (by omega)), iv_R.two (P := fun x y => ∃ a, a ≤ 3 ∧ x = nI a) t4 (fun i h1 h2 => hw i (by omega)), iv_R.one (P := fun x => ∃ a, 1 ≤ a ∧ a ≤ 40 ∧ x = nI a) t5 (fun i h1 h2 => hw i (by omega)), iv_R.one (P := fun x => ∃ a, a < 65536 ∧ x = nI a) t6 (fun i h1 h2 => hw i (by omega)), iv_R.one (P := fun x => ∃ a, a ≤ 99 ∧ x = nI a) t7 (fun i h1 h2 => hw i (by omega)), iv_R.one (P := fun x => ∃ a, 1 ≤ a ∧ a ≤ 9999 ∧ x = nI a) t8 (fun i h1 h2 => hw i (by omega)), hn, fun i hi => by rw [hw _ (by omega)]; exact t0 i hi⟩
theorem iv_t0 {w w' : Nat → Int32} (h : iv_T w) (hw : ∀ i, (i < 473 ∨ 481 ≤ i) → w' i = w i) (hn : ∀ i, i < 8 → ∃ a, a ≤ 99 ∧ w' (473 + i) = nI a) : iv_T w' := by
  obtain ⟨t1, t2, t3, t4, t5, t6, t7, t8, t9, t0⟩ := h
  exact ⟨iv_R.two (P := fun x y => ∃ a b, a < 16 ∧ b ≤ 10 ∧ x = nI a ∧ y = nI b) t1 (fun i h1 h2 => hw i (by omega)), iv_R.two (P := fun x y => ∃ a b, 1 ≤ a ∧ a ≤ 9 ∧ b < 256 ∧ x = nI a ∧ y = nI b) t2 (fun i h1 h2 => hw i (by omega)), iv_R.two (P := fun x y => ∃ a, a ≤ 9 ∧ x = nI a) t3 (fun i h1 h2 => hw i (by omega)), iv_R.two (P := fun x y => ∃ a, a ≤ 3 ∧ x = nI a) t4 (fun i h1 h2 => hw i (by omega)), iv_R.one (P := fun x => ∃ a, 1 ≤ a ∧ a ≤ 40 ∧ x = nI a) t5 (fun i h1 h2 => hw i (by omega)), iv_R.one (P := fun x => ∃ a, a < 65536 ∧ x = nI a) t6 (fun i h1 h2 => hw i (by omega)), iv_R.one (P := fun x => ∃ a, a ≤ 99 ∧ x = nI a) t7 (fun i h1 h2 => hw i (by omega)), iv_R.one (P := fun x => ∃ a, 1 ≤ a ∧ a ≤ 9999 ∧ x = nI a) t8 (fun i h1 h2 => hw i (by omega)), iv_R.one (P := fun x => ∃ a, 1 ≤ a ∧ a ≤ 20 ∧ x = nI a) t9 (fun i h1 h2 => hw i (by omega)), hn⟩
theorem iv_a1 {w : Nat → Int32} (h : iv_T w) {z : Nat} (e : w 407 = nI z) (hz : z < 8) (a b : Int32) (hP : (fun x y => ∃ a b, a < 16 ∧ b ≤ 10 ∧ x = nI a ∧ y = nI b) a b) : iv_T (upd (upd (upd w (408 + 2 * z) a) (409 + 2 * z) b) 407 (nI (z + 1))) := by
  refine iv_t1 h (fun i hi => by rw [pu_upd_ne _ _ (by omega), pu_upd_ne _ _ (by omega), pu_upd_ne _ _ (by omega)]) ?_
  obtain ⟨n, n1, n2, n3⟩ : iv_R w 407 8 (fun i => (fun x y => ∃ a b, a < 16 ∧ b ≤ 10 ∧ x = nI a ∧ y = nI b) (w (407 + 1 + 2 * i)) (w (407 + 2 + 2 * i))) := h.1
  have e0 : n = z := pu_nIinj (by omega) (by omega) (n2.symm.trans e)
  subst e0
  refine ⟨n + 1, by omega, pu_upd_eq _ _ _, fun i hi => ?_⟩
  by_cases ei : i = n
  · subst ei
    have ea : (upd (upd (upd w (408 + 2 * i) a) (409 + 2 * i) b) 407 (nI (i + 1))) (407 + 1 + 2 * i) = a := by
      rw [pu_upd_ne _ _ (by omega), pu_upd_ne _ _ (by omega), pu_upd_eq]
    have eb : (upd (upd (upd w (408 + 2 * i) a) (409 + 2 * i) b) 407 (nI (i + 1))) (407 + 2 + 2 * i) = b := by
      rw [pu_upd_ne _ _ (by omega), pu_upd_eq]
    simp only [ea, eb]
    exact hP
  · have ea : (upd (upd (upd w (408 + 2 * n) a) (409 + 2 * n) b) 407 (nI (n + 1))) (407 + 1 + 2 * i) = w (407 + 1 + 2 * i) := by
      rw [pu_upd_ne _ _ (by omega), pu_upd_ne _ _ (by omega), pu_upd_ne _ _ (by omega)]
    have eb : (upd (upd (upd w (408 + 2 * n) a) (409 + 2 * n) b) 407 (nI (n + 1))) (407 + 2 + 2 * i) = w (407 + 2 + 2 * i) := by
      rw [pu_upd_ne _ _ (by omega), pu_upd_ne _ _ (by omega), pu_upd_ne _ _ (by omega)]
    simp only [ea, eb]
    exact n3 i (by omega)
theorem iv_z1 {w : Nat → Int32} (h : iv_T w) : iv_T (upd w 407 0) := by
  refine iv_t1 h (fun i hi => pu_upd_ne _ _ (by omega)) ⟨0, Nat.zero_le _, pu_upd_eq _ _ _, fun i hi => absurd hi (Nat.not_lt_zero _)⟩
theorem iv_a2 {w : Nat → Int32} (h : iv_T w) {z : Nat} (e : w 424 = nI z) (hz : z < 6) (a b : Int32) (hP : (fun x y => ∃ a b, 1 ≤ a ∧ a ≤ 9 ∧ b < 256 ∧ x = nI a ∧ y = nI b) a b) : iv_T (upd (upd (upd w (425 + 2 * z) a) (426 + 2 * z) b) 424 (nI (z + 1))) := by
  refine iv_t2 h (fun i hi => by rw [pu_upd_ne _ _ (by omega), pu_upd_ne _ _ (by omega), pu_upd_ne _ _ (by omega)]) ?_
  obtain ⟨n, n1, n2, n3⟩ : iv_R w 424 6 (fun i => (fun x y => ∃ a b, 1 ≤ a ∧ a ≤ 9 ∧ b < 256 ∧ x = nI a ∧ y = nI b) (w (424 + 1 + 2 * i)) (w (424 + 2 + 2 * i))) := h.2.1
  have e0 : n = z := pu_nIinj (by omega) (by omega) (n2.symm.trans e)
  subst e0
  refine ⟨n + 1, by omega, pu_upd_eq _ _ _, fun i hi => ?_⟩
  by_cases ei : i = n
  · subst ei
    have ea : (upd (upd (upd w (425 + 2 * i) a) (426 + 2 * i) b) 424 (nI (i + 1))) (424 + 1 + 2 * i) = a := by
      rw [pu_upd_ne _ _ (by omega), pu_upd_ne _ _ (by omega), pu_upd_eq]
    have eb : (upd (upd (upd w (425 + 2 * i) a) (426 + 2 * i) b) 424 (nI (i + 1))) (424 + 2 + 2 * i) = b := by
      rw [pu_upd_ne _ _ (by omega), pu_upd_eq]
    simp only [ea, eb]
    exact hP
  · have ea : (upd (upd (upd w (425 + 2 * n) a) (426 + 2 * n) b) 424 (nI (n + 1))) (424 + 1 + 2 * i) = w (424 + 1 + 2 * i) := by
      rw [pu_upd_ne _ _ (by omega), pu_upd_ne _ _ (by omega), pu_upd_ne _ _ (by omega)]
    have eb : (upd (upd (upd w (425 + 2 * n) a) (426 + 2 * n) b) 424 (nI (n + 1))) (424 + 2 + 2 * i) = w (424 + 2 + 2 * i) := by
      rw [pu_upd_ne _ _ (by omega), pu_upd_ne _ _ (by omega), pu_upd_ne _ _ (by omega)]
    simp only [ea, eb]
    exact n3 i (by omega)
theorem iv_z2 {w : Nat → Int32} (h : iv_T w) : iv_T (upd w 424 0) := by
  refine iv_t2 h (fun i hi => pu_upd_ne _ _ (by omega)) ⟨0, Nat.zero_le _, pu_upd_eq _ _ _, fun i hi => absurd hi (Nat.not_lt_zero _)⟩
theorem iv_a3 {w : Nat → Int32} (h : iv_T w) {z : Nat} (e : w 437 = nI z) (hz : z < 4) (a b : Int32) (hP : (fun x y => ∃ a, a ≤ 9 ∧ x = nI a) a b) : iv_T (upd (upd (upd w (438 + 2 * z) a) (439 + 2 * z) b) 437 (nI (z + 1))) := by
  refine iv_t3 h (fun i hi => by rw [pu_upd_ne _ _ (by omega), pu_upd_ne _ _ (by omega), pu_upd_ne _ _ (by omega)]) ?_
  obtain ⟨n, n1, n2, n3⟩ : iv_R w 437 4 (fun i => (fun x y => ∃ a, a ≤ 9 ∧ x = nI a) (w (437 + 1 + 2 * i)) (w (437 + 2 + 2 * i))) := h.2.2.1
  have e0 : n = z := pu_nIinj (by omega) (by omega) (n2.symm.trans e)
  subst e0
  refine ⟨n + 1, by omega, pu_upd_eq _ _ _, fun i hi => ?_⟩
  by_cases ei : i = n
  · subst ei
    have ea : (upd (upd (upd w (438 + 2 * i) a) (439 + 2 * i) b) 437 (nI (i + 1))) (437 + 1 + 2 * i) = a := by
      rw [pu_upd_ne _ _ (by omega), pu_upd_ne _ _ (by omega), pu_upd_eq]
    have eb : (upd (upd (upd w (438 + 2 * i) a) (439 + 2 * i) b) 437 (nI (i + 1))) (437 + 2 + 2 * i) = b := by
      rw [pu_upd_ne _ _ (by omega), pu_upd_eq]
    simp only [ea, eb]
    exact hP
  · have ea : (upd (upd (upd w (438 + 2 * n) a) (439 + 2 * n) b) 437 (nI (n + 1))) (437 + 1 + 2 * i) = w (437 + 1 + 2 * i) := by
      rw [pu_upd_ne _ _ (by omega), pu_upd_ne _ _ (by omega), pu_upd_ne _ _ (by omega)]
    have eb : (upd (upd (upd w (438 + 2 * n) a) (439 + 2 * n) b) 437 (nI (n + 1))) (437 + 2 + 2 * i) = w (437 + 2 + 2 * i) := by
      rw [pu_upd_ne _ _ (by omega), pu_upd_ne _ _ (by omega), pu_upd_ne _ _ (by omega)]
    simp only [ea, eb]
    exact n3 i (by omega)
theorem iv_z3 {w : Nat → Int32} (h : iv_T w) : iv_T (upd w 437 0) := by
  refine iv_t3 h (fun i hi => pu_upd_ne _ _ (by omega)) ⟨0, Nat.zero_le _, pu_upd_eq _ _ _, fun i hi => absurd hi (Nat.not_lt_zero _)⟩
theorem iv_a4 {w : Nat → Int32} (h : iv_T w) {z : Nat} (e : w 446 = nI z) (hz : z < 6) (a b : Int32) (hP : (fun x y => ∃ a, a ≤ 3 ∧ x = nI a) a b) : iv_T (upd (upd (upd w (447 + 2 * z) a) (448 + 2 * z) b) 446 (nI (z + 1))) := by
  refine iv_t4 h (fun i hi => by rw [pu_upd_ne _ _ (by omega), pu_upd_ne _ _ (by omega), pu_upd_ne _ _ (by omega)]) ?_
  obtain ⟨n, n1, n2, n3⟩ : iv_R w 446 6 (fun i => (fun x y => ∃ a, a ≤ 3 ∧ x = nI a) (w (446 + 1 + 2 * i)) (w (446 + 2 + 2 * i))) := h.2.2.2.1
  have e0 : n = z := pu_nIinj (by omega) (by omega) (n2.symm.trans e)
  subst e0
  refine ⟨n + 1, by omega, pu_upd_eq _ _ _, fun i hi => ?_⟩
  by_cases ei : i = n
  · subst ei
    have ea : (upd (upd (upd w (447 + 2 * i) a) (448 + 2 * i) b) 446 (nI (i + 1))) (446 + 1 + 2 * i) = a := by
      rw [pu_upd_ne _ _ (by omega), pu_upd_ne _ _ (by omega), pu_upd_eq]
    have eb : (upd (upd (upd w (447 + 2 * i) a) (448 + 2 * i) b) 446 (nI (i + 1))) (446 + 2 + 2 * i) = b := by
      rw [pu_upd_ne _ _ (by omega), pu_upd_eq]
    simp only [ea, eb]
    exact hP
  · have ea : (upd (upd (upd w (447 + 2 * n) a) (448 + 2 * n) b) 446 (nI (n + 1))) (446 + 1 + 2 * i) = w (446 + 1 + 2 * i) := by
      rw [pu_upd_ne _ _ (by omega), pu_upd_ne _ _ (by omega), pu_upd_ne _ _ (by omega)]
    have eb : (upd (upd (upd w (447 + 2 * n) a) (448 + 2 * n) b) 446 (nI (n + 1))) (446 + 2 + 2 * i) = w (446 + 2 + 2 * i) := by
      rw [pu_upd_ne _ _ (by omega), pu_upd_ne _ _ (by omega), pu_upd_ne _ _ (by omega)]
    simp only [ea, eb]
    exact n3 i (by omega)
theorem iv_z4 {w : Nat → Int32} (h : iv_T w) : iv_T (upd w 446 0) := by
  refine iv_t4 h (fun i hi => pu_upd_ne _ _ (by omega)) ⟨0, Nat.zero_le _, pu_upd_eq _ _ _, fun i hi => absurd hi (Nat.not_lt_zero _)⟩
theorem iv_a5 {w : Nat → Int32} (h : iv_T w) {z : Nat} (e : w 459 = nI z) (hz : z < 4) (a : Int32) (hP : (fun x => ∃ a, 1 ≤ a ∧ a ≤ 40 ∧ x = nI a) a) : iv_T (upd (upd w (460 + z) a) 459 (nI (z + 1))) := by
  refine iv_t5 h (fun i hi => by rw [pu_upd_ne _ _ (by omega), pu_upd_ne _ _ (by omega)]) ?_
  obtain ⟨n, n1, n2, n3⟩ : iv_R w 459 4 (fun i => (fun x => ∃ a, 1 ≤ a ∧ a ≤ 40 ∧ x = nI a) (w (459 + 1 + i))) := h.2.2.2.2.1
  have e0 : n = z := pu_nIinj (by omega) (by omega) (n2.symm.trans e)
  subst e0
  refine ⟨n + 1, by omega, pu_upd_eq _ _ _, fun i hi => ?_⟩
  by_cases ei : i = n
  · subst ei
    have ea : (upd (upd w (460 + i) a) 459 (nI (i + 1))) (459 + 1 + i) = a := by
      rw [pu_upd_ne _ _ (by omega), pu_upd_eq]
    simp only [ea]
    exact hP
  · have ea : (upd (upd w (460 + n) a) 459 (nI (n + 1))) (459 + 1 + i) = w (459 + 1 + i) := by
      rw [pu_upd_ne _ _ (by omega), pu_upd_ne _ _ (by omega)]
    simp only [ea]
    exact n3 i (by omega)
theorem iv_z5 {w : Nat → Int32} (h : iv_T w) : iv_T (upd w 459 0) := by
  refine iv_t5 h (fun i hi => pu_upd_ne _ _ (by omega)) ⟨0, Nat.zero_le _, pu_upd_eq _ _ _, fun i hi => absurd hi (Nat.not_lt_zero _)⟩
theorem iv_a6 {w : Nat → Int32} (h : iv_T w) {z : Nat} (e : w 464 = nI z) (hz : z < 8) (a : Int32) (hP : (fun x => ∃ a, a < 65536 ∧ x = nI a) a) : iv_T (upd (upd w (465 + z) a) 464 (nI (z + 1))) := by
  refine iv_t6 h (fun i hi => by rw [pu_upd_ne _ _ (by omega), pu_upd_ne _ _ (by omega)]) ?_
  obtain ⟨n, n1, n2, n3⟩ : iv_R w 464 8 (fun i => (fun x => ∃ a, a < 65536 ∧ x = nI a) (w (464 + 1 + i))) := h.2.2.2.2.2.1
  have e0 : n = z := pu_nIinj (by omega) (by omega) (n2.symm.trans e)
  subst e0
  refine ⟨n + 1, by omega, pu_upd_eq _ _ _, fun i hi => ?_⟩
  by_cases ei : i = n
  · subst ei
    have ea : (upd (upd w (465 + i) a) 464 (nI (i + 1))) (464 + 1 + i) = a := by
      rw [pu_upd_ne _ _ (by omega), pu_upd_eq]
    simp only [ea]
    exact hP
  · have ea : (upd (upd w (465 + n) a) 464 (nI (n + 1))) (464 + 1 + i) = w (464 + 1 + i) := by
      rw [pu_upd_ne _ _ (by omega), pu_upd_ne _ _ (by omega)]
    simp only [ea]
    exact n3 i (by omega)
theorem iv_z6 {w : Nat → Int32} (h : iv_T w) : iv_T (upd w 464 0) := by
  refine iv_t6 h (fun i hi => pu_upd_ne _ _ (by omega)) ⟨0, Nat.zero_le _, pu_upd_eq _ _ _, fun i hi => absurd hi (Nat.not_lt_zero _)⟩
theorem iv_a7 {w : Nat → Int32} (h : iv_T w) {z : Nat} (e : w 481 = nI z) (hz : z < 24) (a : Int32) (hP : (fun x => ∃ a, a ≤ 99 ∧ x = nI a) a) : iv_T (upd (upd w (482 + z) a) 481 (nI (z + 1))) := by
  refine iv_t7 h (fun i hi => by rw [pu_upd_ne _ _ (by omega), pu_upd_ne _ _ (by omega)]) ?_
  obtain ⟨n, n1, n2, n3⟩ : iv_R w 481 24 (fun i => (fun x => ∃ a, a ≤ 99 ∧ x = nI a) (w (481 + 1 + i))) := h.2.2.2.2.2.2.1
  have e0 : n = z := pu_nIinj (by omega) (by omega) (n2.symm.trans e)
  subst e0
  refine ⟨n + 1, by omega, pu_upd_eq _ _ _, fun i hi => ?_⟩
  by_cases ei : i = n
  · subst ei
    have ea : (upd (upd w (482 + i) a) 481 (nI (i + 1))) (481 + 1 + i) = a := by
      rw [pu_upd_ne _ _ (by omega), pu_upd_eq]
    simp only [ea]
    exact hP
  · have ea : (upd (upd w (482 + n) a) 481 (nI (n + 1))) (481 + 1 + i) = w (481 + 1 + i) := by
      rw [pu_upd_ne _ _ (by omega), pu_upd_ne _ _ (by omega)]
    simp only [ea]
    exact n3 i (by omega)
theorem iv_z7 {w : Nat → Int32} (h : iv_T w) : iv_T (upd w 481 0) := by
  refine iv_t7 h (fun i hi => pu_upd_ne _ _ (by omega)) ⟨0, Nat.zero_le _, pu_upd_eq _ _ _, fun i hi => absurd hi (Nat.not_lt_zero _)⟩
theorem iv_a8 {w : Nat → Int32} (h : iv_T w) {z : Nat} (e : w 506 = nI z) (hz : z < 8) (a : Int32) (hP : (fun x => ∃ a, 1 ≤ a ∧ a ≤ 9999 ∧ x = nI a) a) : iv_T (upd (upd w (507 + z) a) 506 (nI (z + 1))) := by
  refine iv_t8 h (fun i hi => by rw [pu_upd_ne _ _ (by omega), pu_upd_ne _ _ (by omega)]) ?_
  obtain ⟨n, n1, n2, n3⟩ : iv_R w 506 8 (fun i => (fun x => ∃ a, 1 ≤ a ∧ a ≤ 9999 ∧ x = nI a) (w (506 + 1 + i))) := h.2.2.2.2.2.2.2.1
  have e0 : n = z := pu_nIinj (by omega) (by omega) (n2.symm.trans e)
  subst e0
  refine ⟨n + 1, by omega, pu_upd_eq _ _ _, fun i hi => ?_⟩
  by_cases ei : i = n
  · subst ei
    have ea : (upd (upd w (507 + i) a) 506 (nI (i + 1))) (506 + 1 + i) = a := by
      rw [pu_upd_ne _ _ (by omega), pu_upd_eq]
    simp only [ea]
    exact hP
  · have ea : (upd (upd w (507 + n) a) 506 (nI (n + 1))) (506 + 1 + i) = w (506 + 1 + i) := by
      rw [pu_upd_ne _ _ (by omega), pu_upd_ne _ _ (by omega)]
    simp only [ea]
    exact n3 i (by omega)
theorem iv_z8 {w : Nat → Int32} (h : iv_T w) : iv_T (upd w 506 0) := by
  refine iv_t8 h (fun i hi => pu_upd_ne _ _ (by omega)) ⟨0, Nat.zero_le _, pu_upd_eq _ _ _, fun i hi => absurd hi (Nat.not_lt_zero _)⟩
theorem iv_a9 {w : Nat → Int32} (h : iv_T w) {z : Nat} (e : w 515 = nI z) (hz : z < 8) (a : Int32) (hP : (fun x => ∃ a, 1 ≤ a ∧ a ≤ 20 ∧ x = nI a) a) : iv_T (upd (upd w (516 + z) a) 515 (nI (z + 1))) := by
  refine iv_t9 h (fun i hi => by rw [pu_upd_ne _ _ (by omega), pu_upd_ne _ _ (by omega)]) ?_
  obtain ⟨n, n1, n2, n3⟩ : iv_R w 515 8 (fun i => (fun x => ∃ a, 1 ≤ a ∧ a ≤ 20 ∧ x = nI a) (w (515 + 1 + i))) := h.2.2.2.2.2.2.2.2.1
  have e0 : n = z := pu_nIinj (by omega) (by omega) (n2.symm.trans e)
  subst e0
  refine ⟨n + 1, by omega, pu_upd_eq _ _ _, fun i hi => ?_⟩
  by_cases ei : i = n
  · subst ei
    have ea : (upd (upd w (516 + i) a) 515 (nI (i + 1))) (515 + 1 + i) = a := by
      rw [pu_upd_ne _ _ (by omega), pu_upd_eq]
    simp only [ea]
    exact hP
  · have ea : (upd (upd w (516 + n) a) 515 (nI (n + 1))) (515 + 1 + i) = w (515 + 1 + i) := by
      rw [pu_upd_ne _ _ (by omega), pu_upd_ne _ _ (by omega)]
    simp only [ea]
    exact n3 i (by omega)
theorem iv_z9 {w : Nat → Int32} (h : iv_T w) : iv_T (upd w 515 0) := by
  refine iv_t9 h (fun i hi => pu_upd_ne _ _ (by omega)) ⟨0, Nat.zero_le _, pu_upd_eq _ _ _, fun i hi => absurd hi (Nat.not_lt_zero _)⟩
theorem pu_endsRow {g : Nat → Nat → Int32} {p : Nat} (hp : p < 2008) : m_endsRow (nI p) g = some (0, am_up g 217 p 0) := by
  unfold m_endsRow
  rw [if_pos (pu_in hp (by omega)), nI_clamp (by omega)]
  rfl
theorem pu_tellsTwo {g : Nat → Nat → Int32} {p N z : Nat} (a b : Int32) (hp : p + 2 * N + 3 < 2008) (e : g 217 p = nI z) (hz : z ≤ N) : m_tellsTwo (nI p) (nI N) a b g = if z < N then some (nI (z + 1), am_up (am_up (am_up g 217 (p + 1 + 2 * z) a) 217 (p + 2 + 2 * z) b) 217 p (nI (z + 1))) else some (-1, g) := by
  unfold m_tellsTwo
  have c0 : am_in (nI p) 2008 = true := pu_in (by omega) (by omega)
  rw [nI_clamp (by omega), e]
  by_cases h : z < N
  · have c1 : am_in (nI p + 1 + 2 * nI z) 2008 = true := by
      rw [show (2 : Int32) = nI 2 from rfl, pk_mul, nI_1, nI_add]
      exact pu_in (by omega) (by omega)
    have c2 : am_in (nI p + 2 + 2 * nI z) 2008 = true := by
      rw [show (2 : Int32) = nI 2 from rfl, pk_mul, nI_add, nI_add]
      exact pu_in (by omega) (by omega)
    have k1 : (nI p + 1 + 2 * nI z).toNatClampNeg = p + 1 + 2 * z := by
      rw [show (2 : Int32) = nI 2 from rfl, pk_mul, nI_1, nI_add, nI_clamp (by omega)]
    have k2 : (nI p + 2 + 2 * nI z).toNatClampNeg = p + 2 + 2 * z := by
      rw [show (2 : Int32) = nI 2 from rfl, pk_mul, nI_add, nI_add, nI_clamp (by omega)]
    rw [if_pos c0, if_neg (fun x => by have := pu_nIinj (by omega) (by omega) x; omega), if_pos c0, if_pos c1, k1, if_pos h]
    simp only [am_let, pu_up_row, pu_upd_ne _ _ (show p ≠ p + 1 + 2 * z by omega), e, c0, c2, k2, if_true, pu_upd_ne _ _ (show p ≠ p + 2 + 2 * z by omega), pu_upd_eq, nI_1]
  · have ez : z = N := by omega
    rw [if_pos c0, if_pos (by rw [ez]), if_neg h]
theorem pu_tellsOne {g : Nat → Nat → Int32} {p N z : Nat} (a : Int32) (hp : p + N + 3 < 2008) (e : g 217 p = nI z) (hz : z ≤ N) : m_tellsOne (nI p) (nI N) a g = if z < N then some (nI (z + 1), am_up (am_up g 217 (p + 1 + z) a) 217 p (nI (z + 1))) else some (-1, g) := by
  unfold m_tellsOne
  have c0 : am_in (nI p) 2008 = true := pu_in (by omega) (by omega)
  rw [nI_clamp (by omega), e]
  by_cases h : z < N
  · have c1 : am_in (nI p + 1 + nI z) 2008 = true := by
      rw [nI_1, nI_add]
      exact pu_in (by omega) (by omega)
    have k1 : (nI p + 1 + nI z).toNatClampNeg = p + 1 + z := by
      rw [nI_1, nI_add, nI_clamp (by omega)]
    rw [if_pos c0, if_neg (fun x => by have := pu_nIinj (by omega) (by omega) x; omega), if_pos c0, if_pos c1, k1, if_pos h]
    simp only [am_let, pu_up_row, pu_upd_ne _ _ (show p ≠ p + 1 + z by omega), e, c0, if_true, pu_upd_eq, nI_1]
  · have ez : z = N := by omega
    rw [if_pos c0, if_pos (by rw [ez]), if_neg h]
theorem pu_app1 {f : Nat → Nat → Int32} {z : Nat} (a b : Int32) (e : f 27 0 = nI z) (hz : z ≤ 8) : xr_append_27 a b f = if z < 8 then some (nI (z + 1), am_up (am_up (am_up f 28 z a) 29 z b) 27 0 (nI (z + 1))) else some (-1, f) := by
  unfold xr_append_27
  rw [e]
  by_cases h : z < 8
  · have c0 : am_in (nI z) 8 = true := pu_in (by omega) (by omega)
    rw [if_pos (nI_lt h (by omega)), if_pos c0, nI_clamp (by omega), if_pos h]
    simp only [am_let, pu_up_ne _ _ (show 27 ≠ 28 by decide), pu_up_ne _ _ (show 27 ≠ 29 by decide), e, c0, if_true, nI_clamp (show z < 2 ^ 31 by omega), pu_up_row, pu_upd_eq, nI_1]
  · rw [if_neg (nI_nlt (by omega) (by omega)), if_neg h]
theorem rl_app1 {f g : Nat → Nat → Int32} (h : rl_Rel f g) {z : Nat} (e : g 217 407 = nI z) (hz : z < 8) (a b : Int32) (hP : (fun x y => ∃ a b, a < 16 ∧ b ≤ 10 ∧ x = nI a ∧ y = nI b) a b) : rl_Rel (am_up (am_up (am_up f 28 z a) 29 z b) 27 0 (nI (z + 1))) (am_up (am_up (am_up g 217 (407 + 1 + 2 * z) a) 217 (407 + 2 + 2 * z) b) 217 407 (nI (z + 1))) := by
  have ea : 407 + 1 + 2 * z = 408 + 2 * z := by omega
  have eb : 407 + 2 + 2 * z = 409 + 2 * z := by omega
  rw [ea, eb]
  refine rl_thought h ?_ ?_ (fun x hx => by rw [pu_up_ne _ _ (by omega), pu_up_ne _ _ (by omega), pu_up_ne _ _ (by omega)]) (fun x hx => by rw [pu_up_ne _ _ hx, pu_up_ne _ _ hx, pu_up_ne _ _ hx]) (fun i hi => by rw [pu_up_row, pu_up_row, pu_up_row, pu_upd_ne _ _ (by omega), pu_upd_ne _ _ (by omega), pu_upd_ne _ _ (by omega)])
  · rw [pu_up_row, pu_up_row, pu_up_row]
    exact rl_s_r1n (o := 0) (rl_s_r1b (o := 0) (rl_s_r1a (o := 0) h.1.1 hz a) hz b) _
  · rw [pu_up_row, pu_up_row, pu_up_row]
    exact iv_a1 h.1.2.2.2.2.2.1 e hz a b hP
theorem rl_clr1 {f g : Nat → Nat → Int32} (h : rl_Rel f g) : rl_Rel (am_up f 27 0 0) (am_up g 217 407 0) := by
  refine rl_thought h ?_ ?_ (fun x hx => pu_up_ne _ _ (by omega)) (fun x hx => pu_up_ne _ _ hx) (fun i hi => by rw [pu_up_row, pu_upd_ne _ _ (by omega)])
  · rw [pu_up_row]
    exact rl_s_r1n (o := 0) h.1.1 _
  · rw [pu_up_row]
    exact iv_z1 h.1.2.2.2.2.2.1
theorem pu_app2 {f : Nat → Nat → Int32} {z : Nat} (a b : Int32) (e : f 30 0 = nI z) (hz : z ≤ 6) : xr_append_30 a b f = if z < 6 then some (nI (z + 1), am_up (am_up (am_up f 31 z a) 32 z b) 30 0 (nI (z + 1))) else some (-1, f) := by
  unfold xr_append_30
  rw [e]
  by_cases h : z < 6
  · have c0 : am_in (nI z) 6 = true := pu_in (by omega) (by omega)
    rw [if_pos (nI_lt h (by omega)), if_pos c0, nI_clamp (by omega), if_pos h]
    simp only [am_let, pu_up_ne _ _ (show 30 ≠ 31 by decide), pu_up_ne _ _ (show 30 ≠ 32 by decide), e, c0, if_true, nI_clamp (show z < 2 ^ 31 by omega), pu_up_row, pu_upd_eq, nI_1]
  · rw [if_neg (nI_nlt (by omega) (by omega)), if_neg h]
theorem rl_app2 {f g : Nat → Nat → Int32} (h : rl_Rel f g) {z : Nat} (e : g 217 424 = nI z) (hz : z < 6) (a b : Int32) (hP : (fun x y => ∃ a b, 1 ≤ a ∧ a ≤ 9 ∧ b < 256 ∧ x = nI a ∧ y = nI b) a b) : rl_Rel (am_up (am_up (am_up f 31 z a) 32 z b) 30 0 (nI (z + 1))) (am_up (am_up (am_up g 217 (424 + 1 + 2 * z) a) 217 (424 + 2 + 2 * z) b) 217 424 (nI (z + 1))) := by
  have ea : 424 + 1 + 2 * z = 425 + 2 * z := by omega
  have eb : 424 + 2 + 2 * z = 426 + 2 * z := by omega
  rw [ea, eb]
  refine rl_thought h ?_ ?_ (fun x hx => by rw [pu_up_ne _ _ (by omega), pu_up_ne _ _ (by omega), pu_up_ne _ _ (by omega)]) (fun x hx => by rw [pu_up_ne _ _ hx, pu_up_ne _ _ hx, pu_up_ne _ _ hx]) (fun i hi => by rw [pu_up_row, pu_up_row, pu_up_row, pu_upd_ne _ _ (by omega), pu_upd_ne _ _ (by omega), pu_upd_ne _ _ (by omega)])
  · rw [pu_up_row, pu_up_row, pu_up_row]
    exact rl_s_r2n (o := 0) (rl_s_r2b (o := 0) (rl_s_r2a (o := 0) h.1.1 hz a) hz b) _
  · rw [pu_up_row, pu_up_row, pu_up_row]
    exact iv_a2 h.1.2.2.2.2.2.1 e hz a b hP
theorem rl_clr2 {f g : Nat → Nat → Int32} (h : rl_Rel f g) : rl_Rel (am_up f 30 0 0) (am_up g 217 424 0) := by
  refine rl_thought h ?_ ?_ (fun x hx => pu_up_ne _ _ (by omega)) (fun x hx => pu_up_ne _ _ hx) (fun i hi => by rw [pu_up_row, pu_upd_ne _ _ (by omega)])
  · rw [pu_up_row]
    exact rl_s_r2n (o := 0) h.1.1 _
  · rw [pu_up_row]
    exact iv_z2 h.1.2.2.2.2.2.1
theorem pu_app3 {f : Nat → Nat → Int32} {z : Nat} (a b : Int32) (e : f 33 0 = nI z) (hz : z ≤ 4) : xr_append_33 a b f = if z < 4 then some (nI (z + 1), am_up (am_up (am_up f 34 z a) 35 z b) 33 0 (nI (z + 1))) else some (-1, f) := by
  unfold xr_append_33
  rw [e]
  by_cases h : z < 4
  · have c0 : am_in (nI z) 4 = true := pu_in (by omega) (by omega)
    rw [if_pos (nI_lt h (by omega)), if_pos c0, nI_clamp (by omega), if_pos h]
    simp only [am_let, pu_up_ne _ _ (show 33 ≠ 34 by decide), pu_up_ne _ _ (show 33 ≠ 35 by decide), e, c0, if_true, nI_clamp (show z < 2 ^ 31 by omega), pu_up_row, pu_upd_eq, nI_1]
  · rw [if_neg (nI_nlt (by omega) (by omega)), if_neg h]
theorem rl_app3 {f g : Nat → Nat → Int32} (h : rl_Rel f g) {z : Nat} (e : g 217 437 = nI z) (hz : z < 4) (a b : Int32) (hP : (fun x y => ∃ a, a ≤ 9 ∧ x = nI a) a b) : rl_Rel (am_up (am_up (am_up f 34 z a) 35 z b) 33 0 (nI (z + 1))) (am_up (am_up (am_up g 217 (437 + 1 + 2 * z) a) 217 (437 + 2 + 2 * z) b) 217 437 (nI (z + 1))) := by
  have ea : 437 + 1 + 2 * z = 438 + 2 * z := by omega
  have eb : 437 + 2 + 2 * z = 439 + 2 * z := by omega
  rw [ea, eb]
  refine rl_thought h ?_ ?_ (fun x hx => by rw [pu_up_ne _ _ (by omega), pu_up_ne _ _ (by omega), pu_up_ne _ _ (by omega)]) (fun x hx => by rw [pu_up_ne _ _ hx, pu_up_ne _ _ hx, pu_up_ne _ _ hx]) (fun i hi => by rw [pu_up_row, pu_up_row, pu_up_row, pu_upd_ne _ _ (by omega), pu_upd_ne _ _ (by omega), pu_upd_ne _ _ (by omega)])
  · rw [pu_up_row, pu_up_row, pu_up_row]
    exact rl_s_r3n (o := 0) (rl_s_r3b (o := 0) (rl_s_r3a (o := 0) h.1.1 hz a) hz b) _
  · rw [pu_up_row, pu_up_row, pu_up_row]
    exact iv_a3 h.1.2.2.2.2.2.1 e hz a b hP
theorem rl_clr3 {f g : Nat → Nat → Int32} (h : rl_Rel f g) : rl_Rel (am_up f 33 0 0) (am_up g 217 437 0) := by
  refine rl_thought h ?_ ?_ (fun x hx => pu_up_ne _ _ (by omega)) (fun x hx => pu_up_ne _ _ hx) (fun i hi => by rw [pu_up_row, pu_upd_ne _ _ (by omega)])
  · rw [pu_up_row]
    exact rl_s_r3n (o := 0) h.1.1 _
  · rw [pu_up_row]
    exact iv_z3 h.1.2.2.2.2.2.1
theorem pu_app4 {f : Nat → Nat → Int32} {z : Nat} (a b : Int32) (e : f 36 0 = nI z) (hz : z ≤ 6) : xr_append_36 a b f = if z < 6 then some (nI (z + 1), am_up (am_up (am_up f 37 z a) 38 z b) 36 0 (nI (z + 1))) else some (-1, f) := by
  unfold xr_append_36
  rw [e]
  by_cases h : z < 6
  · have c0 : am_in (nI z) 6 = true := pu_in (by omega) (by omega)
    rw [if_pos (nI_lt h (by omega)), if_pos c0, nI_clamp (by omega), if_pos h]
    simp only [am_let, pu_up_ne _ _ (show 36 ≠ 37 by decide), pu_up_ne _ _ (show 36 ≠ 38 by decide), e, c0, if_true, nI_clamp (show z < 2 ^ 31 by omega), pu_up_row, pu_upd_eq, nI_1]
  · rw [if_neg (nI_nlt (by omega) (by omega)), if_neg h]
theorem rl_app4 {f g : Nat → Nat → Int32} (h : rl_Rel f g) {z : Nat} (e : g 217 446 = nI z) (hz : z < 6) (a b : Int32) (hP : (fun x y => ∃ a, a ≤ 3 ∧ x = nI a) a b) : rl_Rel (am_up (am_up (am_up f 37 z a) 38 z b) 36 0 (nI (z + 1))) (am_up (am_up (am_up g 217 (446 + 1 + 2 * z) a) 217 (446 + 2 + 2 * z) b) 217 446 (nI (z + 1))) := by
  have ea : 446 + 1 + 2 * z = 447 + 2 * z := by omega
  have eb : 446 + 2 + 2 * z = 448 + 2 * z := by omega
  rw [ea, eb]
  refine rl_thought h ?_ ?_ (fun x hx => by rw [pu_up_ne _ _ (by omega), pu_up_ne _ _ (by omega), pu_up_ne _ _ (by omega)]) (fun x hx => by rw [pu_up_ne _ _ hx, pu_up_ne _ _ hx, pu_up_ne _ _ hx]) (fun i hi => by rw [pu_up_row, pu_up_row, pu_up_row, pu_upd_ne _ _ (by omega), pu_upd_ne _ _ (by omega), pu_upd_ne _ _ (by omega)])
  · rw [pu_up_row, pu_up_row, pu_up_row]
    exact rl_s_r4n (o := 0) (rl_s_r4b (o := 0) (rl_s_r4a (o := 0) h.1.1 hz a) hz b) _
  · rw [pu_up_row, pu_up_row, pu_up_row]
    exact iv_a4 h.1.2.2.2.2.2.1 e hz a b hP
theorem rl_clr4 {f g : Nat → Nat → Int32} (h : rl_Rel f g) : rl_Rel (am_up f 36 0 0) (am_up g 217 446 0) := by
  refine rl_thought h ?_ ?_ (fun x hx => pu_up_ne _ _ (by omega)) (fun x hx => pu_up_ne _ _ hx) (fun i hi => by rw [pu_up_row, pu_upd_ne _ _ (by omega)])
  · rw [pu_up_row]
    exact rl_s_r4n (o := 0) h.1.1 _
  · rw [pu_up_row]
    exact iv_z4 h.1.2.2.2.2.2.1
theorem pu_app5 {f : Nat → Nat → Int32} {z : Nat} (a b : Int32) (e : f 39 0 = nI z) (hz : z ≤ 4) : xr_append_39 a b f = if z < 4 then some (nI (z + 1), am_up (am_up (am_up f 40 z a) 41 z b) 39 0 (nI (z + 1))) else some (-1, f) := by
  unfold xr_append_39
  rw [e]
  by_cases h : z < 4
  · have c0 : am_in (nI z) 4 = true := pu_in (by omega) (by omega)
    rw [if_pos (nI_lt h (by omega)), if_pos c0, nI_clamp (by omega), if_pos h]
    simp only [am_let, pu_up_ne _ _ (show 39 ≠ 40 by decide), pu_up_ne _ _ (show 39 ≠ 41 by decide), e, c0, if_true, nI_clamp (show z < 2 ^ 31 by omega), pu_up_row, pu_upd_eq, nI_1]
  · rw [if_neg (nI_nlt (by omega) (by omega)), if_neg h]
theorem rl_no41 : ∀ q ∈ rl_W, q.1 + 0 ≠ 41 := by decide +kernel
theorem rl_no44 : ∀ q ∈ rl_W, q.1 + 0 ≠ 44 := by decide +kernel
theorem rl_no47 : ∀ q ∈ rl_W, q.1 + 0 ≠ 47 := by decide +kernel
theorem rl_no50 : ∀ q ∈ rl_W, q.1 + 0 ≠ 50 := by decide +kernel
theorem rl_no53 : ∀ q ∈ rl_W, q.1 + 0 ≠ 53 := by decide +kernel
theorem rl_app5 {f g : Nat → Nat → Int32} (h : rl_Rel f g) {z : Nat} (e : g 217 459 = nI z) (hz : z < 4) (a b : Int32) (hP : (fun x => ∃ a, 1 ≤ a ∧ a ≤ 40 ∧ x = nI a) a) : rl_Rel (am_up (am_up (am_up f 40 z a) 41 z b) 39 0 (nI (z + 1))) (am_up (am_up g 217 (459 + 1 + z) a) 217 459 (nI (z + 1))) := by
  have ea : 459 + 1 + z = 460 + z := by omega
  rw [ea]
  refine rl_thought h ?_ ?_ (fun x hx => by rw [pu_up_ne _ _ (by omega), pu_up_ne _ _ (by omega), pu_up_ne _ _ (by omega)]) (fun x hx => by rw [pu_up_ne _ _ hx, pu_up_ne _ _ hx]) (fun i hi => by rw [pu_up_row, pu_up_row, pu_upd_ne _ _ (by omega), pu_upd_ne _ _ (by omega)])
  · rw [pu_up_row, pu_up_row]
    exact rl_s_r5n (o := 0) ((rl_s_r5a (o := 0) h.1.1 hz a).row (fun q hq => pu_up_ne _ _ (rl_no41 q hq))) _
  · rw [pu_up_row, pu_up_row]
    exact iv_a5 h.1.2.2.2.2.2.1 e hz a hP
theorem rl_clr5 {f g : Nat → Nat → Int32} (h : rl_Rel f g) : rl_Rel (am_up f 39 0 0) (am_up g 217 459 0) := by
  refine rl_thought h ?_ ?_ (fun x hx => pu_up_ne _ _ (by omega)) (fun x hx => pu_up_ne _ _ hx) (fun i hi => by rw [pu_up_row, pu_upd_ne _ _ (by omega)])
  · rw [pu_up_row]
    exact rl_s_r5n (o := 0) h.1.1 _
  · rw [pu_up_row]
    exact iv_z5 h.1.2.2.2.2.2.1
theorem pu_app6 {f : Nat → Nat → Int32} {z : Nat} (a b : Int32) (e : f 42 0 = nI z) (hz : z ≤ 8) : xr_append_42 a b f = if z < 8 then some (nI (z + 1), am_up (am_up (am_up f 43 z a) 44 z b) 42 0 (nI (z + 1))) else some (-1, f) := by
  unfold xr_append_42
  rw [e]
  by_cases h : z < 8
  · have c0 : am_in (nI z) 8 = true := pu_in (by omega) (by omega)
    rw [if_pos (nI_lt h (by omega)), if_pos c0, nI_clamp (by omega), if_pos h]
    simp only [am_let, pu_up_ne _ _ (show 42 ≠ 43 by decide), pu_up_ne _ _ (show 42 ≠ 44 by decide), e, c0, if_true, nI_clamp (show z < 2 ^ 31 by omega), pu_up_row, pu_upd_eq, nI_1]
  · rw [if_neg (nI_nlt (by omega) (by omega)), if_neg h]
theorem rl_app6 {f g : Nat → Nat → Int32} (h : rl_Rel f g) {z : Nat} (e : g 217 464 = nI z) (hz : z < 8) (a b : Int32) (hP : (fun x => ∃ a, a < 65536 ∧ x = nI a) a) : rl_Rel (am_up (am_up (am_up f 43 z a) 44 z b) 42 0 (nI (z + 1))) (am_up (am_up g 217 (464 + 1 + z) a) 217 464 (nI (z + 1))) := by
  have ea : 464 + 1 + z = 465 + z := by omega
  rw [ea]
  refine rl_thought h ?_ ?_ (fun x hx => by rw [pu_up_ne _ _ (by omega), pu_up_ne _ _ (by omega), pu_up_ne _ _ (by omega)]) (fun x hx => by rw [pu_up_ne _ _ hx, pu_up_ne _ _ hx]) (fun i hi => by rw [pu_up_row, pu_up_row, pu_upd_ne _ _ (by omega), pu_upd_ne _ _ (by omega)])
  · rw [pu_up_row, pu_up_row]
    exact rl_s_r6n (o := 0) ((rl_s_r6a (o := 0) h.1.1 hz a).row (fun q hq => pu_up_ne _ _ (rl_no44 q hq))) _
  · rw [pu_up_row, pu_up_row]
    exact iv_a6 h.1.2.2.2.2.2.1 e hz a hP
theorem rl_clr6 {f g : Nat → Nat → Int32} (h : rl_Rel f g) : rl_Rel (am_up f 42 0 0) (am_up g 217 464 0) := by
  refine rl_thought h ?_ ?_ (fun x hx => pu_up_ne _ _ (by omega)) (fun x hx => pu_up_ne _ _ hx) (fun i hi => by rw [pu_up_row, pu_upd_ne _ _ (by omega)])
  · rw [pu_up_row]
    exact rl_s_r6n (o := 0) h.1.1 _
  · rw [pu_up_row]
    exact iv_z6 h.1.2.2.2.2.2.1
theorem pu_app7 {f : Nat → Nat → Int32} {z : Nat} (a b : Int32) (e : f 45 0 = nI z) (hz : z ≤ 24) : xr_append_45 a b f = if z < 24 then some (nI (z + 1), am_up (am_up (am_up f 46 z a) 47 z b) 45 0 (nI (z + 1))) else some (-1, f) := by
  unfold xr_append_45
  rw [e]
  by_cases h : z < 24
  · have c0 : am_in (nI z) 24 = true := pu_in (by omega) (by omega)
    rw [if_pos (nI_lt h (by omega)), if_pos c0, nI_clamp (by omega), if_pos h]
    simp only [am_let, pu_up_ne _ _ (show 45 ≠ 46 by decide), pu_up_ne _ _ (show 45 ≠ 47 by decide), e, c0, if_true, nI_clamp (show z < 2 ^ 31 by omega), pu_up_row, pu_upd_eq, nI_1]
  · rw [if_neg (nI_nlt (by omega) (by omega)), if_neg h]
theorem rl_app7 {f g : Nat → Nat → Int32} (h : rl_Rel f g) {z : Nat} (e : g 217 481 = nI z) (hz : z < 24) (a b : Int32) (hP : (fun x => ∃ a, a ≤ 99 ∧ x = nI a) a) : rl_Rel (am_up (am_up (am_up f 46 z a) 47 z b) 45 0 (nI (z + 1))) (am_up (am_up g 217 (481 + 1 + z) a) 217 481 (nI (z + 1))) := by
  have ea : 481 + 1 + z = 482 + z := by omega
  rw [ea]
  refine rl_thought h ?_ ?_ (fun x hx => by rw [pu_up_ne _ _ (by omega), pu_up_ne _ _ (by omega), pu_up_ne _ _ (by omega)]) (fun x hx => by rw [pu_up_ne _ _ hx, pu_up_ne _ _ hx]) (fun i hi => by rw [pu_up_row, pu_up_row, pu_upd_ne _ _ (by omega), pu_upd_ne _ _ (by omega)])
  · rw [pu_up_row, pu_up_row]
    exact rl_s_r7n (o := 0) ((rl_s_r7a (o := 0) h.1.1 hz a).row (fun q hq => pu_up_ne _ _ (rl_no47 q hq))) _
  · rw [pu_up_row, pu_up_row]
    exact iv_a7 h.1.2.2.2.2.2.1 e hz a hP
theorem rl_clr7 {f g : Nat → Nat → Int32} (h : rl_Rel f g) : rl_Rel (am_up f 45 0 0) (am_up g 217 481 0) := by
  refine rl_thought h ?_ ?_ (fun x hx => pu_up_ne _ _ (by omega)) (fun x hx => pu_up_ne _ _ hx) (fun i hi => by rw [pu_up_row, pu_upd_ne _ _ (by omega)])
  · rw [pu_up_row]
    exact rl_s_r7n (o := 0) h.1.1 _
  · rw [pu_up_row]
    exact iv_z7 h.1.2.2.2.2.2.1
theorem pu_app8 {f : Nat → Nat → Int32} {z : Nat} (a b : Int32) (e : f 48 0 = nI z) (hz : z ≤ 8) : xr_append_48 a b f = if z < 8 then some (nI (z + 1), am_up (am_up (am_up f 49 z a) 50 z b) 48 0 (nI (z + 1))) else some (-1, f) := by
  unfold xr_append_48
  rw [e]
  by_cases h : z < 8
  · have c0 : am_in (nI z) 8 = true := pu_in (by omega) (by omega)
    rw [if_pos (nI_lt h (by omega)), if_pos c0, nI_clamp (by omega), if_pos h]
    simp only [am_let, pu_up_ne _ _ (show 48 ≠ 49 by decide), pu_up_ne _ _ (show 48 ≠ 50 by decide), e, c0, if_true, nI_clamp (show z < 2 ^ 31 by omega), pu_up_row, pu_upd_eq, nI_1]
  · rw [if_neg (nI_nlt (by omega) (by omega)), if_neg h]
theorem rl_app8 {f g : Nat → Nat → Int32} (h : rl_Rel f g) {z : Nat} (e : g 217 506 = nI z) (hz : z < 8) (a b : Int32) (hP : (fun x => ∃ a, 1 ≤ a ∧ a ≤ 9999 ∧ x = nI a) a) : rl_Rel (am_up (am_up (am_up f 49 z a) 50 z b) 48 0 (nI (z + 1))) (am_up (am_up g 217 (506 + 1 + z) a) 217 506 (nI (z + 1))) := by
  have ea : 506 + 1 + z = 507 + z := by omega
  rw [ea]
  refine rl_thought h ?_ ?_ (fun x hx => by rw [pu_up_ne _ _ (by omega), pu_up_ne _ _ (by omega), pu_up_ne _ _ (by omega)]) (fun x hx => by rw [pu_up_ne _ _ hx, pu_up_ne _ _ hx]) (fun i hi => by rw [pu_up_row, pu_up_row, pu_upd_ne _ _ (by omega), pu_upd_ne _ _ (by omega)])
  · rw [pu_up_row, pu_up_row]
    exact rl_s_r8n (o := 0) ((rl_s_r8a (o := 0) h.1.1 hz a).row (fun q hq => pu_up_ne _ _ (rl_no50 q hq))) _
  · rw [pu_up_row, pu_up_row]
    exact iv_a8 h.1.2.2.2.2.2.1 e hz a hP
theorem rl_clr8 {f g : Nat → Nat → Int32} (h : rl_Rel f g) : rl_Rel (am_up f 48 0 0) (am_up g 217 506 0) := by
  refine rl_thought h ?_ ?_ (fun x hx => pu_up_ne _ _ (by omega)) (fun x hx => pu_up_ne _ _ hx) (fun i hi => by rw [pu_up_row, pu_upd_ne _ _ (by omega)])
  · rw [pu_up_row]
    exact rl_s_r8n (o := 0) h.1.1 _
  · rw [pu_up_row]
    exact iv_z8 h.1.2.2.2.2.2.1
theorem pu_app9 {f : Nat → Nat → Int32} {z : Nat} (a b : Int32) (e : f 51 0 = nI z) (hz : z ≤ 8) : xr_append_51 a b f = if z < 8 then some (nI (z + 1), am_up (am_up (am_up f 52 z a) 53 z b) 51 0 (nI (z + 1))) else some (-1, f) := by
  unfold xr_append_51
  rw [e]
  by_cases h : z < 8
  · have c0 : am_in (nI z) 8 = true := pu_in (by omega) (by omega)
    rw [if_pos (nI_lt h (by omega)), if_pos c0, nI_clamp (by omega), if_pos h]
    simp only [am_let, pu_up_ne _ _ (show 51 ≠ 52 by decide), pu_up_ne _ _ (show 51 ≠ 53 by decide), e, c0, if_true, nI_clamp (show z < 2 ^ 31 by omega), pu_up_row, pu_upd_eq, nI_1]
  · rw [if_neg (nI_nlt (by omega) (by omega)), if_neg h]
theorem rl_app9 {f g : Nat → Nat → Int32} (h : rl_Rel f g) {z : Nat} (e : g 217 515 = nI z) (hz : z < 8) (a b : Int32) (hP : (fun x => ∃ a, 1 ≤ a ∧ a ≤ 20 ∧ x = nI a) a) : rl_Rel (am_up (am_up (am_up f 52 z a) 53 z b) 51 0 (nI (z + 1))) (am_up (am_up g 217 (515 + 1 + z) a) 217 515 (nI (z + 1))) := by
  have ea : 515 + 1 + z = 516 + z := by omega
  rw [ea]
  refine rl_thought h ?_ ?_ (fun x hx => by rw [pu_up_ne _ _ (by omega), pu_up_ne _ _ (by omega), pu_up_ne _ _ (by omega)]) (fun x hx => by rw [pu_up_ne _ _ hx, pu_up_ne _ _ hx]) (fun i hi => by rw [pu_up_row, pu_up_row, pu_upd_ne _ _ (by omega), pu_upd_ne _ _ (by omega)])
  · rw [pu_up_row, pu_up_row]
    exact rl_s_r9n (o := 0) ((rl_s_r9a (o := 0) h.1.1 hz a).row (fun q hq => pu_up_ne _ _ (rl_no53 q hq))) _
  · rw [pu_up_row, pu_up_row]
    exact iv_a9 h.1.2.2.2.2.2.1 e hz a hP
theorem rl_clr9 {f g : Nat → Nat → Int32} (h : rl_Rel f g) : rl_Rel (am_up f 51 0 0) (am_up g 217 515 0) := by
  refine rl_thought h ?_ ?_ (fun x hx => pu_up_ne _ _ (by omega)) (fun x hx => pu_up_ne _ _ hx) (fun i hi => by rw [pu_up_row, pu_upd_ne _ _ (by omega)])
  · rw [pu_up_row]
    exact rl_s_r9n (o := 0) h.1.1 _
  · rw [pu_up_row]
    exact iv_z9 h.1.2.2.2.2.2.1
