theorem wo_end {f g F G : Nat → Nat → Int32} (h : rl_Rel f g) (hF : ∀ a, a ≠ 144 → a ≠ 145 → a ≠ 146 → F a = f a) (h0 : F 144 0 = 0) (hG : ∀ a, a ≠ 227 → a ≠ 228 → a ≠ 229 → G a = g a) : rl_Rel F G := by
  have g216 := hG 216 (by decide) (by decide) (by decide)
  exact h.congr ⟨fun a h1 h2 => hF a (by omega) (by omega) (by omega), fun a h1 => hF a (by omega) (by omega) (by omega), by rw [hF 0 (by omega) (by omega) (by omega)], by rw [hF 0 (by omega) (by omega) (by omega)], by rw [hF 123 (by omega) (by omega) (by omega)], hF 124 (by omega) (by omega) (by omega), by rw [hF 128 (by omega) (by omega) (by omega)], by rw [hF 128 (by omega) (by omega) (by omega)], by rw [hF 143 (by omega) (by omega) (by omega)], by rw [hF 143 (by omega) (by omega) (by omega)], hF 150 (by omega) (by omega) (by omega), hF 153 (by omega) (by omega) (by omega), by rw [h0, h.2.2.2.2.2.2.1]⟩
    ⟨hG 217 (by decide) (by decide) (by decide), hG 218 (by decide) (by decide) (by decide), hG 219 (by decide) (by decide) (by decide), hG 224 (by decide) (by decide) (by decide), by rw [g216], by rw [g216], by rw [g216], by rw [g216], by rw [g216]⟩
theorem sm_words (x1 x2 : Int32) (f g : Nat → Nat → Int32) (h : rl_Rel f g) : ∃ (v : Int32) (f1 g1 : Nat → Nat → Int32), x_words x1 x2 f = some (v, f1) ∧ m_words x1 x2 g = some (v, g1) ∧ rl_Rel f1 g1 := by
  have f144 : f 144 0 = 0 := h.2.2.2.2.2.2.1
  unfold x_words m_words
  rw [pu_isIn, pu_isIn]
  rcases pu_within_cases x1 (lo := 0) (hi := 65535) 0 65535 with ⟨e, S, S1, S2, rfl⟩ | e
  rotate_left
  · have e' : x_within x1 1 65535 = false := by
      rcases pu_within_cases x1 (lo := 1) (hi := 65535) 1 65535 with ⟨e3, w, w1, w2, rfl⟩ | e3
      · have e4 : x_within (nI w) 0 65535 = true := pu_within_t (n := w) (a := 0) (b := 65535) (by omega) (by omega) (by omega)
        rw [e4] at e
        cases e
      · exact e3
    simp only [e, e', Bool.false_eq_true, if_false]
    exact ⟨-1, f, g, rfl, rfl, h⟩
  have hS : S < 65536 := by omega
  simp only [e, if_true, bt_loop hS, pu_bs]
  have hlk := bt_le 16 S
  have hji : ji_bitCount (nI S) = nI (wo_k S 16) := by rw [bt_ji hS, bt_all hS, wo_bt]
  rw [wo_bt] at hlk ⊢
  rw [hji]
  by_cases h8 : wo_k S 16 ≤ 8
  rotate_left
  · have l8 : 8 < nI (wo_k S 16) := nI_lt (a := 8) (by omega) (by omega)
    simp only [l8, if_true]
    refine ⟨-1, f, g, ?_, rfl, h⟩
    by_cases c : x_within (nI S) 1 65535 = true
    · rw [if_pos c]
    · rw [if_neg c]
  have l8 : ¬ 8 < nI (wo_k S 16) := nI_nlt (b := wo_k S 16) (a := 8) h8 (by omega)
  simp only [l8, if_false]
  rcases pu_within_cases x2 (lo := 0) (hi := 1) 0 1 with ⟨e2, w, w1, w2, rfl⟩ | e2
  rotate_left
  · simp only [e2, Bool.false_eq_true, if_false]
    refine ⟨-1, f, g, ?_, rfl, h⟩
    by_cases c : x_within (nI S) 1 65535 = true
    · rw [if_pos c]
    · rw [if_neg c]
  simp only [e2, if_true]
  obtain ⟨G1, m1, m2, m3⟩ := wo_ml g hS h8
  simp only [pu_letE] at m1 ⊢
  rw [m1, pu_bs]
  by_cases h0 : S = 0
  · subst h0
    have k0 : wo_k 0 16 = 0 := by decide
    have e' : x_within (nI 0) 1 65535 = false := by decide
    simp only [e', k0, Bool.false_eq_true, if_false, show nI 0 < (2 : Int32) by decide, show ¬ nI 0 = (1 : Int32) by decide, if_true]
    exact ⟨-1, f, G1, rfl, rfl, wo_end h (fun _ _ _ _ => rfl) f144 (fun a h1 h2 h3 => m3 a h1)⟩
  have e' : x_within (nI S) 1 65535 = true := pu_within_t (n := S) (a := 1) (b := 65535) (by omega) (by omega) (by omega)
  simp only [e', if_true]
  unfold xm_fewestWords_25
  obtain ⟨F1, x1, x2, x3⟩ := wo_xl f hS h8
  rw [x1, pu_bs]
  generalize hm : wo_k S 16 = m at *
  by_cases hm2 : m < 2
  · have l2 : nI m < 2 := nI_lt (b := 2) hm2 (by omega)
    have R := wo_end h (F := F1) (G := G1) (fun a h1 h2 h3 => x3 a h2) (by rw [x3 144 (by decide)]; exact f144) (fun a h1 h2 h3 => m3 a h1)
    simp only [l2, if_true]
    by_cases c : nI m = 1
    · simp only [c, if_true]
      by_cases cw : nI w = 0
      · simp only [cw, if_true, pu_bs]
        exact ⟨0, F1, G1, rfl, rfl, R⟩
      · simp only [cw, if_false, pu_bs]
        exact ⟨-1, F1, G1, rfl, rfl, R⟩
    · simp only [c, if_false]
      by_cases cw : nI w = 0
      · simp only [cw, if_true, pu_bs]
        exact ⟨-1, F1, G1, rfl, rfl, R⟩
      · simp only [cw, if_false, pu_bs]
        exact ⟨-1, F1, G1, rfl, rfl, R⟩
  have l2 : ¬ nI m < 2 := nI_nlt (b := 2) (by omega) (by omega)
  simp only [l2, if_false]
  obtain ⟨NN, hNN⟩ := wo_N h
  have hC : ∀ i, i < m → wo_c S 16 i < 16 := fun i hi => (wo_cf S 16).1 i (by omega)
  have hD : ∀ i j, i < m → j < m → i ≠ j → wo_c S 16 i ≠ wo_c S 16 j := fun i j hi hj hne => wo_ci (by omega) (by omega) hne
  obtain ⟨F2, y1, y2, y3⟩ := wo_so (f := f) (F0 := F1) (NN := NN) (C := wo_c S 16) (m := m) h8 (fun i hi => ⟨hC i hi, x2 i hi⟩) (x3 26 (by decide)) (fun c t hc ht => ⟨(hNN c t hc ht).1, (hNN c t hc ht).2.1⟩)
  rw [y1, pu_bs]
  have hp := jr_pw m (by omega)
  have hp4 : 2 ^ 2 ≤ 2 ^ m := Nat.pow_le_pow_right (by decide) (by omega)
  have hp22 : (2 : Nat) ^ 2 = 4 := by decide
  have hall : nI (2 ^ m) - 1 = nI (2 ^ m - 1) := by rw [show (1 : Int32) = nI 1 from rfl, pk_sub (by omega)]
  rw [jr_sh m (by omega), hall]
  have hN' : ∀ c t, c < 16 → t < 16 → NN c t ≤ 10 ∧ ∀ F : Nat → Nat → Int32, F 217 = g 217 → m_nearnessOf (nI (2 ^ c)) (nI t) F = some (nI (NN c t)) := fun c t hc ht => ⟨(hNN c t hc ht).1, (hNN c t hc ht).2.2.1⟩
  have hN2 : ∀ c t, c < 16 → t < 16 → (c = t → NN c t = 10) ∧ (c ≠ t → NN c t ≤ 9) := fun c t hc ht => (hNN c t hc ht).2.2.2
  have F20 : F2 144 0 = 0 := by rw [y3 144 (by decide), x3 144 (by decide)]; exact f144
  have K := pu_two (f := fun (s4 : Int32 × (Nat → Nat → Int32)) => ((
      if nI (2 ^ m - 1) < s4.1 then (
        some (.inr s4.2))
      else (
        (xm_fewestFor s4.1 s4.2).bind fun p5 =>
        if am_in s4.1 256 = true then (
        some (.inl (s4.1 + 1, (am_up s4.2 144 s4.1.toNatClampNeg p5 : Nat → Nat → Int32)))) else none)) : Option ((Int32 × (Nat → Nat → Int32)) ⊕ ((Nat → Nat → Int32))))) (g := fun (s10 : Int32 × (Nat → Nat → Int32)) => ((
            if s10.1 < nI (2 ^ m) then (
              (m_bitsOf s10.1).bind fun p11 =>
              ((if p11 = 1 then (
                  some (0, s10.2))
                else (
                  (m_bestWord s10.1 (nI m) s10.2).bind fun p12 =>
                  (m_wordsBy s10.1 (nI m) p12.1 p12.2).bind fun p13 =>
                  some (p13.1, p13.2))) : Option (Int32 × (Nat → Nat → Int32))).bind fun t14 =>
              if am_in s10.1 256 = true then (
              some (.inl (s10.1 + 1, (am_up t14.2 228 s10.1.toNatClampNeg t14.1 : Nat → Nat → Int32)))) else none)
            else (
              some (.inr s10.2))) : Option ((Int32 × (Nat → Nat → Int32)) ⊕ ((Nat → Nat → Int32))))) (s := (1, F2)) (t := (1, G1))
    (fun j s t => ∃ T F G, s = (nI (j + 1), F) ∧ t = (nI (j + 1), G) ∧ wo_I NN (wo_c S 16) m F2 G1 j T F G) (fun F G => ∃ T, wo_I NN (wo_c S 16) m F2 G1 (2 ^ m - 1) T F G) (2 ^ m - 1)
    ⟨fun _ => 0, F2, G1, rfl, rfl, rfl, fun s hs => by
      have : s = 0 := by omega
      subst this
      exact ⟨Nat.le_refl _, F20, fun z => by omega⟩, fun L h1 h2 => by omega, fun _ _ => rfl, fun _ _ _ => rfl⟩ (by
    rintro j s t hj ⟨T, F, G, rfl, rfl, I⟩
    obtain ⟨v, G', p1, p2, p3⟩ := wo_st (g := g) h8 (show j + 1 < 2 ^ m by omega) hp (fun i hi => ⟨hC i hi, m2 i hi⟩) hD (m3 217 (by decide)) hN' hN2 y2 I
    have c256 : am_in (nI (j + 1)) 256 = true := pu_in (by omega) (by omega)
    refine Or.inl ?_
    dsimp only
    rw [if_neg (nI_nlt (by omega) (by omega)), p1, pu_bs, if_pos c256, if_pos (nI_lt (by omega) (by omega)), bt_loop (by omega), pu_bs, p2, pu_bs, if_pos c256, nI_clamp (by omega), nI_1]
    exact ⟨_, _, rfl, rfl, _, _, _, rfl, rfl, p3⟩) (by
    rintro s t ⟨T, F, G, rfl, rfl, I⟩
    have e1 : 2 ^ m - 1 + 1 = 2 ^ m := by omega
    dsimp only
    rw [e1, if_pos (nI_lt (by omega) (by omega)), if_neg (nI_nlt (Nat.le_refl _) (by omega))]
    exact ⟨_, _, rfl, rfl, T, I⟩) (by omega)
  obtain ⟨F, G, r1, r2, T, I⟩ := K
  simp only [pu_letE]
  rw [r1, r2, pu_bs, pu_bs]
  obtain ⟨i1, i2, i3, i4, i5⟩ := I
  have ca : am_in (nI (2 ^ m - 1)) 256 = true := pu_in (by omega) (by omega)
  obtain ⟨ta, tb, tc⟩ := i2 (2 ^ m - 1) (by omega)
  have tc := tc (by omega)
  have F0 : F 144 0 = 0 := by
    have := (i2 0 (by omega)).2.1
    rw [i1] at this
    exact this
  have fF : ∀ a, a ≠ 144 → a ≠ 145 → a ≠ 146 → F a = f a := fun a h1 h2 h3 => by rw [i4 a h1, y3 a h3, x3 a h2]
  have fG : ∀ a, a ≠ 227 → a ≠ 228 → a ≠ 229 → G a = g a := fun a h1 h2 h3 => by rw [i5 a h2 h3, m3 a h1]
  by_cases cw : nI w = 0
  · simp only [cw, if_true, ca, nI_clamp (show 2 ^ m - 1 < 2 ^ 31 by omega), tb, tc, pu_bs]
    exact ⟨_, F, G, rfl, rfl, wo_end h fF F0 fG⟩
  · simp only [cw, if_false]
    have hna := wo_all m (by omega) (by omega)
    obtain ⟨w1', w2'⟩ := wo_min (NN := NN) (C := wo_c S 16) (T := T) (m := m) (L := 2 ^ m - 1) (by omega) (by omega) (by omega) hC hD hN2 hna (fun s hs => (i2 s (by omega)).1)
    rw [← i3 (2 ^ m - 1) (by omega) (by omega)] at w1'
    obtain ⟨b1, b2, b3, b4⟩ := dr_bp (fun t => wo_A (fun n => wo_P (wo_Q NN (wo_c S 16) t) n m) T (2 ^ m - 1)) 0 15
    obtain ⟨Gb, q1, q2⟩ := wo_be (g := g) (G := G) (NN := NN) (C := wo_c S 16) (T := T) (m := m) (L := 2 ^ m - 1) h8 (by omega) (by omega) (by omega) (fun i hi => ⟨hC i hi, by rw [i5 227 (by decide) (by decide)]; exact m2 i hi⟩) (by rw [i5 217 (by decide) (by decide)]; exact m3 217 (by decide)) hN' i1 (fun s hs => ⟨(i2 s (by omega)).1, (i2 s (by omega)).2.2⟩)
    rw [q1, pu_bs]
    have WA : ∀ t, t < 16 → xm_wordsAfter (nI t) (nI (2 ^ m - 1)) F = some (nI (wo_A (fun n => wo_P (wo_Q NN (wo_c S 16) t) n m) T (2 ^ m - 1))) := fun t ht => wo_wa ht (by omega) (by omega) (fun n hn => by rw [i4 146 (by decide)]; exact y2 t n ht hn) (fun s hs => ⟨(i2 s (by omega)).1, (i2 s (by omega)).2.1⟩)
    have AL : ∀ t, wo_A (fun n => wo_P (wo_Q NN (wo_c S 16) t) n m) T (2 ^ m - 1) ≤ 1000000 := fun t => by
      rcases wo_Al (P := fun n => wo_P (wo_Q NN (wo_c S 16) t) n m) (T := T) (L := 2 ^ m - 1) (by omega) (fun s hs => (i2 s (by omega)).1) with z | z
      · omega
      · have := z.1; omega
    have X : am_loop (fun (s9 : Int32) => ((
        if s9 < 16 then (
          (xm_wordsAfter s9 (nI (2 ^ m - 1)) F).bind fun p10 =>
          if am_in (nI (2 ^ m - 1)) 256 = true then (
          if p10 = F 144 (nI (2 ^ m - 1)).toNatClampNeg then (
            some (.inr (s9, F)))
          else (
            some (.inl (s9 + 1)))) else none)
        else (
          some (.inr ((-1), F)))) : Option ((Int32) ⊕ (Int32 × (Nat → Nat → Int32))))) am_F 0 = some (nI (dr_b (fun t => wo_A (fun n => wo_P (wo_Q NN (wo_c S 16) t) n m) T (2 ^ m - 1)) 0 15), F) := by
      generalize hb : dr_b (fun t => wo_A (fun n => wo_P (wo_Q NN (wo_c S 16) t) n m) T (2 ^ m - 1)) 0 15 = b at *
      refine pu_for (fun t => nI t) b rfl (fun t ht => ?_) ?_
      · have hlt : wo_A (fun n => wo_P (wo_Q NN (wo_c S 16) b) n m) T (2 ^ m - 1) < wo_A (fun n => wo_P (wo_Q NN (wo_c S 16) t) n m) T (2 ^ m - 1) := b4 t (Nat.zero_le _) ht
        have h1 := AL t
        rw [if_pos (show nI t < (16 : Int32) from nI_lt (b := 16) (by omega) (by omega)), WA t (by omega), pu_bs, if_pos ca, nI_clamp (by omega), tb, w1', if_neg (fun z => by have := pu_nIinj (by omega) (by omega) z; omega), nI_1]
      · rw [if_pos (show nI b < (16 : Int32) from nI_lt (b := 16) (by omega) (by omega)), WA b (by omega), pu_bs, if_pos ca, nI_clamp (by omega), tb, w1', if_pos rfl]
    rw [X, pu_bs]
    exact ⟨_, F, Gb, rfl, rfl, wo_end h fF F0 (fun a h1 h2 h3 => by rw [q2 a h3]; exact fG a h1 h2 h3)⟩
