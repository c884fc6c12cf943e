/-! ACT -/
theorem tk_of {f g : Nat → Nat → Int32} (h : rl_Rel f g) (h26 : g 216 26 = 1) : tk_R 0 true (fun _ => 0) 9999 f g := ⟨h.1.1.C, h.1.1.X, h.1.2.1, h.1.2.2.1, h.1.2.2.2.1, h.1.2.2.2.2.1, h.1.2.2.2.2.2.2, h26⟩
theorem rl_of {f f' g g' : Nat → Nat → Int32} (h : rl_Rel f g) (hF : tk_F 0 true f f' g g') (hR : tk_R 0 true (fun _ => 0) 9999 f' g') : rl_Rel f' g' := by
  obtain ⟨hf0, hg, hw0, -⟩ := hF
  have hw : ∀ i, 69 ≤ i → (i < 524 ∨ 1124 ≤ i) → g' 217 i = g 217 i := fun i x y => hw0 i x (Or.inl y)
  have hf : ∀ a, (a < 2 ∨ 11 < a) → a ≠ 121 → a ≠ 122 → a ≠ 13 → f' a = f a := fun a x1 x2 x3 x4 => hf0 a (by omega) x2 x3 (fun z => absurd z x4)
  have g216 := hg 216 (by decide) (by decide) (by decide)
  have f0 := hf 0 (by decide) (by decide) (by decide) (by decide)
  have f128 := hf 128 (by decide) (by decide) (by decide) (by decide)
  have f143 := hf 143 (by decide) (by decide) (by decide) (by decide)
  refine rl_anew h ⟨fun a h1 h2 => hf a (by omega) (by omega) (by omega) (by omega), by rw [f0], by rw [hf 123 (by decide) (by decide) (by decide) (by decide)], hf 124 (by decide) (by decide) (by decide) (by decide), by rw [f128], by rw [f128], by rw [f143], by rw [f143], hf 150 (by decide) (by decide) (by decide) (by decide), hf 153 (by decide) (by decide) (by decide) (by decide), by rw [hf 144 (by decide) (by decide) (by decide) (by decide)], hg 218 (by decide) (by decide) (by decide), hg 224 (by decide) (by decide) (by decide), by rw [g216], by rw [g216], by rw [g216], by rw [g216]⟩ ?_ ?_
  · exact iv_oth h.1 (rl_T.W hR.1 hR.2.1) hR.2.2.1 (fun a h1 h2 => hf _ (by omega) (by omega) (by omega) (by omega)) hw
  · exact h.rot.same (hf 109 (by decide) (by decide) (by decide) (by decide)) (by rw [f0]) (by rw [g216]) (fun a ha => hf a (by omega) (by omega) (by omega) (by omega)) (hg 219 (by decide) (by decide) (by decide)) (fun i h1 h2 => hw i h1 (by omega))
theorem sm_act (x1 x2 x3 : Int32) (f g : Nat → Nat → Int32) (h : rl_Rel f g) : ∃ (v : Bool) (f1 g1 : Nat → Nat → Int32), x_act x1 x2 x3 f = some (v, f1) ∧ m_act x1 x2 x3 g = some (v, g1) ∧ rl_Rel f1 g1 := by
  obtain ⟨n, m, t, b, hn, hm, ht, hb, e1, e2, e3, e4, -⟩ := rl_n h
  unfold x_act m_act m_canAct
  rcases pu_glass x2 hn e1 e2 with ⟨i, hi, rfl, b1, b2⟩ | ⟨b1, b2⟩
  rotate_left
  · refine ⟨false, f, g, by rw [if_neg (by rw [b1]; decide)], ?_, h⟩
    rw [if_neg (by rw [b2]; decide), pu_bs, if_neg (by decide)]
  rw [if_pos b1, if_pos b2]
  unfold x_canAct
  obtain ⟨f1, g1, k1, k2, k3, k4, k5, k6, k7, k8⟩ := rl_keep h
  have K := tk_of k3 k4
  have en : g1 217 69 = nI n := by rw [k5]; exact e2
  have em : g1 217 70 = nI m := by rw [k5]; exact e4
  have c6 : am_in (nI i) 6 = true := pu_in (by omega) (by omega)
  have d15 : am_in (nI (15 + i)) 2008 = true := pu_in (by omega) (by omega)
  have d21 : am_in (nI (21 + i)) 2008 = true := pu_in (by omega) (by omega)
  have d9 : am_in (nI (9 + i)) 2008 = true := pu_in (by omega) (by omega)
  have d3 : am_in (nI (3 + i)) 2008 = true := pu_in (by omega) (by omega)
  have a15 : (15 : Int32) + nI i = nI (15 + i) := nI_add 15 i
  have a21 : (21 : Int32) + nI i = nI (21 + i) := nI_add 21 i
  have a9 : (9 : Int32) + nI i = nI (9 + i) := nI_add 9 i
  have a3 : (3 : Int32) + nI i = nI (3 + i) := nI_add 3 i
  by_cases h0 : x1 = 0
  · subst h0
    simp only [if_true, show ¬ ((0 : Int32) = 1) by decide, show ¬ ((0 : Int32) = 2) by decide, show ¬ ((0 : Int32) = 3) by decide, show ¬ ((0 : Int32) = 4) by decide, if_false, pu_bs]
    rcases pu_witness x3 hm e3 e4 with ⟨p, hp, rfl, w1, w2⟩ | ⟨w1, w2⟩
    · obtain ⟨q, c1, c2⟩ := cg_2 hn hm e1 e2 e3 (fun j hj => rl_f_un h (by omega)) hi hp
      simp only [w2, c1, c2, if_true, pu_bs]
      cases q with
      | false =>
        simp only [Bool.false_eq_true, if_false, pu_bs]
        exact ⟨false, f, g, rfl, rfl, h⟩
      | true =>
        simp only [if_true, pu_bs, k1, k2]
        obtain ⟨f2, g2, p1, p2, p3, p4⟩ := put_2 K en hn em hm hi hp
        rw [p1, p2, pu_bs, pu_bs]
        exact ⟨true, f2, g2, rfl, rfl, rl_of k3 p4 p3⟩
    · have hc : xc_canGoUnder_2 (nI i) x3 f = some false := by
        unfold xc_canGoUnder_2
        rw [if_neg (by rw [w1]; decide)]
      simp only [hc, w2, Bool.false_eq_true, if_false, pu_bs]
      exact ⟨false, f, g, rfl, rfl, h⟩
  by_cases h1 : x1 = 1
  · subst h1
    simp only [show ¬ ((1 : Int32) = 0) by decide, if_true, show ¬ ((1 : Int32) = 2) by decide, show ¬ ((1 : Int32) = 3) by decide, show ¬ ((1 : Int32) = 4) by decide, if_false, pu_bs, c6, nI_clamp (show i < 2 ^ 31 by omega), a15, d15, nI_clamp (show 15 + i < 2 ^ 31 by omega), rl_f_un h (show i < 6 by omega)]
    by_cases hz : g 217 (15 + i) = -1
    · simp only [hz, if_true, pu_bs, Bool.false_eq_true, if_false]
      exact ⟨false, f, g, rfl, rfl, h⟩
    · simp only [hz, if_false, pu_bs, if_true, k1, k2]
      obtain ⟨f2, g2, p1, p2, p3, p4⟩ := out_2 K en hn hi
      rw [p1, p2, pu_bs, pu_bs]
      exact ⟨true, f2, g2, rfl, rfl, rl_of k3 p4 p3⟩
  by_cases h2 : x1 = 2
  · subst h2
    simp only [show ¬ ((2 : Int32) = 0) by decide, show ¬ ((2 : Int32) = 1) by decide, if_true, show ¬ ((2 : Int32) = 3) by decide, show ¬ ((2 : Int32) = 4) by decide, if_false, pu_bs, c6, nI_clamp (show i < 2 ^ 31 by omega), a21, d21, nI_clamp (show 21 + i < 2 ^ 31 by omega), rl_f_sa h (show i < 6 by omega)]
    rcases pu_topic x3 with ⟨q, hq, rfl, q1, q2⟩ | ⟨q1, q2⟩
    · simp only [q1, q2, if_true]
      by_cases hz : g 217 (21 + i) = nI q
      · simp only [hz, if_true, pu_bs, Bool.false_eq_true, if_false]
        exact ⟨false, f, g, rfl, rfl, h⟩
      · simp only [hz, if_false, pu_bs, if_true, k1, k2, pu_let]
        have R := tk_cell (Or.inl rfl) K (a := 6) (j := i) (i := 21 + i) (v := nI q) (by decide) (by decide) (by omega) (rl_s_sa K.1 (by omega) _) (iv_c_sa K.2.2.1 (by omega) (Or.inr ⟨q, hq, rfl⟩))
        exact ⟨true, _, _, rfl, rfl, rl_of k3 R.2 R.1⟩
    · simp only [q1, q2, Bool.false_eq_true, if_false, pu_bs]
      exact ⟨false, f, g, rfl, rfl, h⟩
  by_cases h3 : x1 = 3
  · subst h3
    simp only [show ¬ ((3 : Int32) = 0) by decide, show ¬ ((3 : Int32) = 1) by decide, if_true, show ¬ ((3 : Int32) = 2) by decide, show ¬ ((3 : Int32) = 4) by decide, if_false, pu_bs, c6, nI_clamp (show i < 2 ^ 31 by omega), a9, d9, nI_clamp (show 9 + i < 2 ^ 31 by omega), rl_f_re h (show i < 6 by omega)]
    by_cases hz : 300 < g 217 (9 + i)
    · simp only [hz, pu_bs, if_true, k1, k2, pu_let]
      have R := tk_cell (Or.inl rfl) K (a := 4) (j := i) (i := 9 + i) (v := 300) (by decide) (by decide) (by omega) (rl_s_re K.1 (by omega) _) (iv_c_re K.2.2.1 (by omega) _)
      exact ⟨true, _, _, rfl, rfl, rl_of k3 R.2 R.1⟩
    · simp only [hz, if_false, pu_bs, Bool.false_eq_true]
      exact ⟨false, f, g, rfl, rfl, h⟩
  by_cases h4 : x1 = 4
  · subst h4
    simp only [show ¬ ((4 : Int32) = 0) by decide, show ¬ ((4 : Int32) = 1) by decide, if_true, show ¬ ((4 : Int32) = 2) by decide, show ¬ ((4 : Int32) = 3) by decide, if_false, pu_bs, c6, nI_clamp (show i < 2 ^ 31 by omega), a3, d3, nI_clamp (show 3 + i < 2 ^ 31 by omega), rl_f_le h (show i < 6 by omega)]
    by_cases hz : 0 < g 217 (3 + i)
    · simp only [hz, pu_bs, if_true, k1, k2, pu_let]
      have R := tk_cell (Or.inl rfl) K (a := 3) (j := i) (i := 3 + i) (v := 0) (by decide) (by decide) (by omega) (rl_s_le K.1 (by omega) _) (iv_c_le (z := 0) K.2.2.1 (by omega) (by omega))
      exact ⟨true, _, _, rfl, rfl, rl_of k3 R.2 R.1⟩
    · simp only [hz, if_false, pu_bs, Bool.false_eq_true]
      exact ⟨false, f, g, rfl, rfl, h⟩
  · simp only [h0, h1, h2, h3, h4, if_false, pu_bs, Bool.false_eq_true]
    exact ⟨false, f, g, rfl, rfl, h⟩
