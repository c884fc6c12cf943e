/-! THE STEADY -/
theorem am_mx (x y : Int32) : am_max x y = m_greater x y := by
  unfold am_max m_greater
  by_cases h : x < y
  · rw [if_pos h, if_neg (fun z => by rw [Int32.lt_iff_toInt_lt] at h z; omega)]
  · by_cases h2 : y < x
    · rw [if_neg h, if_pos h2]
    · rw [if_neg h, if_neg h2]
      apply Int32.toInt_inj.mp
      rw [Int32.lt_iff_toInt_lt] at h h2
      omega
theorem sd_from {f g : Nat → Nat → Int32} {z i : Nat} (hz : z ≤ 24) (hi : i < z) (e1 : f 45 0 = nI z) (e2 : g 217 481 = nI z) (hc : ∀ t, t < 24 → f 46 t = g 217 (482 + t)) (a : Int32) : ∃ v, xm_steadyFrom_45 (nI i) a f = some v ∧ m_steadyFrom (nI i) a g = some v := by
  unfold xm_steadyFrom_45 m_steadyFrom
  rw [show (482 : Int32) = nI 482 from rfl, nI_add, if_pos (pu_in (by omega) (by omega)), if_pos (pu_in (by omega) (by omega)), nI_clamp (by omega), nI_clamp (by omega), pu_letE, pu_letE, hc i (by omega)]
  refine lo_two (pu_two (fun j (s : Int32 × Int32 × Int32) (t : Int32 × Int32 × Int32) => ∃ p q, s = (p, q, nI (i + j)) ∧ t = (p, q, nI j)) (fun e e' => e = e') (z - i) ⟨_, _, rfl, rfl⟩ ?_ ?_)
  · rintro j s t hj ⟨p, q, rfl, rfl⟩
    dsimp only
    rw [e1, e2, nI_add, nI_add, if_pos (nI_lt (a := i + j) (b := z) (by omega) (by omega)), if_pos (nI_lt (a := i + j) (b := z) (by omega) (by omega)), if_pos (pu_in (by omega) (by omega)), if_pos (pu_in (by omega) (by omega)), nI_clamp (by omega), nI_clamp (by omega), hc (i + j) (by omega), lw_mn, ← Nat.add_assoc]
    have k1 : am_in (nI (i + j)) 24 = true := pu_in (by omega) (by omega)
    have k2 : am_in (nI (482 + i + j)) 2008 = true := pu_in (by omega) (by omega)
    simp only [pu_letE, k1, k2, if_true, am_mx]
    by_cases c : a < m_greater q (g 217 (482 + i + j)) - m_lesser p (g 217 (482 + i + j))
    · rw [if_pos c, if_pos c]
      refine Or.inr ⟨_, _, rfl, rfl, ?_⟩
      rw [pk_sub (by omega), Nat.add_sub_cancel_left]
    · rw [if_neg c, if_neg c, nI_1, nI_1]
      exact Or.inl ⟨_, _, rfl, rfl, _, _, rfl, rfl⟩
  · rintro s t ⟨p, q, rfl, rfl⟩
    dsimp only
    rw [e1, e2, nI_add, show i + (z - i) = z by omega, if_neg (nI_nlt (Nat.le_refl _) (by omega)), if_neg (nI_nlt (Nat.le_refl _) (by omega)), pk_sub (by omega)]
    exact ⟨_, _, rfl, rfl, rfl⟩
theorem sm_steady (x1 x2 : Int32) (f g : Nat → Nat → Int32) (h : rl_Rel f g) : ∃ (v : Int32), x_steady x1 x2 f = some v ∧ m_steady x1 x2 g = some v ∧ rl_Rel f g := by
  obtain ⟨z, hz, e2, -⟩ := h.1.2.2.2.2.2.1.2.2.2.2.2.2.1
  have e1 : f 45 0 = nI z := by rw [rl_f_r7n h]; exact e2
  unfold x_steady m_steady
  rw [pu_isIn, pu_isIn]
  by_cases c1 : x_within x1 0 99 = true
  rotate_left
  · exact ⟨-1, by rw [if_neg c1], by rw [if_neg c1], h⟩
  by_cases c2 : x_within x2 0 1 = true
  rotate_left
  · exact ⟨-1, by rw [if_pos c1, if_neg c2], by rw [if_pos c1, if_neg c2], h⟩
  rw [if_pos c1, if_pos c2, if_pos c1, if_pos c2]
  unfold xm_steadiest_45
  obtain ⟨v, v1, v2⟩ := lo_two (pu_two (f := fun (s1 : Int32 × Int32 × Int32) => ((
    if s1.2.2 < f 45 0 then (
      (xm_steadyFrom_45 s1.2.2 x1 f).bind fun p2 =>
      am_let ((if s1.1 < p2 then (
          (p2, s1.2.2))
        else (
          (s1.1, s1.2.1))) : Int32 × Int32) fun t3 =>
      am_let (s1.2.2 + 1 : Int32) fun t4 =>
      some (.inl (t3.1, t3.2, t4)))
    else (
      some (.inr (s1.1, s1.2.1)))) : Option ((Int32 × Int32 × Int32) ⊕ (Int32 × Int32)))) (g := fun (s3 : Int32 × Int32 × Int32) => ((
        if s3.2.2 < g 217 481 then (
          (m_steadyFrom s3.2.2 x1 g).bind fun p4 =>
          ((if s3.1 < p4 then (
              (m_steadyFrom s3.2.2 x1 g).bind fun p5 =>
              some (p5, s3.2.2))
            else (
              some (s3.1, s3.2.1))) : Option (Int32 × Int32)).bind fun t6 =>
          am_let (s3.2.2 + 1 : Int32) fun t7 =>
          some (.inl (t6.1, t6.2, t7)))
        else (
          some (.inr (s3.1, s3.2.1)))) : Option ((Int32 × Int32 × Int32) ⊕ (Int32 × Int32)))) (fun j (s : Int32 × Int32 × Int32) (t : Int32 × Int32 × Int32) => ∃ p q, s = (p, q, nI j) ∧ t = (p, q, nI j)) (fun e e' => e = e') z (s := ((0, (-1), 0) : Int32 × Int32 × Int32)) (t := ((0, (-1), 0) : Int32 × Int32 × Int32)) ⟨_, _, rfl, rfl⟩ (by
      rintro j s t hj ⟨p, q, rfl, rfl⟩
      obtain ⟨w, w1, w2⟩ := sd_from hz hj e1 e2 (fun t ht => rl_f_r7a h ht) x1
      dsimp only
      rw [e1, e2, if_pos (nI_lt hj (by omega)), if_pos (nI_lt hj (by omega)), w1, w2, pu_bs, pu_bs, pu_bs, pu_letE, pu_letE, nI_1]
      refine Or.inl ?_
      by_cases c : p < w
      · rw [if_pos c, if_pos c, pu_bs, pu_letE]
        exact ⟨_, _, rfl, rfl, _, _, rfl, rfl⟩
      · rw [if_neg c, if_neg c, pu_bs, pu_letE]
        exact ⟨_, _, rfl, rfl, _, _, rfl, rfl⟩) (by
      rintro s t ⟨p, q, rfl, rfl⟩
      dsimp only
      rw [e1, e2, if_neg (nI_nlt (Nat.le_refl _) (by omega)), if_neg (nI_nlt (Nat.le_refl _) (by omega))]
      exact ⟨_, _, rfl, rfl, rfl⟩))
  rw [v1, v2]
  dsimp only [Option.bind_some, Option.bind]
  by_cases c : x2 = 0
  · rw [if_pos c]
    exact ⟨v.1, rfl, rfl, h⟩
  · rw [if_neg c]
    exact ⟨v.2, rfl, rfl, h⟩
