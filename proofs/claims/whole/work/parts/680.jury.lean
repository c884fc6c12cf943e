/-! JURY -/
theorem jr_sh : ∀ z, z < 9 → (1 : Int32) <<< (nI z &&& 31) = nI (2 ^ z) := by decide
theorem jr_m1 : ∀ z, z < 25 → (nI z - 1).toInt = (z : Int) - 1 := by decide
theorem jr_pw : ∀ z, z < 9 → 2 ^ z ≤ 256 := by decide
theorem jr_bit (x : Int32) : x &&& 1 = 0 ∨ x &&& 1 = 1 := by
  obtain ⟨j, hj, e⟩ := pk_andE x (m := 1) 1 (by decide)
  have : j = 0 ∨ j = 1 := by omega
  rcases this with rfl | rfl
  · exact Or.inl e
  · exact Or.inr e
theorem jr_in (a : Int32) {z : Nat} (hz : z ≤ 24) : (a = -1 ∧ x_within a (-1) (nI z - 1) = true) ∨ (∃ i, i < z ∧ a = nI i ∧ x_within a (-1) (nI z - 1) = true) ∨ (¬ a = -1 ∧ (a < 0 ∨ ¬ a < nI z) ∧ x_within a (-1) (nI z - 1) = false) := by
  have e1 := jr_m1 z (by omega)
  have e2 : (-1 : Int32).toInt = -1 := by decide
  have e3 : (0 : Int32).toInt = 0 := by decide
  unfold x_within
  rcases pu_cases a with h | ⟨k, hk, rfl⟩
  · by_cases hm : a = -1
    · refine Or.inl ⟨hm, ?_⟩
      subst hm
      rw [if_neg (by decide), if_neg (by rw [Int32.lt_iff_toInt_lt, e1, e2]; omega)]
    · refine Or.inr (Or.inr ⟨hm, Or.inl h, ?_⟩)
      rw [if_pos]
      rw [Int32.lt_iff_toInt_lt, e3] at h
      rw [Int32.lt_iff_toInt_lt, e2]
      have : ¬ a.toInt = -1 := fun e => hm (Int32.toInt_inj.mp (e.trans e2.symm))
      omega
  · rw [if_neg (pu_nltm1 hk)]
    by_cases h : k < z
    · refine Or.inr (Or.inl ⟨k, h, rfl, ?_⟩)
      rw [if_neg (by rw [Int32.lt_iff_toInt_lt, e1, nI_toInt hk]; omega)]
    · refine Or.inr (Or.inr ⟨pu_neg1 hk, Or.inr (nI_nlt (by omega) hk), ?_⟩)
      rw [if_pos (by rw [Int32.lt_iff_toInt_lt, e1, nI_toInt hk]; omega)]
theorem jr_w {f g : Nat → Nat → Int32} (h : rl_Rel f g) {z : Nat} (hz : z ≤ 8) (e1 : f 51 0 = nI z) (e2 : g 217 515 = nI z) (s : Int32) : ∃ v, xm_weightOf_51 s f = some v ∧ m_weightOf s g = some v := by
  unfold xm_weightOf_51 m_weightOf
  refine lo_two (pu_two (fun j (s t : Int32 × Int32) => ∃ v, s = (v, nI j) ∧ t = (v, nI j)) (fun e e' => e = e') z ⟨0, rfl, rfl⟩ ?_ ?_)
  · rintro j s' t hj ⟨v, rfl, rfl⟩
    have hjz : nI j < nI z := nI_lt hj (by omega)
    have c8 : am_in (nI j) 8 = true := pu_in (by omega) (by omega)
    have a5 : (516 : Int32) + nI j = nI (516 + j) := nI_add 516 j
    have d5 : am_in (nI (516 + j)) 2008 = true := pu_in (by omega) (by omega)
    dsimp only
    simp only [e1, e2, hjz, c8, a5, d5, if_true, nI_clamp (show j < 2 ^ 31 by omega), nI_clamp (show 516 + j < 2 ^ 31 by omega), pu_letE, nI_1, rl_f_r9a h (show j < 8 by omega)]
    by_cases hb : (s >>> (nI j &&& 31)) &&& 1 = 1
    · simp only [hb, if_true, pu_bs]
      exact Or.inl ⟨_, _, rfl, rfl, _, rfl, rfl⟩
    · simp only [hb, if_false, pu_bs, Int32.add_zero]
      exact Or.inl ⟨_, _, rfl, rfl, _, rfl, rfl⟩
  · rintro s' t ⟨v, rfl, rfl⟩
    have hll : ¬ nI z < nI z := nI_nlt (Nat.le_refl _) (by omega)
    dsimp only
    simp only [e1, e2, hll, if_false]
    exact ⟨_, _, rfl, rfl, rfl⟩
theorem jr_W {f g : Nat → Nat → Int32} (h : rl_Rel f g) {z : Nat} (hz : z ≤ 8) (e1 : f 51 0 = nI z) (e2 : g 217 515 = nI z) : ∃ W : Int32 → Int32, ∀ s, xm_weightOf_51 s f = some (W s) ∧ m_weightOf s g = some (W s) :=
  ⟨fun s => Classical.choose (jr_w h hz e1 e2 s), fun s => Classical.choose_spec (jr_w h hz e1 e2 s)⟩
theorem sm_jury (x1 x2 : Int32) (f g : Nat → Nat → Int32) (h : rl_Rel f g) : ∃ (v : Int32), x_jury x1 x2 f = some v ∧ m_jury x1 x2 g = some v ∧ rl_Rel f g := by
  obtain ⟨z, hz, e2, hr⟩ := h.1.2.2.2.2.2.1.2.2.2.2.2.2.2.2.1
  have e1 : f 51 0 = nI z := by rw [rl_f_r9n h]; exact e2
  obtain ⟨W, hW⟩ := jr_W h hz e1 e2
  have hp := jr_pw z (by omega)
  unfold x_jury m_jury
  rw [pu_isIn, pu_isIn]
  rcases pu_within_cases x1 (lo := 1) (hi := 160) 1 160 with ⟨e, q, q1, q2, rfl⟩ | e
  rotate_left
  · simp only [e, Bool.false_eq_true, if_false]
    exact ⟨_, rfl, rfl, h⟩
  have hll : ¬ nI (2 ^ z) < nI (2 ^ z) := nI_nlt (Nat.le_refl _) (by omega)
  simp only [e, if_true, e2]
  rcases jr_in x2 (z := z) (by omega) with ⟨rfl, hi⟩ | ⟨i, hi, rfl, hin⟩ | ⟨n1, n2, n3⟩
  · simp only [hi, if_true]
    unfold xm_fewestEnough_51
    rw [e1, jr_sh z (by omega)]
    have K := pu_two (f := fun (s1 : Int32 × Int32) => ((
    if s1.2 < nI (2 ^ z) then (
      am_let ((if s1.1 = (-1) then (
          true)
        else (
          if (ji_bitCount s1.2) < (ji_bitCount s1.1) then (
            true)
          else (
            false))) : Bool) fun t4 =>
      ((if t4 = true then (
          (xm_weightOf_51 s1.2 f).bind fun p5 =>
          if p5 < nI q then (
            some s1.1)
          else (
            some s1.2))
        else (
          some s1.1)) : Option (Int32)).bind fun t6 =>
      am_let (s1.2 + 1 : Int32) fun t7 =>
      some (.inl (t6, t7)))
    else (
      some (.inr s1.1))) : Option ((Int32 × Int32) ⊕ (Int32)))) (g := fun (s3 : Int32 × Int32 × Int32) => ((
        if s3.2.2 < nI (2 ^ z) then (
          (m_weightOf s3.2.2 g).bind fun p4 =>
          ((some s3.1 : Option (Int32))).bind fun t6 =>
          ((if p4 < nI q then (
              some s3.2.1)
            else (
              if s3.2.1 = (-1) then (
                some s3.2.2)
              else (
                (m_bitsOf s3.2.2).bind fun p7 =>
                (m_bitsOf s3.2.1).bind fun p8 =>
                if p7 < p8 then (
                  some s3.2.2)
                else (
                  some s3.2.1)))) : Option (Int32)).bind fun t9 =>
          am_let (s3.2.2 + 1 : Int32) fun t10 =>
          some (.inl (t6, t9, t10)))
        else (
          some (.inr (s3.1, s3.2.1)))) : Option ((Int32 × Int32 × Int32) ⊕ (Int32 × Int32)))) (s := (-1, 0)) (t := (0, -1, 0))
      (fun j s t => ∃ b, s = (b, nI j) ∧ t = (0, b, nI j) ∧ (b = -1 ∨ ∃ S, S < 256 ∧ b = nI S)) (fun e e' => e' = (0, e)) (2 ^ z) ⟨-1, rfl, rfl, Or.inl rfl⟩ (by
      rintro j s t hj ⟨b, rfl, rfl, hb⟩
      have hjz : nI j < nI (2 ^ z) := nI_lt hj (by omega)
      refine Or.inl ?_
      dsimp only
      simp only [hjz, if_true, (hW (nI j)).1, (hW (nI j)).2, pu_bs, pu_letE, nI_1, bt_eq (show j < 65536 by omega)]
      by_cases hq : W (nI j) < nI q
      · simp only [hq, if_true, pu_bs]
        refine ⟨_, _, ?_, rfl, b, rfl, rfl, hb⟩
        by_cases hc : (if b = -1 then true else if ji_bitCount (nI j) < ji_bitCount b then true else false) = true
        · rw [if_pos hc]; rfl
        · rw [if_neg hc]; rfl
      · simp only [hq, if_false]
        rcases hb with rfl | ⟨S, hS, rfl⟩
        · simp only [if_true, pu_bs]
          exact ⟨_, _, rfl, rfl, _, rfl, rfl, Or.inr ⟨j, by omega, rfl⟩⟩
        · simp only [pu_neg1 (show S < 2 ^ 31 by omega), if_false, bt_eq (show S < 65536 by omega), pu_bs]
          by_cases hc : ji_bitCount (nI j) < ji_bitCount (nI S)
          · simp only [hc, if_true, pu_bs]
            exact ⟨_, _, rfl, rfl, _, rfl, rfl, Or.inr ⟨j, by omega, rfl⟩⟩
          · simp only [hc, if_false, Bool.false_eq_true, pu_bs]
            exact ⟨_, _, rfl, rfl, _, rfl, rfl, Or.inr ⟨S, hS, rfl⟩⟩) (by
      rintro s t ⟨b, rfl, rfl, hb⟩
      dsimp only
      simp only [hll, if_false]
      exact ⟨_, _, rfl, rfl, rfl⟩) (by omega)
    obtain ⟨e, e', k1, k2, rfl⟩ := K
    refine ⟨e, ?_, ?_, h⟩
    · rw [k1, pu_bs]
    · rw [k2, pu_bs]
  · have hx : xr_has_51 (nI i) f = true := by
      unfold xr_has_51
      rw [e1, if_neg (nI_pos (by omega)), if_pos (nI_lt hi (by omega))]
    have c8 : am_in (nI i) 8 = true := pu_in (by omega) (by omega)
    have a5 : (516 : Int32) + nI i = nI (516 + i) := nI_add 516 i
    have d5 : am_in (nI (516 + i)) 2008 = true := pu_in (by omega) (by omega)
    simp only [hx, hin, if_true, pu_neg1 (show i < 2 ^ 31 by omega), if_false, a5, d5, nI_clamp (show 516 + i < 2 ^ 31 by omega)]
    unfold xm_turns_51
    simp only [e1, jr_sh z (by omega), c8, if_true, nI_clamp (show i < 2 ^ 31 by omega), rl_f_r9a h (show i < 8 by omega)]
    have K := pu_two (f := fun (s1 : Int32 × Int32) => ((
    if s1.2 < nI (2 ^ z) then (
      ((if ((s1.2 >>> (nI i &&& 31)) &&& 1) = 1 then (
          some s1.1)
        else (
          (xm_weightOf_51 s1.2 f).bind fun p2 =>
          if p2 < nI q then (
            if (p2 + (g 217 (516 + i))) < nI q then (
              some s1.1)
            else (
              am_let (s1.1 + 1 : Int32) fun t3 =>
              some t3))
          else (
            some s1.1))) : Option (Int32)).bind fun t4 =>
      am_let (s1.2 + 1 : Int32) fun t5 =>
      some (.inl (t4, t5)))
    else (
      some (.inr s1.1))) : Option ((Int32 × Int32) ⊕ (Int32)))) (g := fun (s3 : Int32 × Int32 × Int32) => ((
        if s3.2.2 < nI (2 ^ z) then (
          (m_weightOf s3.2.2 g).bind fun p4 =>
          ((if ((s3.2.2 >>> (nI i &&& 31)) &&& 1) = 0 then (
                if p4 < nI q then (
                  if (p4 + (g 217 (516 + i))) < nI q then (
                    some s3.1)
                  else (
                    am_let (s3.1 + 1 : Int32) fun t5 =>
                    some t5))
                else (
                  some s3.1))
              else (
                some s3.1)) : Option (Int32)).bind fun t6 =>
          ((if p4 < nI q then (
              some s3.2.1)
            else (
              if s3.2.1 = (-1) then (
                some s3.2.2)
              else (
                (m_bitsOf s3.2.2).bind fun p7 =>
                (m_bitsOf s3.2.1).bind fun p8 =>
                if p7 < p8 then (
                  some s3.2.2)
                else (
                  some s3.2.1)))) : Option (Int32)).bind fun t9 =>
          am_let (s3.2.2 + 1 : Int32) fun t10 =>
          some (.inl (t6, t9, t10)))
        else (
          some (.inr (s3.1, s3.2.1)))) : Option ((Int32 × Int32 × Int32) ⊕ (Int32 × Int32)))) (s := (0, 0)) (t := (0, -1, 0))
      (fun j s t => ∃ c b, s = (c, nI j) ∧ t = (c, b, nI j) ∧ (b = -1 ∨ ∃ S, S < 256 ∧ b = nI S)) (fun e e' => e'.1 = e) (2 ^ z) ⟨0, -1, rfl, rfl, Or.inl rfl⟩ (by
      rintro j s t hj ⟨c, b, rfl, rfl, hb⟩
      have hjz : nI j < nI (2 ^ z) := nI_lt hj (by omega)
      refine Or.inl ?_
      dsimp only
      simp only [hjz, if_true, (hW (nI j)).1, (hW (nI j)).2, pu_bs, pu_letE, nI_1, bt_eq (show j < 65536 by omega)]
      have B : ∃ b', ((if W (nI j) < nI q then (
              some b)
            else (
              if b = (-1) then (
                some (nI j))
              else (
                (m_bitsOf b).bind fun p8 =>
                if ji_bitCount (nI j) < p8 then (
                  some (nI j))
                else (
                  some b)))) : Option (Int32)) = some b' ∧ (b' = -1 ∨ ∃ S, S < 256 ∧ b' = nI S) := by
        by_cases hq : W (nI j) < nI q
        · simp only [hq, if_true]
          exact ⟨b, rfl, hb⟩
        · simp only [hq, if_false]
          rcases hb with rfl | ⟨S, hS, rfl⟩
          · simp only [if_true]
            exact ⟨_, rfl, Or.inr ⟨j, by omega, rfl⟩⟩
          · simp only [pu_neg1 (show S < 2 ^ 31 by omega), if_false, bt_eq (show S < 65536 by omega), pu_bs]
            by_cases hc : ji_bitCount (nI j) < ji_bitCount (nI S)
            · simp only [hc, if_true]
              exact ⟨_, rfl, Or.inr ⟨j, by omega, rfl⟩⟩
            · simp only [hc, if_false]
              exact ⟨_, rfl, Or.inr ⟨S, hS, rfl⟩⟩
      obtain ⟨b', B1, B2⟩ := B
      simp only [B1, pu_bs]
      rcases jr_bit (nI j >>> (nI i &&& 31)) with h0 | h1
      · simp only [h0, show ¬ (0 : Int32) = 1 by decide, if_false, if_true]
        by_cases hq : W (nI j) < nI q
        · simp only [hq, if_true]
          by_cases hq2 : W (nI j) + g 217 (516 + i) < nI q
          · simp only [hq2, if_true, pu_bs]
            exact ⟨_, _, rfl, rfl, _, _, rfl, rfl, B2⟩
          · simp only [hq2, if_false, pu_bs]
            exact ⟨_, _, rfl, rfl, _, _, rfl, rfl, B2⟩
        · simp only [hq, if_false, pu_bs]
          exact ⟨_, _, rfl, rfl, _, _, rfl, rfl, B2⟩
      · simp only [h1, show ¬ (1 : Int32) = 0 by decide, if_false, if_true, pu_bs]
        exact ⟨_, _, rfl, rfl, _, _, rfl, rfl, B2⟩) (by
      rintro s t ⟨c, b, rfl, rfl, hb⟩
      dsimp only
      simp only [hll, if_false]
      exact ⟨_, _, rfl, rfl, rfl⟩) (by omega)
    obtain ⟨e, e', k1, k2, k3⟩ := K
    simp only [pu_letE] at k1 k2
    refine ⟨e, ?_, ?_, h⟩
    · simp only [pu_letE, k1, pu_bs]
    · simp only [pu_letE, k2, pu_bs, k3]
  · have hx : xr_has_51 x2 f = false := by
      unfold xr_has_51
      rw [e1]
      rcases n2 with n2 | n2
      · rw [if_pos n2]
      · by_cases h0 : x2 < 0
        · rw [if_pos h0]
        · rw [if_neg h0, if_neg n2]
    simp only [n1, hx, n3, Bool.false_eq_true, if_false]
    exact ⟨_, rfl, rfl, h⟩
