theorem co_in {F G : Nat → Nat → Int32} {t o w : Nat} (x : Int32) (ht1 : 1 ≤ t) (ht : t ≤ 40) (ho : o < 8) (k5 : ∀ i, i ≤ t → F 150 i = nI (nm i)) (k6 : ∀ i, i < 41 → G 232 i = nI (nm i)) : ∃ (e : (Int32 × (Nat → Nat → Int32)) ⊕ Unit) (e' : (Int32 × (Nat → Nat → Int32)) ⊕ Unit), am_loop (fun (s9 : Int32) => ((
        if (2 * s9) < nI t then (
          if am_in s9 41 = true then (
          if am_in (nI t - s9) 41 = true then (
          if ((F 150 s9.toNatClampNeg) ^^^ (F 150 (nI t - s9).toNatClampNeg)) = nI o then (
            am_let ((if nI w = 0 then (
                x)
              else (
                s9)) : Int32) fun t10 =>
            some (.inr (.inl (t10, F))))
          else (
            am_let (s9 + 1 : Int32) fun t11 =>
            some (.inl t11))) else none) else none)
        else (
          some (.inr (.inr ())))) : Option ((Int32) ⊕ ((Int32 × (Nat → Nat → Int32)) ⊕ (Unit))))) am_F 1 = some e ∧ am_loop (fun (s9 : Int32) => ((
          if (2 * s9) < nI t then (
            if am_in (nI t) 41 = true then (
            if am_in s9 41 = true then (
            if am_in (nI t - s9) 41 = true then (
            if ((nI o ^^^ (G 232 s9.toNatClampNeg)) ^^^ (G 232 (nI t - s9).toNatClampNeg)) = 0 then (
              am_let ((if nI w = 0 then (
                  x)
                else (
                  s9)) : Int32) fun t10 =>
              some (.inr (.inl (t10, G))))
            else (
              am_let (s9 + 1 : Int32) fun t11 =>
              some (.inl t11))) else none) else none) else none)
          else (
            some (.inr (.inr ())))) : Option ((Int32) ⊕ ((Int32 × (Nat → Nat → Int32)) ⊕ (Unit))))) am_F 1 = some e' ∧ ((∃ v, e = .inl (v, F) ∧ e' = .inl (v, G)) ∨ (e = .inr () ∧ e' = .inr ())) := by
  have ct : am_in (nI t) 41 = true := pu_in (by omega) (by omega)
  refine pu_two (fun j (s t' : Int32) => s = nI (j + 1) ∧ t' = nI (j + 1)) (fun (e e' : (Int32 × (Nat → Nat → Int32)) ⊕ Unit) => (∃ v, e = Sum.inl (v, F) ∧ e' = Sum.inl (v, G)) ∨ (e = Sum.inr () ∧ e' = Sum.inr ())) ((t - 1) / 2) ⟨rfl, rfl⟩ ?_ ?_
  · rintro j s t' hj ⟨rfl, rfl⟩
    have l1 : 2 * nI (j + 1) < nI t := by
      rw [show (2 : Int32) = nI 2 from rfl, pk_mul]
      exact nI_lt (by omega) (by omega)
    have c1 : am_in (nI (j + 1)) 41 = true := pu_in (by omega) (by omega)
    have c2 : am_in (nI (t - (j + 1))) 41 = true := pu_in (by omega) (by omega)
    have e1 := nm_o o ho (nm (j + 1)) (nm_le _ (by omega)) (nm (t - (j + 1))) (nm_le _ (by omega))
    simp only [l1, ct, pk_sub (show j + 1 ≤ t by omega), c1, c2, if_true, nI_clamp (show j + 1 < 2 ^ 31 by omega), nI_clamp (show t - (j + 1) < 2 ^ 31 by omega), k5 (j + 1) (by omega), k5 (t - (j + 1)) (by omega), k6 (j + 1) (by omega), k6 (t - (j + 1)) (by omega), pu_letE, nI_1]
    by_cases hc : nI (nm (j + 1)) ^^^ nI (nm (t - (j + 1))) = nI o
    · rw [if_pos hc, if_pos (e1.mpr hc)]
      exact Or.inr ⟨_, _, rfl, rfl, Or.inl ⟨_, rfl, rfl⟩⟩
    · rw [if_neg hc, if_neg (fun z => hc (e1.mp z))]
      exact Or.inl ⟨_, _, rfl, rfl, rfl, rfl⟩
  · rintro s t' ⟨rfl, rfl⟩
    have l1 : ¬ 2 * nI ((t - 1) / 2 + 1) < nI t := by
      rw [show (2 : Int32) = nI 2 from rfl, pk_mul]
      exact nI_nlt (by omega) (by omega)
    simp only [l1, if_false]
    exact ⟨_, _, rfl, rfl, Or.inr ⟨rfl, rfl⟩⟩
theorem sm_coals (x1 : Int32) (f g : Nat → Nat → Int32) (h : rl_Rel f g) : ∃ (v : Int32) (f1 g1 : Nat → Nat → Int32), x_coals x1 f = some (v, f1) ∧ m_coals x1 g = some (v, g1) ∧ rl_Rel f1 g1 := by
  unfold x_coals m_coals
  rw [pu_isIn]
  rcases pu_within_cases x1 (lo := 0) (hi := 1) 0 1 with ⟨e, w, w1, w2, rfl⟩ | e
  rotate_left
  · simp only [e, Bool.false_eq_true, if_false]
    exact ⟨-1, f, g, rfl, rfl, h⟩
  simp only [e, if_true]
  obtain ⟨z, hz, e2, hr⟩ := h.1.2.2.2.2.2.1.2.2.2.2.1
  have e1 : f 39 0 = nI z := by rw [rl_f_r5n h]; exact e2
  have hh : ∀ i, i < z → ∃ t, 1 ≤ t ∧ t ≤ 40 ∧ f 40 i = nI t ∧ g 217 (460 + i) = nI t := fun i hi => by
    obtain ⟨t, t1, t2, t3⟩ := hr i hi
    exact ⟨t, t1, t2, by rw [rl_f_r5a h (by omega)]; exact t3, t3⟩
  obtain ⟨G, m1, m2, m3⟩ := co_lay g
  have g217 : G 217 = g 217 := m3 217 (by decide)
  obtain ⟨k0, q1, q2, q3⟩ := h.2.2.2.2.2.1
  rw [m1, pu_bs]
  have X1 := pu_two (f := fun (s1 : Int32 × Int32 × (Nat → Nat → Int32)) => ((
    if s1.2.1 < s1.2.2 39 0 then (
      if am_in s1.2.1 4 = true then (
      (xm_learnNimbers (s1.2.2 40 s1.2.1.toNatClampNeg) s1.2.2).bind fun p2 =>
      if am_in s1.2.1 4 = true then (
      if am_in (p2 40 s1.2.1.toNatClampNeg) 41 = true then (
      am_let ((s1.1 ^^^ (p2 150 (p2 40 s1.2.1.toNatClampNeg).toNatClampNeg)) : Int32) fun t3 =>
      am_let (s1.2.1 + 1 : Int32) fun t4 =>
      some (.inl (t3, t4, p2))) else none) else none) else none)
    else (
      some (.inr (s1.1, s1.2.2)))) : Option ((Int32 × Int32 × (Nat → Nat → Int32)) ⊕ (Int32 × (Nat → Nat → Int32))))) (g := fun (s3 : Int32 × Int32) => ((
      if s3.2 < G 217 459 then (
        if am_in (460 + s3.2) 2008 = true then (
        if am_in (G 217 (460 + s3.2).toNatClampNeg) 41 = true then (
        am_let ((s3.1 ^^^ (G 232 (G 217 (460 + s3.2).toNatClampNeg).toNatClampNeg)) : Int32) fun t4 =>
        am_let (s3.2 + 1 : Int32) fun t5 =>
        some (.inl (t4, t5))) else none) else none)
      else (
        some (.inr s3.1))) : Option ((Int32 × Int32) ⊕ (Int32)))) (s := (0, 0, f)) (t := (0, 0))
    (fun j s t => ∃ A F k, s = (nI A, nI j, F) ∧ t = (nI A, nI j) ∧ A < 8 ∧ co_K f F k ∧ ∀ i, i < j → ∀ t, f 40 i = nI t → t ≤ 40 → t ≤ k)
    (fun e e' => ∃ A F k, e = (nI A, F) ∧ e' = nI A ∧ A < 8 ∧ co_K f F k ∧ ∀ i, i < z → ∀ t, f 40 i = nI t → t ≤ 40 → t ≤ k) z
    ⟨0, f, k0, rfl, rfl, by omega, ⟨q1, q2, q3, fun _ _ _ => rfl, fun _ _ => rfl⟩, fun i hi => absurd hi (Nat.not_lt_zero _)⟩ (by
    rintro j s t' hj ⟨A, F, k, rfl, rfl, hA, K, M⟩
    obtain ⟨t, t1, t2, t3, t4⟩ := hh j hj
    have fr := K.2.2.2.1
    obtain ⟨F2, l1, l2⟩ := co_learn K t2
    have fr2 := l2.2.2.2.1
    have hjl : nI j < nI z := nI_lt hj (by omega)
    have c4 : am_in (nI j) 4 = true := pu_in (by omega) (by omega)
    have c41 : am_in (nI t) 41 = true := pu_in (by omega) (by omega)
    have a1 : (460 : Int32) + nI j = nI (460 + j) := nI_add 460 j
    have d1 : am_in (nI (460 + j)) 2008 = true := pu_in (by omega) (by omega)
    refine Or.inl ?_
    dsimp only
    simp only [fr 39 (by decide) (by decide), e1, g217, e2, hjl, c4, if_true, nI_clamp (show j < 2 ^ 31 by omega), fr 40 (by decide) (by decide), t3, l1, pu_bs, fr2 40 (by decide) (by decide), c41, nI_clamp (show t < 2 ^ 31 by omega), a1, d1, nI_clamp (show 460 + j < 2 ^ 31 by omega), t4, m2 t (by omega), l2.2.2.1 t (by omega), su_xor, pu_letE, nI_1]
    have hx : A ^^^ nm t < 8 := Nat.xor_lt_two_pow (n := 3) hA (by have := nm_le t (by omega); omega)
    refine ⟨_, _, rfl, rfl, _, F2, _, rfl, rfl, hx, l2, fun i hi t' z1 z2 => ?_⟩
    by_cases he : i = j
    · subst he
      have : t' = t := pu_nIinj (by omega) (by omega) (z1.symm.trans t3)
      omega
    · have := M i (by omega) t' z1 z2
      omega) (by
    rintro s t' ⟨A, F, k, rfl, rfl, hA, K, M⟩
    have fr := K.2.2.2.1
    have hll : ¬ nI z < nI z := nI_nlt (Nat.le_refl _) (by omega)
    dsimp only
    simp only [fr 39 (by decide) (by decide), e1, g217, e2, hll, if_false]
    exact ⟨_, _, rfl, rfl, A, F, k, rfl, rfl, hA, K, M⟩) (by omega)
  obtain ⟨_, _, r1, r2, A, F, k, rfl, rfl, hA, K, M⟩ := X1
  unfold xm_winningPart_39
  rw [r1, r2, pu_bs, pu_bs]
  have fr := K.2.2.2.1
  have R : rl_Rel F G := by
    refine rl_kn h (fun a h1 h2 h3 => fr a h1 h2) ⟨k, K.1, K.2.1, K.2.2.1⟩ ?_ ⟨g217, m3 218 (by decide), m3 219 (by decide), m3 224 (by decide), by rw [m3 216 (by decide)], by rw [m3 216 (by decide)], by rw [m3 216 (by decide)], by rw [m3 216 (by decide)], by rw [m3 216 (by decide)]⟩
    have hP := h.2.2.2.2.2.2
    unfold rl_Pr at hP ⊢
    rw [K.2.2.2.2 11 (by decide), fr 153 (by decide) (by decide), fr 144 (by decide) (by decide)]
    exact hP
  dsimp only
  have X2 := pu_two (f := fun (s6 : Int32) => ((
    if s6 < F 39 0 then (
      if am_in s6 4 = true then (
      am_let (F 40 s6.toNatClampNeg : Int32) fun t7 =>
      if am_in t7 41 = true then (
      am_let ((nI A ^^^ (F 150 t7.toNatClampNeg)) : Int32) fun t8 =>
      (am_loop (fun (s9 : Int32) => ((
        if (2 * s9) < t7 then (
          if am_in s9 41 = true then (
          if am_in (t7 - s9) 41 = true then (
          if ((F 150 s9.toNatClampNeg) ^^^ (F 150 (t7 - s9).toNatClampNeg)) = t8 then (
            am_let ((if nI w = 0 then (
                s6)
              else (
                s9)) : Int32) fun t10 =>
            some (.inr (.inl (t10, F))))
          else (
            am_let (s9 + 1 : Int32) fun t11 =>
            some (.inl t11))) else none) else none)
        else (
          some (.inr (.inr ())))) : Option ((Int32) ⊕ ((Int32 × (Nat → Nat → Int32)) ⊕ (Unit))))) am_F 1).bind fun e12 =>
      e12.elim (fun v => some (.inr (.inl v))) fun e13 =>
      am_let (s6 + 1 : Int32) fun t14 =>
      some (.inl t14)) else none) else none)
    else (
      some (.inr (.inr ())))) : Option ((Int32) ⊕ ((Int32 × (Nat → Nat → Int32)) ⊕ (Unit))))) (g := fun (s7 : Int32) => ((
      if s7 < G 217 459 then (
        if am_in (460 + s7) 2008 = true then (
        am_let (G 217 (460 + s7).toNatClampNeg : Int32) fun t8 =>
        (am_loop (fun (s9 : Int32) => ((
          if (2 * s9) < t8 then (
            if am_in t8 41 = true then (
            if am_in s9 41 = true then (
            if am_in (t8 - s9) 41 = true then (
            if (((nI A ^^^ (G 232 t8.toNatClampNeg)) ^^^ (G 232 s9.toNatClampNeg)) ^^^ (G 232 (t8 - s9).toNatClampNeg)) = 0 then (
              am_let ((if nI w = 0 then (
                  s7)
                else (
                  s9)) : Int32) fun t10 =>
              some (.inr (.inl (t10, G))))
            else (
              am_let (s9 + 1 : Int32) fun t11 =>
              some (.inl t11))) else none) else none) else none)
          else (
            some (.inr (.inr ())))) : Option ((Int32) ⊕ ((Int32 × (Nat → Nat → Int32)) ⊕ (Unit))))) am_F 1).bind fun e12 =>
        e12.elim (fun v => some (.inr (.inl v))) fun e13 =>
        am_let (s7 + 1 : Int32) fun t14 =>
        some (.inl t14)) else none)
      else (
        some (.inr (.inr ())))) : Option ((Int32) ⊕ ((Int32 × (Nat → Nat → Int32)) ⊕ (Unit))))) (s := 0) (t := 0)
    (fun j s t => s = nI j ∧ t = nI j) (fun (e e' : (Int32 × (Nat → Nat → Int32)) ⊕ Unit) => (∃ v, e = Sum.inl (v, F) ∧ e' = Sum.inl (v, G)) ∨ (e = Sum.inr () ∧ e' = Sum.inr ())) z ⟨rfl, rfl⟩ (by
    rintro j s t' hj ⟨rfl, rfl⟩
    obtain ⟨t, t1, t2, t3, t4⟩ := hh j hj
    have hjl : nI j < nI z := nI_lt hj (by omega)
    have c4 : am_in (nI j) 4 = true := pu_in (by omega) (by omega)
    have c41 : am_in (nI t) 41 = true := pu_in (by omega) (by omega)
    have a1 : (460 : Int32) + nI j = nI (460 + j) := nI_add 460 j
    have d1 : am_in (nI (460 + j)) 2008 = true := pu_in (by omega) (by omega)
    have hk := M j hj t t3 t2
    have hx : A ^^^ nm t < 8 := Nat.xor_lt_two_pow (n := 3) hA (by have := nm_le t (by omega); omega)
    obtain ⟨e, e', i1, i2, i3⟩ := co_in (F := F) (G := G) (t := t) (o := A ^^^ nm t) (w := w) (nI j) t1 t2 hx (fun i hi => K.2.2.1 i (by omega)) m2
    simp only [pu_letE] at i1 i2
    simp only [fr 39 (by decide) (by decide), e1, g217, e2, hjl, c4, if_true, nI_clamp (show j < 2 ^ 31 by omega), fr 40 (by decide) (by decide), t3, c41, nI_clamp (show t < 2 ^ 31 by omega), a1, d1, nI_clamp (show 460 + j < 2 ^ 31 by omega), t4, m2 t (by omega), K.2.2.1 t hk, su_xor, pu_letE, nI_1] at i1 i2 ⊢
    rw [i1, i2, pu_bs, pu_bs]
    rcases i3 with ⟨v, rfl, rfl⟩ | ⟨rfl, rfl⟩
    · exact Or.inr ⟨_, _, rfl, rfl, Or.inl ⟨v, rfl, rfl⟩⟩
    · exact Or.inl ⟨_, _, rfl, rfl, rfl, rfl⟩) (by
    rintro s t' ⟨rfl, rfl⟩
    have hll : ¬ nI z < nI z := nI_nlt (Nat.le_refl _) (by omega)
    simp only [fr 39 (by decide) (by decide), e1, g217, e2, hll, if_false]
    exact ⟨_, _, rfl, rfl, Or.inr ⟨rfl, rfl⟩⟩) (by omega)
  obtain ⟨e, e', i1, i2, i3⟩ := X2
  rw [i1, i2, pu_bs, pu_bs]
  rcases i3 with ⟨v, rfl, rfl⟩ | ⟨rfl, rfl⟩
  · exact ⟨v, F, G, rfl, rfl, R⟩
  · exact ⟨-1, F, G, rfl, rfl, R⟩
