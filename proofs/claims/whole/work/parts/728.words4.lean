def wo_B (P T : Nat → Nat) (L : Nat) : Nat := if wo_E P L 11 = true then 100000000 else wo_M P T L 11 + 1
def wo_G (N : Nat → Nat) (L : Nat) : Nat → Nat := fun i => if L.testBit i = true then N i else 11
theorem wo_GP (N : Nat → Nat) {L n m : Nat} (hn : n < 11) : wo_P (wo_G N L) n m = L &&& wo_P N n m := by
  apply Nat.eq_of_testBit_eq
  intro i
  rw [Nat.testBit_and, wo_Pt, wo_Pt]
  unfold wo_G
  by_cases c : L.testBit i = true
  · rw [if_pos c, c, Bool.true_and]
  · have c' : L.testBit i = false := by simpa using c
    rw [if_neg c, c', Bool.false_and, decide_eq_false (show ¬ 11 = n by omega), Bool.and_false]
theorem wo_m0 (f : Nat → Nat → Int32) : ∃ F, am_loop (fun (s1 : Int32 × (Nat → Nat → Int32)) => ((
    if s1.1 < 11 then (
      if am_in s1.1 11 = true then (
      am_let (am_up s1.2 229 s1.1.toNatClampNeg 0 : Nat → Nat → Int32) fun f2 =>
      am_let (s1.1 + 1 : Int32) fun t3 =>
      some (.inl (t3, f2))) else none)
    else (
      some (.inr s1.2))) : Option ((Int32 × (Nat → Nat → Int32)) ⊕ ((Nat → Nat → Int32))))) am_F (0, f) = some F ∧ (∀ j, j < 11 → F 229 j = 0) ∧ ∀ a, a ≠ 229 → F a = f a := by
  refine pu_one (fun i s => ∃ G, s = (nI i, G) ∧ (∀ j, j < i → G 229 j = 0) ∧ ∀ a, a ≠ 229 → G a = f a) _ 11 ⟨f, rfl, fun j hj => absurd hj (Nat.not_lt_zero _), fun _ _ => rfl⟩ ?_ ?_
  · rintro i s hi ⟨G, rfl, K1, K2⟩
    have l1 : nI i < (11 : Int32) := nI_lt (b := 11) hi (by omega)
    have c1 : am_in (nI i) 11 = true := pu_in (by omega) (by omega)
    left
    dsimp only
    simp only [l1, c1, if_true, pu_letE, nI_clamp (show i < 2 ^ 31 by omega), nI_1]
    refine ⟨_, rfl, _, rfl, fun j hj => ?_, fun a ha => by rw [pu_up_ne _ _ ha]; exact K2 a ha⟩
    rw [pu_up_row]
    by_cases he : j = i
    · rw [he, pu_upd_eq]
    · rw [pu_upd_ne _ _ he]
      exact K1 j (by omega)
  · rintro s ⟨G, rfl, K1, K2⟩
    dsimp only
    rw [if_neg (by decide)]
    exact ⟨_, rfl, K1, K2⟩
theorem wo_big {a : Nat} (h : a < 100000000) : nI a < (100000000 : Int32) := nI_lt (b := 100000000) h (by omega)
theorem wo_wb {g G : Nat → Nat → Int32} {NN : Nat → Nat → Nat} {C T : Nat → Nat} {m t L : Nat} (hm : m ≤ 8) (ht : t < 16) (h1 : 1 ≤ L) (hL : L < 2 ^ m) (hL2 : L < 256) (hC : ∀ i, i < m → C i < 16 ∧ G 227 i = nI (C i)) (hg : G 217 = g 217)
    (hN : ∀ c t, c < 16 → t < 16 → NN c t ≤ 10 ∧ ∀ F : Nat → Nat → Int32, F 217 = g 217 → m_nearnessOf (nI (2 ^ c)) (nI t) F = some (nI (NN c t))) (hT0 : T 0 = 0) (hT : ∀ s, s < L → T s ≤ s ∧ (1 ≤ s → G 228 s = nI (T s))) :
    ∃ G', m_wordsBy (nI L) (nI m) (nI t) G = some (nI (wo_B (fun n => wo_P (wo_Q NN C t) n m) T L), G') ∧ ∀ a, a ≠ 229 → G' a = G a := by
  unfold m_wordsBy
  obtain ⟨G1, a1, a2, a3⟩ := wo_m0 G
  rw [a1, pu_bs]
  obtain ⟨G2, r1, r2, r3⟩ := pu_one (f := fun (s5 : Int32 × (Nat → Nat → Int32)) => ((
    if s5.1 < nI m then (
      ((if ((nI L >>> (s5.1 &&& 31)) &&& 1) = 1 then (
          if am_in s5.1 8 = true then (
          (m_nearnessOf (1 <<< ((s5.2 227 s5.1.toNatClampNeg) &&& 31)) (nI t) s5.2).bind fun p6 =>
          if am_in p6 11 = true then (
          if am_in p6 11 = true then (
          am_let (am_up s5.2 229 p6.toNatClampNeg ((s5.2 229 p6.toNatClampNeg) ||| (1 <<< (s5.1 &&& 31))) : Nat → Nat → Int32) fun f7 =>
          some f7) else none) else none) else none)
        else (
          some s5.2)) : Option ((Nat → Nat → Int32))).bind fun t8 =>
      am_let (s5.1 + 1 : Int32) fun t9 =>
      some (.inl (t9, t8)))
    else (
      some (.inr s5.2))) : Option ((Int32 × (Nat → Nat → Int32)) ⊕ ((Nat → Nat → Int32))))) (fun i s => ∃ F, s = (nI i, F) ∧ (∀ n, n < 11 → F 229 n = nI (wo_P (wo_G (wo_Q NN C t) L) n i)) ∧ ∀ a, a ≠ 229 → F a = G a)
    (fun F => (∀ n, n < 11 → F 229 n = nI (wo_P (wo_G (wo_Q NN C t) L) n m)) ∧ ∀ a, a ≠ 229 → F a = G a) m (s := (0, G1)) ⟨G1, rfl, fun n hn => a2 n hn, a3⟩ (by
    rintro i s hi ⟨F, rfl, J1, J2⟩
    obtain ⟨c1, c2⟩ := hC i hi
    obtain ⟨z1, z2⟩ := hN (C i) t c1 ht
    have c8 : am_in (nI i) 8 = true := pu_in (by omega) (by omega)
    have c11 : am_in (nI (NN (C i) t)) 11 = true := pu_in (by omega) (by omega)
    have eP : ∀ n, wo_P (wo_G (wo_Q NN C t) L) n (i + 1) = wo_P (wo_G (wo_Q NN C t) L) n i ||| (if wo_G (wo_Q NN C t) L i = n then 2 ^ i else 0) := fun n => rfl
    left
    dsimp only
    rw [if_pos (nI_lt hi (by omega)), rk_bit (by omega) (by omega)]
    by_cases c : L.testBit i = true
    · have eg : wo_G (wo_Q NN C t) L i = NN (C i) t := by
        unfold wo_G
        rw [if_pos c]
        rfl
      rw [if_pos c, if_pos rfl, if_pos c8, nI_clamp (by omega)]
      simp only [J2 227 (by decide), c2, wo_sh (C i) c1, z2 F (by rw [J2 217 (by decide)]; exact hg), pu_bs, c11, if_true, nI_clamp (show NN (C i) t < 2 ^ 31 by omega), J1 _ (show NN (C i) t < 11 by omega), wo_sh i (show i < 16 by omega), nm_or, pu_letE, nI_1]
      refine ⟨_, rfl, _, rfl, fun n hn => ?_, fun a ha => by rw [pu_up_ne _ _ ha]; exact J2 a ha⟩
      rw [pu_up_row, eP, eg]
      by_cases he : n = NN (C i) t
      · rw [he, pu_upd_eq, if_pos rfl]
      · rw [pu_upd_ne _ _ he, if_neg (fun z => he z.symm), Nat.or_zero]
        exact J1 n hn
    · have eg : wo_G (wo_Q NN C t) L i = 11 := by
        unfold wo_G
        rw [if_neg c]
      rw [if_neg c, if_neg (by decide), pu_bs, pu_letE, nI_1]
      refine ⟨_, rfl, F, rfl, fun n hn => ?_, J2⟩
      rw [eP, eg, if_neg (by omega), Nat.or_zero]
      exact J1 n hn) (by
    rintro s ⟨F, rfl, J⟩
    dsimp only
    rw [if_neg (nI_nlt (Nat.le_refl _) (by omega))]
    exact ⟨_, rfl, J⟩) (by omega)
  rw [r1, pu_bs]
  have r2' : ∀ n, n < 11 → G2 229 n = nI (L &&& wo_P (wo_Q NN C t) n m) := fun n hn => by rw [r2 n hn, wo_GP _ hn]
  obtain ⟨e, q1, q2⟩ := pu_one (f := fun (s11 : Int32 × Int32) => ((
    if s11.2 < 11 then (
      if am_in s11.2 11 = true then (
      ((if G2 229 s11.2.toNatClampNeg = nI L then (
          some 100000000)
        else (
          if am_in s11.2 11 = true then (
          if G2 229 s11.2.toNatClampNeg = 0 then (
            some s11.1)
          else (
            if am_in s11.2 11 = true then (
            if am_in (G2 229 s11.2.toNatClampNeg) 256 = true then (
            some (m_greater s11.1 (G2 228 (G2 229 s11.2.toNatClampNeg).toNatClampNeg))) else none) else none)) else none)) : Option (Int32)).bind fun t13 =>
      am_let (s11.2 + 1 : Int32) fun t14 =>
      some (.inl (t13, t14))) else none)
    else (
      some (.inr s11.1))) : Option ((Int32 × Int32) ⊕ (Int32)))) (fun n s => ∃ e, s = (nI e, nI n) ∧ ((¬ wo_E (fun n => wo_P (wo_Q NN C t) n m) L n = true ∧ e = wo_M (fun n => wo_P (wo_Q NN C t) n m) T L n) ∨ (wo_E (fun n => wo_P (wo_Q NN C t) n m) L n = true ∧ e = 100000000)))
    (fun v => ∃ e, v = nI e ∧ ((¬ wo_E (fun n => wo_P (wo_Q NN C t) n m) L 11 = true ∧ e = wo_M (fun n => wo_P (wo_Q NN C t) n m) T L 11) ∨ (wo_E (fun n => wo_P (wo_Q NN C t) n m) L 11 = true ∧ e = 100000000))) 11 (s := (0, 0)) ⟨0, rfl, Or.inl ⟨(fun z => by cases z), rfl⟩⟩ (by
    rintro n s hn ⟨e, rfl, K⟩
    have c11 : am_in (nI n) 11 = true := pu_in (by omega) (by omega)
    have hle : L &&& wo_P (wo_Q NN C t) n m ≤ L := Nat.and_le_left
    have eE : wo_E (fun n => wo_P (wo_Q NN C t) n m) L (n + 1) = (wo_E (fun n => wo_P (wo_Q NN C t) n m) L n || decide (L &&& wo_P (wo_Q NN C t) n m = L)) := rfl
    have eM : wo_M (fun n => wo_P (wo_Q NN C t) n m) T L (n + 1) = max (wo_M (fun n => wo_P (wo_Q NN C t) n m) T L n) (T (L &&& wo_P (wo_Q NN C t) n m)) := rfl
    left
    dsimp only
    simp only [show nI n < (11 : Int32) from nI_lt (b := 11) hn (by omega), c11, if_true, nI_clamp (show n < 2 ^ 31 by omega), r2' n hn]
    by_cases c : L &&& wo_P (wo_Q NN C t) n m = L
    · simp only [c, if_true, pu_bs, pu_letE, nI_1]
      rw [decide_eq_true c, Bool.or_true] at eE
      exact ⟨_, rfl, 100000000, rfl, Or.inr ⟨eE, rfl⟩⟩
    · have c' : ¬ nI (L &&& wo_P (wo_Q NN C t) n m) = nI L := fun z => c (pu_nIinj (by omega) (by omega) z)
      rw [decide_eq_false c, Bool.or_false] at eE
      rw [← eE] at K
      simp only [c', if_false]
      by_cases c0 : L &&& wo_P (wo_Q NN C t) n m = 0
      · rw [c0, hT0, Nat.max_zero] at eM
        rw [← eM] at K
        simp only [c0, show nI 0 = (0 : Int32) from rfl, if_true, pu_bs, pu_letE, nI_1]
        exact ⟨_, rfl, e, rfl, K⟩
      · have c0' : ¬ nI (L &&& wo_P (wo_Q NN C t) n m) = 0 := nI_ne0 (by omega) (by omega)
        have c256 : am_in (nI (L &&& wo_P (wo_Q NN C t) n m)) 256 = true := pu_in (by omega) (by omega)
        obtain ⟨hT1, hT2⟩ := hT (L &&& wo_P (wo_Q NN C t) n m) (by omega)
        simp only [c0', if_false, c256, if_true, nI_clamp (show L &&& wo_P (wo_Q NN C t) n m < 2 ^ 31 by omega), r3 228 (by decide), hT2 (by omega), pu_bs, pu_letE, nI_1]
        rcases K with ⟨k1, rfl⟩ | ⟨k1, rfl⟩
        · have hM := wo_Ml (P := fun n => wo_P (wo_Q NN C t) n m) (T := T) h1 (fun s hs => (hT s hs).1) n (by rw [← eE]; exact k1)
          rw [dr_mxI (by omega) (by omega), ← eM]
          exact ⟨_, rfl, _, rfl, Or.inl ⟨k1, rfl⟩⟩
        · rw [dr_mxI (by omega) (by omega), show max 100000000 (T (L &&& wo_P (wo_Q NN C t) n m)) = 100000000 by omega]
          exact ⟨_, rfl, _, rfl, Or.inr ⟨k1, rfl⟩⟩) (by
    rintro s ⟨e, rfl, K⟩
    dsimp only
    rw [if_neg (show ¬ nI 11 < (11 : Int32) by decide)]
    exact ⟨_, rfl, e, rfl, K⟩) (by omega)
  rw [q1, pu_bs]
  obtain ⟨e', rfl, K⟩ := q2
  unfold wo_B
  rcases K with ⟨k1, k2⟩ | ⟨k1, k2⟩
  · have hM := wo_Ml (P := fun n => wo_P (wo_Q NN C t) n m) (T := T) h1 (fun s hs => (hT s hs).1) 11 k1
    rw [k2]
    rw [if_pos (wo_big (a := wo_M (fun n => wo_P (wo_Q NN C t) n m) T L 11) (by omega)), nI_1, if_neg k1]
    exact ⟨_, rfl, r3⟩
  · rw [k2, if_neg (show ¬ nI 100000000 < (100000000 : Int32) by decide), if_pos k1]
    exact ⟨_, rfl, r3⟩
theorem wo_AB {P T : Nat → Nat} {L : Nat} (hL : L < 256) (h1 : 1 ≤ L) (hT : ∀ s, s < L → T s ≤ s) : wo_B P T L = if wo_A P T L = 1000000 then 100000000 else wo_A P T L := by
  unfold wo_B wo_A
  by_cases c : wo_E P L 11 = true
  · rw [if_pos c, if_pos c, if_pos rfl]
  · have := wo_Ml h1 hT 11 c
    rw [if_neg c, if_neg c, if_neg (by omega)]
theorem wo_be {g G : Nat → Nat → Int32} {NN : Nat → Nat → Nat} {C T : Nat → Nat} {m L : Nat} (hm : m ≤ 8) (h1 : 1 ≤ L) (hL : L < 2 ^ m) (hL2 : L < 256) (hC : ∀ i, i < m → C i < 16 ∧ G 227 i = nI (C i)) (hg : G 217 = g 217)
    (hN : ∀ c t, c < 16 → t < 16 → NN c t ≤ 10 ∧ ∀ F : Nat → Nat → Int32, F 217 = g 217 → m_nearnessOf (nI (2 ^ c)) (nI t) F = some (nI (NN c t))) (hT0 : T 0 = 0) (hT : ∀ s, s < L → T s ≤ s ∧ (1 ≤ s → G 228 s = nI (T s))) :
    ∃ G', m_bestWord (nI L) (nI m) G = some (nI (dr_b (fun t => wo_A (fun n => wo_P (wo_Q NN C t) n m) T L) 0 15), G') ∧ ∀ a, a ≠ 229 → G' a = G a := by
  unfold m_bestWord
  obtain ⟨e, r1, G', rfl, r2⟩ := pu_one (f := fun (s1 : Int32 × Int32 × (Nat → Nat → Int32)) => ((
    if s1.2.1 < 16 then (
      (m_wordsBy (nI L) (nI m) s1.2.1 s1.2.2).bind fun p2 =>
      (m_wordsBy (nI L) (nI m) s1.1 p2.2).bind fun p3 =>
      am_let ((if p2.1 < p3.1 then (
          s1.2.1)
        else (
          s1.1)) : Int32) fun t4 =>
      am_let (s1.2.1 + 1 : Int32) fun t5 =>
      some (.inl (t4, t5, p3.2)))
    else (
      some (.inr (s1.1, s1.2.2)))) : Option ((Int32 × Int32 × (Nat → Nat → Int32)) ⊕ (Int32 × (Nat → Nat → Int32))))) (fun j s => ∃ G', s = (nI (dr_b (fun t => wo_A (fun n => wo_P (wo_Q NN C t) n m) T L) 0 j), nI (j + 1), G') ∧ ∀ a, a ≠ 229 → G' a = G a)
    (fun e => ∃ G', e = (nI (dr_b (fun t => wo_A (fun n => wo_P (wo_Q NN C t) n m) T L) 0 15), G') ∧ ∀ a, a ≠ 229 → G' a = G a) 15 (s := (0, 1, G)) ⟨G, rfl, fun _ _ => rfl⟩ (by
    rintro j s hj ⟨G', rfl, K⟩
    obtain ⟨b1, b2, -, -⟩ := dr_bp (fun t => wo_A (fun n => wo_P (wo_Q NN C t) n m) T L) 0 j
    have eb : dr_b (fun t => wo_A (fun n => wo_P (wo_Q NN C t) n m) T L) 0 (j + 1) = if wo_A (fun n => wo_P (wo_Q NN C (0 + j + 1)) n m) T L < wo_A (fun n => wo_P (wo_Q NN C (dr_b (fun t => wo_A (fun n => wo_P (wo_Q NN C t) n m) T L) 0 j)) n m) T L then 0 + j + 1 else dr_b (fun t => wo_A (fun n => wo_P (wo_Q NN C t) n m) T L) 0 j := rfl
    generalize hb : dr_b (fun t => wo_A (fun n => wo_P (wo_Q NN C t) n m) T L) 0 j = b at *
    rw [Nat.zero_add] at eb
    obtain ⟨G1, w1, w2⟩ := wo_wb (g := g) (G := G') (NN := NN) (C := C) (T := T) (t := j + 1) hm (by omega) h1 hL hL2 (fun i hi => by rw [K 227 (by decide)]; exact hC i hi) (by rw [K 217 (by decide)]; exact hg) hN hT0 (fun s hs => by rw [K 228 (by decide)]; exact hT s hs)
    obtain ⟨G2, w3, w4⟩ := wo_wb (g := g) (G := G1) (NN := NN) (C := C) (T := T) (t := b) hm (by omega) h1 hL hL2 (fun i hi => by rw [w2 227 (by decide), K 227 (by decide)]; exact hC i hi) (by rw [w2 217 (by decide), K 217 (by decide)]; exact hg) hN hT0 (fun s hs => by rw [w2 228 (by decide), K 228 (by decide)]; exact hT s hs)
    have l1 := wo_Al (P := fun n => wo_P (wo_Q NN C (j + 1)) n m) (T := T) h1 (fun s hs => (hT s hs).1)
    have l2 := wo_Al (P := fun n => wo_P (wo_Q NN C b) n m) (T := T) h1 (fun s hs => (hT s hs).1)
    have e1 := wo_AB (P := fun n => wo_P (wo_Q NN C (j + 1)) n m) (T := T) hL2 h1 (fun s hs => (hT s hs).1)
    have e2 := wo_AB (P := fun n => wo_P (wo_Q NN C b) n m) (T := T) hL2 h1 (fun s hs => (hT s hs).1)
    generalize wo_A (fun n => wo_P (wo_Q NN C (j + 1)) n m) T L = x at *
    generalize wo_A (fun n => wo_P (wo_Q NN C b) n m) T L = y at *
    generalize wo_B (fun n => wo_P (wo_Q NN C (j + 1)) n m) T L = x' at *
    generalize wo_B (fun n => wo_P (wo_Q NN C b) n m) T L = y' at *
    have hx : x' < 2 ^ 31 ∧ y' < 2 ^ 31 ∧ (x' < y' ↔ x < y) := by
      by_cases p : x = 1000000
      · rw [if_pos p] at e1
        by_cases q : y = 1000000
        · rw [if_pos q] at e2
          omega
        · rw [if_neg q] at e2
          omega
      · rw [if_neg p] at e1
        by_cases q : y = 1000000
        · rw [if_pos q] at e2
          omega
        · rw [if_neg q] at e2
          omega
    left
    dsimp only
    rw [if_pos (show nI (j + 1) < (16 : Int32) from nI_lt (b := 16) (by omega) (by omega)), w1, pu_bs]
    dsimp only
    rw [w3, pu_bs, pu_letE, pu_letE, nI_1]
    dsimp only
    refine ⟨_, rfl, G2, ?_, fun a ha => by rw [w4 a ha, w2 a ha]; exact K a ha⟩
    rw [eb]
    by_cases c : x < y
    · rw [if_pos c, if_pos (nI_lt (hx.2.2.mpr c) hx.2.1)]
    · rw [if_neg c, if_neg (nI_nlt (by have := hx.2.2; omega) hx.1)]) (by
    rintro s ⟨G', rfl, K⟩
    dsimp only
    rw [if_neg (show ¬ nI (15 + 1) < (16 : Int32) by decide)]
    exact ⟨_, rfl, G', rfl, K⟩) (by omega)
  exact ⟨G', r1, r2⟩
