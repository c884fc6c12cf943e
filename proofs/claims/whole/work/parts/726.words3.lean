def wo_Q (NN : Nat → Nat → Nat) (C : Nat → Nat) (t : Nat) : Nat → Nat := fun i => NN (C i) t
theorem wo_0 (f : Nat → Nat → Int32) : ∃ F, am_loop (fun (s1 : Int32 × (Nat → Nat → Int32)) => ((
    if s1.1 < (nI 176) then (
      if am_in s1.1 176 = true then (
      am_let (am_up s1.2 146 s1.1.toNatClampNeg 0 : Nat → Nat → Int32) fun f2 =>
      am_let (s1.1 + 1 : Int32) fun t3 =>
      some (.inl (t3, f2))) else none)
    else (
      some (.inr s1.2))) : Option ((Int32 × (Nat → Nat → Int32)) ⊕ ((Nat → Nat → Int32))))) am_F (0, f) = some F ∧ (∀ j, j < 176 → F 146 j = 0) ∧ ∀ a, a ≠ 146 → F a = f a := by
  refine pu_one (fun i s => ∃ G, s = (nI i, G) ∧ (∀ j, j < i → G 146 j = 0) ∧ ∀ a, a ≠ 146 → G a = f a) _ 176 ⟨f, rfl, fun j hj => absurd hj (Nat.not_lt_zero _), fun _ _ => rfl⟩ ?_ ?_
  · rintro i s hi ⟨G, rfl, K1, K2⟩
    have l1 : nI i < nI 176 := nI_lt hi (by omega)
    have c1 : am_in (nI i) 176 = true := pu_in (by omega) (by omega)
    left
    dsimp only
    simp only [l1, c1, if_true, pu_letE, nI_clamp (show i < 2 ^ 31 by omega), nI_1]
    refine ⟨_, rfl, _, rfl, fun j hj => ?_, fun a ha => by rw [pu_up_ne _ _ ha]; exact K2 a ha⟩
    rw [pu_up_row]
    by_cases he : j = i
    · rw [he, pu_upd_eq]
    · rw [pu_upd_ne _ _ he]
      exact K1 j (by omega)
  · rintro s ⟨G, rfl, K1, K2⟩
    dsimp only
    rw [if_neg (by decide)]
    exact ⟨_, rfl, K1, K2⟩
theorem wo_so {f F0 : Nat → Nat → Int32} {NN : Nat → Nat → Nat} {C : Nat → Nat} {m : Nat} (hm : m ≤ 8) (hC : ∀ i, i < m → C i < 16 ∧ F0 145 i = nI (C i)) (h26 : F0 26 = f 26) (hN : ∀ c t, c < 16 → t < 16 → NN c t ≤ 10 ∧ ∀ F : Nat → Nat → Int32, F 26 = f 26 → xn_nearness_25 (nI (2 ^ c)) (nI t) F = some (nI (NN c t))) : ∃ F, xm_sortByNearness_25 (nI m) F0 = some F ∧ (∀ t n, t < 16 → n < 11 → F 146 (t * 11 + n) = nI (wo_P (wo_Q NN C t) n m)) ∧ ∀ a, a ≠ 146 → F a = F0 a := by
  unfold xm_sortByNearness_25
  obtain ⟨F1, a1, a2, a3⟩ := wo_0 F0
  rw [a1, pu_bs]
  refine pu_one (fun t s => ∃ F, s = (nI t, F) ∧ (∀ t' n, t' < t → n < 11 → F 146 (t' * 11 + n) = nI (wo_P (wo_Q NN C t') n m)) ∧ (∀ t' n, t ≤ t' → t' < 16 → n < 11 → F 146 (t' * 11 + n) = 0) ∧ ∀ a, a ≠ 146 → F a = F0 a) _ 16 ⟨F1, rfl, fun t' n h => absurd h (Nat.not_lt_zero _), fun t' n _ h1 h2 => a2 _ (by omega), a3⟩ ?_ ?_
  · rintro t s ht ⟨F, rfl, K1, K2, K3⟩
    obtain ⟨F', r1, r2, r3, r4, r5⟩ := pu_one (f := fun (s6 : Int32 × (Nat → Nat → Int32)) => ((
        if s6.1 < nI m then (
          if am_in s6.1 8 = true then (
          (xn_nearness_25 (1 <<< ((s6.2 145 s6.1.toNatClampNeg) &&& 31)) (nI t) s6.2).bind fun p7 =>
          if am_in ((nI t * 11) + p7) 176 = true then (
          if am_in ((nI t * 11) + p7) 176 = true then (
          am_let (am_up s6.2 146 ((nI t * 11) + p7).toNatClampNeg ((s6.2 146 ((nI t * 11) + p7).toNatClampNeg) ||| (1 <<< (s6.1 &&& 31))) : Nat → Nat → Int32) fun f8 =>
          am_let (s6.1 + 1 : Int32) fun t9 =>
          some (.inl (t9, f8))) else none) else none) else none)
        else (
          some (.inr s6.2))) : Option ((Int32 × (Nat → Nat → Int32)) ⊕ ((Nat → Nat → Int32))))) (fun i s => ∃ F, s = (nI i, F) ∧ (∀ t' n, t' < t → n < 11 → F 146 (t' * 11 + n) = nI (wo_P (wo_Q NN C t') n m)) ∧ (∀ n, n < 11 → F 146 (t * 11 + n) = nI (wo_P (wo_Q NN C t) n i)) ∧ (∀ t' n, t < t' → t' < 16 → n < 11 → F 146 (t' * 11 + n) = 0) ∧ ∀ a, a ≠ 146 → F a = F0 a)
      (fun F => (∀ t' n, t' < t → n < 11 → F 146 (t' * 11 + n) = nI (wo_P (wo_Q NN C t') n m)) ∧ (∀ n, n < 11 → F 146 (t * 11 + n) = nI (wo_P (wo_Q NN C t) n m)) ∧ (∀ t' n, t < t' → t' < 16 → n < 11 → F 146 (t' * 11 + n) = 0) ∧ ∀ a, a ≠ 146 → F a = F0 a) m (s := (0, F)) ⟨F, rfl, K1, fun n hn => K2 t n (Nat.le_refl _) ht hn, fun t' n h1 h2 h3 => K2 t' n (by omega) h2 h3, K3⟩ (by
      rintro i s hi ⟨F, rfl, J1, J2, J3, J4⟩
      obtain ⟨c1, c2⟩ := hC i hi
      obtain ⟨z1, z2⟩ := hN (C i) t c1 ht
      have c8 : am_in (nI i) 8 = true := pu_in (by omega) (by omega)
      have e11 : nI t * 11 + nI (NN (C i) t) = nI (t * 11 + NN (C i) t) := by rw [show (11 : Int32) = nI 11 from rfl, pk_mul, nI_add]
      have c176 : am_in (nI (t * 11 + NN (C i) t)) 176 = true := pu_in (by omega) (by omega)
      have eP : ∀ n, wo_P (wo_Q NN C t) n (i + 1) = wo_P (wo_Q NN C t) n i ||| (if NN (C i) t = n then 2 ^ i else 0) := fun n => rfl
      left
      dsimp only
      simp only [show nI i < nI m from nI_lt hi (by omega), c8, if_true, nI_clamp (show i < 2 ^ 31 by omega), J4 145 (by decide), c2, wo_sh (C i) c1, z2 F (by rw [J4 26 (by decide)]; exact h26), pu_bs, e11, c176, nI_clamp (show t * 11 + NN (C i) t < 2 ^ 31 by omega), J2 _ (show NN (C i) t < 11 by omega), wo_sh i (by omega), nm_or, pu_letE, nI_1]
      refine ⟨_, rfl, _, rfl, fun t' n h1 h2 => ?_, fun n hn => ?_, fun t' n h1 h2 h3 => ?_, fun a ha => by rw [pu_up_ne _ _ ha]; exact J4 a ha⟩
      · rw [pu_up_row, pu_upd_ne _ _ (by omega)]
        exact J1 t' n h1 h2
      · rw [pu_up_row, eP]
        by_cases he : n = NN (C i) t
        · rw [he, pu_upd_eq, if_pos rfl]
        · rw [pu_upd_ne _ _ (by omega), if_neg (fun z => he z.symm), Nat.or_zero]
          exact J2 n hn
      · rw [pu_up_row, pu_upd_ne _ _ (by omega)]
        exact J3 t' n h1 h2 h3) (by
      rintro s ⟨F, rfl, J⟩
      dsimp only
      rw [if_neg (nI_nlt (Nat.le_refl _) (by omega))]
      exact ⟨_, rfl, J⟩) (by omega)
    left
    dsimp only
    rw [if_pos (show nI t < (16 : Int32) from nI_lt (b := 16) ht (by omega)), r1, pu_bs, pu_letE, nI_1]
    refine ⟨_, rfl, F', rfl, fun t' n h1 h2 => ?_, fun t' n h1 h2 h3 => r4 t' n (by omega) h2 h3, r5⟩
    by_cases he : t' = t
    · rw [he]; exact r3 n h2
    · exact r2 t' n (by omega) h2
  · rintro s ⟨F, rfl, K1, K2, K3⟩
    dsimp only
    rw [if_neg (show ¬ nI 16 < (16 : Int32) by decide)]
    exact ⟨_, rfl, fun t n h1 h2 => K1 t n h1 h2, K3⟩
/-- is nothing told by it; how many words more at most -/
def wo_E (P : Nat → Nat) (L : Nat) : Nat → Bool
  | 0 => false
  | n + 1 => wo_E P L n || decide (L &&& P n = L)
def wo_M (P T : Nat → Nat) (L : Nat) : Nat → Nat
  | 0 => 0
  | n + 1 => max (wo_M P T L n) (T (L &&& P n))
def wo_A (P T : Nat → Nat) (L : Nat) : Nat := if wo_E P L 11 = true then 1000000 else wo_M P T L 11 + 1
theorem wo_Em {P : Nat → Nat} {L : Nat} : ∀ u n, n ≤ u → wo_E P L n = true → wo_E P L u = true := by
  intro u
  induction u with
  | zero => intro n h e; rw [show n = 0 by omega] at e; exact e
  | succ u ih =>
    intro n h e
    by_cases he : n = u + 1
    · rw [he] at e; exact e
    · show (wo_E P L u || _) = true
      rw [ih n (by omega) e]
      rfl
theorem wo_Ml {P T : Nat → Nat} {L : Nat} (hL : 1 ≤ L) (hT : ∀ s, s < L → T s ≤ s) : ∀ n, ¬ wo_E P L n = true → wo_M P T L n ≤ L - 1 := by
  intro n
  induction n with
  | zero => intro _; exact Nat.zero_le _
  | succ n ih =>
    intro h
    have h2 : ¬ wo_E P L n = true ∧ ¬ L &&& P n = L := by
      constructor
      · intro z; exact h (wo_Em _ n (by omega) z)
      · intro z
        apply h
        show (wo_E P L n || decide (L &&& P n = L)) = true
        rw [decide_eq_true z, Bool.or_true]
    have hle : L &&& P n ≤ L := Nat.and_le_left
    have := ih h2.1
    have := hT (L &&& P n) (by have := h2.2; omega)
    show max (wo_M P T L n) (T (L &&& P n)) ≤ L - 1
    have := h2.2
    omega
theorem wo_wa {F : Nat → Nat → Int32} {P T : Nat → Nat} {t L : Nat} (ht : t < 16) (h1 : 1 ≤ L) (hL : L < 256) (hP : ∀ n, n < 11 → F 146 (t * 11 + n) = nI (P n)) (hT : ∀ s, s < L → T s ≤ s ∧ F 144 s = nI (T s)) : xm_wordsAfter (nI t) (nI L) F = some (nI (wo_A P T L)) := by
  unfold xm_wordsAfter
  obtain ⟨e, r1, rfl⟩ := pu_one (f := fun (s1 : Int32 × Int32) => ((
    if 10 < s1.2 then (
      some (.inr (s1.1 + 1)))
    else (
      if am_in ((nI t * 11) + s1.2) 176 = true then (
      am_let ((nI L &&& (F 146 ((nI t * 11) + s1.2).toNatClampNeg)) : Int32) fun t2 =>
      if t2 = nI L then (
        some (.inr 1000000))
      else (
        if am_in t2 256 = true then (
        am_let ((am_max s1.1 (F 144 t2.toNatClampNeg)) : Int32) fun t3 =>
        am_let (s1.2 + 1 : Int32) fun t4 =>
        some (.inl (t3, t4))) else none)) else none)) : Option ((Int32 × Int32) ⊕ (Int32)))) (fun n s => s = (nI (wo_M P T L n), nI n) ∧ ¬ wo_E P L n = true) (fun e => e = nI (wo_A P T L)) 11 (s := (0, 0)) ⟨rfl, fun z => by cases z⟩ (by
    rintro n s hn ⟨rfl, K⟩
    have e11 : nI t * 11 + nI n = nI (t * 11 + n) := by rw [show (11 : Int32) = nI 11 from rfl, pk_mul, nI_add]
    have c176 : am_in (nI (t * 11 + n)) 176 = true := pu_in (by omega) (by omega)
    have hle : L &&& P n ≤ L := Nat.and_le_left
    have hM := wo_Ml (P := P) (T := T) h1 (fun s hs => (hT s hs).1) n K
    have eE : wo_E P L (n + 1) = (wo_E P L n || decide (L &&& P n = L)) := rfl
    dsimp only
    rw [if_neg (show ¬ 10 < nI n from nI_nlt (b := n) (a := 10) (by omega) (by omega)), e11, if_pos c176, pu_letE, nI_clamp (by omega), hP n hn, bt_and]
    by_cases c : L &&& P n = L
    · rw [if_pos (by rw [c])]
      refine Or.inr ⟨_, rfl, ?_⟩
      rw [decide_eq_true c, Bool.or_true] at eE
      unfold wo_A
      rw [if_pos (wo_Em 11 (n + 1) (by omega) eE)]
      rfl
    · have hT' := hT (L &&& P n) (by omega)
      rw [if_neg (fun z => c (pu_nIinj (by omega) (by omega) z)), if_pos (pu_in (by omega) (by omega)), pu_letE, pu_letE, nI_1, nI_clamp (by omega), hT'.2, am_mx, dr_mxI (by omega) (by omega)]
      refine Or.inl ⟨_, rfl, rfl, ?_⟩
      rw [eE, decide_eq_false c, Bool.or_false]
      exact K) (by
    rintro s ⟨rfl, K⟩
    dsimp only
    rw [if_pos (show (10 : Int32) < nI 11 by decide), nI_1]
    refine ⟨_, rfl, ?_⟩
    unfold wo_A
    rw [if_neg K]) (by omega)
  exact r1
theorem wo_Al {P T : Nat → Nat} {L : Nat} (h1 : 1 ≤ L) (hT : ∀ s, s < L → T s ≤ s) : wo_A P T L = 1000000 ∨ (wo_A P T L ≤ L ∧ ¬ wo_E P L 11 = true) := by
  unfold wo_A
  by_cases c : wo_E P L 11 = true
  · rw [if_pos c]; exact Or.inl rfl
  · rw [if_neg c]
    have := wo_Ml h1 hT 11 c
    exact Or.inr ⟨by omega, c⟩
/-- two that can be it: one of them, said, tells something -/
theorem wo_two0 : (List.range 256).all (fun L => decide (L &&& (L - 1) = 0) || (List.range 8).any fun i => (List.range 8).any fun j => decide (i < j) && L.testBit i && L.testBit j) = true := by decide +kernel
theorem wo_two {L : Nat} (hL : L < 256) (h : ¬ L &&& (L - 1) = 0) : ∃ i j, i < j ∧ L.testBit i = true ∧ L.testBit j = true := by
  have := List.all_eq_true.mp wo_two0 L (List.mem_range.mpr hL)
  rw [decide_eq_false h, Bool.false_or, List.any_eq_true] at this
  obtain ⟨i, -, hi⟩ := this
  rw [List.any_eq_true] at hi
  obtain ⟨j, -, hj⟩ := hi
  rw [Bool.and_eq_true, Bool.and_eq_true, decide_eq_true_eq] at hj
  exact ⟨i, j, hj.1.1, hj.1.2, hj.2⟩
theorem wo_fin {NN : Nat → Nat → Nat} {C : Nat → Nat} {m L : Nat} (hL : L < 2 ^ m) (hL2 : L < 256) (hC : ∀ i, i < m → C i < 16) (hD : ∀ i j, i < m → j < m → i ≠ j → C i ≠ C j) (hN : ∀ c t, c < 16 → t < 16 → (c = t → NN c t = 10) ∧ (c ≠ t → NN c t ≤ 9)) (h : ¬ L &&& (L - 1) = 0) : ∃ t, t < 16 ∧ ¬ wo_E (fun n => wo_P (wo_Q NN C t) n m) L 11 = true := by
  obtain ⟨i, j, hij, bi, bj⟩ := wo_two hL2 h
  have im : i < m := by
    apply Classical.byContradiction
    intro z
    rw [Nat.testBit_lt_two_pow (Nat.lt_of_lt_of_le hL (Nat.pow_le_pow_right (by decide) (by omega)))] at bi
    cases bi
  have jm : j < m := by
    apply Classical.byContradiction
    intro z
    rw [Nat.testBit_lt_two_pow (Nat.lt_of_lt_of_le hL (Nat.pow_le_pow_right (by decide) (by omega)))] at bj
    cases bj
  refine ⟨C i, hC i im, ?_⟩
  have no : ∀ n, ¬ L &&& wo_P (wo_Q NN C (C i)) n m = L := fun n e => by
    have t1 : (L &&& wo_P (wo_Q NN C (C i)) n m).testBit i = true := by rw [e]; exact bi
    have t2 : (L &&& wo_P (wo_Q NN C (C i)) n m).testBit j = true := by rw [e]; exact bj
    rw [Nat.testBit_and, wo_Pt, bi, Bool.true_and, Bool.and_eq_true, decide_eq_true_eq, decide_eq_true_eq] at t1
    rw [Nat.testBit_and, wo_Pt, bj, Bool.true_and, Bool.and_eq_true, decide_eq_true_eq, decide_eq_true_eq] at t2
    have n1 : NN (C i) (C i) = n := t1.2
    have n2 : NN (C j) (C i) = n := t2.2
    have := (hN (C i) (C i) (hC i im) (hC i im)).1 rfl
    have := (hN (C j) (C i) (hC j jm) (hC i im)).2 (hD j i jm im (by omega))
    omega
  have all : ∀ k, ¬ wo_E (fun n => wo_P (wo_Q NN C (C i)) n m) L k = true := by
    intro k
    induction k with
    | zero => intro z; cases z
    | succ k ih =>
      intro z
      have z : (wo_E (fun n => wo_P (wo_Q NN C (C i)) n m) L k || decide (L &&& wo_P (wo_Q NN C (C i)) k m = L)) = true := z
      rw [decide_eq_false (no k), Bool.or_false] at z
      exact ih z
  exact all 11
