/-! WORDS -/
def wo_k (S : Nat) : Nat → Nat
  | 0 => 0
  | t + 1 => wo_k S t + (if S.testBit t = true then 1 else 0)
def wo_c (S : Nat) : Nat → Nat → Nat
  | 0, _ => 0
  | t + 1, j => if S.testBit t = true ∧ j = wo_k S t then t else wo_c S t j
theorem wo_kb : ∀ k S, wo_k S (k + 1) = S % 2 + wo_k (S / 2) k := by
  intro k
  induction k with
  | zero =>
    intro S
    show 0 + (if S.testBit 0 = true then 1 else 0) = S % 2 + 0
    rw [Nat.testBit_zero]
    by_cases h : S % 2 = 1
    · rw [if_pos (by simp [h]), h]
    · rw [if_neg (by simp [h])]
      omega
  | succ k ih =>
    intro S
    show wo_k S (k + 1) + (if S.testBit (k + 1) = true then 1 else 0) = S % 2 + (wo_k (S / 2) k + (if (S / 2).testBit k = true then 1 else 0))
    rw [ih, Nat.testBit_succ]
    omega
theorem wo_bt : ∀ k S, bt_n k S = wo_k S k := by
  intro k
  induction k with
  | zero => intro S; rfl
  | succ k ih =>
    intro S
    rw [wo_kb]
    show S % 2 + bt_n k (S / 2) = _
    rw [ih]
theorem wo_km (S : Nat) : ∀ t u, t ≤ u → wo_k S t ≤ wo_k S u := by
  intro t u
  induction u with
  | zero => intro h; rw [show t = 0 by omega]; exact Nat.le_refl _
  | succ u ih =>
    intro h
    by_cases he : t = u + 1
    · rw [he]; exact Nat.le_refl _
    · have := ih (by omega)
      show _ ≤ wo_k S u + _
      omega
theorem wo_kz {S : Nat} : ∀ u t, t ≤ u → wo_k S t = wo_k S u → ∀ j, wo_c S t j = wo_c S u j := by
  intro u
  induction u with
  | zero => intro t h _ j; rw [show t = 0 by omega]
  | succ u ih =>
    intro t h e j
    by_cases he : t = u + 1
    · rw [he]
    · have h1 := wo_km S t u (by omega)
      have e2 : wo_k S (u + 1) = wo_k S u + (if S.testBit u = true then 1 else 0) := rfl
      have hb : ¬ S.testBit u = true := fun z => by
        rw [if_pos z] at e2
        omega
      rw [if_neg hb] at e2
      rw [ih t (by omega) (by omega) j]
      show _ = if S.testBit u = true ∧ j = wo_k S u then u else wo_c S u j
      rw [if_neg (fun z => hb z.1)]
theorem wo_cf (S : Nat) : ∀ t, (∀ j, j < wo_k S t → wo_c S t j < t) ∧ (∀ j j', j < j' → j' < wo_k S t → wo_c S t j < wo_c S t j') := by
  intro t
  induction t with
  | zero => exact ⟨fun j h => absurd h (Nat.not_lt_zero _), fun j j' _ h => absurd h (Nat.not_lt_zero _)⟩
  | succ t ih =>
    obtain ⟨i1, i2⟩ := ih
    have e2 : wo_k S (t + 1) = wo_k S t + (if S.testBit t = true then 1 else 0) := rfl
    have ec : ∀ j, wo_c S (t + 1) j = if S.testBit t = true ∧ j = wo_k S t then t else wo_c S t j := fun j => rfl
    by_cases hb : S.testBit t = true
    · rw [if_pos hb] at e2
      constructor
      · intro j hj
        rw [ec]
        by_cases he : j = wo_k S t
        · rw [if_pos ⟨hb, he⟩]; omega
        · rw [if_neg (fun z => he z.2)]
          have := i1 j (by omega)
          omega
      · intro j j' h1 h2
        rw [ec, ec, if_neg (fun z => by omega)]
        by_cases he : j' = wo_k S t
        · rw [if_pos ⟨hb, he⟩]
          exact i1 j (by omega)
        · rw [if_neg (fun z => he z.2)]
          exact i2 j j' h1 (by omega)
    · rw [if_neg hb] at e2
      constructor
      · intro j hj
        rw [ec, if_neg (fun z => hb z.1)]
        have := i1 j (by omega)
        omega
      · intro j j' h1 h2
        rw [ec, ec, if_neg (fun z => hb z.1), if_neg (fun z => hb z.1)]
        exact i2 j j' h1 (by omega)
theorem wo_ci {S t j j' : Nat} (h1 : j < wo_k S t) (h2 : j' < wo_k S t) (hne : j ≠ j') : wo_c S t j ≠ wo_c S t j' := by
  rcases Nat.lt_trichotomy j j' with h | h | h
  · have := (wo_cf S t).2 j j' h h2
    omega
  · exact absurd h hne
  · have := (wo_cf S t).2 j' j h h1
    omega
theorem wo_sh : ∀ c, c < 16 → (1 : Int32) <<< (nI c &&& 31) = nI (2 ^ c) := by decide
theorem wo_p2 : ∀ c, c < 16 → 2 ^ c < 65536 := by decide
/-- what is not kept back: nearness 9 at most -/
theorem wo_n9 {g : Nat → Nat → Int32} (hN : iv_N (g 217)) {s t z : Nat} (hs : s < 2 ^ 31) (ht : t < 16) (hb : ¬ s.testBit t = true) (h : m_nearnessOf (nI s) (nI t) g = some (nI z)) (hz : z ≤ 10) : z ≤ 9 := by
  unfold m_nearnessOf at h
  rw [if_neg (pu_neg1 (by omega)), rk_bit hs ht, if_neg hb, if_neg (by decide)] at h
  obtain ⟨e, r1, q, q1, rfl⟩ := pu_one (f := fun (s1 : Int32 × Int32) => ((
        if s1.2 < 16 then (
          ((if ((nI s >>> (s1.2 &&& 31)) &&& 1) = 1 then (
              (m_nearness s1.2 (nI t) g).bind fun p2 =>
              am_let ((m_greater s1.1 p2) : Int32) fun t4 =>
              some t4)
            else (
              some s1.1)) : Option (Int32)).bind fun t5 =>
          am_let (s1.2 + 1 : Int32) fun t6 =>
          some (.inl (t5, t6)))
        else (
          some (.inr s1.1))) : Option ((Int32 × Int32) ⊕ (Int32)))) (fun j s => ∃ q, q ≤ 9 ∧ s = (nI q, nI j)) (fun e => ∃ q, q ≤ 9 ∧ e = nI q) 16 (s := (0, 0)) ⟨0, by omega, rfl⟩ (by
    rintro j s' hj ⟨q, hq, rfl⟩
    left
    dsimp only
    rw [if_pos (show nI j < (16 : Int32) from nI_lt (b := 16) hj (by omega)), rk_bit hs hj]
    by_cases c : s.testBit j = true
    · rw [if_pos c, if_pos rfl]
      unfold m_nearness
      have a1 : (87 : Int32) + 16 * nI j + nI t = nI (87 + (16 * j + t)) := by rw [show (16 : Int32) = nI 16 from rfl, pk_mul, show (87 : Int32) = nI 87 from rfl, nI_add, nI_add, Nat.add_assoc]
      obtain ⟨v, v1, v2⟩ := hN.1 (16 * j + t) (by omega)
      rw [a1, if_pos (pu_in (by omega) (by omega)), nI_clamp (by omega), v2, pu_bs, pu_letE, pu_bs, pu_letE, nI_1, dr_mxI (by omega) (by omega)]
      exact ⟨_, rfl, _, by omega, rfl⟩
    · rw [if_neg c, if_neg (by decide), pu_bs, pu_letE, nI_1]
      exact ⟨_, rfl, _, hq, rfl⟩) (by
    rintro s' ⟨q, hq, rfl⟩
    dsimp only
    rw [if_neg (show ¬ nI 16 < (16 : Int32) by decide)]
    exact ⟨_, rfl, q, hq, rfl⟩) (by omega)
  rw [r1] at h
  have := pu_nIinj (by omega) (by omega) (Option.some.inj h)
  omega
theorem wo_N {f g : Nat → Nat → Int32} (h : rl_Rel f g) : ∃ NN : Nat → Nat → Nat, ∀ c t, c < 16 → t < 16 → NN c t ≤ 10 ∧ (∀ F : Nat → Nat → Int32, F 26 = f 26 → xn_nearness_25 (nI (2 ^ c)) (nI t) F = some (nI (NN c t))) ∧ (∀ G : Nat → Nat → Int32, G 217 = g 217 → m_nearnessOf (nI (2 ^ c)) (nI t) G = some (nI (NN c t))) ∧ (c = t → NN c t = 10) ∧ (c ≠ t → NN c t ≤ 9) := by
  have X : ∀ c t, ∃ z, c < 16 → t < 16 → z ≤ 10 ∧ (∀ F : Nat → Nat → Int32, F 26 = f 26 → xn_nearness_25 (nI (2 ^ c)) (nI t) F = some (nI z)) ∧ (∀ G : Nat → Nat → Int32, G 217 = g 217 → m_nearnessOf (nI (2 ^ c)) (nI t) G = some (nI z)) ∧ (c = t → z = 10) ∧ (c ≠ t → z ≤ 9) := by
    intro c t
    by_cases hc : c < 16 ∧ t < 16
    · obtain ⟨hc, ht⟩ := hc
      have hp := wo_p2 c hc
      obtain ⟨z, z1, z2, z3⟩ := nr_eq (fun j hj => rl_f_ne h hj) h.1.2.2.2.1 (nI (2 ^ c)) (t := nI t) (Or.inr ⟨t, ht, rfl⟩)
      refine ⟨z, fun _ _ => ⟨z1, fun F hF => ?_, fun G hG => ?_, fun e => ?_, fun e => ?_⟩⟩
      · obtain ⟨y, y1, y2, y3⟩ := nr_eq (f := F) (g := g) (fun j hj => by rw [hF]; exact rl_f_ne h hj) h.1.2.2.2.1 (nI (2 ^ c)) (t := nI t) (Or.inr ⟨t, ht, rfl⟩)
        rw [y2]
        exact y3.symm.trans z3
      · rw [nf_eq h.1.2.2.2.1 (fun j hj => by rw [hG]) _ (Or.inr ⟨t, ht, rfl⟩), z3]
      · subst e
        unfold m_nearnessOf at z3
        rw [if_neg (pu_neg1 (by omega)), rk_bit (by omega) ht, if_pos (Nat.testBit_two_pow_self), if_pos rfl] at z3
        exact (pu_nIinj (b := 10) (by omega) (by omega) (Option.some.inj z3).symm)
      · refine wo_n9 h.1.2.2.2.1 (s := 2 ^ c) (t := t) (by omega) ht ?_ z3 z1
        rw [Nat.testBit_two_pow_of_ne e]
        decide
    · exact ⟨0, fun a b => absurd ⟨a, b⟩ hc⟩
  exact ⟨fun c t => Classical.choose (X c t), fun c t => Classical.choose_spec (X c t)⟩
