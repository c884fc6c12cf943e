/-- a beginning that one ahead has, too -/
def dg_sn (A : Nat → Nat) (x n : Nat) : Nat → Bool
  | 0 => false
  | k + 1 => dg_sn A x n k || (decide (n ≤ dg_l (A k)) && decide (dg_b (A k) n = dg_b x n))
theorem dg_snI {A : Nat → Nat} {x n : Nat} : ∀ k, dg_sn A x n k = true ↔ ∃ k', k' < k ∧ n ≤ dg_l (A k') ∧ dg_b (A k') n = dg_b x n := by
  intro k
  induction k with
  | zero =>
    constructor
    · intro e; cases e
    · rintro ⟨k', h, -⟩; omega
  | succ k ih =>
    show (dg_sn A x n k || (decide (n ≤ dg_l (A k)) && decide (dg_b (A k) n = dg_b x n))) = true ↔ _
    rw [Bool.or_eq_true, ih, Bool.and_eq_true, decide_eq_true_eq, decide_eq_true_eq]
    constructor
    · rintro (⟨k', h1, h2⟩ | ⟨h1, h2⟩)
      · exact ⟨k', by omega, h2⟩
      · exact ⟨k, by omega, h1, h2⟩
    · rintro ⟨k', h1, h2, h3⟩
      by_cases he : k' = k
      · subst he
        exact Or.inr ⟨h2, h3⟩
      · exact Or.inl ⟨k', by omega, h2, h3⟩
/-- how many new ones of n letters at most -/
def dg_t (A : Nat → Nat) (i : Nat) : Nat → Nat
  | 0 => 0
  | n + 1 => dg_t A i n + (if dg_sn A (A i) (n + 1) i = true then 0 else 1)
def dg_c (A : Nat → Nat) : Nat → Nat
  | 0 => 0
  | i + 1 => dg_c A i + dg_t A i (dg_l (A i))
theorem dg_tle (A : Nat → Nat) (i : Nat) : ∀ n, dg_t A i n ≤ n := by
  intro n
  induction n with
  | zero => exact Nat.le_refl _
  | succ n ih =>
    show dg_t A i n + (if dg_sn A (A i) (n + 1) i = true then 0 else 1) ≤ n + 1
    by_cases c : dg_sn A (A i) (n + 1) i = true
    · rw [if_pos c]; omega
    · rw [if_neg c]; omega
theorem dg_cle (A : Nat → Nat) : ∀ i, dg_c A i ≤ 4 * i := by
  intro i
  induction i with
  | zero => exact Nat.le_refl _
  | succ i ih =>
    have h1 := dg_tle A i (dg_l (A i))
    have h2 := (dg_lr (A i)).2
    show dg_c A i + dg_t A i (dg_l (A i)) ≤ 4 * (i + 1)
    omega
theorem dg_and (a b : Bool) : am_b a &&& am_b b = am_b (a && b) := by
  cases a <;> cases b <;> decide
theorem dg_new {g : Nat → Nat → Int32} {A : Nat → Nat} {z i : Nat} (hz : z ≤ 8) (hi : i < z) (hA : ∀ i, i < z → 1 ≤ A i ∧ A i ≤ 9999 ∧ g 217 (507 + i) = nI (A i)) : m_newOf (nI i) g = some (nI (dg_t A i (dg_l (A i)))) := by
  unfold m_newOf
  have a1 : (507 : Int32) + nI i = nI (507 + i) := nI_add 507 i
  have c1 : am_in (nI (507 + i)) 2008 = true := pu_in (by omega) (by omega)
  have hl := dg_lr (A i)
  refine pu_for (fun n => (nI (dg_t A i n), nI (n + 1))) (dg_l (A i)) rfl (fun n hn => ?_) ?_
  · have X : am_loop (fun (s3 : Int32 × Int32) => ((
        if s3.2 < nI i then (
          (m_firstOf s3.2 (nI (n + 1)) g).bind fun p4 =>
          (m_firstOf (nI i) (nI (n + 1)) g).bind fun p5 =>
          am_let ((if p4 = p5 then (
              false)
            else (
              true)) : Bool) fun t6 =>
          am_let ((s3.1 &&& (am_b t6)) : Int32) fun t7 =>
          am_let (s3.2 + 1 : Int32) fun t8 =>
          some (.inl (t7, t8)))
        else (
          some (.inr s3.1))) : Option ((Int32 × Int32) ⊕ (Int32)))) am_F (1, 0) = some (am_b (!dg_sn A (A i) (n + 1) i)) := by
      refine pu_for (fun k => (am_b (!dg_sn A (A i) (n + 1) k), nI k)) i rfl (fun k hk => ?_) ?_
      · have l1 := dg_fl (x := A i) (m := n + 1) (hA i hi).2.1
        have l2 := dg_fl (x := A k) (m := n + 1) (hA k (by omega)).2.1
        dsimp only
        rw [if_pos (nI_lt hk (by omega)), dg_fo (by omega) (hA k (by omega)).2 (by omega), pu_bs, dg_fo (by omega) (hA i hi).2 (by omega), pu_bs, pu_letE, pu_letE, pu_letE, nI_1, dg_and]
        have es : dg_sn A (A i) (n + 1) (k + 1) = (dg_sn A (A i) (n + 1) k || (decide (n + 1 ≤ dg_l (A k)) && decide (dg_b (A k) (n + 1) = dg_b (A i) (n + 1)))) := rfl
        have ef : nI (dg_f (A k) (n + 1)) = nI (dg_f (A i) (n + 1)) ↔ n + 1 ≤ dg_l (A k) ∧ dg_b (A k) (n + 1) = dg_b (A i) (n + 1) := by
          have hb := (dg_bl (hA i hi).1 (hA i hi).2.1 (n := n + 1) (by omega) (by omega)).2.2
          have e2 : dg_f (A i) (n + 1) = dg_b (A i) (n + 1) := by
            unfold dg_f
            rw [if_neg (by omega)]
          constructor
          · intro e
            have e := pu_nIinj (by omega) (by omega) e
            rw [e2] at e
            unfold dg_f at e
            by_cases c : dg_l (A k) < n + 1
            · rw [if_pos c] at e; omega
            · rw [if_neg c] at e
              exact ⟨by omega, e⟩
          · rintro ⟨e, e3⟩
            rw [e2, ← e3]
            unfold dg_f
            rw [if_neg (by omega)]
        rw [es]
        by_cases c : n + 1 ≤ dg_l (A k) ∧ dg_b (A k) (n + 1) = dg_b (A i) (n + 1)
        · rw [if_pos (ef.mpr c), decide_eq_true c.1, decide_eq_true c.2]
          cases dg_sn A (A i) (n + 1) k <;> rfl
        · rw [if_neg (fun z => c (ef.mp z))]
          have : (decide (n + 1 ≤ dg_l (A k)) && decide (dg_b (A k) (n + 1) = dg_b (A i) (n + 1))) = false := by
            rw [Bool.and_eq_false_iff]
            by_cases c1 : n + 1 ≤ dg_l (A k)
            · exact Or.inr (decide_eq_false (fun z => c ⟨c1, z⟩))
            · exact Or.inl (decide_eq_false c1)
          rw [this]
          cases dg_sn A (A i) (n + 1) k <;> rfl
      · dsimp only
        rw [if_neg (nI_nlt (Nat.le_refl _) (by omega))]
    dsimp only
    rw [a1, if_pos c1, nI_clamp (by omega), (hA i hi).2.2, dg_lm, dg_lc (by have := (hA i hi).2.1; omega), if_neg (nI_nlt (by omega) (by omega)), X, pu_bs, pu_letE, pu_letE, pu_letE, nI_1]
    have et : dg_t A i (n + 1) = dg_t A i n + (if dg_sn A (A i) (n + 1) i = true then 0 else 1) := rfl
    cases hs : dg_sn A (A i) (n + 1) i with
    | true =>
      rw [hs, if_pos rfl] at et
      rw [et, if_pos (show am_b (!true) = 0 from rfl), show am_b false = nI 0 from rfl, nI_add]
    | false =>
      rw [hs, if_neg (by decide)] at et
      rw [et, if_neg (show ¬ am_b (!false) = 0 by decide), show am_b true = nI 1 from rfl, nI_add]
  · dsimp only
    rw [a1, if_pos c1, nI_clamp (by omega), (hA i hi).2.2, dg_lm, dg_lc (by have := (hA i hi).2.1; omega), if_pos (nI_lt (by omega) (by omega))]
/-- the heads so far: those of the names ahead, and the longer ones of this -/
def dg_H (A : Nat → Nat) (i n v : Nat) : Prop := (∃ k m, k < i ∧ 1 ≤ m ∧ m ≤ dg_l (A k) ∧ v = dg_b (A k) m) ∨ ∃ m, n < m ∧ m ≤ dg_l (A i) ∧ v = dg_b (A i) m
theorem dg_Hn {A : Nat → Nat} {i n : Nat} (hA : ∀ j, j ≤ i → 1 ≤ A j ∧ A j ≤ 9999) (h1 : 1 ≤ n) (h2 : n ≤ dg_l (A i)) : dg_H A i n (dg_b (A i) n) ↔ dg_sn A (A i) n i = true := by
  rw [dg_snI]
  have hl := (dg_bl (hA i (Nat.le_refl _)).1 (hA i (Nat.le_refl _)).2 h1 h2).1
  constructor
  · rintro (⟨k, m, k1, k2, k3, k4⟩ | ⟨m, k1, k2, k3⟩)
    · have hm := (dg_bl (hA k (by omega)).1 (hA k (by omega)).2 k2 k3).1
      have : m = n := by rw [← k4, hl] at hm; exact hm.symm
      subst this
      exact ⟨k, k1, k3, k4.symm⟩
    · have hm := (dg_bl (hA i (Nat.le_refl _)).1 (hA i (Nat.le_refl _)).2 (n := m) (by omega) k2).1
      rw [← k3, hl] at hm
      omega
  · rintro ⟨k, k1, k2, k3⟩
    exact Or.inl ⟨k, n, k1, h1, k2, k3.symm⟩
theorem dg_ih {F : Nat → Nat → Int32} {c v : Nat} (hc : c ≤ 32) (hF : ∀ j, j < c → ∃ u, u ≤ 9999 ∧ F 155 j = nI u) (hv : v ≤ 9999) : ∃ b, xm_isHead (nI v) (nI c) F = some b ∧ (b = true ↔ ∃ j, j < c ∧ F 155 j = nI v) := by
  unfold xm_isHead
  refine pu_one (fun j s => s = nI j ∧ ∀ k, k < j → ¬ F 155 k = nI v) (fun b => b = true ↔ ∃ j, j < c ∧ F 155 j = nI v) c ⟨rfl, fun k hk => absurd hk (Nat.not_lt_zero _)⟩ ?_ ?_
  · rintro j s hj ⟨rfl, K⟩
    rw [if_pos (nI_lt hj (by omega)), if_pos (pu_in (by omega) (by omega)), nI_clamp (by omega)]
    by_cases h : F 155 j = nI v
    · rw [if_pos h]
      exact Or.inr ⟨_, rfl, fun _ => ⟨j, hj, h⟩, fun _ => rfl⟩
    · rw [if_neg h, pu_letE, nI_1]
      refine Or.inl ⟨_, rfl, rfl, fun k hk => ?_⟩
      by_cases he : k = j
      · rw [he]; exact h
      · exact K k (by omega)
  · rintro s ⟨rfl, K⟩
    rw [if_neg (nI_nlt (Nat.le_refl _) (by omega))]
    refine ⟨_, rfl, ?_⟩
    constructor
    · intro e; cases e
    · rintro ⟨j, h1, h2⟩
      exact absurd h2 (K j h1)
