/-! TEXTS: the tape's signs, what each place is the head of -/
def lx_L (c : Nat) : Bool := (decide (97 ≤ c) && decide (c ≤ 122)) || (decide (65 ≤ c) && decide (c ≤ 90))
def lx_D (c : Nat) : Bool := decide (48 ≤ c) && decide (c ≤ 57)
def lx_B (c : Nat) : Bool := decide (c = 32) || decide (c = 10)
def lx_S (c : Nat) : Bool := decide (c = 59) || (decide (40 ≤ c) && decide (c ≤ 43)) || decide (c = 45) || decide (c = 47) || (decide (60 ≤ c) && decide (c ≤ 62))
/-- how far signs of a kind go on -/
def lx_r (n : Nat) (b : Nat → Nat) (cl : Nat → Bool) : Nat → Nat → Nat
  | 0, p => p
  | m + 1, p => if p < n ∧ cl (b p) = true then lx_r n b cl m (p + 1) else p
def lx_e (n : Nat) (b : Nat → Nat) (cl : Nat → Bool) (p : Nat) : Nat := lx_r n b cl (n - p) p
theorem lx_es (n : Nat) (b : Nat → Nat) (cl : Nat → Bool) {p : Nat} (h : p < n) (hc : cl (b p) = true) : lx_e n b cl p = lx_e n b cl (p + 1) := by
  unfold lx_e
  rw [show n - p = (n - (p + 1)) + 1 by omega]
  show (if p < n ∧ cl (b p) = true then _ else _) = _
  rw [if_pos ⟨h, hc⟩]
theorem lx_e0 (n : Nat) (b : Nat → Nat) (cl : Nat → Bool) {p : Nat} (h : ¬ (p < n ∧ cl (b p) = true)) : lx_e n b cl p = p := by
  unfold lx_e
  generalize n - p = m
  cases m with
  | zero => rfl
  | succ m =>
    show (if p < n ∧ cl (b p) = true then _ else _) = _
    rw [if_neg h]
theorem lx_ef (n : Nat) (b : Nat → Nat) (cl : Nat → Bool) : ∀ m p, p ≤ n → n - p ≤ m → p ≤ lx_e n b cl p ∧ lx_e n b cl p ≤ n ∧ (∀ j, p ≤ j → j < lx_e n b cl p → cl (b j) = true) ∧ ¬ (lx_e n b cl p < n ∧ cl (b (lx_e n b cl p)) = true) := by
  intro m
  induction m with
  | zero =>
    intro p h1 h2
    have hn : ¬ (p < n ∧ cl (b p) = true) := fun z => by omega
    rw [lx_e0 n b cl hn]
    exact ⟨Nat.le_refl _, h1, fun j a c => by omega, hn⟩
  | succ m ih =>
    intro p h1 h2
    by_cases c : p < n ∧ cl (b p) = true
    · rw [lx_es n b cl c.1 c.2]
      obtain ⟨i1, i2, i3, i4⟩ := ih (p + 1) (by omega) (by omega)
      refine ⟨by omega, i2, fun j a d => ?_, i4⟩
      by_cases he : j = p
      · rw [he]; exact c.2
      · exact i3 j (by omega) d
    · rw [lx_e0 n b cl c]
      exact ⟨Nat.le_refl _, h1, fun j a d => by omega, c⟩
theorem lx_eF {n : Nat} {b : Nat → Nat} (cl : Nat → Bool) {p : Nat} (h : p ≤ n) : p ≤ lx_e n b cl p ∧ lx_e n b cl p ≤ n ∧ (∀ j, p ≤ j → j < lx_e n b cl p → cl (b j) = true) ∧ ¬ (lx_e n b cl p < n ∧ cl (b (lx_e n b cl p)) = true) := lx_ef n b cl (n - p) p h (Nat.le_refl _)
/-- one that goes on along a run -/
theorem lx_mid (n : Nat) (b : Nat → Nat) (cl : Nat → Bool) {p : Nat} (h : p ≤ n) : ∀ j, p + j ≤ lx_e n b cl p → lx_e n b cl (p + j) = lx_e n b cl p := by
  intro j
  induction j with
  | zero => intro _; rfl
  | succ j ih =>
    intro hj
    obtain ⟨i1, i2, i3, i4⟩ := lx_eF (b := b) cl h
    rw [← ih (by omega), lx_es n b cl (p := p + j) (by omega) (i3 _ (by omega) (by omega))]
    rfl
/-! the tests of signs -/
theorem lx_ofall {P : Nat → Bool} (h : (List.range 256).all P = true) {c : Nat} (hc : c < 256) : P c = true := List.all_eq_true.mp h c (List.mem_range.mpr hc)
theorem lx_Lx0 : (List.range 256).all (fun c => xt_isLetter (nI c) == lx_L c && (m_isLetter (nI c) == lx_L c)) = true := by decide +kernel
theorem lx_Dx0 : (List.range 256).all (fun c => xt_isDigit (nI c) == lx_D c && (m_isDigit (nI c) == lx_D c)) = true := by decide +kernel
theorem lx_Sx0 : (List.range 256).all (fun c => xt_isMark (nI c) == lx_S c) = true := by decide +kernel
theorem lx_Lx {c : Nat} (h : c < 256) : xt_isLetter (nI c) = lx_L c ∧ m_isLetter (nI c) = lx_L c := by
  have := lx_ofall lx_Lx0 h
  rw [Bool.and_eq_true, beq_iff_eq, beq_iff_eq] at this
  exact this
theorem lx_Dx {c : Nat} (h : c < 256) : xt_isDigit (nI c) = lx_D c ∧ m_isDigit (nI c) = lx_D c := by
  have := lx_ofall lx_Dx0 h
  rw [Bool.and_eq_true, beq_iff_eq, beq_iff_eq] at this
  exact this
theorem lx_Sx {c : Nat} (h : c < 256) : xt_isMark (nI c) = lx_S c := by
  have := lx_ofall lx_Sx0 h
  rw [beq_iff_eq] at this
  exact this
theorem lx_m1 : m_isLetter (-1) = false ∧ m_isDigit (-1) = false := by decide
/-! the class's walks along the tape -/
def lx_T (n : Nat) (b : Nat → Nat) (F : Nat → Nat → Int32) : Prop := n ≤ 400 ∧ F 123 0 = nI n ∧ ∀ i, i < n → b i < 256 ∧ F 124 i = nI (b i)
theorem lx_xL {n : Nat} {b : Nat → Nat} {F : Nat → Nat → Int32} (T : lx_T n b F) {p : Nat} (hp : p ≤ n) : xt_endOfLetters (nI p) F = some (nI (lx_e n b lx_L p)) := by
  obtain ⟨t1, t2, t3⟩ := T
  obtain ⟨i1, i2, i3, i4⟩ := lx_eF (b := b) lx_L hp
  unfold xt_endOfLetters
  rw [t2]
  refine pu_for (fun j => nI (p + j)) (lx_e n b lx_L p - p) rfl (fun j hj => ?_) ?_
  · obtain ⟨s1, s2⟩ := t3 (p + j) (by omega)
    rw [if_pos (nI_lt (by omega) (by omega)), if_pos (pu_in (by omega) (by omega)), nI_clamp (by omega), s2, (lx_Lx s1).1, if_pos (i3 _ (by omega) (by omega)), pu_letE, nI_1]
    rfl
  · rw [show p + (lx_e n b lx_L p - p) = lx_e n b lx_L p by omega]
    by_cases c : lx_e n b lx_L p < n
    · obtain ⟨s1, s2⟩ := t3 _ c
      rw [if_pos (nI_lt c (by omega)), if_pos (pu_in (by omega) (by omega)), nI_clamp (by omega), s2, (lx_Lx s1).1, if_neg (fun z => i4 ⟨c, z⟩)]
    · rw [if_neg (nI_nlt (by omega) (by omega))]
theorem lx_xD {n : Nat} {b : Nat → Nat} {F : Nat → Nat → Int32} (T : lx_T n b F) {p : Nat} (hp : p ≤ n) : xt_endOfDigits (nI p) F = some (nI (lx_e n b lx_D p)) := by
  obtain ⟨t1, t2, t3⟩ := T
  obtain ⟨i1, i2, i3, i4⟩ := lx_eF (b := b) lx_D hp
  unfold xt_endOfDigits
  rw [t2]
  refine pu_for (fun j => nI (p + j)) (lx_e n b lx_D p - p) rfl (fun j hj => ?_) ?_
  · obtain ⟨s1, s2⟩ := t3 (p + j) (by omega)
    rw [if_pos (nI_lt (by omega) (by omega)), if_pos (pu_in (by omega) (by omega)), nI_clamp (by omega), s2, (lx_Dx s1).1, if_pos (i3 _ (by omega) (by omega)), pu_letE, nI_1]
    rfl
  · rw [show p + (lx_e n b lx_D p - p) = lx_e n b lx_D p by omega]
    by_cases c : lx_e n b lx_D p < n
    · obtain ⟨s1, s2⟩ := t3 _ c
      rw [if_pos (nI_lt c (by omega)), if_pos (pu_in (by omega) (by omega)), nI_clamp (by omega), s2, (lx_Dx s1).1, if_neg (fun z => i4 ⟨c, z⟩)]
    · rw [if_neg (nI_nlt (by omega) (by omega))]
/-- a number's value -/
def lx_v (b : Nat → Nat) (s : Nat) : Nat → Nat
  | 0 => 0
  | j + 1 => 10 * lx_v b s j + (b (s + j) - 48)
theorem lx_vl {b : Nat → Nat} {s : Nat} : ∀ j, j ≤ 4 → (∀ i, i < j → lx_D (b (s + i)) = true) → lx_v b s j < 10 ^ j := by
  intro j
  induction j with
  | zero => intro _ _; show 0 < 1; omega
  | succ j ih =>
    intro h hd
    have h1 := ih (by omega) (fun i hi => hd i (by omega))
    have h2 := hd j (by omega)
    unfold lx_D at h2
    rw [Bool.and_eq_true, decide_eq_true_eq, decide_eq_true_eq] at h2
    show 10 * lx_v b s j + (b (s + j) - 48) < 10 ^ (j + 1)
    rw [Nat.pow_succ]
    omega
theorem lx_vs {b : Nat → Nat} {s j : Nat} (hd : lx_D (b (s + j)) = true) : 10 * nI (lx_v b s j) + nI (b (s + j)) - 48 = nI (lx_v b s (j + 1)) := by
  unfold lx_D at hd
  rw [Bool.and_eq_true, decide_eq_true_eq, decide_eq_true_eq] at hd
  rw [show (10 : Int32) = nI 10 from rfl, pk_mul, nI_add, show (48 : Int32) = nI 48 from rfl, pk_sub (by omega)]
  show nI (10 * lx_v b s j + b (s + j) - 48) = nI (10 * lx_v b s j + (b (s + j) - 48))
  congr 1
  omega
theorem lx_xN {n : Nat} {b : Nat → Nat} {F : Nat → Nat → Int32} (T : lx_T n b F) {s e : Nat} (h1 : s ≤ e) (h2 : e ≤ n) (hd : ∀ j, s ≤ j → j < e → lx_D (b j) = true) : xt_number (nI s) (nI e) F = some (nI (lx_v b s (e - s))) := by
  obtain ⟨t1, t2, t3⟩ := T
  unfold xt_number
  refine pu_for (fun j => (nI (lx_v b s j), nI (s + j))) (e - s) rfl (fun j hj => ?_) ?_
  · obtain ⟨s1, s2⟩ := t3 (s + j) (by omega)
    dsimp only
    rw [if_pos (nI_lt (by omega) (by omega)), if_pos (pu_in (by omega) (by omega)), nI_clamp (by omega), s2, pu_letE, pu_letE, lx_vs (hd _ (by omega) (by omega)), nI_1]
    rfl
  · dsimp only
    rw [show s + (e - s) = e by omega, if_neg (nI_nlt (Nat.le_refl _) (by omega))]
