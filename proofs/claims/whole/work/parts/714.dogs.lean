/-! DOGS -/
def dg_l (x : Nat) : Nat := if 999 < x then 4 else if 99 < x then 3 else if 9 < x then 2 else 1
def dg_d : Nat → Nat → Nat
  | 0, x => x
  | k + 1, x => dg_d k x / 10
def dg_b (x n : Nat) : Nat := dg_d (dg_l x - n) x
def dg_f (x m : Nat) : Nat := if dg_l x < m then 100000 + x else dg_b x m
theorem dg_lr (x : Nat) : 1 ≤ dg_l x ∧ dg_l x ≤ 4 := by
  unfold dg_l
  by_cases a : 999 < x
  · rw [if_pos a]; omega
  · rw [if_neg a]
    by_cases b : 99 < x
    · rw [if_pos b]; omega
    · rw [if_neg b]
      by_cases c : 9 < x
      · rw [if_pos c]; omega
      · rw [if_neg c]; omega
theorem dg_ld {y : Nat} (h1 : 10 ≤ y) (h2 : y ≤ 9999) : dg_l (y / 10) + 1 = dg_l y := by
  unfold dg_l
  rw [if_neg (show ¬ 999 < y / 10 by omega)]
  by_cases a : 999 < y
  · rw [if_pos a, if_pos (show 99 < y / 10 by omega)]
  · rw [if_neg a, if_neg (show ¬ 99 < y / 10 by omega)]
    by_cases b : 99 < y
    · rw [if_pos b, if_pos (show 9 < y / 10 by omega)]
    · rw [if_neg b, if_neg (show ¬ 9 < y / 10 by omega), if_pos (show 9 < y by omega)]
theorem dg_l1 {y : Nat} : 2 ≤ dg_l y ↔ 10 ≤ y := by
  unfold dg_l
  by_cases a : 999 < y
  · rw [if_pos a]; omega
  · rw [if_neg a]
    by_cases b : 99 < y
    · rw [if_pos b]; omega
    · rw [if_neg b]
      by_cases c : 9 < y
      · rw [if_pos c]; omega
      · rw [if_neg c]; omega
theorem dg_dl {x : Nat} (h1 : 1 ≤ x) (h2 : x ≤ 9999) : ∀ k, k < dg_l x → dg_l (dg_d k x) + k = dg_l x ∧ 1 ≤ dg_d k x ∧ dg_d k x ≤ 9999 := by
  intro k
  induction k with
  | zero => intro _; exact ⟨rfl, h1, h2⟩
  | succ k ih =>
    intro hk
    obtain ⟨a, b, c⟩ := ih (by omega)
    have h10 : 10 ≤ dg_d k x := dg_l1.mp (by omega)
    have := dg_ld h10 c
    show dg_l (dg_d k x / 10) + (k + 1) = dg_l x ∧ 1 ≤ dg_d k x / 10 ∧ dg_d k x / 10 ≤ 9999
    omega
theorem dg_d0 {x : Nat} (h1 : 1 ≤ x) (h2 : x ≤ 9999) : dg_d (dg_l x) x = 0 := by
  have hl := dg_lr x
  obtain ⟨k, hk⟩ : ∃ k, dg_l x = k + 1 := ⟨dg_l x - 1, by omega⟩
  obtain ⟨a, b, c⟩ := dg_dl h1 h2 k (by omega)
  rw [hk]
  show dg_d k x / 10 = 0
  have : ¬ 10 ≤ dg_d k x := fun z => by
    have := dg_l1.mpr z
    omega
  omega
theorem dg_bl {x n : Nat} (h1 : 1 ≤ x) (h2 : x ≤ 9999) (hn : 1 ≤ n) (hn2 : n ≤ dg_l x) : dg_l (dg_b x n) = n ∧ 1 ≤ dg_b x n ∧ dg_b x n ≤ 9999 := by
  obtain ⟨a, b, c⟩ := dg_dl h1 h2 (dg_l x - n) (by omega)
  unfold dg_b
  exact ⟨by omega, b, c⟩
theorem dg_bs {x n : Nat} (hn2 : n < dg_l x) : dg_b x n = dg_b x (n + 1) / 10 := by
  unfold dg_b
  rw [show dg_l x - n = (dg_l x - (n + 1)) + 1 by omega]
  rfl
theorem dg_bL (x : Nat) : dg_b x (dg_l x) = x := by
  unfold dg_b
  rw [Nat.sub_self]
  rfl
/-- alike ahead: alike in all that is shorter -/
theorem dg_dn {x y m : Nat} (hx : m ≤ dg_l x) (hy : m ≤ dg_l y) (e : dg_b x m = dg_b y m) : ∀ k, k ≤ m → dg_b x (m - k) = dg_b y (m - k) := by
  intro k
  induction k with
  | zero => intro _; exact e
  | succ k ih =>
    intro hk
    have h := ih (by omega)
    rw [dg_bs (x := x) (n := m - (k + 1)) (by omega), dg_bs (x := y) (n := m - (k + 1)) (by omega), show m - (k + 1) + 1 = m - k by omega, h]
/-- how many first letters two have in common -/
def dg_S (x y s : Nat) : Prop := s ≤ dg_l x ∧ s ≤ dg_l y ∧ (∀ n, 1 ≤ n → n ≤ s → dg_b x n = dg_b y n) ∧ (s < dg_l x → s < dg_l y → ¬ dg_b x (s + 1) = dg_b y (s + 1))
theorem dg_fS {x y s : Nat} (x1 : 1 ≤ x) (x2 : x ≤ 9999) (y1 : 1 ≤ y) (y2 : y ≤ 9999) (hne : ¬ x = y) (S : dg_S x y s) {m : Nat} (hm : 1 ≤ m) : dg_f x m = dg_f y m ↔ m ≤ s := by
  obtain ⟨s1, s2, s3, s4⟩ := S
  unfold dg_f
  constructor
  · intro e
    by_cases hx : dg_l x < m
    · rw [if_pos hx] at e
      by_cases hy : dg_l y < m
      · rw [if_pos hy] at e
        omega
      · rw [if_neg hy] at e
        have := (dg_bl y1 y2 hm (by omega)).2.2
        omega
    · rw [if_neg hx] at e
      by_cases hy : dg_l y < m
      · rw [if_pos hy] at e
        have := (dg_bl x1 x2 hm (by omega)).2.2
        omega
      · rw [if_neg hy] at e
        apply Classical.byContradiction
        intro hs
        have := dg_dn (x := x) (y := y) (m := m) (by omega) (by omega) e (m - (s + 1)) (by omega)
        rw [show m - (m - (s + 1)) = s + 1 by omega] at this
        exact s4 (by omega) (by omega) this
  · intro e
    rw [if_neg (by omega), if_neg (by omega)]
    exact s3 m hm e
theorem dg_lc {x : Nat} (hx : x < 2 ^ 31) : xm_letterCount (nI x) = nI (dg_l x) := by
  unfold xm_letterCount dg_l
  by_cases a : 999 < x
  · rw [if_pos a, if_pos (show (999 : Int32) < nI x from nI_lt (a := 999) a hx)]
    rfl
  · rw [if_neg a, if_neg (show ¬ (999 : Int32) < nI x from nI_nlt (a := 999) (by omega) (by omega))]
    by_cases b : 99 < x
    · rw [if_pos b, if_pos (show (99 : Int32) < nI x from nI_lt (a := 99) b hx)]
      rfl
    · rw [if_neg b, if_neg (show ¬ (99 : Int32) < nI x from nI_nlt (a := 99) (by omega) (by omega))]
      by_cases c : 9 < x
      · rw [if_pos c, if_pos (show (9 : Int32) < nI x from nI_lt (a := 9) c hx)]
        rfl
      · rw [if_neg c, if_neg (show ¬ (9 : Int32) < nI x from nI_nlt (a := 9) (by omega) (by omega))]
        rfl
theorem dg_lm (x : Int32) : m_lettersOf x = xm_letterCount x := rfl
theorem dg_dle (x : Nat) : ∀ k, dg_d k x ≤ x := by
  intro k
  induction k with
  | zero => exact Nat.le_refl _
  | succ k ih =>
    show dg_d k x / 10 ≤ x
    omega
/-- the letters cut off, as a loop -/
theorem dg_cut {x n : Nat} (hx : x < 2 ^ 31) (hn31 : n < 2 ^ 31) : am_loop (fun (s3 : Int32 × Int32) => ((
    if nI n < s3.2 then (
      am_let ((s3.1 / 10) : Int32) fun t4 =>
      am_let (s3.2 + (-1) : Int32) fun t5 =>
      some (.inl (t4, t5)))
    else (
      some (.inr s3.1))) : Option ((Int32 × Int32) ⊕ (Int32)))) am_F (nI x, nI (dg_l x)) = some (nI (dg_b x n)) := by
  have hl := dg_lr x
  refine pu_for (fun k => (nI (dg_d k x), nI (dg_l x - k))) (dg_l x - n) rfl (fun k hk => ?_) ?_
  · have hd := dg_dle x k
    dsimp only
    rw [if_pos (nI_lt (by omega) (by omega)), pu_letE, pu_letE, show (10 : Int32) = nI 10 from rfl, pk_div (by omega) (by omega) (by omega), show dg_l x - k = (dg_l x - (k + 1)) + 1 by omega, pk_m1]
    rfl
  · dsimp only
    by_cases h : n ≤ dg_l x
    · rw [show dg_l x - (dg_l x - n) = n by omega, if_neg (nI_nlt (Nat.le_refl _) (by omega))]
      rfl
    · have e : dg_l x - n = 0 := by omega
      have hn : ¬ nI n < nI (dg_l x - (dg_l x - n)) := by
        rw [e, Nat.sub_zero]
        exact nI_nlt (by omega) hn31
      rw [if_neg hn]
      rfl
