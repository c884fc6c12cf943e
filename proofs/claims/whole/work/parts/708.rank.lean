/-! SHOW: the rank, and how many ways there are to lay nothing -/
def rk_s (B : Nat → Nat) (n u : Nat) : Nat := if u.testBit n = true then u ^^^ B n else u
def rk_r (B : Nat → Nat) : Nat → Nat → Nat
  | 0, u => u
  | n + 1, u => rk_r B n (rk_s B n u)
def rk_p (B : Nat → Nat) : Nat → Nat → Nat
  | 0, u => u
  | k + 1, u => rk_s B (15 - k) (rk_p B k u)
theorem rk_xx (a b c : Nat) : (a ^^^ b) ^^^ (c ^^^ b) = a ^^^ c := by
  rw [Nat.xor_comm c b, Nat.xor_assoc, ← Nat.xor_assoc b b c, Nat.xor_self, Nat.zero_xor]
theorem rk_sl (B : Nat → Nat) (n u v : Nat) : rk_s B n (u ^^^ v) = rk_s B n u ^^^ rk_s B n v := by
  unfold rk_s
  rw [Nat.testBit_xor]
  cases hu : u.testBit n <;> cases hv : v.testBit n
  · simp
  · simp [Nat.xor_assoc]
  · simp only [Bool.xor_false, if_true, Bool.false_eq_true, if_false]
    rw [Nat.xor_assoc, Nat.xor_comm v (B n), ← Nat.xor_assoc]
  · simp only [Bool.xor_self, Bool.false_eq_true, if_false, if_true]
    exact (rk_xx u (B n) v).symm
theorem rk_rl (B : Nat → Nat) : ∀ n u v, rk_r B n (u ^^^ v) = rk_r B n u ^^^ rk_r B n v := by
  intro n
  induction n with
  | zero => intro u v; rfl
  | succ n ih =>
    intro u v
    show rk_r B n (rk_s B n (u ^^^ v)) = _
    rw [rk_sl, ih]
    rfl
theorem rk_pl (B : Nat → Nat) : ∀ n u v, rk_p B n (u ^^^ v) = rk_p B n u ^^^ rk_p B n v := by
  intro n
  induction n with
  | zero => intro u v; rfl
  | succ n ih =>
    intro u v
    show rk_s B (15 - n) (rk_p B n (u ^^^ v)) = _
    rw [ih, rk_sl]
    rfl
theorem rk_rp (B : Nat → Nat) (v : Nat) : ∀ k, k ≤ 16 → rk_r B 16 v = rk_r B (16 - k) (rk_p B k v) := by
  intro k
  induction k with
  | zero => intro _; rfl
  | succ k ih =>
    intro h
    rw [ih (by omega), show 16 - k = (16 - (k + 1)) + 1 by omega]
    show rk_r B (16 - (k + 1)) (rk_s B (16 - (k + 1)) (rk_p B k v)) = rk_r B (16 - (k + 1)) (rk_s B (15 - k) (rk_p B k v))
    rw [show 16 - (k + 1) = 15 - k by omega]
theorem rk_r0 (B : Nat → Nat) : ∀ n, rk_r B n 0 = 0 := by
  intro n
  induction n with
  | zero => rfl
  | succ n ih =>
    show rk_r B n (rk_s B n 0) = 0
    have : rk_s B n 0 = 0 := by
      unfold rk_s
      rw [Nat.zero_testBit, if_neg (by decide)]
    rw [this, ih]
theorem rk_pcg {B B' : Nat → Nat} {n : Nat} (h : ∀ b, n < b → B' b = B b) (v : Nat) : ∀ k, k ≤ 15 - n → rk_p B' k v = rk_p B k v := by
  intro k
  induction k with
  | zero => intro _; rfl
  | succ k ih =>
    intro hk
    show rk_s B' (15 - k) (rk_p B' k v) = rk_s B (15 - k) (rk_p B k v)
    rw [ih (by omega)]
    unfold rk_s
    rw [h (15 - k) (by omega)]
theorem rk_rcg {B B' : Nat → Nat} : ∀ n u, (∀ b, b < n → B' b = B b) → rk_r B' n u = rk_r B n u := by
  intro n
  induction n with
  | zero => intro u _; rfl
  | succ n ih =>
    intro u h
    show rk_r B' n (rk_s B' n u) = rk_r B n (rk_s B n u)
    have : rk_s B' n u = rk_s B n u := by
      unfold rk_s
      rw [h n (by omega)]
    rw [this, ih _ (fun b hb => h b (by omega))]
/-- the rows: none, or with their own bit the highest -/
def rk_W (B : Nat → Nat) : Prop := ∀ b, B b < 2 ^ (b + 1) ∧ (B b = 0 ∨ (B b).testBit b = true)
theorem rk_hi {B : Nat → Nat} (W : rk_W B) {m : Nat} : ∀ n, n ≤ m → ∀ u, (rk_r B n u).testBit m = u.testBit m := by
  intro n
  induction n with
  | zero => intro _ u; rfl
  | succ n ih =>
    intro h u
    show (rk_r B n (rk_s B n u)).testBit m = _
    rw [ih (by omega)]
    unfold rk_s
    by_cases c : u.testBit n = true
    · rw [if_pos c, Nat.testBit_xor, Nat.testBit_lt_two_pow (Nat.lt_of_lt_of_le (W n).1 (Nat.pow_le_pow_right (by decide) h)), Bool.xor_false]
    · rw [if_neg c]
theorem rk_x2 {a b n : Nat} (ha : a < 2 ^ (n + 1)) (hb : b < 2 ^ (n + 1)) (ta : a.testBit n = true) (tb : b.testBit n = true) : a ^^^ b < 2 ^ n := by
  refine Nat.lt_pow_two_of_testBit _ fun i hi => ?_
  rw [Nat.testBit_xor]
  by_cases h : i = n
  · rw [h, ta, tb]
    rfl
  · rw [Nat.testBit_lt_two_pow (Nat.lt_of_lt_of_le ha (Nat.pow_le_pow_right (by decide) (by omega))), Nat.testBit_lt_two_pow (Nat.lt_of_lt_of_le hb (Nat.pow_le_pow_right (by decide) (by omega)))]
    rfl
theorem rk_nb {a n : Nat} (ha : a < 2 ^ (n + 1)) (ta : ¬ a.testBit n = true) : a < 2 ^ n := by
  refine Nat.lt_pow_two_of_testBit _ fun i hi => ?_
  by_cases h : i = n
  · rw [h]
    simpa using ta
  · exact Nat.testBit_lt_two_pow (Nat.lt_of_lt_of_le ha (Nat.pow_le_pow_right (by decide) (by omega)))
/-- a row put in -/
def rk_u (B : Nat → Nat) (n y : Nat) : Nat → Nat := fun b => if b = n then y else B b
theorem rk_uW {B : Nat → Nat} (W : rk_W B) {n y : Nat} (h1 : y < 2 ^ (n + 1)) (h2 : y.testBit n = true) : rk_W (rk_u B n y) := by
  intro b
  unfold rk_u
  by_cases h : b = n
  · rw [if_pos h, h]
    exact ⟨h1, Or.inr h2⟩
  · rw [if_neg h]
    exact W b
theorem rk_ins {B : Nat → Nat} (W : rk_W B) {n x : Nat} (hn : n ≤ 15) (h0 : B n = 0) (h1 : rk_p B (15 - n) x < 2 ^ (n + 1)) (h2 : (rk_p B (15 - n) x).testBit n = true) : (¬ rk_r B 16 x = 0) ∧ ∀ v, (rk_r (rk_u B n (rk_p B (15 - n) x)) 16 v = 0 ↔ (rk_r B 16 v = 0 ∨ rk_r B 16 (v ^^^ x) = 0)) := by
  have s0 : ∀ w, rk_s B n w = w := fun w => by
    unfold rk_s
    rw [h0, Nat.xor_zero]
    by_cases c : w.testBit n = true
    · rw [if_pos c]
    · rw [if_neg c]
  have R : ∀ v, rk_r B 16 v = rk_r B n (rk_p B (15 - n) v) := fun v => by
    rw [rk_rp B v (15 - n) (by omega), show 16 - (15 - n) = n + 1 by omega]
    show rk_r B n (rk_s B n (rk_p B (15 - n) v)) = _
    rw [s0]
  have R' : ∀ v, rk_r (rk_u B n (rk_p B (15 - n) x)) 16 v = if (rk_p B (15 - n) v).testBit n = true then rk_r B n (rk_p B (15 - n) v ^^^ rk_p B (15 - n) x) else rk_r B n (rk_p B (15 - n) v) := fun v => by
    rw [rk_rp _ v (15 - n) (by omega), show 16 - (15 - n) = n + 1 by omega, rk_pcg (B := B) (n := n) (fun b hb => by unfold rk_u; rw [if_neg (by omega)]) v (15 - n) (Nat.le_refl _)]
    show rk_r _ n (rk_s (rk_u B n (rk_p B (15 - n) x)) n (rk_p B (15 - n) v)) = _
    have es : rk_s (rk_u B n (rk_p B (15 - n) x)) n (rk_p B (15 - n) v) = if (rk_p B (15 - n) v).testBit n = true then rk_p B (15 - n) v ^^^ rk_p B (15 - n) x else rk_p B (15 - n) v := by
      unfold rk_s rk_u
      rw [if_pos rfl]
    rw [es, rk_rcg (B := B) n _ (fun b hb => by unfold rk_u; rw [if_neg (by omega)])]
    by_cases c : (rk_p B (15 - n) v).testBit n = true
    · rw [if_pos c, if_pos c]
    · rw [if_neg c, if_neg c]
  have Rx : ∀ v, rk_r B 16 (v ^^^ x) = rk_r B n (rk_p B (15 - n) v ^^^ rk_p B (15 - n) x) := fun v => by rw [R, rk_pl]
  have T : ∀ w, rk_r B n w = 0 → ¬ w.testBit n = true := fun w hw => by
    rw [← rk_hi W n (Nat.le_refl n) w, hw, Nat.zero_testBit]
    decide
  refine ⟨fun e => ?_, fun v => ?_⟩
  · rw [R] at e
    exact T _ e h2
  · rw [R', R, Rx]
    by_cases c : (rk_p B (15 - n) v).testBit n = true
    · rw [if_pos c]
      constructor
      · exact Or.inr
      · rintro (e | e)
        · exact absurd c (T _ e)
        · exact e
    · rw [if_neg c]
      constructor
      · exact Or.inl
      · rintro (e | e)
        · exact e
        · refine absurd ?_ (T _ e)
          rw [Nat.testBit_xor, h2]
          simpa using c
/-- what is laid by those chosen, and in how many ways -/
def rk_L (xs : Nat → Nat) : Nat → Nat → Nat
  | 0, _ => 0
  | i + 1, S => rk_L xs i S ^^^ (if S.testBit i = true then xs i else 0)
theorem rk_L_cg {xs : Nat → Nat} : ∀ i S S', (∀ j, j < i → S.testBit j = S'.testBit j) → rk_L xs i S = rk_L xs i S' := by
  intro i
  induction i with
  | zero => intro S S' _; rfl
  | succ i ih =>
    intro S S' h
    show rk_L xs i S ^^^ (if S.testBit i = true then xs i else 0) = rk_L xs i S' ^^^ (if S'.testBit i = true then xs i else 0)
    rw [ih S S' (fun j hj => h j (by omega)), h i (by omega)]
def rk_c (xs : Nat → Nat) (i v : Nat) : Nat := ((List.range (2 ^ i)).filter (fun S => rk_L xs i S == v)).length
theorem rk_xe (a b c : Nat) : (a ^^^ b == c) = (a == c ^^^ b) := by
  rw [Bool.eq_iff_iff]
  simp only [beq_iff_eq]
  constructor
  · intro e
    rw [← e, Nat.xor_assoc, Nat.xor_self, Nat.xor_zero]
  · intro e
    rw [e, Nat.xor_assoc, Nat.xor_self, Nat.xor_zero]
theorem rk_cs (xs : Nat → Nat) (i v : Nat) : rk_c xs (i + 1) v = rk_c xs i v + rk_c xs i (v ^^^ xs i) := by
  unfold rk_c
  have e2 : 2 ^ (i + 1) = 2 ^ i + 2 ^ i := by rw [Nat.pow_succ]; omega
  rw [e2, List.range_add, List.filter_append, List.filter_map, List.length_append, List.length_map]
  congr 1
  · congr 1
    refine List.filter_congr fun S hS => ?_
    have hS := List.mem_range.mp hS
    show (rk_L xs i S ^^^ (if S.testBit i = true then xs i else 0) == v) = _
    rw [Nat.testBit_lt_two_pow hS, if_neg (by decide), Nat.xor_zero]
  · congr 1
    refine List.filter_congr fun S hS => ?_
    have hS := List.mem_range.mp hS
    show (rk_L xs i (2 ^ i + S) ^^^ (if (2 ^ i + S).testBit i = true then xs i else 0) == v) = _
    rw [Nat.testBit_two_pow_add_eq, Nat.testBit_lt_two_pow hS, rk_L_cg i (2 ^ i + S) S (fun j hj => Nat.testBit_two_pow_add_gt hj S)]
    show (rk_L xs i S ^^^ xs i == v) = _
    exact rk_xe _ _ _
/-- the rows after i of them: rank r -/
def rk_I (xs : Nat → Nat) (i r : Nat) (B : Nat → Nat) : Prop := rk_W B ∧ r ≤ i ∧ ∀ v, rk_c xs i v = if rk_r B 16 v = 0 then 2 ^ (i - r) else 0
theorem rk_I0 (xs : Nat → Nat) : rk_I xs 0 0 (fun _ => 0) := by
  refine ⟨fun b => ⟨Nat.lt_of_lt_of_le (by decide : 0 < 2 ^ 0) (Nat.pow_le_pow_right (by decide) (by omega)), Or.inl rfl⟩, Nat.le_refl _, fun v => ?_⟩
  have e : ∀ n u, rk_r (fun _ => 0) n u = u := by
    intro n
    induction n with
    | zero => intro u; rfl
    | succ n ih =>
      intro u
      show rk_r (fun _ => 0) n (rk_s (fun _ => 0) n u) = u
      have : rk_s (fun _ => 0) n u = u := by
        unfold rk_s
        rw [Nat.xor_zero]
        by_cases c : u.testBit n = true
        · rw [if_pos c]
        · rw [if_neg c]
      rw [this, ih]
  rw [e]
  show ((List.range 1).filter (fun S => (0 : Nat) == v)).length = _
  by_cases h : v = 0
  · rw [if_pos h, h]
    rfl
  · rw [if_neg h]
    have : ((0 : Nat) == v) = false := by
      rw [beq_eq_false_iff_ne]
      exact fun z => h z.symm
    rw [this]
    rfl
theorem rk_Ia {xs : Nat → Nat} {i r : Nat} {B : Nat → Nat} (I : rk_I xs i r B) (hx : rk_r B 16 (xs i) = 0) : rk_I xs (i + 1) r B := by
  obtain ⟨W, hr, C⟩ := I
  refine ⟨W, by omega, fun v => ?_⟩
  rw [rk_cs, C, C, rk_rl, hx, Nat.xor_zero]
  by_cases c : rk_r B 16 v = 0
  · rw [if_pos c, if_pos c, show i + 1 - r = (i - r) + 1 by omega, Nat.pow_succ]
    omega
  · rw [if_neg c, if_neg c]
theorem rk_Ib {xs : Nat → Nat} {i r : Nat} {B : Nat → Nat} (I : rk_I xs i r B) {n : Nat} (hn : n ≤ 15) (h0 : B n = 0) (h1 : rk_p B (15 - n) (xs i) < 2 ^ (n + 1)) (h2 : (rk_p B (15 - n) (xs i)).testBit n = true) : rk_I xs (i + 1) (r + 1) (rk_u B n (rk_p B (15 - n) (xs i))) := by
  obtain ⟨W, hr, C⟩ := I
  obtain ⟨x0, x1⟩ := rk_ins W hn h0 h1 h2
  refine ⟨rk_uW W h1 h2, by omega, fun v => ?_⟩
  rw [rk_cs, C, C, show i + 1 - (r + 1) = i - r by omega]
  have hx := x1 v
  have hv : rk_r B 16 (v ^^^ xs i) = rk_r B 16 v ^^^ rk_r B 16 (xs i) := rk_rl B 16 v (xs i)
  by_cases c : rk_r B 16 v = 0
  · have c2 : ¬ rk_r B 16 (v ^^^ xs i) = 0 := fun e => by
      rw [hv, c, Nat.zero_xor] at e
      exact x0 e
    rw [if_pos c, if_neg c2, if_pos (hx.mpr (Or.inl c))]
    omega
  · rw [if_neg c]
    by_cases c2 : rk_r B 16 (v ^^^ xs i) = 0
    · rw [if_pos c2, if_pos (hx.mpr (Or.inr c2))]
      omega
    · rw [if_neg c2, if_neg (fun z => (hx.mp z).elim c c2)]
