/-! NUMBERS, GUARDS, LOOPS: what the pure texts are worked with -/
theorem pu_lit (n : Nat) : (@OfNat.ofNat Int32 n Int32.instOfNat) = nI n := rfl
theorem pu_in {a N : Nat} (h : a < N) (hN : N ≤ 2 ^ 31) : am_in (nI a) N = true := by
  unfold am_in
  rw [nI_clamp (Nat.lt_of_lt_of_le h hN)]
  simp only [Bool.and_eq_true, decide_eq_true_eq]
  exact ⟨nI_pos (Nat.lt_of_lt_of_le h hN), h⟩
theorem pu_in_of {x : Int32} {N : Nat} (h : am_in x N = true) : ∃ a, a < N ∧ a < 2 ^ 31 ∧ x = nI a := by
  unfold am_in at h
  simp only [Bool.and_eq_true, decide_eq_true_eq] at h
  obtain ⟨a, ha, rfl⟩ := nI_of h.1
  rw [nI_clamp ha] at h
  exact ⟨a, h.2, ha, rfl⟩
theorem pu_neg1 {a : Nat} (h : a < 2 ^ 31) : ¬ nI a = -1 := by
  intro e
  have := congrArg Int32.toInt e
  rw [nI_toInt h] at this
  have e2 : (-1 : Int32).toInt = -1 := by decide
  rw [e2] at this
  omega
theorem pu_neg1' {a : Nat} (h : a < 2 ^ 31) : ¬ (-1 : Int32) = nI a := fun e => pu_neg1 h e.symm
theorem pu_m1lt {a : Nat} (h : a < 2 ^ 31) : (-1 : Int32) < nI a := by
  rw [Int32.lt_iff_toInt_lt, nI_toInt h, show (-1 : Int32).toInt = -1 from by decide]
  omega
theorem pu_nltm1 {a : Nat} (h : a < 2 ^ 31) : ¬ nI a < (-1 : Int32) := by
  rw [Int32.lt_iff_toInt_lt, nI_toInt h, show (-1 : Int32).toInt = -1 from by decide]
  omega
theorem pu_nIinj {a b : Nat} (ha : a < 2 ^ 31) (hb : b < 2 ^ 31) (h : nI a = nI b) : a = b := (nI_eq ha hb).mp h
/-- a number is below 0, or one of ours -/
theorem pu_cases (x : Int32) : x < 0 ∨ ∃ a, a < 2 ^ 31 ∧ x = nI a := by
  by_cases h : x < 0
  · exact Or.inl h
  · exact Or.inr (nI_of h)
theorem pu_within {x : Int32} {a b : Nat} (hb : b < 2 ^ 31) : x_within x (nI a) (nI b) = true → a < 2 ^ 31 → ∃ n, a ≤ n ∧ n ≤ b ∧ x = nI n := by
  intro h ha
  unfold x_within at h
  by_cases h1 : x < nI a
  · rw [if_pos h1] at h; cases h
  · rw [if_neg h1] at h
    by_cases h2 : nI b < x
    · rw [if_pos h2] at h; cases h
    · rw [Int32.lt_iff_toInt_lt, nI_toInt ha] at h1
      rw [Int32.lt_iff_toInt_lt, nI_toInt hb] at h2
      have h3 : ¬ x < 0 := by
        rw [Int32.lt_iff_toInt_lt, show (0 : Int32).toInt = 0 from by decide]
        omega
      obtain ⟨n, hn, rfl⟩ := nI_of h3
      rw [nI_toInt hn] at h1 h2
      exact ⟨n, by omega, by omega, rfl⟩
theorem pu_within_t {n a b : Nat} (h1 : a ≤ n) (h2 : n ≤ b) (hb : b < 2 ^ 31) : x_within (nI n) (nI a) (nI b) = true := by
  unfold x_within
  rw [if_neg (nI_nlt h1 (by omega)), if_neg (nI_nlt h2 hb)]
theorem pu_isIn (a b c : Int32) : m_isIn a b c = x_within a b c := rfl
/-! cells -/
theorem pu_up_row (f : Nat → Nat → Int32) (a j : Nat) (v : Int32) : am_up f a j v a = upd (f a) j v := by
  unfold am_up am_row
  rw [if_pos rfl]
theorem pu_up_ne (f : Nat → Nat → Int32) {a j b : Nat} (v : Int32) (h : b ≠ a) : am_up f a j v b = f b := by
  unfold am_up am_row
  rw [if_neg h]
theorem pu_cp_row (f : Nat → Nat → Int32) (k sp m dp n : Nat) : am_cp f k sp m dp n m = va_cpy (f k) (f m) sp dp n := by
  unfold am_cp am_row
  rw [if_pos rfl]
theorem pu_cp_ne (f : Nat → Nat → Int32) {k sp m dp n b : Nat} (h : b ≠ m) : am_cp f k sp m dp n b = f b := by
  unfold am_cp am_row
  rw [if_neg h]
theorem pu_upd_eq (g : Nat → Int32) (j : Nat) (v : Int32) : upd g j v j = v := by
  unfold upd
  rw [if_pos rfl]
theorem pu_upd_ne (g : Nat → Int32) {j k : Nat} (v : Int32) (h : k ≠ j) : upd g j v k = g k := by
  unfold upd
  rw [if_neg h]
theorem pu_upd_self (g : Nat → Int32) (j : Nat) : upd g j (g j) = g := by
  funext k
  unfold upd
  by_cases h : k = j
  · subst h; rw [if_pos rfl]
  · rw [if_neg h]
theorem pu_upd_upd (g : Nat → Int32) (j : Nat) (v w : Int32) : upd (upd g j v) j w = upd g j w := by
  funext k
  unfold upd
  by_cases h : k = j
  · rw [if_pos h, if_pos h]
  · rw [if_neg h, if_neg h, if_neg h]
theorem pu_upd_comm (g : Nat → Int32) {j k : Nat} (v w : Int32) (h : j ≠ k) : upd (upd g j v) k w = upd (upd g k w) j v := by
  funext q
  unfold upd
  by_cases h1 : q = k
  · subst h1
    rw [if_pos rfl, if_neg (Ne.symm h), if_pos rfl]
  · by_cases h2 : q = j
    · subst h2
      rw [if_neg h1, if_pos rfl, if_pos rfl]
    · rw [if_neg h1, if_neg h2, if_neg h2, if_neg h1]
theorem pu_cpy_in {f g : Nat → Int32} {n j : Nat} (h : j < n) : va_cpy f g 0 0 n j = f j := by
  unfold va_cpy
  rw [if_pos ⟨Nat.zero_le _, by omega⟩]
  congr 1
  omega
/-! options -/
theorem pu_bs {α β : Type} (a : α) (k : α → Option β) : (some a).bind k = k a := rfl
theorem pu_let {α β : Type} (a : α) (k : α → β) : am_let a k = k a := rfl
/-! loops -/
theorem pu_loop_inl {S E : Type} {f : S → Option (S ⊕ E)} {n : Nat} {s s' : S} (h : f s = some (.inl s')) : am_loop f (n + 1) s = am_loop f n s' := by
  show (f s).bind _ = _
  rw [h]
  rfl
theorem pu_loop_inr {S E : Type} {f : S → Option (S ⊕ E)} {n : Nat} {s : S} {e : E} (h : f s = some (.inr e)) : am_loop f (n + 1) s = some e := by
  show (f s).bind _ = _
  rw [h]
  rfl
/-- n steps along a told row of states, then the end -/
theorem pu_for_aux {S E : Type} {f : S → Option (S ⊕ E)} {st : Nat → S} {e : E} (n : Nat) : ∀ (k F : Nat), k ≤ n → k < F → (∀ i, n - k ≤ i → i < n → f (st i) = some (.inl (st (i + 1)))) → f (st n) = some (.inr e) → am_loop f F (st (n - k)) = some e := by
  intro k
  induction k with
  | zero =>
    intro F _ hF _ he
    obtain ⟨F', rfl⟩ : ∃ F', F = F' + 1 := ⟨F - 1, by omega⟩
    exact pu_loop_inr he
  | succ k ih =>
    intro F hk hF hs he
    obtain ⟨F', rfl⟩ : ∃ F', F = F' + 1 := ⟨F - 1, by omega⟩
    rw [pu_loop_inl (hs (n - (k + 1)) (Nat.le_refl _) (by omega)), show n - (k + 1) + 1 = n - k by omega]
    exact ih F' (by omega) (by omega) (fun i h1 h2 => hs i (by omega) h2) he
theorem pu_for {S E : Type} {f : S → Option (S ⊕ E)} (st : Nat → S) (n : Nat) {e : E} {s0 : S} (h0 : s0 = st 0) (hs : ∀ i, i < n → f (st i) = some (.inl (st (i + 1)))) (he : f (st n) = some (.inr e)) (hn : n < 1000000 := by omega) : am_loop f am_F s0 = some e := by
  subst h0
  have := pu_for_aux (f := f) (st := st) (e := e) n n am_F (Nat.le_refl _) hn (fun i _ h2 => hs i h2) he
  rw [Nat.sub_self] at this
  exact this
/-- a loop by an invariant and a measure -/
theorem pu_inv {S E : Type} {f : S → Option (S ⊕ E)} (I : S → Prop) (Z : E → Prop) (μ : S → Nat) (hs : ∀ s, I s → (∃ s', f s = some (.inl s') ∧ I s' ∧ μ s' < μ s) ∨ (∃ e, f s = some (.inr e) ∧ Z e)) : ∀ (F : Nat) (s : S), I s → μ s < F → ∃ e, am_loop f F s = some e ∧ Z e := by
  intro F
  induction F with
  | zero => intro s _ h; omega
  | succ F ih =>
    intro s hI hμ
    rcases hs s hI with ⟨s', h1, h2, h3⟩ | ⟨e, h1, h2⟩
    · obtain ⟨e, he, hz⟩ := ih s' h2 (by omega)
      exact ⟨e, by rw [pu_loop_inl h1]; exact he, hz⟩
    · exact ⟨e, pu_loop_inr h1, h2⟩
/-- two loops side by side -/
theorem pu_two_aux {S T E E' : Type} {f : S → Option (S ⊕ E)} {g : T → Option (T ⊕ E')} (R : Nat → S → T → Prop) (Z : E → E' → Prop) (n : Nat)
    (hs : ∀ i s t, i < n → R i s t → (∃ s' t', f s = some (.inl s') ∧ g t = some (.inl t') ∧ R (i + 1) s' t') ∨ (∃ e e', f s = some (.inr e) ∧ g t = some (.inr e') ∧ Z e e'))
    (he : ∀ s t, R n s t → ∃ e e', f s = some (.inr e) ∧ g t = some (.inr e') ∧ Z e e') : ∀ (k F : Nat) (s : S) (t : T), k ≤ n → k < F → R (n - k) s t → ∃ e e', am_loop f F s = some e ∧ am_loop g F t = some e' ∧ Z e e' := by
  intro k
  induction k with
  | zero =>
    intro F s t _ hF hR
    obtain ⟨F', rfl⟩ : ∃ F', F = F' + 1 := ⟨F - 1, by omega⟩
    obtain ⟨e, e', h1, h2, h3⟩ := he s t hR
    exact ⟨e, e', pu_loop_inr h1, pu_loop_inr h2, h3⟩
  | succ k ih =>
    intro F s t hk hF hR
    obtain ⟨F', rfl⟩ : ∃ F', F = F' + 1 := ⟨F - 1, by omega⟩
    rcases hs (n - (k + 1)) s t (by omega) hR with ⟨s', t', h1, h2, h3⟩ | ⟨e, e', h1, h2, h3⟩
    · rw [show n - (k + 1) + 1 = n - k by omega] at h3
      obtain ⟨e, e', g1, g2, g3⟩ := ih F' s' t' (by omega) (by omega) h3
      exact ⟨e, e', by rw [pu_loop_inl h1]; exact g1, by rw [pu_loop_inl h2]; exact g2, g3⟩
    · exact ⟨e, e', pu_loop_inr h1, pu_loop_inr h2, h3⟩
theorem pu_two {S T E E' : Type} {f : S → Option (S ⊕ E)} {g : T → Option (T ⊕ E')} (R : Nat → S → T → Prop) (Z : E → E' → Prop) (n : Nat) {s : S} {t : T} (h0 : R 0 s t)
    (hs : ∀ i s t, i < n → R i s t → (∃ s' t', f s = some (.inl s') ∧ g t = some (.inl t') ∧ R (i + 1) s' t') ∨ (∃ e e', f s = some (.inr e) ∧ g t = some (.inr e') ∧ Z e e'))
    (he : ∀ s t, R n s t → ∃ e e', f s = some (.inr e) ∧ g t = some (.inr e') ∧ Z e e') (hn : n < 1000000 := by omega) : ∃ e e', am_loop f am_F s = some e ∧ am_loop g am_F t = some e' ∧ Z e e' :=
  pu_two_aux R Z n hs he n am_F s t (Nat.le_refl _) hn (by rw [Nat.sub_self]; exact h0)
/-- one loop, by an invariant that counts -/
theorem pu_one_aux {S E : Type} {f : S → Option (S ⊕ E)} (R : Nat → S → Prop) (Z : E → Prop) (n : Nat)
    (hs : ∀ i s, i < n → R i s → (∃ s', f s = some (.inl s') ∧ R (i + 1) s') ∨ (∃ e, f s = some (.inr e) ∧ Z e))
    (he : ∀ s, R n s → ∃ e, f s = some (.inr e) ∧ Z e) : ∀ (k F : Nat) (s : S), k ≤ n → k < F → R (n - k) s → ∃ e, am_loop f F s = some e ∧ Z e := by
  intro k
  induction k with
  | zero =>
    intro F s _ hF hR
    obtain ⟨F', rfl⟩ : ∃ F', F = F' + 1 := ⟨F - 1, by omega⟩
    obtain ⟨e, h1, h3⟩ := he s hR
    exact ⟨e, pu_loop_inr h1, h3⟩
  | succ k ih =>
    intro F s hk hF hR
    obtain ⟨F', rfl⟩ : ∃ F', F = F' + 1 := ⟨F - 1, by omega⟩
    rcases hs (n - (k + 1)) s (by omega) hR with ⟨s', h1, h3⟩ | ⟨e, h1, h3⟩
    · rw [show n - (k + 1) + 1 = n - k by omega] at h3
      obtain ⟨e, g1, g3⟩ := ih F' s' (by omega) (by omega) h3
      exact ⟨e, by rw [pu_loop_inl h1]; exact g1, g3⟩
    · exact ⟨e, pu_loop_inr h1, h3⟩
theorem pu_one {S E : Type} {f : S → Option (S ⊕ E)} (R : Nat → S → Prop) (Z : E → Prop) (n : Nat) {s : S} (h0 : R 0 s)
    (hs : ∀ i s, i < n → R i s → (∃ s', f s = some (.inl s') ∧ R (i + 1) s') ∨ (∃ e, f s = some (.inr e) ∧ Z e))
    (he : ∀ s, R n s → ∃ e, f s = some (.inr e) ∧ Z e) (hn : n < 1000000 := by omega) : ∃ e, am_loop f am_F s = some e ∧ Z e :=
  pu_one_aux R Z n hs he n am_F s (Nat.le_refl _) hn (by rw [Nat.sub_self]; exact h0)
