def fd_u (A N : Nat) (M : Nat) (n0 : Nat) (b : Nat → Int32) (f : Nat → Nat → Int32) : Nat → Nat → Nat → Int32
  | 0 => f
  | j + 1 => am_up (am_up (fd_u A N M n0 b f j) A (n0 + j) (b j)) N M (nI (n0 + j + 1))
def fd_w (a0 a1 a2 a3 a4 : Int32) (j : Nat) : Int32 := if j < 4 then a0 else if j < 8 then a1 else if j < 12 then a2 else if j < 16 then a3 else a4
def fd_b (a0 a1 a2 a3 a4 : Int32) (j : Nat) : Int32 := ((fd_w a0 a1 a2 a3 a4 j).toUInt32 >>> (nI (24 - 8 * (j % 4))).toUInt32).toInt32 &&& 255
theorem fd_n {A N M n0 : Nat} {b : Nat → Int32} {f : Nat → Nat → Int32} (e : f N M = nI n0) : ∀ j, fd_u A N M n0 b f j N M = nI (n0 + j) := by
  intro j
  cases j with
  | zero => exact e
  | succ j =>
    show am_up _ N M _ N M = _
    rw [pu_up_row, pu_upd_eq]
    rfl
theorem fd_ne {A N M n0 : Nat} {b : Nat → Int32} {f : Nat → Nat → Int32} : ∀ j a, a ≠ A → a ≠ N → fd_u A N M n0 b f j a = f a := by
  intro j
  induction j with
  | zero => exact fun a _ _ => rfl
  | succ j ih =>
    intro a h1 h2
    show am_up (am_up _ _ _ _) _ _ _ a = _
    rw [pu_up_ne _ _ h2, pu_up_ne _ _ h1]
    exact ih a h1 h2
theorem fd_N {A N M n0 : Nat} {b : Nat → Int32} {f : Nat → Nat → Int32} (hAN : N ≠ A) : ∀ j m, m ≠ M → fd_u A N M n0 b f j N m = f N m := by
  intro j
  induction j with
  | zero => exact fun m _ => rfl
  | succ j ih =>
    intro m h1
    show am_up (am_up _ _ _ _) _ _ _ N m = _
    rw [pu_up_row, pu_upd_ne _ _ h1, pu_up_ne _ _ hAN]
    exact ih m h1
theorem fd_A {A N M n0 : Nat} {b : Nat → Int32} {f : Nat → Nat → Int32} (hAN : A ≠ N) : ∀ j i, fd_u A N M n0 b f j A i = if n0 ≤ i ∧ i < n0 + j then b (i - n0) else f A i := by
  intro j
  induction j with
  | zero =>
    intro i
    rw [if_neg (by omega)]
    rfl
  | succ j ih =>
    intro i
    show am_up (am_up _ _ _ _) _ _ _ A i = _
    rw [pu_up_ne _ _ hAN, pu_up_row]
    by_cases h : i = n0 + j
    · subst h
      rw [pu_upd_eq, if_pos (by omega), Nat.add_sub_cancel_left]
    · rw [pu_upd_ne _ _ h, ih]
      by_cases h2 : n0 ≤ i ∧ i < n0 + j
      · rw [if_pos h2, if_pos (by omega)]
      · rw [if_neg h2, if_neg (by omega)]
theorem fd_s1 : ∀ i, i < 4 → ¬ ((24 : Int32) - nI (8 * i) < 0) ∧ ((24 : Int32) - nI (8 * i) + (-8) = 24 - nI (8 * (i + 1))) ∧ ((24 : Int32) - nI (8 * i)).toUInt32 &&& Int32.toUInt32 31 = (nI (24 - 8 * i)).toUInt32 := by decide
theorem fd_put {n0 : Nat} {b : Nat → Int32} {f : Nat → Nat → Int32} (e : f 123 0 = nI n0) (k : Nat) (w : Int32) (hk : n0 + 4 * k + 4 ≤ 400) (hb : ∀ i, i < 4 → b (4 * k + i) = (w.toUInt32 >>> (nI (24 - 8 * i)).toUInt32).toInt32 &&& 255) : xt_put w (fd_u 124 123 0 n0 b f (4 * k)) = some (fd_u 124 123 0 n0 b f (4 * k + 4)) := by
  unfold xt_put
  refine pu_for (fun i => ((24 : Int32) - nI (8 * i), fd_u 124 123 0 n0 b f (4 * k + i))) 4 rfl ?_ ?_
  · intro i hi
    obtain ⟨s1, s2, s3⟩ := fd_s1 i hi
    dsimp only
    rw [if_neg s1, if_pos (show fd_u 124 123 0 n0 b f (4 * k + i) 123 0 < (400 : Int32) from by rw [fd_n e]; exact nI_lt (b := 400) (by omega) (by omega)), if_pos (show am_in (fd_u 124 123 0 n0 b f (4 * k + i) 123 0) 400 = true from by rw [fd_n e]; exact pu_in (by omega) (by omega)), pu_letE, pu_letE, pu_letE, s2, s3, ← hb i hi, pu_up_ne _ _ (show (123 : Nat) ≠ 124 by decide), fd_n e, nI_1, nI_clamp (by omega)]
    rfl
  · dsimp only
    rw [if_pos (by decide)]
