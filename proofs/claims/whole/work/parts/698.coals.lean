/-! COALS -/
def nm (i : Nat) : Nat := rl_nim.getD i 0
def nm_s (n : Nat) : Nat → Nat
  | 0 => 0
  | j + 1 => nm_s n j ||| 2 ^ (nm (j + 1) ^^^ nm (n - (j + 1)))
def nm_S (n : Nat) : Nat := nm_s n ((n - 1) / 2)
theorem nm_le : ∀ i, i < 41 → nm i < 5 := by decide +kernel
theorem nm_x : ∀ x, x < 5 → ∀ y, y < 5 → (1 : Int32) <<< ((nI x ^^^ nI y) &&& 31) = nI (2 ^ (x ^^^ y)) := by decide
theorem nm_m : ∀ x, x < 5 → ∀ y, y < 5 → ((1 : Int32).toInt64) <<< ((nI x ^^^ nI y).toInt64 &&& 63) = lN (2 ^ (x ^^^ y)) := by decide
theorem nm_tz : (List.range 41).all (fun n => decide (ji_numberOfTrailingZeros (nI (nm_S n) ^^^ (-1)) = nI (nm n))) = true := by decide +kernel
theorem nm_bt : (List.range 41).all (fun n => (List.range (nm n)).all (fun k => decide ((am_lcmp ((lN (nm_S n) >>> ((nI k).toInt64 &&& 63)) &&& ((1 : Int32).toInt64)) ((1 : Int32).toInt64)) = 0)) && decide (¬ (am_lcmp ((lN (nm_S n) >>> ((nI (nm n)).toInt64 &&& 63)) &&& ((1 : Int32).toInt64)) ((1 : Int32).toInt64)) = 0)) = true := by decide +kernel
theorem nm_o : ∀ o, o < 8 → ∀ u, u < 5 → ∀ w, w < 5 → ((nI o ^^^ nI u) ^^^ nI w = 0 ↔ nI u ^^^ nI w = nI o) := by decide
theorem nm_or (a b : Nat) : nI a ||| nI b = nI (a ||| b) := by
  apply Int32.toBitVec_inj.mp
  rw [Int32.toBitVec_or]
  show BitVec.ofNat 32 a ||| BitVec.ofNat 32 b = BitVec.ofNat 32 (a ||| b)
  exact BitVec.ofNat_or.symm
theorem nm_orL (a b : Nat) : lN a ||| lN b = lN (a ||| b) := by
  apply Int64.toBitVec_inj.mp
  rw [Int64.toBitVec_or]
  show BitVec.ofNat 64 a ||| BitVec.ofNat 64 b = BitVec.ofNat 64 (a ||| b)
  exact BitVec.ofNat_or.symm
theorem nm_tz' {n : Nat} (h : n < 41) : ji_numberOfTrailingZeros (nI (nm_S n) ^^^ (-1)) = nI (nm n) := of_decide_eq_true (List.all_eq_true.mp nm_tz n (List.mem_range.mpr h))
theorem nm_bt' {n : Nat} (h : n < 41) : (∀ k, k < nm n → (am_lcmp ((lN (nm_S n) >>> ((nI k).toInt64 &&& 63)) &&& ((1 : Int32).toInt64)) ((1 : Int32).toInt64)) = 0) ∧ ¬ (am_lcmp ((lN (nm_S n) >>> ((nI (nm n)).toInt64 &&& 63)) &&& ((1 : Int32).toInt64)) ((1 : Int32).toInt64)) = 0 := by
  have := (Bool.and_eq_true _ _).mp (List.all_eq_true.mp nm_bt n (List.mem_range.mpr h))
  exact ⟨fun k hk => of_decide_eq_true (List.all_eq_true.mp this.1 k (List.mem_range.mpr hk)), of_decide_eq_true this.2⟩
theorem co_row {F : Nat → Nat → Int32} {n : Nat} (hn : n < 41) (K : ∀ i, i < n → F 150 i = nI (nm i)) : am_loop (fun (s3 : Int32 × Int32) => ((
          if (2 * s3.2) < nI n then (
            if am_in s3.2 41 = true then (
            if am_in (nI n - s3.2) 41 = true then (
            am_let ((s3.1 ||| (1 <<< (((F 150 s3.2.toNatClampNeg) ^^^ (F 150 (nI n - s3.2).toNatClampNeg)) &&& 31))) : Int32) fun t4 =>
            am_let (s3.2 + 1 : Int32) fun t5 =>
            some (.inl (t4, t5))) else none) else none)
          else (
            some (.inr s3.1))) : Option ((Int32 × Int32) ⊕ (Int32)))) am_F (0, 1) = some (nI (nm_S n)) := by
  refine pu_for (fun j => (nI (nm_s n j), nI (j + 1))) ((n - 1) / 2) rfl (fun j hj => ?_) ?_
  · have l1 : 2 * nI (j + 1) < nI n := by
      rw [show (2 : Int32) = nI 2 from rfl, pk_mul]
      exact nI_lt (by omega) (by omega)
    have c1 : am_in (nI (j + 1)) 41 = true := pu_in (by omega) (by omega)
    have c2 : am_in (nI (n - (j + 1))) 41 = true := pu_in (by omega) (by omega)
    dsimp only
    simp only [l1, pk_sub (show j + 1 ≤ n by omega), c1, c2, if_true, nI_clamp (show j + 1 < 2 ^ 31 by omega), nI_clamp (show n - (j + 1) < 2 ^ 31 by omega), K (j + 1) (by omega), K (n - (j + 1)) (by omega), nm_x (nm (j + 1)) (nm_le _ (by omega)) (nm (n - (j + 1))) (nm_le _ (by omega)), nm_or, pu_letE, nI_1]
    rfl
  · have l1 : ¬ 2 * nI ((n - 1) / 2 + 1) < nI n := by
      rw [show (2 : Int32) = nI 2 from rfl, pk_mul]
      exact nI_nlt (by omega) (by omega)
    dsimp only
    simp only [l1, if_false]
    rfl
theorem co_rowm {F : Nat → Nat → Int32} {n : Nat} (hn : n < 41) (K : ∀ i, i < n → F 232 i = nI (nm i)) : am_loop (fun (s3 : Int64 × Int32) => ((
        if (2 * s3.2) < nI n then (
          if am_in s3.2 41 = true then (
          if am_in (nI n - s3.2) 41 = true then (
          am_let ((s3.1 ||| (((1 : Int32).toInt64) <<< (((F 232 s3.2.toNatClampNeg) ^^^ (F 232 (nI n - s3.2).toNatClampNeg)).toInt64 &&& 63))) : Int64) fun t4 =>
          am_let (s3.2 + 1 : Int32) fun t5 =>
          some (.inl (t4, t5))) else none) else none)
        else (
          some (.inr s3.1))) : Option ((Int64 × Int32) ⊕ (Int64)))) am_F ((0 : Int32).toInt64, 1) = some (lN (nm_S n)) := by
  refine pu_for (fun j => (lN (nm_s n j), nI (j + 1))) ((n - 1) / 2) (by rfl) (fun j hj => ?_) ?_
  · have l1 : 2 * nI (j + 1) < nI n := by
      rw [show (2 : Int32) = nI 2 from rfl, pk_mul]
      exact nI_lt (by omega) (by omega)
    have c1 : am_in (nI (j + 1)) 41 = true := pu_in (by omega) (by omega)
    have c2 : am_in (nI (n - (j + 1))) 41 = true := pu_in (by omega) (by omega)
    dsimp only
    simp only [l1, pk_sub (show j + 1 ≤ n by omega), c1, c2, if_true, nI_clamp (show j + 1 < 2 ^ 31 by omega), nI_clamp (show n - (j + 1) < 2 ^ 31 by omega), K (j + 1) (by omega), K (n - (j + 1)) (by omega), nm_m (nm (j + 1)) (nm_le _ (by omega)) (nm (n - (j + 1))) (nm_le _ (by omega)), nm_orL, pu_letE, nI_1]
    rfl
  · have l1 : ¬ 2 * nI ((n - 1) / 2 + 1) < nI n := by
      rw [show (2 : Int32) = nI 2 from rfl, pk_mul]
      exact nI_nlt (by omega) (by omega)
    dsimp only
    simp only [l1, if_false]
    rfl
theorem co_lay (g : Nat → Nat → Int32) : ∃ G, m_layWorth g = some G ∧ (∀ i, i < 41 → G 232 i = nI (nm i)) ∧ ∀ a, a ≠ 232 → G a = g a := by
  unfold m_layWorth
  refine pu_one (fun n s => ∃ G, s = (nI n, G) ∧ (∀ i, i < n → G 232 i = nI (nm i)) ∧ ∀ a, a ≠ 232 → G a = g a) _ 41 ⟨g, rfl, fun i hi => absurd hi (Nat.not_lt_zero _), fun _ _ => rfl⟩ ?_ ?_
  · rintro n s hn ⟨G, rfl, K1, K2⟩
    have l1 : nI n < (41 : Int32) := nI_lt (b := 41) hn (by omega)
    have c1 : am_in (nI n) 41 = true := pu_in (by omega) (by omega)
    have R := co_rowm hn K1
    obtain ⟨b1, b2⟩ := nm_bt' hn
    have hnm := nm_le n hn
    have W : am_loop (fun (s7 : Int32) => ((
        if (am_lcmp ((lN (nm_S n) >>> (s7.toInt64 &&& 63)) &&& ((1 : Int32).toInt64)) ((1 : Int32).toInt64)) = 0 then (
          am_let (s7 + 1 : Int32) fun t8 =>
          some (.inl t8))
        else (
          some (.inr s7))) : Option ((Int32) ⊕ (Int32)))) am_F 0 = some (nI (nm n)) := by
      refine pu_for (fun k => nI k) (nm n) rfl (fun k hk => ?_) ?_
      · rw [if_pos (b1 k hk), pu_letE, nI_1]
      · rw [if_neg b2]
    left
    dsimp only
    rw [if_pos l1, pu_letE, R, pu_bs, W, pu_bs, if_pos c1, pu_letE, pu_letE, nI_1, nI_clamp (by omega)]
    refine ⟨_, rfl, _, rfl, fun i hi => ?_, fun a ha => by rw [pu_up_ne _ _ ha]; exact K2 a ha⟩
    rw [pu_up_row]
    by_cases he : i = n
    · rw [he, pu_upd_eq]
    · rw [pu_upd_ne _ _ he]
      exact K1 i (by omega)
  · rintro s ⟨G, rfl, K1, K2⟩
    dsimp only
    rw [if_neg (by decide)]
    exact ⟨_, rfl, K1, K2⟩
def co_K (f F : Nat → Nat → Int32) (k : Nat) : Prop := k ≤ 40 ∧ F 143 7 = nI k ∧ (∀ i, i ≤ k → F 150 i = nI (nm i)) ∧ (∀ a, a ≠ 143 → a ≠ 150 → F a = f a) ∧ (∀ j, j ≠ 7 → F 143 j = f 143 j)
theorem co_learn {f f' : Nat → Nat → Int32} {k u : Nat} (K : co_K f f' k) (hu : u ≤ 40) : ∃ F, xm_learnNimbers (nI u) f' = some F ∧ co_K f F (k + (u - k)) := by
  obtain ⟨k1, k2, k3, k4, k5⟩ := K
  unfold xm_learnNimbers
  rw [pu_letE, k2, nI_1]
  refine pu_one (fun i s => ∃ F, s = (nI (k + 1 + i), F) ∧ co_K f F (k + i)) _ (u - k) ⟨f', rfl, k1, k2, k3, k4, k5⟩ ?_ ?_
  · rintro i s hi ⟨F, rfl, j1, j2, j3, j4, j5⟩
    have l1 : ¬ nI u < nI (k + 1 + i) := nI_nlt (by omega) (by omega)
    have l2 : nI (k + 1 + i) < nI 41 := nI_lt (by omega) (by omega)
    have c1 : am_in (nI (k + 1 + i)) 41 = true := pu_in (by omega) (by omega)
    have R := co_row (F := F) (n := k + 1 + i) (by omega) (fun i hi => j3 i (by omega))
    left
    dsimp only
    rw [if_neg l1, if_pos l2, R, pu_bs, if_pos c1, pu_letE, pu_letE, pu_letE, nI_1, nI_clamp (by omega), nm_tz' (by omega)]
    refine ⟨_, rfl, _, rfl, by omega, ?_, fun i2 hi2 => ?_, fun a h1 h2 => ?_, fun j hj => ?_⟩
    · rw [pu_up_row, pu_upd_eq, show k + 1 + i = k + (i + 1) by omega]
    · rw [pu_up_ne _ _ (by decide), pu_up_row]
      by_cases he : i2 = k + 1 + i
      · rw [he, pu_upd_eq]
      · rw [pu_upd_ne _ _ he]
        exact j3 i2 (by omega)
    · rw [pu_up_ne _ _ h1, pu_up_ne _ _ h2]
      exact j4 a h1 h2
    · rw [pu_up_row, pu_upd_ne _ _ hj, pu_up_ne _ _ (by decide)]
      exact j5 j hj
  · rintro s ⟨F, rfl, J⟩
    have l1 : nI u < nI (k + 1 + (u - k)) := nI_lt (by omega) (by omega)
    dsimp only
    rw [if_pos l1]
    exact ⟨_, rfl, J⟩
