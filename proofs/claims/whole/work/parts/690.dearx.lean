def pr_K (F : Nat → Nat → Int32) (k : Nat) : Prop := ∀ lo hi, 1 ≤ lo → lo < hi → hi ≤ k → F 153 (41 * lo + hi) = nI (dr_P lo hi)
theorem pr_of {F : Nat → Nat → Int32} {lo hi : Nat} (h1 : lo ≤ 41) (h2 : hi ≤ 40) (h : lo < hi → F 153 (41 * lo + hi) = nI (dr_P lo hi)) : xm_priceOf (nI lo) (nI hi) F = some (nI (dr_P lo hi)) := by
  unfold xm_priceOf
  by_cases c : lo < hi
  · have c1 : am_in (nI (41 * lo + hi)) 1681 = true := pu_in (by omega) (by omega)
    rw [if_pos (nI_lt c (by omega)), show (41 : Int32) = nI 41 from rfl, pk_mul, nI_add, if_pos c1, nI_clamp (by omega), h c]
  · rw [if_neg (nI_nlt (by omega) (by omega)), dr_P0 (by omega)]
    rfl
theorem pr_by {F : Nat → Nat → Int32} {lo hi v : Nat} (h0 : 1 ≤ lo) (h1 : lo ≤ v) (h2 : v ≤ hi) (h3 : hi ≤ 40) (k1 : lo < v - 1 → F 153 (41 * lo + (v - 1)) = nI (dr_P lo (v - 1))) (k2 : v + 1 < hi → F 153 (41 * (v + 1) + hi) = nI (dr_P (v + 1) hi)) : xm_priceBy (nI lo) (nI hi) (nI v) F = some (nI (dr_a lo hi v)) := by
  unfold xm_priceBy
  have e1 : nI v - 1 = nI (v - 1) := by rw [show (1 : Int32) = nI 1 from rfl, pk_sub (by omega)]
  have a1 := dr_Pl (lo := lo) (hi := v - 1) h0 (by omega)
  have a2 := dr_Pl (lo := v + 1) (hi := hi) (by omega) h3
  rw [e1, nI_1, pr_of (by omega) (by omega) k1, pu_bs, pr_of (by omega) h3 k2, pu_bs, am_mx, dr_mxI (by omega) (by omega), nI_add]
  rfl
theorem dr_m_le (a : Nat → Nat) (lo : Nat) : ∀ N, dr_m a lo N ≤ 1000000 := by
  intro N
  induction N with
  | zero => exact Nat.le_refl _
  | succ N ih =>
    show min (dr_m a lo N) (a (lo + N)) ≤ 1000000
    omega
theorem pr_row {F : Nat → Nat → Int32} {lo hi : Nat} (h0 : 1 ≤ lo) (h1 : lo < hi) (h3 : hi ≤ 40) (k1 : pr_K F (hi - 1)) (k2 : ∀ l, lo < l → l < hi → F 153 (41 * l + hi) = nI (dr_P l hi)) : am_loop (fun (s5 : Int32 × Int32) => ((
              if nI hi < s5.2 then (
                some (.inr s5.1))
              else (
                (xm_priceBy (nI lo) (nI hi) s5.2 F).bind fun p6 =>
                am_let ((am_min s5.1 p6) : Int32) fun t7 =>
                am_let (s5.2 + 1 : Int32) fun t8 =>
                some (.inl (t7, t8)))) : Option ((Int32 × Int32) ⊕ (Int32)))) am_F (1000000, nI lo) = some (nI (dr_P lo hi)) := by
  rw [dr_P1 h1]
  refine pu_for (fun j => (nI (dr_m (dr_a lo hi) lo j), nI (lo + j))) (hi + 1 - lo) rfl (fun j hj => ?_) ?_
  · have hl : ¬ nI hi < nI (lo + j) := nI_nlt (by omega) (by omega)
    have hb := pr_by (F := F) (lo := lo) (hi := hi) (v := lo + j) h0 (by omega) (by omega) h3 (fun z => k1 _ _ h0 z (by omega)) (fun z => k2 _ (by omega) z)
    have b1 := dr_m_le (dr_a lo hi) lo j
    have b2 := dr_al (lo := lo) (hi := hi) (v := lo + j) h0 h3 (by omega)
    dsimp only
    simp only [hl, if_false, hb, pu_bs, pu_letE, dr_mnI (show dr_m (dr_a lo hi) lo j < 2 ^ 31 by omega) (show dr_a lo hi (lo + j) < 2 ^ 31 by omega), nI_1]
    rfl
  · have hl : nI hi < nI (lo + (hi + 1 - lo)) := nI_lt (by omega) (by omega)
    dsimp only
    simp only [hl, if_true]
theorem pr_col {f : Nat → Nat → Int32} {hi : Nat} (h1 : 1 < hi) (h3 : hi ≤ 40) (k1 : pr_K f (hi - 1)) : ∃ F, am_loop (fun (s4 : Int32 × (Nat → Nat → Int32)) => ((
          if s4.1 < 1 then (
            some (.inr s4.2))
          else (
            (am_loop (fun (s5 : Int32 × Int32) => ((
              if nI hi < s5.2 then (
                some (.inr s5.1))
              else (
                (xm_priceBy s4.1 (nI hi) s5.2 s4.2).bind fun p6 =>
                am_let ((am_min s5.1 p6) : Int32) fun t7 =>
                am_let (s5.2 + 1 : Int32) fun t8 =>
                some (.inl (t7, t8)))) : Option ((Int32 × Int32) ⊕ (Int32)))) am_F (1000000, s4.1)).bind fun e9 =>
            if am_in ((41 * s4.1) + nI hi) 1681 = true then (
            am_let (am_up s4.2 153 ((41 * s4.1) + nI hi).toNatClampNeg e9 : Nat → Nat → Int32) fun f10 =>
            am_let (s4.1 + (-1) : Int32) fun t11 =>
            some (.inl (t11, f10))) else none)) : Option ((Int32 × (Nat → Nat → Int32)) ⊕ ((Nat → Nat → Int32))))) am_F (nI (hi - 1), f) = some F ∧ pr_K F hi ∧ ∀ a, a ≠ 153 → F a = f a := by
  refine pu_one (fun i s => ∃ F, s = (nI (hi - 1 - i), F) ∧ pr_K F (hi - 1) ∧ (∀ l, hi - 1 - i < l → l < hi → F 153 (41 * l + hi) = nI (dr_P l hi)) ∧ ∀ a, a ≠ 153 → F a = f a) _ (hi - 1) ⟨f, rfl, k1, fun l z1 z2 => absurd z1 (by omega), fun _ _ => rfl⟩ ?_ ?_
  · rintro i s hi2 ⟨F, rfl, K1, K2, K3⟩
    obtain ⟨m, hm⟩ : ∃ m, hi - 1 - i = m + 1 := ⟨hi - 1 - i - 1, by omega⟩
    have hm2 : hi - 1 - (i + 1) = m := by omega
    rw [hm] at K2 ⊢
    have hl : ¬ nI (m + 1) < 1 := nI_nlt (a := m + 1) (b := 1) (by omega) (by omega)
    have R := pr_row (F := F) (lo := m + 1) (hi := hi) (by omega) (by omega) h3 K1 K2
    simp only [pu_letE] at R
    have c1 : am_in (nI (41 * (m + 1) + hi)) 1681 = true := pu_in (by omega) (by omega)
    left
    dsimp only
    simp only [hl, if_false, R, pu_bs, show (41 : Int32) = nI 41 from rfl, pk_mul, nI_add, c1, if_true, pu_letE, nI_clamp (show 41 * (m + 1) + hi < 2 ^ 31 by omega), pk_m1]
    refine ⟨_, rfl, _, by rw [hm2], fun lo h z1 z2 z3 => ?_, fun l z1 z2 => ?_, fun a ha => ?_⟩
    · rw [pu_up_row, pu_upd_ne _ _ (by omega)]
      exact K1 lo h z1 z2 z3
    · rw [pu_up_row]
      by_cases hlm : l = m + 1
      · subst hlm
        rw [pu_upd_eq]
      · rw [pu_upd_ne _ _ (by omega)]
        exact K2 l (by omega) z2
    · rw [pu_up_ne _ _ ha]
      exact K3 a ha
  · rintro s ⟨F, rfl, K1, K2, K3⟩
    rw [Nat.sub_self] at K2 ⊢
    have hl : nI 0 < 1 := by decide
    dsimp only
    simp only [hl, if_true]
    refine ⟨_, rfl, fun lo h z1 z2 z3 => ?_, K3⟩
    by_cases hh : h = hi
    · subst hh
      exact K2 lo (by omega) z2
    · exact K1 lo h z1 z2 (by omega)
theorem pr_learn {f : Nat → Nat → Int32} {k n : Nat} (h1 : 1 ≤ k) (h2 : k ≤ 40) (e : f 143 11 = nI k) (K : pr_K f k) (n2 : n ≤ 40) : ∃ F, xm_learnPrices (nI n) f = some F ∧ F 143 11 = nI (k + (n - k)) ∧ pr_K F (k + (n - k)) ∧ (∀ a, a ≠ 143 → a ≠ 153 → F a = f a) ∧ (∀ j, j ≠ 11 → F 143 j = f 143 j) := by
  unfold xm_learnPrices
  rw [pu_letE, e, nI_1]
  refine pu_one (fun i s => ∃ F, s = (nI (k + 1 + i), F) ∧ F 143 11 = nI (k + i) ∧ pr_K F (k + i) ∧ (∀ a, a ≠ 143 → a ≠ 153 → F a = f a) ∧ (∀ j, j ≠ 11 → F 143 j = f 143 j)) _ (n - k) ⟨f, rfl, e, K, fun _ _ _ => rfl, fun _ _ => rfl⟩ ?_ ?_
  · rintro i s hi ⟨F, rfl, E, K1, K2, K3⟩
    have l1 : ¬ nI n < nI (k + 1 + i) := nI_nlt (by omega) (by omega)
    have l2 : ¬ 40 < nI (k + 1 + i) := nI_nlt (b := k + 1 + i) (a := 40) (by omega) (by omega)
    have e1 : nI (k + 1 + i) - 1 = nI (k + 1 + i - 1) := by rw [show (1 : Int32) = nI 1 from rfl, pk_sub (by omega)]
    obtain ⟨F2, x1, x2, x3⟩ := pr_col (f := F) (hi := k + 1 + i) (by omega) (by omega) (by rw [show k + 1 + i - 1 = k + i by omega]; exact K1)
    left
    dsimp only
    simp only [l1, l2, if_false, pu_letE, e1, nI_1] at x1 ⊢
    rw [x1, pu_bs]
    refine ⟨_, rfl, _, rfl, ?_, fun lo h z1 z2 z3 => ?_, fun a ha hb => ?_, fun j hj => ?_⟩
    · rw [pu_up_row, pu_upd_eq, show k + 1 + i = k + (i + 1) by omega]
    · rw [pu_up_ne _ _ (by decide)]
      exact x2 lo h z1 z2 (by omega)
    · rw [pu_up_ne _ _ ha, x3 a hb]
      exact K2 a ha hb
    · rw [pu_up_row, pu_upd_ne _ _ hj, x3 143 (by decide)]
      exact K3 j hj
  · rintro s ⟨F, rfl, E, K1, K2, K3⟩
    have l1 : nI n < nI (k + 1 + (n - k)) := nI_lt (by omega) (by omega)
    dsimp only
    simp only [l1, if_true]
    exact ⟨_, rfl, E, K1, K2, K3⟩
theorem pr_x {f : Nat → Nat → Int32} (hP : rl_Pr f) {n w : Nat} (n1 : 1 ≤ n) (n2 : n ≤ 40) : ∃ F, xm_dearest (nI n) (nI w) f = some (if nI w = 0 then nI (dr_P 1 n) else if n = 1 then -1 else nI (dr_b (dr_a 1 n) 1 (n - 1)), F) ∧ rl_Pr F ∧ (∀ a, a ≠ 143 → a ≠ 153 → F a = f a) ∧ (∀ j, j ≠ 11 → F 143 j = f 143 j) := by
  obtain ⟨h144, k, h1, h2, e, K⟩ := hP
  obtain ⟨F, x1, x2, x3, x4, x5⟩ := pr_learn h1 h2 e (fun lo hi a b c => K lo hi a b c) (n := n) n2
  have HP : rl_Pr F := ⟨by rw [x4 144 (by decide) (by decide)]; exact h144, k + (n - k), by omega, by omega, x2, fun lo hi a b c => x3 lo hi a b c⟩
  refine ⟨F, ?_, HP, x4, x5⟩
  unfold xm_dearest
  rw [x1, pu_bs]
  have P1 : xm_priceOf 1 (nI n) F = some (nI (dr_P 1 n)) := pr_of (lo := 1) (by omega) n2 (fun z => x3 1 n (by omega) z (by omega))
  by_cases hw : nI w = 0
  · simp only [hw, if_true, P1, pu_bs]
  · simp only [hw, if_false, P1, pu_bs]
    have PB : ∀ v, 1 ≤ v → v ≤ n → xm_priceBy 1 (nI n) (nI v) F = some (nI (dr_a 1 n v)) := fun v v1 v2 => pr_by (lo := 1) (by omega) v1 v2 n2 (fun z => x3 _ _ (by omega) z (by omega)) (fun z => x3 _ _ (by omega) z (by omega))
    by_cases hn : n = 1
    · subst hn
      rw [if_pos rfl]
      refine pu_for (fun j => nI (j + 1)) 0 rfl (fun j hj => absurd hj (Nat.not_lt_zero _)) ?_
      simp only [show ¬ nI 1 < nI (0 + 1) by decide, show ¬ (1 : Int32) < nI 1 by decide, if_false]
    · rw [if_neg hn]
      obtain ⟨b1, b2, b3, b4⟩ := dr_bp (dr_a 1 n) 1 (n - 1)
      obtain ⟨d1, -⟩ := dr_P2 (lo := 1) (hi := n) (by omega) (by omega) n2
      have hgt : (1 : Int32) < nI n := nI_lt (a := 1) (by omega) (by omega)
      generalize hb : dr_b (dr_a 1 n) 1 (n - 1) = b at *
      refine pu_for (fun j => nI (j + 1)) (b - 1) rfl (fun j hj => ?_) ?_
      · have l1 : ¬ nI n < nI (j + 1) := nI_nlt (by omega) (by omega)
        have hne : ¬ nI (dr_a 1 n (j + 1)) = nI (dr_P 1 n) := fun z => by
          have := pu_nIinj (by have := dr_al (lo := 1) (hi := n) (v := j + 1) (by omega) n2 (by omega); omega) (by have := dr_Pl (lo := 1) (hi := n) (by omega) n2; omega) z
          have := b4 (j + 1) (by omega) (by omega)
          omega
        simp only [l1, if_false, hgt, if_true, PB (j + 1) (by omega) (by omega), pu_bs, hne, pu_letE, nI_1]
      · have l1 : ¬ nI n < nI (b - 1 + 1) := nI_nlt (by omega) (by omega)
        have hbb : b - 1 + 1 = b := by omega
        rw [hbb] at l1 ⊢
        simp only [l1, if_false, hgt, if_true, PB b (by omega) (by omega), pu_bs, ← d1]
