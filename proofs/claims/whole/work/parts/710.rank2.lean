theorem rk_bt : ∀ j, j < 16 → ((nI j &&& 31 : Int32).toBitVec.smod 32).toNat = j := by decide
theorem rk_bit {u n : Nat} (hu : u < 2 ^ 31) (hn : n < 16) : nI u >>> (nI n &&& 31) &&& 1 = if u.testBit n = true then 1 else 0 := by
  have hd : u / 2 ^ n ≤ u := Nat.div_le_self _ _
  rw [pk_shrN hu _ n (rk_bt n hn), pk_andN (by omega) (m := 1) 1 (by decide), Nat.testBit_eq_decide_div_mod_eq]
  have hm : u / 2 ^ n % 2 < 2 := Nat.mod_lt _ (by decide)
  by_cases c : u / 2 ^ n % 2 = 1
  · rw [if_pos (by simp [c]), show u / 2 ^ n % 2 ^ 1 = u / 2 ^ n % 2 from rfl, c]
    rfl
  · rw [if_neg (by simp [c]), show u / 2 ^ n % 2 ^ 1 = u / 2 ^ n % 2 from rfl, show u / 2 ^ n % 2 = 0 by omega]
    rfl
def rk_k (k : Nat) : Int32 := if k = 16 then -1 else nI (15 - k)
theorem rk_k1 {k : Nat} (hk : k < 16) : nI (15 - k) + (-1) = rk_k (k + 1) := by
  unfold rk_k
  by_cases h : k = 15
  · subst h
    decide
  · rw [if_neg (by omega), show 15 - k = (15 - (k + 1)) + 1 by omega, pk_m1]
def rk_B (s8 : Int32 × Int32 × Int32 × (Nat → Nat → Int32)) : Option ((Int32 × Int32 × Int32 × (Nat → Nat → Int32)) ⊕ (Int32 × (Nat → Nat → Int32))) := ((
        if s8.2.2.1 < 0 then (
          some (.inr (s8.1, s8.2.2.2)))
        else (
          if s8.2.1 = 0 then (
            some (.inr (s8.1, s8.2.2.2)))
          else (
            ((if ((s8.2.1 >>> (s8.2.2.1 &&& 31)) &&& 1) = 0 then (
                some (s8.1, s8.2.1, s8.2.2.2))
              else (
                if am_in s8.2.2.1 16 = true then (
                if s8.2.2.2 151 s8.2.2.1.toNatClampNeg = 0 then (
                  if am_in s8.2.2.1 16 = true then (
                  am_let (am_up s8.2.2.2 151 s8.2.2.1.toNatClampNeg s8.2.1 : Nat → Nat → Int32) fun f9 =>
                  am_let (s8.1 + 1 : Int32) fun t10 =>
                  some (t10, 0, f9)) else none)
                else (
                  if am_in s8.2.2.1 16 = true then (
                  am_let ((s8.2.1 ^^^ (s8.2.2.2 151 s8.2.2.1.toNatClampNeg)) : Int32) fun t11 =>
                  some (s8.1, t11, s8.2.2.2)) else none)) else none)) : Option (Int32 × Int32 × (Nat → Nat → Int32))).bind fun t12 =>
            am_let (s8.2.2.1 + (-1) : Int32) fun t13 =>
            some (.inl (t12.1, t12.2.1, t13, t12.2.2))))) : Option ((Int32 × Int32 × Int32 × (Nat → Nat → Int32)) ⊕ (Int32 × (Nat → Nat → Int32))))
theorem rk_in {F : Nat → Nat → Int32} {B : Nat → Nat} (W : rk_W B) (hF : ∀ b, b < 16 → F 151 b = nI (B b)) {x r : Nat} (hx : x < 65536) : ∃ e, am_loop rk_B am_F (nI r, nI x, nI 15, F) = some e ∧ ((e = (nI r, F) ∧ rk_r B 16 x = 0) ∨ ∃ n, n ≤ 15 ∧ B n = 0 ∧ rk_p B (15 - n) x < 2 ^ (n + 1) ∧ (rk_p B (15 - n) x).testBit n = true ∧ e = (nI (r + 1), am_up F 151 n (nI (rk_p B (15 - n) x)))) := by
  refine pu_one (fun k s => (s = (nI r, nI (rk_p B k x), rk_k k, F) ∧ rk_p B k x < 2 ^ (16 - k)) ∨ ∃ n, n ≤ 15 ∧ B n = 0 ∧ rk_p B (15 - n) x < 2 ^ (n + 1) ∧ (rk_p B (15 - n) x).testBit n = true ∧ s = (nI (r + 1), 0, rk_k k, am_up F 151 n (nI (rk_p B (15 - n) x)))) _ 16 (Or.inl ⟨rfl, hx⟩) ?_ ?_
  · rintro k s hk (⟨rfl, hu⟩ | ⟨n, n1, n2, n3, n4, rfl⟩)
    · have ek : rk_k k = nI (15 - k) := by
        unfold rk_k
        rw [if_neg (by omega)]
      have l0 : ¬ nI (15 - k) < 0 := nI_pos (by omega)
      have c16 : am_in (nI (15 - k)) 16 = true := pu_in (by omega) (by omega)
      have hp : 2 ^ (16 - k) ≤ 2 ^ 16 := Nat.pow_le_pow_right (by decide) (by omega)
      have hp2 : (2 : Nat) ^ 16 = 65536 := by decide
      rw [ek]
      unfold rk_B
      dsimp only
      rw [if_neg l0]
      by_cases h0 : rk_p B k x = 0
      · rw [h0, if_pos (show nI 0 = 0 from rfl)]
        refine Or.inr ⟨_, rfl, Or.inl ⟨rfl, ?_⟩⟩
        rw [rk_rp B x k (by omega), h0, rk_r0]
      · rw [if_neg (nI_ne0 (by omega) (by omega)), rk_bit (by omega) (by omega), show 16 - k = (15 - k) + 1 by omega] at *
        have es : rk_p B (k + 1) x = rk_s B (15 - k) (rk_p B k x) := rfl
        by_cases ht : (rk_p B k x).testBit (15 - k) = true
        · rw [if_pos ht, if_neg (show ¬ (1 : Int32) = 0 by decide), if_pos c16, nI_clamp (by omega)]
          have hB := (W (15 - k)).1
          have hFk := hF (15 - k) (by omega)
          by_cases hB0 : B (15 - k) = 0
          · rw [if_pos (hFk.trans (by rw [hB0]; rfl)), if_pos c16, pu_letE, pu_letE, pu_bs, pu_letE, nI_1, rk_k1 hk]
            refine Or.inl ⟨_, rfl, Or.inr ⟨15 - k, by omega, hB0, ?_, ?_, ?_⟩⟩
            · rw [show 15 - (15 - k) = k by omega]; exact hu
            · rw [show 15 - (15 - k) = k by omega]; exact ht
            · rw [show 15 - (15 - k) = k by omega]
          · rw [if_neg (fun z => nI_ne0 (n := B (15 - k)) (by omega) (by omega) (hFk.symm.trans z)), if_pos c16, pu_letE, pu_bs, pu_letE, rk_k1 hk]
            simp only [hFk, su_xor]
            have e2 : rk_p B (k + 1) x = rk_p B k x ^^^ B (15 - k) := by
              rw [es]
              unfold rk_s
              rw [if_pos ht]
            refine Or.inl ⟨_, rfl, Or.inl ⟨by rw [e2], ?_⟩⟩
            rw [e2, show 16 - (k + 1) = 15 - k by omega]
            exact rk_x2 hu hB ht ((W (15 - k)).2.resolve_left hB0)
        · rw [if_neg ht, if_pos rfl, pu_bs, pu_letE, rk_k1 hk]
          have e2 : rk_p B (k + 1) x = rk_p B k x := by
            rw [es]
            unfold rk_s
            rw [if_neg ht]
          refine Or.inl ⟨_, rfl, Or.inl ⟨by rw [e2], ?_⟩⟩
          rw [e2, show 16 - (k + 1) = 15 - k by omega]
          exact rk_nb hu ht
    · refine Or.inr ⟨_, ?_, Or.inr ⟨n, n1, n2, n3, n4, rfl⟩⟩
      unfold rk_B
      dsimp only
      by_cases c : rk_k k < 0
      · rw [if_pos c]
      · rw [if_neg c, if_pos rfl]
  · rintro s (⟨rfl, hu⟩ | ⟨n, n1, n2, n3, n4, rfl⟩)
    · refine ⟨_, ?_, Or.inl ⟨rfl, ?_⟩⟩
      · unfold rk_B
        dsimp only
        rw [if_pos (show rk_k 16 < 0 by decide)]
      · rw [rk_rp B x 16 (Nat.le_refl _)]
        have : rk_p B 16 x = 0 := by
          have h1 : (2 : Nat) ^ (16 - 16) = 1 := by decide
          omega
        rw [this]
        rfl
    · refine ⟨_, ?_, Or.inr ⟨n, n1, n2, n3, n4, rfl⟩⟩
      unfold rk_B
      dsimp only
      rw [if_pos (show rk_k 16 < 0 by decide)]
theorem rk_0 (f : Nat → Nat → Int32) : ∃ F, am_loop (fun (s1 : Int32 × (Nat → Nat → Int32)) => ((
    if s1.1 < (nI 16) then (
      if am_in s1.1 16 = true then (
      am_let (am_up s1.2 151 s1.1.toNatClampNeg 0 : Nat → Nat → Int32) fun f2 =>
      am_let (s1.1 + 1 : Int32) fun t3 =>
      some (.inl (t3, f2))) else none)
    else (
      some (.inr s1.2))) : Option ((Int32 × (Nat → Nat → Int32)) ⊕ ((Nat → Nat → Int32))))) am_F (0, f) = some F ∧ (∀ j, j < 16 → F 151 j = 0) ∧ ∀ a, a ≠ 151 → F a = f a := by
  refine pu_one (fun i s => ∃ G, s = (nI i, G) ∧ (∀ j, j < i → G 151 j = 0) ∧ ∀ a, a ≠ 151 → G a = f a) _ 16 ⟨f, rfl, fun j hj => absurd hj (Nat.not_lt_zero _), fun _ _ => rfl⟩ ?_ ?_
  · rintro i s hi ⟨G, rfl, K1, K2⟩
    have l1 : nI i < nI 16 := nI_lt hi (by omega)
    have c1 : am_in (nI i) 16 = true := pu_in (by omega) (by omega)
    left
    dsimp only
    simp only [l1, c1, if_true, pu_letE, nI_clamp (show i < 2 ^ 31 by omega), nI_1]
    refine ⟨_, rfl, _, rfl, fun j hj => ?_, fun a ha => by rw [pu_up_ne _ _ ha]; exact K2 a ha⟩
    rw [pu_up_row]
    by_cases he : j = i
    · rw [he, pu_upd_eq]
    · rw [pu_upd_ne _ _ he]
      exact K1 j (by omega)
  · rintro s ⟨G, rfl, K1, K2⟩
    dsimp only
    rw [if_neg (by decide)]
    exact ⟨_, rfl, K1, K2⟩
theorem rk_x {f : Nat → Nat → Int32} {xs : Nat → Nat} {z : Nat} (hz : z ≤ 8) (e1 : f 42 0 = nI z) (hx : ∀ i, i < z → xs i < 65536 ∧ f 43 i = nI (xs i)) : ∃ r B F, xm_rank_42 f = some (nI r, F) ∧ rk_I xs z r B ∧ ∀ a, a ≠ 151 → F a = f a := by
  unfold xm_rank_42
  obtain ⟨F0, a1, a2, a3⟩ := rk_0 f
  rw [a1, pu_bs]
  have X := pu_one (f := fun (s5 : Int32 × Int32 × (Nat → Nat → Int32)) => ((
    if s5.2.1 < s5.2.2 42 0 then (
      if am_in s5.2.1 8 = true then (
      am_let (s5.2.2 43 s5.2.1.toNatClampNeg : Int32) fun t6 =>
      am_let (((nI 16) - 1) : Int32) fun t7 =>
      (am_loop rk_B am_F (s5.1, t6, t7, s5.2.2)).bind fun e14 =>
      am_let (s5.2.1 + 1 : Int32) fun t15 =>
      some (.inl (e14.1, t15, e14.2))) else none)
    else (
      some (.inr (s5.1, s5.2.2)))) : Option ((Int32 × Int32 × (Nat → Nat → Int32)) ⊕ (Int32 × (Nat → Nat → Int32)))))
    (fun i s => ∃ r B F, s = (nI r, nI i, F) ∧ rk_I xs i r B ∧ (∀ b, b < 16 → F 151 b = nI (B b)) ∧ ∀ a, a ≠ 151 → F a = f a) (fun e => ∃ r B F, e = (nI r, F) ∧ rk_I xs z r B ∧ ∀ a, a ≠ 151 → F a = f a) z (s := (0, 0, F0)) ⟨0, fun _ => 0, F0, rfl, rk_I0 xs, fun b hb => a2 b hb, a3⟩ (by
    rintro i s hi ⟨r, B, F, rfl, I, hB, fr⟩
    obtain ⟨x1, x2⟩ := hx i hi
    have c8 : am_in (nI i) 8 = true := pu_in (by omega) (by omega)
    obtain ⟨e, p1, p2⟩ := rk_in I.1 hB (r := r) x1
    left
    dsimp only
    simp only [fr 42 (by decide), e1, show nI i < nI z from nI_lt hi (by omega), c8, if_true, pu_letE, nI_clamp (show i < 2 ^ 31 by omega), fr 43 (by decide), x2, show nI 16 - 1 = nI 15 from by decide, p1, pu_bs, nI_1]
    rcases p2 with ⟨rfl, q⟩ | ⟨n, n1, n2, n3, n4, rfl⟩
    · exact ⟨_, rfl, r, B, F, rfl, rk_Ia I q, hB, fr⟩
    · refine ⟨_, rfl, r + 1, _, _, rfl, rk_Ib I n1 n2 n3 n4, fun b hb => ?_, fun a ha => by show am_up F 151 n _ a = f a; rw [pu_up_ne _ _ ha]; exact fr a ha⟩
      show am_up F 151 n _ 151 b = _
      rw [pu_up_row]
      unfold rk_u
      by_cases he : b = n
      · rw [if_pos he, he, pu_upd_eq]
      · rw [if_neg he, pu_upd_ne _ _ he]
        exact hB b hb) (by
    rintro s ⟨r, B, F, rfl, I, hB, fr⟩
    dsimp only
    simp only [fr 42 (by decide), e1, show ¬ nI z < nI z from nI_nlt (Nat.le_refl _) (by omega), if_false]
    exact ⟨_, rfl, r, B, F, rfl, I, fr⟩) (by omega)
  obtain ⟨e, r1, r, B, F, rfl, I, fr⟩ := X
  unfold rk_B at r1
  exact ⟨r, B, F, r1, I, fr⟩
