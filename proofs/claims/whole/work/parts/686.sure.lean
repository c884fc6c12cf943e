/-! SURE -/
theorem su_xor (a b : Nat) : nI a ^^^ nI b = nI (a ^^^ b) := by
  apply Int32.toBitVec_inj.mp
  rw [Int32.toBitVec_xor]
  show BitVec.ofNat 32 a ^^^ BitVec.ofNat 32 b = BitVec.ofNat 32 (a ^^^ b)
  exact BitVec.ofNat_xor.symm
def su_z (u : Nat) : Nat → Nat
  | 0 => 0
  | j + 1 => su_z u j + (if u / 2 ^ j % 2 = 1 then 0 else 1)
theorem su_zc : (List.range 256).all (fun u => su_z u 8 == 8 - bt_j u && decide (bt_j u ≤ 8)) = true := by decide +kernel
theorem su_z8 {u : Nat} (h : u < 256) : su_z u 8 = 8 - bt_j u ∧ bt_j u ≤ 8 := by
  have := List.all_eq_true.mp su_zc u (List.mem_range.mpr h)
  simpa using this
theorem su_bit : ∀ j, j < 8 → ((nI j &&& 31 : Int32).toBitVec.smod 32).toNat = j := by decide
theorem su_x {w R k : Nat} (hk : k ≤ 8) : am_loop (fun (s5 : Int32 × Int32) => ((
    if s5.2 < nI k then (
      am_let ((s5.1 * nI R) : Int32) fun t6 =>
      am_let (s5.2 + 1 : Int32) fun t7 =>
      some (.inl (t6, t7)))
    else (
      some (.inr s5.1))) : Option ((Int32 × Int32) ⊕ (Int32)))) am_F (nI w, 0) = some (nI (w * R ^ k)) := by
  refine pu_for (fun j => (nI (w * R ^ j), nI j)) k (by show _ = (nI (w * R ^ 0), nI 0); rw [Nat.pow_zero, Nat.mul_one]; rfl) (fun j hj => ?_) ?_
  · have h1 : nI j < nI k := nI_lt hj (by omega)
    dsimp only
    simp only [h1, if_true, pu_letE, pk_mul, nI_1, Nat.pow_succ, Nat.mul_assoc]
  · have hll : ¬ nI k < nI k := nI_nlt (Nat.le_refl _) (by omega)
    dsimp only
    simp only [hll, if_false]
theorem su_m {w R u : Nat} (hu : u < 256) : am_loop (fun (s3 : Int32 × Int32) => ((
    if s3.2 < 8 then (
      am_let ((if ((nI u >>> (s3.2 &&& 31)) &&& 1) = 1 then (
          1)
        else (
          nI R)) : Int32) fun t4 =>
      am_let ((s3.1 * t4) : Int32) fun t5 =>
      am_let (s3.2 + 1 : Int32) fun t6 =>
      some (.inl (t5, t6)))
    else (
      some (.inr s3.1))) : Option ((Int32 × Int32) ⊕ (Int32)))) am_F (nI w, 0) = some (nI (w * R ^ su_z u 8)) := by
  refine pu_for (fun j => (nI (w * R ^ su_z u j), nI j)) 8 (by show _ = (nI (w * R ^ 0), nI 0); rw [Nat.pow_zero, Nat.mul_one]; rfl) (fun j hj => ?_) ?_
  · have h1 : nI j < (8 : Int32) := nI_lt (b := 8) hj (by omega)
    have e1 : nI u >>> (nI j &&& 31) &&& 1 = nI (u / 2 ^ j % 2) := by
      have hd : u / 2 ^ j ≤ u := Nat.div_le_self _ _
      rw [pk_shrN (by omega) _ j (su_bit j hj), pk_andN (by omega) (m := 1) 1 (by decide)]
    dsimp only
    simp only [h1, if_true, pu_letE, e1, nI_1]
    have hs : su_z u (j + 1) = su_z u j + (if u / 2 ^ j % 2 = 1 then 0 else 1) := rfl
    have hm : u / 2 ^ j % 2 < 2 := Nat.mod_lt _ (by decide)
    by_cases hb : u / 2 ^ j % 2 = 1
    · rw [if_pos hb] at hs
      simp only [hb, show nI 1 = (1 : Int32) from rfl, if_true, Int32.mul_one, hs, Nat.add_zero]
    · rw [if_neg hb] at hs
      have h0 : u / 2 ^ j % 2 = 0 := by omega
      simp only [h0, show ¬ nI 0 = (1 : Int32) by decide, if_false, hs, Nat.pow_succ, pk_mul, Nat.mul_assoc]
  · dsimp only
    rw [if_neg (by decide)]
theorem su_one {R : Nat} (h : 1 ≤ R) : ∀ k, 1 ≤ R ^ k := by
  intro k
  induction k with
  | zero => rw [Nat.pow_zero]; exact Nat.le_refl _
  | succ k ih =>
    rw [Nat.pow_succ]
    exact Nat.mul_le_mul ih h
theorem su_p7 {w R k : Nat} (h1 : 1 ≤ w) (h2 : w ≤ 9) (h3 : 1 ≤ R) (h4 : R ≤ 7) (h5 : k ≤ 8) : 1 ≤ w * R ^ k ∧ w * R ^ k ≤ 51883209 := by
  have a1 : 1 ≤ R ^ k := su_one h3 k
  have a2 : R ^ k ≤ 7 ^ k := Nat.pow_le_pow_left h4 k
  have a3 : 7 ^ k ≤ 7 ^ 8 := Nat.pow_le_pow_right (by decide) h5
  have a4 : (7 : Nat) ^ 8 = 5764801 := by decide
  constructor
  · exact Nat.mul_le_mul h1 a1
  · have : w * R ^ k ≤ 9 * 5764801 := Nat.mul_le_mul h2 (by omega)
    omega
/-- the greatest common part, step by step on both sides -/
def su_J (i a b : Nat) : Prop := a < 2 ^ 31 ∧ b < 2 ^ 31 ∧ (0 < a ∨ 0 < b) ∧ ∃ k, (i = 2 * k ∧ b * 2 ^ k < 2 ^ 31) ∨ (i = 2 * k + 1 ∧ a * 2 ^ k < 2 ^ 31 ∧ b < a)
theorem su_Js {i a b : Nat} (h : su_J i a b) (hb : 0 < b) : su_J (i + 1) b (a % b) := by
  obtain ⟨h1, h2, h3, k, hk⟩ := h
  have hm : a % b < b := Nat.mod_lt _ hb
  refine ⟨h2, by omega, Or.inl hb, ?_⟩
  rcases hk with ⟨e, hk⟩ | ⟨e, hk, hl⟩
  · exact ⟨k, Or.inr ⟨by omega, hk, hm⟩⟩
  · refine ⟨k + 1, Or.inl ⟨by omega, ?_⟩⟩
    have h2 : a % b * 2 ≤ a := by
      have hq : 1 ≤ a / b := (Nat.one_le_div_iff hb).mpr (by omega)
      have hd := Nat.div_add_mod a b
      have hmul : b * 1 ≤ b * (a / b) := Nat.mul_le_mul_left b hq
      omega
    have : a % b * 2 ^ (k + 1) = a % b * 2 * 2 ^ k := by
      rw [Nat.pow_succ, Nat.mul_comm (2 ^ k) 2, Nat.mul_assoc]
    rw [this]
    exact Nat.lt_of_le_of_lt (Nat.mul_le_mul_right _ h2) hk
theorem su_J64 {a b : Nat} (h : su_J 64 a b) : b = 0 ∧ 0 < a := by
  obtain ⟨h1, h2, h3, k, hk⟩ := h
  have hb : b = 0 := by
    rcases hk with ⟨e, hk⟩ | ⟨e, hk, hl⟩
    · have : k = 32 := by omega
      subst this
      have e32 : (2 : Nat) ^ 32 = 4294967296 := by decide
      have e31 : (2 : Nat) ^ 31 = 2147483648 := by decide
      rw [e32, e31] at hk
      omega
    · omega
  exact ⟨hb, by omega⟩
theorem su_gcd {a b : Nat} (ha : a < 2 ^ 31) (hb : b < 2 ^ 31) (h0 : 0 < b) : ∃ c, 0 < c ∧ c < 2 ^ 31 ∧ xm_commonPart (nI a) (nI b) = some (nI c) ∧ m_common (nI a) (nI b) = some (nI c) := by
  unfold xm_commonPart m_common
  have K := pu_two (f := fun (s1 : Int32 × Int32 × Int32) => ((
    if s1.2.2 < 100 then (
      if s1.2.1 = 0 then (
        some (.inr s1.1))
      else (
        if s1.2.1 = 0 then none else
        am_let ((s1.1 - s1.1 / s1.2.1 * s1.2.1) : Int32) fun t2 =>
        am_let (s1.2.2 + 1 : Int32) fun t3 =>
        some (.inl (s1.2.1, t2, t3))))
    else (
      some (.inr s1.1))) : Option ((Int32 × Int32 × Int32) ⊕ (Int32)))) (g := fun (s1 : Int32 × Int32) => ((
    if s1.2 = 0 then (
      some (.inr s1.1))
    else (
      if s1.2 = 0 then none else
      am_let ((s1.1 - s1.1 / s1.2 * s1.2) : Int32) fun t2 =>
      some (.inl (s1.2, t2)))) : Option ((Int32 × Int32) ⊕ (Int32)))) (s := (nI a, nI b, 0)) (t := (nI a, nI b))
    (fun i s t => ∃ x y, su_J i x y ∧ s = (nI x, nI y, nI i) ∧ t = (nI x, nI y)) (fun e e' => ∃ c, 0 < c ∧ c < 2 ^ 31 ∧ e = nI c ∧ e' = nI c) 64
    ⟨a, b, ⟨ha, hb, Or.inr h0, 0, Or.inl ⟨rfl, by rw [Nat.pow_zero, Nat.mul_one]; exact hb⟩⟩, rfl, rfl⟩ (by
    rintro i s t hi ⟨x, y, J, rfl, rfl⟩
    have h1 : nI i < (100 : Int32) := nI_lt (b := 100) (by omega) (by omega)
    obtain ⟨j1, j2, j3, -⟩ := id J
    dsimp only
    simp only [h1, if_true]
    by_cases hy : y = 0
    · subst hy
      simp only [show nI 0 = (0 : Int32) from rfl, if_true]
      exact Or.inr ⟨_, _, rfl, rfl, x, by omega, j1, rfl, rfl⟩
    · have hn : ¬ nI y = 0 := nI_ne0 (by omega) j2
      simp only [hn, if_false, pu_letE, pk_rem j1 (show 0 < y by omega) j2, nI_1]
      exact Or.inl ⟨_, _, rfl, rfl, _, _, su_Js J (by omega), rfl, rfl⟩) (by
    rintro s t ⟨x, y, J, rfl, rfl⟩
    obtain ⟨j1, j2⟩ := su_J64 J
    obtain ⟨j3, -⟩ := id J
    subst j1
    dsimp only
    simp only [show nI 64 < (100 : Int32) by decide, show nI 0 = (0 : Int32) from rfl, if_true]
    exact ⟨_, _, rfl, rfl, x, j2, j3, rfl, rfl⟩) (by omega)
  obtain ⟨e, e', k1, k2, c, c1, c2, rfl, rfl⟩ := K
  exact ⟨c, c1, c2, k1, k2⟩
theorem su_sh {f g : Nat → Nat → Int32} (h : rl_Rel f g) {n i q : Nat} (hn : n ≤ 6) (hi : i < n) (hr : ∀ i, i < n → ∃ a b, 1 ≤ a ∧ a ≤ 9 ∧ b < 256 ∧ g 217 (425 + 2 * i) = nI a ∧ g 217 (426 + 2 * i) = nI b) (h1 : 512 ≤ q) (h2 : q ≤ 2303) : ∃ v, 1 ≤ v ∧ v ≤ 51883209 ∧ xm_share_30 (nI i) (nI q) f = some (nI v) ∧ m_likely (nI i) (nI (q / 256)) (nI (q % 256)) g = some (nI v) := by
  obtain ⟨a, b, b1, b2, b3, b4, b5⟩ := hr i hi
  have f31 : f 31 i = nI a := by rw [rl_f_r2a h (by omega)]; exact b4
  have f32 : f 32 i = nI b := by rw [rl_f_r2b h (by omega)]; exact b5
  have eu : (b ^^^ q) % 256 = b ^^^ (q % 256) := by
    have := Nat.xor_mod_two_pow (a := b) (b := q) (n := 8)
    rw [show 2 ^ 8 = 256 from rfl] at this
    rw [this, Nat.mod_eq_of_lt b3]
  have hu : b ^^^ (q % 256) < 256 := by
    rw [← eu]
    exact Nat.mod_lt _ (by decide)
  obtain ⟨z1, z2⟩ := su_z8 hu
  have c6 : am_in (nI i) 6 = true := pu_in (by omega) (by omega)
  have a425 : (425 : Int32) + 2 * nI i = nI (425 + 2 * i) := by rw [show (2 : Int32) = nI 2 from rfl, pk_mul, show (425 : Int32) = nI 425 from rfl, nI_add]
  have a426 : (426 : Int32) + 2 * nI i = nI (426 + 2 * i) := by rw [show (2 : Int32) = nI 2 from rfl, pk_mul, show (426 : Int32) = nI 426 from rfl, nI_add]
  have d425 : am_in (nI (425 + 2 * i)) 2008 = true := pu_in (by omega) (by omega)
  have d426 : am_in (nI (426 + 2 * i)) 2008 = true := pu_in (by omega) (by omega)
  have hq : b ^^^ q < 2 ^ 32 := Nat.xor_lt_two_pow (by omega) (by omega)
  have e8 : nI q >>> (8 &&& 31) - 1 = nI (q / 256 - 1) := by
    rw [pk_shrN (by omega) (8 &&& 31) 8 (by decide), show (2 : Nat) ^ 8 = 256 from rfl, show (1 : Int32) = nI 1 from rfl, pk_sub (by omega)]
  have ek : 8 - ji_bitCount ((nI b ^^^ nI q) &&& 255) = nI (su_z (b ^^^ (q % 256)) 8) := by
    rw [su_xor, pk_andN hq (m := 255) 8 (by decide), show (2 : Nat) ^ 8 = 256 from rfl, eu, bt_ji (by omega), show (8 : Int32) = nI 8 from rfl, pk_sub z2, z1]
  refine ⟨a * (q / 256 - 1) ^ su_z (b ^^^ (q % 256)) 8, (su_p7 b1 b2 (by omega) (by omega) (by omega)).1, (su_p7 b1 b2 (by omega) (by omega) (by omega)).2, ?_, ?_⟩
  · unfold xm_share_30
    have X := su_x (w := a) (R := q / 256 - 1) (k := su_z (b ^^^ (q % 256)) 8) (by omega)
    simp only [pu_letE] at X
    simp only [pu_letE, c6, if_true, nI_clamp (show i < 2 ^ 31 by omega), f31, f32, e8, ek]
    exact X
  · unfold m_likely
    have X := su_m (w := a) (R := q / 256 - 1) (u := b ^^^ (q % 256)) hu
    have e1 : nI (q / 256) - 1 = nI (q / 256 - 1) := by
      rw [show (1 : Int32) = nI 1 from rfl, pk_sub (by omega)]
    simp only [pu_letE] at X
    simp only [pu_letE, a425, a426, d425, d426, if_true, nI_clamp (show 425 + 2 * i < 2 ^ 31 by omega), nI_clamp (show 426 + 2 * i < 2 ^ 31 by omega), b4, b5, su_xor, e1]
    exact X
theorem sm_sure (x1 x2 x3 : Int32) (f g : Nat → Nat → Int32) (h : rl_Rel f g) : ∃ (v : Int32), x_sure x1 x2 x3 f = some v ∧ m_sure x1 x2 x3 g = some v ∧ rl_Rel f g := by
  obtain ⟨n, hn, e2, hr⟩ := h.1.2.2.2.2.2.1.2.1
  have e1 : f 30 0 = nI n := by rw [rl_f_r2n h]; exact e2
  unfold x_sure m_sure
  rw [pu_letE, pu_isIn, pu_isIn, pu_isIn, e2]
  rcases pu_has x1 (n := n) (by omega) (x := xr_has_30 x1 f) (y := x_within x1 0 (nI n - 1)) (by unfold xr_has_30; rw [e1]) rfl with ⟨i, hi, rfl, k1, k2⟩ | ⟨k1, k2⟩
  rotate_left
  · simp only [k1, k2, Bool.false_eq_true, if_false]
    exact ⟨_, rfl, rfl, h⟩
  simp only [k1, k2, if_true]
  rcases pu_cases x2 with hx | ⟨q, hq, rfl⟩
  · have e3 : x_within x2 512 2303 = false := by
      unfold x_within
      rw [if_pos]
      rw [Int32.lt_iff_toInt_lt] at hx ⊢
      rw [show (0 : Int32).toInt = 0 from by decide] at hx
      rw [show (512 : Int32).toInt = 512 from by decide]
      omega
    simp only [e3, hx, Bool.false_eq_true, if_false, if_true]
    exact ⟨_, rfl, rfl, h⟩
  have hd : nI q / 256 = nI (q / 256) := pk_div (d := 256) hq (by omega) (by omega)
  have hm : nI q - nI q / 256 * 256 = nI (q % 256) := pk_rem (d := 256) hq (by omega) (by omega)
  rw [hd] at hm
  simp only [nI_pos hq, if_false, hd, hm]
  by_cases hin : 512 ≤ q ∧ q ≤ 2303
  rotate_left
  · have e3 : x_within (nI q) 512 2303 = false := by
      rcases pu_within_cases (nI q) (lo := 512) (hi := 2303) 512 2303 with ⟨e3, k, k1, k2, k3⟩ | e3
      · have := pu_nIinj hq (by omega) k3
        omega
      · exact e3
    have e4 : x_within (nI (q / 256)) 2 8 = false := by
      rcases pu_within_cases (nI (q / 256)) (lo := 2) (hi := 8) 2 8 with ⟨e3, k, k1, k2, k3⟩ | e3
      · have := pu_nIinj (by omega) (by omega) k3
        omega
      · exact e3
    simp only [e3, e4, Bool.false_eq_true, if_false]
    exact ⟨_, rfl, rfl, h⟩
  have e3 : x_within (nI q) 512 2303 = true := pu_within_t (a := 512) (b := 2303) hin.1 hin.2 (by omega)
  have e4 : x_within (nI (q / 256)) 2 8 = true := pu_within_t (a := 2) (b := 8) (by omega) (by omega) (by omega)
  simp only [e3, e4, if_true]
  rcases pu_within_cases x3 (lo := 0) (hi := 1) 0 1 with ⟨e5, w, w1, w2, rfl⟩ | e5
  rotate_left
  · simp only [e5, Bool.false_eq_true, if_false]
    exact ⟨_, rfl, rfl, h⟩
  simp only [e5, if_true]
  unfold xm_chance_30
  obtain ⟨v, v1, v2, v3, v4⟩ := su_sh h hn hi hr hin.1 hin.2
  rw [v3, pu_bs, e1]
  have K := pu_two (f := fun (s2 : Int32 × Int32) => ((
    if s2.2 < nI n then (
      (xm_share_30 s2.2 (nI q) f).bind fun p3 =>
      am_let ((s2.1 + p3) : Int32) fun t4 =>
      am_let (s2.2 + 1 : Int32) fun t5 =>
      some (.inl (t4, t5)))
    else (
      some (.inr s2.1))) : Option ((Int32 × Int32) ⊕ (Int32)))) (g := fun (s5 : Int32 × Int32) => ((
            if s5.2 < nI n then (
              (m_likely s5.2 (nI (q / 256)) (nI (q % 256)) g).bind fun p6 =>
              am_let ((s5.1 + p6) : Int32) fun t7 =>
              am_let (s5.2 + 1 : Int32) fun t8 =>
              some (.inl (t7, t8)))
            else (
              some (.inr s5.1))) : Option ((Int32 × Int32) ⊕ (Int32)))) (s := (0, 0)) (t := (0, 0))
    (fun j s t => ∃ A, s = (nI A, nI j) ∧ t = (nI A, nI j) ∧ A ≤ 51883209 * j ∧ (1 ≤ j → 1 ≤ A)) (fun e e' => ∃ A, e = nI A ∧ e' = nI A ∧ A ≤ 51883209 * n ∧ 1 ≤ A) n ⟨0, rfl, rfl, by omega, fun z => absurd z (by omega)⟩ (by
    rintro j s t hj ⟨A, rfl, rfl, h1, h2⟩
    obtain ⟨v, v1, v2, v3, v4⟩ := su_sh h hn hj hr hin.1 hin.2
    have hl : nI j < nI n := nI_lt hj (by omega)
    dsimp only
    simp only [hl, if_true, v3, v4, pu_bs, pu_letE, nI_add, nI_1]
    exact Or.inl ⟨_, _, rfl, rfl, _, rfl, rfl, by omega, fun _ => by omega⟩) (by
    rintro s t ⟨A, rfl, rfl, h1, h2⟩
    have hll : ¬ nI n < nI n := nI_nlt (Nat.le_refl _) (by omega)
    dsimp only
    simp only [hll, if_false]
    exact ⟨_, _, rfl, rfl, A, rfl, rfl, h1, h2 (by omega)⟩) (by omega)
  obtain ⟨e, e', r1, r2, A, rfl, rfl, A1, A2⟩ := K
  obtain ⟨c, c1, c2, c3, c4⟩ := su_gcd (a := v) (b := A) (by omega) (by omega) (by omega)
  have hc : ¬ nI c = 0 := nI_ne0 c1 c2
  rw [r1, r2, pu_bs, pu_bs, v4, pu_bs, c3, c4, pu_bs, pu_bs]
  simp only [hc, if_false]
  by_cases hw : nI w = 0
  · simp only [hw, if_true, pu_bs]
    exact ⟨_, rfl, rfl, h⟩
  · simp only [hw, if_false, pu_bs]
    exact ⟨_, rfl, rfl, h⟩
