theorem rk_lx {f : Nat → Nat → Int32} {xs : Nat → Nat} {z S : Nat} (hz : z ≤ 8) (e1 : f 42 0 = nI z) (hx : ∀ i, i < z → xs i < 65536 ∧ f 43 i = nI (xs i)) (hS : S < 256) : am_loop (fun (s2 : Int32 × Int32) => ((
        if s2.2 < f 42 0 then (
          ((if ((nI S >>> (s2.2 &&& 31)) &&& 1) = 1 then (
              if am_in s2.2 8 = true then (
              am_let ((s2.1 ^^^ (f 43 s2.2.toNatClampNeg)) : Int32) fun t3 =>
              some t3) else none)
            else (
              some s2.1)) : Option (Int32)).bind fun t4 =>
          am_let (s2.2 + 1 : Int32) fun t5 =>
          some (.inl (t4, t5)))
        else (
          some (.inr s2.1))) : Option ((Int32 × Int32) ⊕ (Int32)))) am_F (0, 0) = some (nI (rk_L xs z S)) := by
  refine pu_for (fun j => (nI (rk_L xs j S), nI j)) z rfl (fun j hj => ?_) ?_
  · have c8 : am_in (nI j) 8 = true := pu_in (by omega) (by omega)
    have e : rk_L xs (j + 1) S = rk_L xs j S ^^^ (if S.testBit j = true then xs j else 0) := rfl
    dsimp only
    rw [e1, if_pos (nI_lt hj (by omega)), rk_bit (by omega) (by omega)]
    by_cases c : S.testBit j = true
    · rw [if_pos c] at e
      rw [if_pos c, if_pos rfl, if_pos c8, nI_clamp (by omega), (hx j hj).2, pu_letE, pu_bs, pu_letE, nI_1, su_xor, e]
    · rw [if_neg c, Nat.xor_zero] at e
      rw [if_neg c, if_neg (by decide), pu_bs, pu_letE, nI_1, e]
  · dsimp only
    rw [e1, if_neg (nI_nlt (Nat.le_refl _) (by omega))]
theorem rk_lm {g : Nat → Nat → Int32} {xs : Nat → Nat} {z S : Nat} (hz : z ≤ 8) (e1 : g 217 464 = nI z) (hx : ∀ i, i < z → xs i < 65536 ∧ g 217 (465 + i) = nI (xs i)) (hS : S < 256) : m_laidOn (nI S) g = some (nI (rk_L xs z S)) := by
  unfold m_laidOn
  refine pu_for (fun j => (nI (rk_L xs j S), nI j)) z rfl (fun j hj => ?_) ?_
  · have c8 : am_in (nI (465 + j)) 2008 = true := pu_in (by omega) (by omega)
    have a1 : (465 : Int32) + nI j = nI (465 + j) := nI_add 465 j
    have e : rk_L xs (j + 1) S = rk_L xs j S ^^^ (if S.testBit j = true then xs j else 0) := rfl
    dsimp only
    rw [e1, if_pos (nI_lt hj (by omega)), rk_bit (by omega) (by omega), a1]
    by_cases c : S.testBit j = true
    · rw [if_pos c] at e
      rw [if_pos c, if_pos rfl, if_pos c8, nI_clamp (by omega), (hx j hj).2, pu_bs, pu_letE, pu_letE, nI_1, su_xor, e]
    · rw [if_neg c, Nat.xor_zero] at e
      rw [if_neg c, if_neg (by decide), pu_bs, pu_letE, pu_letE, nI_1, show (0 : Int32) = nI 0 from rfl, su_xor, Nat.xor_zero, e]
  · dsimp only
    rw [e1, if_neg (nI_nlt (Nat.le_refl _) (by omega))]
theorem rk_Ll {xs : Nat → Nat} {z : Nat} (hx : ∀ i, i < z → xs i < 65536) : ∀ i, i ≤ z → ∀ S, rk_L xs i S < 65536 := by
  intro i
  induction i with
  | zero => intro _ S; show 0 < 65536; omega
  | succ i ih =>
    intro h S
    show rk_L xs i S ^^^ (if S.testBit i = true then xs i else 0) < 65536
    refine Nat.xor_lt_two_pow (n := 16) (ih (by omega) S) ?_
    by_cases c : S.testBit i = true
    · rw [if_pos c]; exact hx i (by omega)
    · rw [if_neg c]; decide
theorem rk_m {g : Nat → Nat → Int32} {xs : Nat → Nat} {z r : Nat} {B : Nat → Nat} (hz : z ≤ 8) (e1 : g 217 464 = nI z) (hx : ∀ i, i < z → xs i < 65536 ∧ g 217 (465 + i) = nI (xs i)) (I : rk_I xs z r B) : m_rank g = some (nI r) := by
  unfold m_rank
  have hp := jr_pw z (by omega)
  have X : am_loop (fun (s1 : Int32 × Int32) => ((
    if s1.2 < (1 <<< ((g 217 464) &&& 31)) then (
      (m_laidOn s1.2 g).bind fun p2 =>
      am_let ((if p2 = 0 then (
          true)
        else (
          false)) : Bool) fun t3 =>
      am_let ((s1.1 + (am_b t3)) : Int32) fun t4 =>
      am_let (s1.2 + 1 : Int32) fun t5 =>
      some (.inl (t4, t5)))
    else (
      some (.inr s1.1))) : Option ((Int32 × Int32) ⊕ (Int32)))) am_F (0, 0) = some (nI (rk_c xs z 0)) := by
    refine pu_for (fun j => (nI ((List.range j).filter (fun S => rk_L xs z S == 0)).length, nI j)) (2 ^ z) rfl (fun j hj => ?_) ?_
    · dsimp only
      rw [e1, jr_sh z (by omega), if_pos (nI_lt hj (by omega)), rk_lm hz e1 hx (by omega), pu_bs, pu_letE, pu_letE, pu_letE, nI_1, List.range_succ, List.filter_append, List.length_append]
      have hl := rk_Ll (fun i hi => (hx i hi).1) z (Nat.le_refl _) j
      by_cases c : rk_L xs z j = 0
      · rw [c, if_pos (show nI 0 = 0 from rfl)]
        have : ([j].filter (fun S => rk_L xs z S == 0)).length = 1 := by
          rw [List.filter_cons, c]
          rfl
        rw [this, show am_b true = nI 1 from rfl, nI_add]
      · rw [if_neg (nI_ne0 (by omega) (by omega))]
        have : ([j].filter (fun S => rk_L xs z S == 0)).length = 0 := by
          rw [List.filter_cons, show (rk_L xs z j == 0) = false from by simp [c]]
          rfl
        rw [this, show am_b false = nI 0 from rfl, nI_add]
    · dsimp only
      rw [e1, jr_sh z (by omega), if_neg (nI_nlt (Nat.le_refl _) (by omega))]
      rfl
  rw [X, pu_bs, pu_letE, I.2.2 0, rk_r0, if_pos rfl, e1]
  have hr := I.2.1
  refine pu_for (fun k => (nI (2 ^ (z - r - k)), nI (z - k))) (z - r) rfl (fun k hk => ?_) ?_
  · obtain ⟨m, hm⟩ : ∃ m, z - r - k = m + 1 := ⟨z - r - k - 1, by omega⟩
    have hm2 : z - r - (k + 1) = m := by omega
    have hpm : 2 ^ m ≤ 2 ^ 8 := Nat.pow_le_pow_right (by decide) (by omega)
    have hp8 : (2 : Nat) ^ 8 = 256 := by decide
    have hp1 := su_one (R := 2) (by omega) m
    dsimp only
    rw [hm, hm2, if_pos (show (1 : Int32) < nI (2 ^ (m + 1)) from nI_lt (a := 1) (by rw [Nat.pow_succ]; omega) (by rw [Nat.pow_succ]; omega)), pu_letE, pu_letE, show (2 : Int32) = nI 2 from rfl, pk_div (by rw [Nat.pow_succ]; omega) (by omega) (by omega), Nat.pow_succ, Nat.mul_div_cancel _ (by decide), show z - k = (z - (k + 1)) + 1 by omega, pk_m1]
  · dsimp only
    rw [Nat.sub_self, if_neg (show ¬ (1 : Int32) < nI (2 ^ 0) by decide), show z - (z - r) = r by omega]
theorem sm_show (x1 x2 : Int32) (f g : Nat → Nat → Int32) (h : rl_Rel f g) : ∃ (v : Int32) (f1 : Nat → Nat → Int32), x_show x1 x2 f = some (v, f1) ∧ m_show x1 x2 g = some v ∧ rl_Rel f1 g := by
  obtain ⟨z, hz, e2, hr⟩ := h.1.2.2.2.2.2.1.2.2.2.2.2.1
  have e1 : f 42 0 = nI z := by rw [rl_f_r6n h]; exact e2
  have hx : ∀ i, i < z → (fun i => (g 217 (465 + i)).toNatClampNeg) i < 65536 ∧ f 43 i = nI ((fun i => (g 217 (465 + i)).toNatClampNeg) i) ∧ g 217 (465 + i) = nI ((fun i => (g 217 (465 + i)).toNatClampNeg) i) := fun i hi => by
    obtain ⟨a, a1, a2⟩ := hr i hi
    dsimp only
    rw [rl_f_r6a h (by omega), a2, nI_clamp (by omega)]
    exact ⟨a1, rfl, rfl⟩
  generalize (fun i => (g 217 (465 + i)).toNatClampNeg) = xs at hx
  have hp := jr_pw z (by omega)
  unfold x_show m_show
  rw [pu_isIn, pu_isIn]
  by_cases h0 : x2 = 0
  · subst h0
    obtain ⟨r, B, F, x1', x2', x3⟩ := rk_x hz e1 (fun i hi => ⟨(hx i hi).1, (hx i hi).2.1⟩)
    have M := rk_m hz e2 (fun i hi => ⟨(hx i hi).1, (hx i hi).2.2⟩) x2'
    simp only [if_true, x1', M, pu_bs, show x_within 0 0 2 = true by decide, show ¬ (0 : Int32) < 0 by decide, if_false]
    exact ⟨_, F, rfl, rfl, h.congr ⟨fun a h1 h2 => x3 a (by omega), fun a h1 => x3 a (by omega), by rw [x3 0 (by omega)], by rw [x3 0 (by omega)], by rw [x3 123 (by omega)], x3 124 (by omega), by rw [x3 128 (by omega)], by rw [x3 128 (by omega)], by rw [x3 143 (by omega)], by rw [x3 143 (by omega)], x3 150 (by omega), x3 153 (by omega), by rw [x3 144 (by omega)]⟩ rl_sm.rf⟩
  simp only [h0, if_false]
  rcases pu_within_cases x2 (lo := 0) (hi := 2) 0 2 with ⟨e', w, w1, w2, rfl⟩ | e'
  rotate_left
  · have e'' : x_within x2 1 2 = false := by
      rcases pu_within_cases x2 (lo := 1) (hi := 2) 1 2 with ⟨e3, w, w1, w2, rfl⟩ | e3
      · have e4 : x_within (nI w) 0 2 = true := pu_within_t (n := w) (a := 0) (b := 2) (by omega) (by omega) (by omega)
        rw [e4] at e'
        cases e'
      · exact e3
    simp only [e', e'', Bool.false_eq_true, if_false]
    refine ⟨-1, f, ?_, rfl, h⟩
    by_cases c : x_within x1 0 65535 = true
    · rw [if_pos c]
    · rw [if_neg c]
  have hw0 : ¬ w = 0 := fun z => h0 (by rw [z]; rfl)
  have e'' : x_within (nI w) 1 2 = true := pu_within_t (n := w) (a := 1) (b := 2) (by omega) w2 (by omega)
  simp only [e', e'', if_true, show (0 : Int32) < nI w from nI_lt (a := 0) (by omega) (by omega)]
  rcases pu_within_cases x1 (lo := 0) (hi := 65535) 0 65535 with ⟨e, v, v1, v2, rfl⟩ | e
  rotate_left
  · simp only [e, Bool.false_eq_true, if_false]
    exact ⟨-1, f, rfl, rfl, h⟩
  simp only [e, if_true]
  have K : ∃ b, xm_fewestLaid_42 (nI v) f = some b ∧ m_fewestFor (nI v) g = some b := by
    unfold xm_fewestLaid_42 m_fewestFor
    refine lo_two (pu_two (fun j (s t : Int32 × Int32) => ∃ b, s = (b, nI j) ∧ t = (b, nI j)) (fun e e' => e = e') (2 ^ z) ⟨-1, rfl, rfl⟩ ?_ ?_)
    · rintro j s t hj ⟨b, rfl, rfl⟩
      have hjz : nI j < nI (2 ^ z) := nI_lt hj (by omega)
      have X := rk_lx (S := j) hz e1 (fun i hi => ⟨(hx i hi).1, (hx i hi).2.1⟩) (by omega)
      have M := rk_lm (S := j) hz e2 (fun i hi => ⟨(hx i hi).1, (hx i hi).2.2⟩) (by omega)
      have hl := rk_Ll (fun i hi => (hx i hi).1) z (Nat.le_refl _) j
      refine Or.inl ?_
      dsimp only
      simp only [pu_letE] at X
      simp only [e1, e2, jr_sh z (show z < 9 by omega), hjz, if_true, M, pu_bs, pu_letE, nI_1, bt_eq (show j < 65536 by omega)] at X ⊢
      rw [X, pu_bs]
      by_cases c : nI (rk_L xs z j) = nI v
      · simp only [c, if_true]
        by_cases cb : b = -1
        · simp only [cb, if_true, pu_bs]
          exact ⟨_, _, rfl, rfl, _, rfl, rfl⟩
        · simp only [cb, if_false]
          by_cases cl : ji_bitCount (nI j) < b
          · simp only [cl, if_true, pu_bs]
            exact ⟨_, _, rfl, rfl, _, rfl, rfl⟩
          · simp only [cl, if_false, pu_bs]
            exact ⟨_, _, rfl, rfl, _, rfl, rfl⟩
      · simp only [c, if_false, pu_bs]
        exact ⟨_, _, rfl, rfl, _, rfl, rfl⟩
    · rintro s t ⟨b, rfl, rfl⟩
      have hll : ¬ nI (2 ^ z) < nI (2 ^ z) := nI_nlt (Nat.le_refl _) (by omega)
      dsimp only
      simp only [e1, e2, jr_sh z (show z < 9 by omega), hll, if_false]
      exact ⟨_, _, rfl, rfl, rfl⟩
  obtain ⟨b, k1, k2⟩ := K
  simp only [k1, k2, pu_bs]
  by_cases c2 : nI w = 2
  · simp only [c2, if_true]
    exact ⟨b, f, rfl, by first | rfl | rw [if_neg (by decide)], h⟩
  · simp only [c2, if_false, h0]
    by_cases cb : b = -1
    · simp only [cb, if_true]
      exact ⟨0, f, rfl, rfl, h⟩
    · simp only [cb, if_false]
      exact ⟨1, f, rfl, rfl, h⟩
