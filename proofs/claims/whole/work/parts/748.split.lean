/-! THE CLASS: its rows of tokens -/
theorem tx_lt {n : Nat} {b : Nat → Nat} {q : Nat} (h : q < n) : q < tx_e n b q ∧ tx_e n b q ≤ n := by
  unfold tx_e
  rw [if_neg (by omega)]
  by_cases c : lx_L (b q) = true
  · rw [if_pos c, lx_es n b lx_L h c]
    have := lx_eF (n := n) (b := b) lx_L (p := q + 1) (by omega)
    omega
  · rw [if_neg c]
    by_cases d : lx_D (b q) = true
    · rw [if_pos d, lx_es n b lx_D h d]
      have := lx_eF (n := n) (b := b) lx_D (p := q + 1) (by omega)
      omega
    · rw [if_neg d]
      omega
theorem tx_add {n : Nat} {b : Nat → Nat} {F : Nat → Nat → Int32} (T : lx_T n b F) {q k m : Nat} (hq : q < n) (hk : k < 4) (h8 : F 123 8 = nI m) (hm : m ≤ 400) :
    xt_addToken (nI q) (nI (b q)) k F = some (nI (tx_e n b q), am_up (am_up (am_up (am_up F 125 m (nI (tx_V n b k q).1)) 126 m (tx_V n b k q).2) 127 m (nI q)) 123 8 (nI (m + 1))) := by
  have hn := T.1
  have hc := (T.2.2 q hq).1
  have key : ∀ t : Int32 × Int32 × Int32, t = (nI (tx_e n b q), nI (tx_V n b k q).1, (tx_V n b k q).2) → (if am_in (F 123 8) 401 = true then (
  am_let (am_up F 125 (F 123 8).toNatClampNeg t.2.1 : Nat → Nat → Int32) fun f14 =>
  if am_in (f14 123 8) 401 = true then (
  am_let (am_up f14 126 (f14 123 8).toNatClampNeg t.2.2 : Nat → Nat → Int32) fun f15 =>
  if am_in (f15 123 8) 401 = true then (
  am_let (am_up f15 127 (f15 123 8).toNatClampNeg (nI q) : Nat → Nat → Int32) fun f16 =>
  am_let (am_up f16 123 8 ((f16 123 8) + 1) : Nat → Nat → Int32) fun f17 =>
  some (t.1, f17)) else none) else none) else none) = some (nI (tx_e n b q), am_up (am_up (am_up (am_up F 125 m (nI (tx_V n b k q).1)) 126 m (tx_V n b k q).2) 127 m (nI q)) 123 8 (nI (m + 1))) := by
    rintro t rfl
    have c1 : am_in (nI m) 401 = true := pu_in (by omega) (by omega)
    dsimp only
    simp only [pu_letE, pu_up_ne _ _ (show (123 : Nat) ≠ 125 by omega), pu_up_ne _ _ (show (123 : Nat) ≠ 126 by omega), pu_up_ne _ _ (show (123 : Nat) ≠ 127 by omega), h8, c1, if_true, nI_clamp (show m < 2 ^ 31 by omega), nI_1]
  unfold xt_addToken
  rw [pu_letE, pu_letE, (lx_Lx hc).1, (lx_Dx hc).1, lx_Sx hc, nI_1]
  unfold tx_e tx_V at key ⊢
  rw [if_neg (show ¬ n ≤ q by omega), if_neg (show ¬ n ≤ q by omega)] at key ⊢
  by_cases cL : lx_L (b q) = true
  · rw [if_pos cL, if_pos cL] at key
    rw [if_pos cL, if_pos cL, if_pos cL]
    obtain ⟨j1, j2, j3, j4⟩ := lx_eF (b := b) lx_L (Nat.le_of_lt hq)
    rw [lx_xL T (Nat.le_of_lt hq), pu_bs, kw_x T j1 j2 j3 hk, pu_bs, pu_letE, pu_bs]
    refine key _ ?_
    dsimp only
    by_cases c4 : kw_f (kw_m b q (lx_e n b lx_L q)) (kw_W k) 0 = -1
    · rw [if_pos c4, if_pos c4]
      rfl
    · rw [if_neg c4, if_neg c4]
      rfl
  · rw [if_neg cL, if_neg cL] at key
    rw [if_neg cL, if_neg cL, if_neg cL]
    by_cases cD : lx_D (b q) = true
    · rw [if_pos cD, if_pos cD] at key
      rw [if_pos cD, if_pos cD, if_pos cD]
      obtain ⟨j1, j2, j3, j4⟩ := lx_eF (b := b) lx_D (Nat.le_of_lt hq)
      rw [lx_xD T (Nat.le_of_lt hq), pu_bs, pk_sub j1]
      by_cases c4 : lx_e n b lx_D q - q ≤ 4
      · rw [if_pos c4] at key
        rw [if_pos c4]
        have h1 := lx_vl (b := b) (s := q) (lx_e n b lx_D q - q) c4 (fun i hi => j3 _ (by omega) (by omega))
        have h2 : 10 ^ (lx_e n b lx_D q - q) ≤ 10 ^ 4 := Nat.pow_le_pow_right (by omega) c4
        have h3 : 10 ^ 4 = 10000 := rfl
        rw [if_neg (show ¬ (4 : Int32) < nI (lx_e n b lx_D q - q) from nI_nlt (a := 4) (by omega) (by omega)), lx_xN T j1 j2 j3, pu_bs, pu_bs, pu_letE, if_neg (pu_neg1 (by omega)), pu_bs]
        exact key _ rfl
      · rw [if_neg c4] at key
        rw [if_neg c4]
        rw [if_pos (show (4 : Int32) < nI (lx_e n b lx_D q - q) from nI_lt (a := 4) (by omega) (by omega)), pu_bs, pu_letE, if_pos rfl, pu_bs]
        exact key _ rfl
    · rw [if_neg cD, if_neg cD] at key
      rw [if_neg cD, if_neg cD, if_neg cD, pu_bs]
      refine key _ ?_
      by_cases cS : lx_S (b q) = true
      · rw [if_pos cS, if_pos cS]
        rfl
      · rw [if_neg cS, if_neg cS]
        rfl
def tx_p (n : Nat) (b : Nat → Nat) : Nat → Nat
  | 0 => 0
  | i + 1 => tx_e n b (lx_e n b lx_B (tx_p n b i))
def tx_s (n : Nat) (b : Nat → Nat) (i : Nat) : Nat := lx_e n b lx_B (tx_p n b i)
def tx_Y (n : Nat) (b : Nat → Nat) (k N : Nat) (F : Nat → Nat → Int32) : Prop := ∀ j, j < N → tx_s n b j < n ∧ F 125 j = nI (tx_V n b k (tx_s n b j)).1 ∧ F 126 j = (tx_V n b k (tx_s n b j)).2 ∧ F 127 j = nI (tx_s n b j)
def tx_fx (F F' : Nat → Nat → Int32) : Prop := (∀ a, a ≠ 123 → a ≠ 125 → a ≠ 126 → a ≠ 127 → F' a = F a) ∧ F' 123 0 = F 123 0
theorem tx_fx.T {n : Nat} {b : Nat → Nat} {F F' : Nat → Nat → Int32} (h : tx_fx F F') (T : lx_T n b F) : lx_T n b F' :=
  ⟨T.1, by rw [h.2]; exact T.2.1, fun i hi => ⟨(T.2.2 i hi).1, by rw [h.1 124 (by omega) (by omega) (by omega) (by omega)]; exact (T.2.2 i hi).2⟩⟩
theorem tx_sp {n : Nat} {b : Nat → Nat} {F : Nat → Nat → Int32} (T : lx_T n b F) {k : Nat} (hk : k < 4) (h8 : F 123 8 = 0) : ∃ F' N, am_loop (fun (s2 : Int32 × Int32 × (Nat → Nat → Int32)) => ((
    if s2.2.1 < s2.2.2 123 0 then (
      if s2.1 < s2.2.2 123 0 then (
        if am_in s2.1 400 = true then (
        am_let (s2.2.2 124 s2.1.toNatClampNeg : Int32) fun t3 =>
        ((if t3 = 32 then (
            am_let (s2.1 + 1 : Int32) fun t4 =>
            some (t4, s2.2.2))
          else (
            if t3 = 10 then (
              am_let (s2.1 + 1 : Int32) fun t5 =>
              some (t5, s2.2.2))
            else (
              (xt_addToken s2.1 t3 k s2.2.2).bind fun p6 =>
              some (p6.1, p6.2)))) : Option (Int32 × (Nat → Nat → Int32))).bind fun t7 =>
        am_let (s2.2.1 + 1 : Int32) fun t8 =>
        some (.inl (t7.1, t8, t7.2))) else none)
      else (
        some (.inr s2.2.2)))
    else (
      some (.inr s2.2.2))) : Option ((Int32 × Int32 × (Nat → Nat → Int32)) ⊕ ((Nat → Nat → Int32))))) am_F (0, 0, F) = some F' ∧ N ≤ n ∧ tx_fx F F' ∧ F' 123 8 = nI N ∧ tx_s n b N = n ∧ tx_Y n b k N F' := by
  have hn := T.1
  have end' : ∀ F' m, (m ≤ n ∧ tx_fx F F' ∧ F' 123 8 = nI m ∧ tx_s n b m = lx_e n b lx_B n ∧ tx_Y n b k m F') → ∃ N, N ≤ n ∧ tx_fx F F' ∧ F' 123 8 = nI N ∧ tx_s n b N = n ∧ tx_Y n b k N F' := by
    rintro F' m ⟨a1, a2, a3, a4, a5⟩
    exact ⟨m, a1, a2, a3, by rw [a4, lx_e0 n b lx_B (fun z => absurd z.1 (by omega))], a5⟩
  have main := pu_one (f := fun (s2 : Int32 × Int32 × (Nat → Nat → Int32)) => ((
    if s2.2.1 < s2.2.2 123 0 then (
      if s2.1 < s2.2.2 123 0 then (
        if am_in s2.1 400 = true then (
        am_let (s2.2.2 124 s2.1.toNatClampNeg : Int32) fun t3 =>
        ((if t3 = 32 then (
            am_let (s2.1 + 1 : Int32) fun t4 =>
            some (t4, s2.2.2))
          else (
            if t3 = 10 then (
              am_let (s2.1 + 1 : Int32) fun t5 =>
              some (t5, s2.2.2))
            else (
              (xt_addToken s2.1 t3 k s2.2.2).bind fun p6 =>
              some (p6.1, p6.2)))) : Option (Int32 × (Nat → Nat → Int32))).bind fun t7 =>
        am_let (s2.2.1 + 1 : Int32) fun t8 =>
        some (.inl (t7.1, t8, t7.2))) else none)
      else (
        some (.inr s2.2.2)))
    else (
      some (.inr s2.2.2))) : Option ((Int32 × Int32 × (Nat → Nat → Int32)) ⊕ ((Nat → Nat → Int32))))) (fun j s => ∃ q m F', s = (nI q, nI j, F') ∧ j ≤ q ∧ q ≤ n ∧ m ≤ j ∧ tx_fx F F' ∧ F' 123 8 = nI m ∧ tx_s n b m = lx_e n b lx_B q ∧ tx_Y n b k m F')
    (fun F' => ∃ N, N ≤ n ∧ tx_fx F F' ∧ F' 123 8 = nI N ∧ tx_s n b N = n ∧ tx_Y n b k N F') n (s := (0, 0, F)) ⟨0, 0, F, rfl, Nat.le_refl _, Nat.zero_le _, Nat.le_refl _, ⟨fun _ _ _ _ _ => rfl, rfl⟩, h8, rfl, fun j hj => absurd hj (Nat.not_lt_zero _)⟩ (by
    rintro j s hj ⟨q, m, F', rfl, K1, K2, K3, K4, K5, K6, K7⟩
    obtain ⟨t1, t2, t3⟩ := K4.T T
    dsimp only
    rw [if_pos (show nI j < F' 123 0 by rw [t2]; exact nI_lt hj (by omega))]
    by_cases c : q < n
    · obtain ⟨s1, s2⟩ := t3 q c
      rw [if_pos (show nI q < F' 123 0 by rw [t2]; exact nI_lt c (by omega)), if_pos (pu_in (by omega) (by omega)), nI_clamp (by omega), s2, pu_letE]
      left
      by_cases cb : lx_B (b q) = true
      · have hs := lx_es n b lx_B c cb
        unfold lx_B at cb
        rw [Bool.or_eq_true, decide_eq_true_eq, decide_eq_true_eq] at cb
        by_cases c3 : nI (b q) = 32
        · rw [if_pos c3, pu_letE, pu_bs, pu_letE, nI_1, nI_1]
          exact ⟨_, rfl, q + 1, m, F', rfl, by omega, by omega, by omega, K4, K5, by rw [K6, hs], K7⟩
        · have c3' : nI (b q) = 10 := by
            rcases cb with h | h
            · exact absurd (show nI (b q) = 32 by rw [h]; rfl) c3
            · rw [h]; rfl
          rw [if_neg c3, if_pos c3', pu_letE, pu_bs, pu_letE, nI_1, nI_1]
          exact ⟨_, rfl, q + 1, m, F', rfl, by omega, by omega, by omega, K4, K5, by rw [K6, hs], K7⟩
      · have hs := lx_e0 n b lx_B (p := q) (fun z => cb z.2)
        have c3 : ¬ nI (b q) = 32 := fun z => cb (by
          have := pu_nIinj (b := 32) (by omega) (by omega) z
          rw [this]; rfl)
        have c4 : ¬ nI (b q) = 10 := fun z => cb (by
          have := pu_nIinj (b := 10) (by omega) (by omega) z
          rw [this]; rfl)
        obtain ⟨u1, u2⟩ := tx_lt (b := b) c
        rw [if_neg c3, if_neg c4, tx_add ⟨t1, t2, t3⟩ c hk K5 (by omega), pu_bs, pu_bs, pu_letE, nI_1]
        dsimp only
        refine ⟨_, rfl, tx_e n b q, m + 1, _, rfl, by omega, by omega, by omega, ⟨fun a a1 a2 a3 a4 => ?_, ?_⟩, ?_, ?_, ?_⟩
        · rw [pu_up_ne _ _ a1, pu_up_ne _ _ a4, pu_up_ne _ _ a3, pu_up_ne _ _ a2]
          exact K4.1 a a1 a2 a3 a4
        · rw [pu_up_row, pu_upd_ne _ _ (by omega), pu_up_ne _ _ (by omega), pu_up_ne _ _ (by omega), pu_up_ne _ _ (by omega)]
          exact K4.2
        · rw [pu_up_row, pu_upd_eq]
        · show lx_e n b lx_B (tx_e n b (tx_s n b m)) = _
          rw [K6, hs]
        · intro i hi
          rw [pu_up_ne _ _ (show (125 : Nat) ≠ 123 by omega), pu_up_ne _ _ (show (125 : Nat) ≠ 127 by omega), pu_up_ne _ _ (show (125 : Nat) ≠ 126 by omega), pu_up_row,
            pu_up_ne _ _ (show (126 : Nat) ≠ 123 by omega), pu_up_ne _ _ (show (126 : Nat) ≠ 127 by omega), pu_up_row, pu_up_ne _ _ (show (126 : Nat) ≠ 125 by omega),
            pu_up_ne _ _ (show (127 : Nat) ≠ 123 by omega), pu_up_row, pu_up_ne _ _ (show (127 : Nat) ≠ 126 by omega), pu_up_ne _ _ (show (127 : Nat) ≠ 125 by omega)]
          by_cases hi2 : i = m
          · rw [hi2, pu_upd_eq, pu_upd_eq, pu_upd_eq, K6, hs]
            exact ⟨c, rfl, rfl, rfl⟩
          · rw [pu_upd_ne _ _ hi2, pu_upd_ne _ _ hi2, pu_upd_ne _ _ hi2]
            exact K7 i (by omega)
    · rw [if_neg (show ¬ nI q < F' 123 0 by rw [t2]; exact nI_nlt (by omega) (by omega))]
      exact Or.inr ⟨_, rfl, end' _ m ⟨by omega, K4, K5, by rw [K6, show q = n by omega], K7⟩⟩) (by
    rintro s ⟨q, m, F', rfl, K1, K2, K3, K4, K5, K6, K7⟩
    obtain ⟨t1, t2, t3⟩ := K4.T T
    dsimp only
    rw [if_neg (show ¬ nI n < F' 123 0 by rw [t2]; exact nI_nlt (Nat.le_refl _) (by omega))]
    exact ⟨_, rfl, end' _ m ⟨by omega, K4, K5, by rw [K6, show q = n by omega], K7⟩⟩) (by omega)
  obtain ⟨F', r1, N, r2⟩ := main
  exact ⟨F', N, r1, r2⟩
