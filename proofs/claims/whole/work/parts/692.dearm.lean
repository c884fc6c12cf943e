def md_K (G : Nat → Nat → Int32) (far m n : Nat) : Prop := ∀ lo hi, 1 ≤ lo → lo ≤ 41 → hi ≤ 40 → G 234 (42 * lo + hi) = if lo < hi ∧ hi ≤ n ∧ (hi - lo < far ∨ (hi - lo = far ∧ lo < m)) then nI (dr_P lo hi) else 0
theorem md_rd {G : Nat → Nat → Int32} {far m n lo hi : Nat} (K : md_K G far m n) (h1 : 1 ≤ lo) (h2 : lo ≤ 41) (h3 : hi ≤ 40) (h4 : hi ≤ n) (h : hi - lo < far) : G 234 (42 * lo + hi) = nI (dr_P lo hi) := by
  rw [K lo hi h1 h2 h3]
  by_cases c : lo < hi
  · rw [if_pos ⟨c, h4, Or.inl h⟩]
  · rw [if_neg (fun z => c z.1), dr_P0 (by omega)]
    rfl
theorem md_as {G : Nat → Nat → Int32} {far m n lo hi v : Nat} (K : md_K G far m n) (h0 : 1 ≤ lo) (h1 : lo ≤ v) (h2 : v ≤ hi) (h3 : hi ≤ n) (h4 : n ≤ 40) (h5 : hi - lo ≤ far) (h6 : 0 < far) : m_askedFor (nI lo) (nI hi) (nI v) G = some (nI (dr_a lo hi v)) := by
  unfold m_askedFor
  have e1 : (42 : Int32) * nI lo + nI v - 1 = nI (42 * lo + (v - 1)) := by
    rw [show (42 : Int32) = nI 42 from rfl, pk_mul, nI_add, show (1 : Int32) = nI 1 from rfl, pk_sub (by omega)]
    congr 1
    omega
  have e2 : (42 : Int32) * (nI v + 1) + nI hi = nI (42 * (v + 1) + hi) := by
    rw [nI_1, show (42 : Int32) = nI 42 from rfl, pk_mul, nI_add]
  have c1 : am_in (nI (42 * lo + (v - 1))) 1764 = true := pu_in (by omega) (by omega)
  have c2 : am_in (nI (42 * (v + 1) + hi)) 1764 = true := pu_in (by omega) (by omega)
  have a1 := dr_Pl (lo := lo) (hi := v - 1) h0 (by omega)
  have a2 := dr_Pl (lo := v + 1) (hi := hi) (by omega) (by omega)
  simp only [e1, e2, c1, c2, if_true, nI_clamp (show 42 * lo + (v - 1) < 2 ^ 31 by omega), nI_clamp (show 42 * (v + 1) + hi < 2 ^ 31 by omega), md_rd K h0 (show lo ≤ 41 by omega) (show v - 1 ≤ 40 by omega) (by omega) (by omega), md_rd K (show 1 ≤ v + 1 by omega) (show v + 1 ≤ 41 by omega) (show hi ≤ 40 by omega) h3 (by omega), dr_mxI (show dr_P lo (v - 1) < 2 ^ 31 by omega) (show dr_P (v + 1) hi < 2 ^ 31 by omega), nI_add]
  rfl
theorem md_be {G : Nat → Nat → Int32} {far m n lo hi : Nat} (K : md_K G far m n) (h0 : 1 ≤ lo) (h1 : lo ≤ hi) (h3 : hi ≤ n) (h4 : n ≤ 40) (h5 : hi - lo ≤ far) (h6 : 0 < far) : m_bestAsked (nI lo) (nI hi) G = some (nI (dr_b (dr_a lo hi) lo (hi - lo))) := by
  unfold m_bestAsked
  rw [pu_letE, nI_1]
  refine pu_for (fun j => (nI (dr_b (dr_a lo hi) lo j), nI (lo + 1 + j))) (hi - lo) rfl (fun j hj => ?_) ?_
  · have l1 : ¬ nI hi < nI (lo + 1 + j) := nI_nlt (by omega) (by omega)
    obtain ⟨b1, b2, -, -⟩ := dr_bp (dr_a lo hi) lo j
    have A1 := md_as (v := lo + 1 + j) K h0 (by omega) (by omega) h3 h4 h5 h6
    have A2 := md_as (v := dr_b (dr_a lo hi) lo j) K h0 b1 (by omega) h3 h4 h5 h6
    have e : dr_b (dr_a lo hi) lo (j + 1) = if dr_a lo hi (lo + j + 1) < dr_a lo hi (dr_b (dr_a lo hi) lo j) then lo + j + 1 else dr_b (dr_a lo hi) lo j := rfl
    have l2 := dr_al (lo := lo) (hi := hi) (v := lo + 1 + j) h0 (by omega) (by omega)
    have l3 := dr_al (lo := lo) (hi := hi) (v := dr_b (dr_a lo hi) lo j) h0 (by omega) (by omega)
    rw [show lo + j + 1 = lo + 1 + j by omega] at e
    dsimp only
    simp only [l1, if_false, A1, A2, pu_bs, pu_letE, nI_1]
    by_cases c : dr_a lo hi (lo + 1 + j) < dr_a lo hi (dr_b (dr_a lo hi) lo j)
    · rw [if_pos c] at e
      rw [if_pos (nI_lt c (by omega)), e]
      rfl
    · rw [if_neg c] at e
      rw [if_neg (nI_nlt (by omega) (by omega)), e]
      rfl
  · have l1 : nI hi < nI (lo + 1 + (hi - lo)) := nI_lt (by omega) (by omega)
    dsimp only
    simp only [l1, if_true]
theorem md_col {g : Nat → Nat → Int32} {far n : Nat} (h1 : 1 ≤ far) (h2 : far < n) (h3 : n ≤ 40) (K : md_K g far 1 n) : ∃ G, am_loop (fun (s8 : Int32 × (Nat → Nat → Int32)) => ((
            if nI n < (s8.1 + nI far) then (
              some (.inr s8.2))
            else (
              (m_bestAsked s8.1 (s8.1 + nI far) s8.2).bind fun p9 =>
              (m_askedFor s8.1 (s8.1 + nI far) p9 s8.2).bind fun p10 =>
              if am_in (((42 * s8.1) + s8.1) + nI far) 1764 = true then (
              am_let (am_up s8.2 234 (((42 * s8.1) + s8.1) + nI far).toNatClampNeg p10 : Nat → Nat → Int32) fun f11 =>
              am_let (s8.1 + 1 : Int32) fun t12 =>
              some (.inl (t12, f11))) else none)) : Option ((Int32 × (Nat → Nat → Int32)) ⊕ ((Nat → Nat → Int32))))) am_F (1, g) = some G ∧ md_K G (far + 1) 1 n ∧ ∀ a, a ≠ 234 → G a = g a := by
  refine pu_one (fun i s => ∃ G, s = (nI (i + 1), G) ∧ md_K G far (i + 1) n ∧ ∀ a, a ≠ 234 → G a = g a) _ (n - far) ⟨g, rfl, K, fun _ _ => rfl⟩ ?_ ?_
  · rintro i s hi ⟨G, rfl, K1, K2⟩
    have l1 : ¬ nI n < nI (i + 1 + far) := nI_nlt (by omega) (by omega)
    have B := md_be (lo := i + 1) (hi := i + 1 + far) K1 (by omega) (by omega) (by omega) h3 (by omega) (by omega)
    obtain ⟨b1, b2, -, -⟩ := dr_bp (dr_a (i + 1) (i + 1 + far)) (i + 1) (i + 1 + far - (i + 1))
    have A := md_as (lo := i + 1) (hi := i + 1 + far) (v := dr_b (dr_a (i + 1) (i + 1 + far)) (i + 1) (i + 1 + far - (i + 1))) K1 (by omega) b1 (by omega) (by omega) h3 (by omega) (by omega)
    rw [← (dr_P2 (lo := i + 1) (hi := i + 1 + far) (by omega) (by omega) (by omega)).1] at A
    have c1 : am_in (nI (42 * (i + 1) + (i + 1) + far)) 1764 = true := pu_in (by omega) (by omega)
    left
    dsimp only
    simp only [nI_add, l1, if_false, B, pu_bs, A, show (42 : Int32) = nI 42 from rfl, pk_mul, c1, if_true, pu_letE, nI_clamp (show 42 * (i + 1) + (i + 1) + far < 2 ^ 31 by omega), nI_1]
    refine ⟨_, rfl, _, rfl, fun lo hi' z1 z2 z3 => ?_, fun a ha => by rw [pu_up_ne _ _ ha]; exact K2 a ha⟩
    rw [pu_up_row]
    by_cases he : lo = i + 1 ∧ hi' = i + 1 + far
    · obtain ⟨rfl, rfl⟩ := he
      rw [show 42 * (i + 1) + (i + 1) + far = 42 * (i + 1) + (i + 1 + far) by omega, pu_upd_eq, if_pos ⟨by omega, by omega, Or.inr ⟨by omega, by omega⟩⟩]
    · rw [pu_upd_ne _ _ (by omega), K1 lo hi' z1 z2 z3]
      by_cases c : lo < hi' ∧ hi' ≤ n ∧ (hi' - lo < far ∨ (hi' - lo = far ∧ lo < i + 1))
      · rw [if_pos c, if_pos ⟨c.1, c.2.1, by omega⟩]
      · rw [if_neg c, if_neg (fun z => c ⟨z.1, z.2.1, by omega⟩)]
  · rintro s ⟨G, rfl, K1, K2⟩
    have l1 : nI n < nI (n - far + 1 + far) := nI_lt (by omega) (by omega)
    dsimp only
    simp only [nI_add, l1, if_true]
    refine ⟨_, rfl, fun lo hi' z1 z2 z3 => ?_, K2⟩
    rw [K1 lo hi' z1 z2 z3]
    by_cases c : lo < hi' ∧ hi' ≤ n ∧ (hi' - lo < far ∨ (hi' - lo = far ∧ lo < n - far + 1))
    · rw [if_pos c, if_pos ⟨c.1, c.2.1, by omega⟩]
    · rw [if_neg c, if_neg (fun z => c ⟨z.1, z.2.1, by omega⟩)]
theorem md_0 (g : Nat → Nat → Int32) : ∃ G, am_loop (fun (s3 : Int32 × (Nat → Nat → Int32)) => ((
        if s3.1 < 1764 then (
          if am_in s3.1 1764 = true then (
          am_let (am_up s3.2 234 s3.1.toNatClampNeg 0 : Nat → Nat → Int32) fun f4 =>
          am_let (s3.1 + 1 : Int32) fun t5 =>
          some (.inl (t5, f4))) else none)
        else (
          some (.inr s3.2))) : Option ((Int32 × (Nat → Nat → Int32)) ⊕ ((Nat → Nat → Int32))))) am_F (0, g) = some G ∧ (∀ j, j < 1764 → G 234 j = 0) ∧ ∀ a, a ≠ 234 → G a = g a := by
  refine pu_one (fun i s => ∃ G, s = (nI i, G) ∧ (∀ j, j < i → G 234 j = 0) ∧ ∀ a, a ≠ 234 → G a = g a) _ 1764 ⟨g, rfl, fun j hj => absurd hj (Nat.not_lt_zero _), fun _ _ => rfl⟩ ?_ ?_
  · rintro i s hi ⟨G, rfl, K1, K2⟩
    have l1 : nI i < (1764 : Int32) := nI_lt (b := 1764) hi (by omega)
    have c1 : am_in (nI i) 1764 = true := pu_in (by omega) (by omega)
    left
    dsimp only
    simp only [l1, c1, if_true, pu_letE, nI_clamp (show i < 2 ^ 31 by omega), nI_1]
    refine ⟨_, rfl, _, rfl, fun j hj => ?_, fun a ha => by rw [pu_up_ne _ _ ha]; exact K2 a ha⟩
    rw [pu_up_row]
    by_cases he : j = i
    · rw [he, pu_upd_eq]
    · rw [pu_upd_ne _ _ he]
      exact K1 j (by omega)
  · rintro s ⟨G, rfl, K1, K2⟩
    dsimp only
    rw [if_neg (by decide)]
    exact ⟨_, rfl, K1, K2⟩
theorem sm_dear (x1 x2 : Int32) (f g : Nat → Nat → Int32) (h : rl_Rel f g) : ∃ (v : Int32) (f1 g1 : Nat → Nat → Int32), x_dear x1 x2 f = some (v, f1) ∧ m_dear x1 x2 g = some (v, g1) ∧ rl_Rel f1 g1 := by
  unfold x_dear m_dear
  rw [pu_isIn, pu_isIn]
  rcases pu_within_cases x1 (lo := 1) (hi := 40) 1 40 with ⟨e, n, n1, n2, rfl⟩ | e
  rotate_left
  · simp only [e, Bool.false_eq_true, if_false]
    exact ⟨-1, f, g, rfl, rfl, h⟩
  rcases pu_within_cases x2 (lo := 0) (hi := 1) 0 1 with ⟨e', w, w1, w2, rfl⟩ | e'
  rotate_left
  · simp only [e, e', Bool.false_eq_true, if_false, if_true]
    exact ⟨-1, f, g, rfl, rfl, h⟩
  simp only [e, e', if_true]
  obtain ⟨F, x1, x2, x3, x4⟩ := pr_x h.2.2.2.2.2.2 (w := w) n1 n2
  rw [x1, pu_bs]
  obtain ⟨G0, a1, a2, a3⟩ := md_0 g
  rw [a1, pu_bs]
  have K0 : md_K G0 1 1 n := fun lo hi z1 z2 z3 => by
    rw [a2 _ (by omega), if_neg (fun z => by omega)]
  have K : ∃ G, am_loop (fun (s7 : Int32 × (Nat → Nat → Int32)) => ((
        if s7.1 < nI n then (
          (am_loop (fun (s8 : Int32 × (Nat → Nat → Int32)) => ((
            if nI n < (s8.1 + s7.1) then (
              some (.inr s8.2))
            else (
              (m_bestAsked s8.1 (s8.1 + s7.1) s8.2).bind fun p9 =>
              (m_askedFor s8.1 (s8.1 + s7.1) p9 s8.2).bind fun p10 =>
              if am_in (((42 * s8.1) + s8.1) + s7.1) 1764 = true then (
              am_let (am_up s8.2 234 (((42 * s8.1) + s8.1) + s7.1).toNatClampNeg p10 : Nat → Nat → Int32) fun f11 =>
              am_let (s8.1 + 1 : Int32) fun t12 =>
              some (.inl (t12, f11))) else none)) : Option ((Int32 × (Nat → Nat → Int32)) ⊕ ((Nat → Nat → Int32))))) am_F (1, s7.2)).bind fun e13 =>
          am_let (s7.1 + 1 : Int32) fun t14 =>
          some (.inl (t14, e13)))
        else (
          some (.inr s7.2))) : Option ((Int32 × (Nat → Nat → Int32)) ⊕ ((Nat → Nat → Int32))))) am_F (1, G0) = some G ∧ md_K G n 1 n ∧ ∀ a, a ≠ 234 → G a = g a := by
    refine pu_one (fun i s => ∃ G, s = (nI (i + 1), G) ∧ md_K G (i + 1) 1 n ∧ ∀ a, a ≠ 234 → G a = g a) _ (n - 1) ⟨G0, rfl, K0, a3⟩ ?_ ?_
    · rintro i s hi ⟨G, rfl, K1, K2⟩
      have l1 : nI (i + 1) < nI n := nI_lt (by omega) (by omega)
      obtain ⟨G2, y1, y2, y3⟩ := md_col (far := i + 1) (by omega) (by omega) n2 K1
      left
      dsimp only
      simp only [l1, if_true]
      rw [y1, pu_bs, pu_letE, nI_1]
      exact ⟨_, rfl, _, rfl, y2, fun a ha => (y3 a ha).trans (K2 a ha)⟩
    · rintro s ⟨G, rfl, K1, K2⟩
      rw [show n - 1 + 1 = n by omega] at K1 ⊢
      have hll : ¬ nI n < nI n := nI_nlt (Nat.le_refl _) (by omega)
      dsimp only
      simp only [hll, if_false]
      exact ⟨_, rfl, K1, K2⟩
  obtain ⟨G, y1, y2, y3⟩ := K
  rw [y1, pu_bs]
  have g216 := y3 216 (by decide)
  have R : rl_Rel F G := rl_kn h (fun a z1 z2 z3 => x3 a z1 z3) (by
    have hN := h.2.2.2.2.2.1
    unfold rl_Ni at hN ⊢
    rw [x4 7 (by decide), x3 150 (by decide) (by decide)]
    exact hN) x2 ⟨y3 217 (by decide), y3 218 (by decide), y3 219 (by decide), y3 224 (by decide), by rw [g216], by rw [g216], by rw [g216], by rw [g216], by rw [g216]⟩
  by_cases hw : nI w = 0
  · have e1 : (42 : Int32) + nI n = nI (42 + n) := nI_add 42 n
    have c1 : am_in (nI (42 + n)) 1764 = true := pu_in (by omega) (by omega)
    have r1 := md_rd y2 (lo := 1) (hi := n) (by omega) (by omega) n2 (Nat.le_refl _) (by omega)
    simp only [hw, if_true, e1, c1, nI_clamp (show 42 + n < 2 ^ 31 by omega)]
    exact ⟨_, F, G, rfl, by rw [show 42 + n = 42 * 1 + n by omega, r1], R⟩
  · simp only [hw, if_false]
    by_cases hn : n = 1
    · subst hn
      simp only [show nI 1 = (1 : Int32) from rfl, if_true]
      exact ⟨_, F, G, rfl, rfl, R⟩
    · have hn1 : ¬ nI n = 1 := fun z => hn (pu_nIinj (b := 1) (by omega) (by omega) z)
      have B := md_be (lo := 1) (hi := n) y2 (by omega) n1 (Nat.le_refl _) n2 (by omega) (by omega)
      have B' : m_bestAsked 1 (nI n) G = some (nI (dr_b (dr_a 1 n) 1 (n - 1))) := B
      simp only [hn1, hn, if_false, B', pu_bs]
      exact ⟨_, F, G, rfl, rfl, R⟩
