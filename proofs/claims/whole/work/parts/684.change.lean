/-! CHANGE -/
def ch_k (C : Nat → Nat) (p : Nat) : Nat → Nat
  | 0 => p
  | c + 1 => ch_k C p c + C c
theorem ch_k_le {C : Nat → Nat} {p : Nat} (hp : p ≤ 99) (hC : ∀ i, i < 8 → C i ≤ 99) : ∀ c, c ≤ 8 → ch_k C p c ≤ 99 + 99 * c := by
  intro c
  induction c with
  | zero => intro _; show p ≤ _; omega
  | succ c ih =>
    intro h
    have := ih (by omega)
    have := hC c (by omega)
    show ch_k C p c + C c ≤ _
    omega
theorem ch_kf {G : Nat → Nat → Int32} {C : Nat → Nat} {p : Nat} (hC : ∀ i, i < 8 → G 217 (473 + i) = nI (C i)) {c : Nat} (hc : c ≤ 8) : m_keptFor (nI c) (nI p) G = some (nI (ch_k C p c)) := by
  unfold m_keptFor
  refine pu_for (fun j => (nI (ch_k C p j), nI j)) c rfl (fun j hj => ?_) ?_
  · have h1 : nI j < nI c := nI_lt hj (by omega)
    have a1 : (473 : Int32) + nI j = nI (473 + j) := nI_add 473 j
    have d1 : am_in (nI (473 + j)) 2008 = true := pu_in (by omega) (by omega)
    dsimp only
    simp only [h1, a1, d1, if_true, pu_letE, nI_clamp (show 473 + j < 2 ^ 31 by omega), hC j (by omega), nI_add, nI_1]
    rfl
  · have hll : ¬ nI c < nI c := nI_nlt (Nat.le_refl _) (by omega)
    dsimp only
    simp only [hll, if_false]
theorem ch_in {f g F G : Nat → Nat → Int32} {C : Nat → Nat} {p d : Nat} {a b : Int32} (hp : p ≤ 99) (hd : 1 ≤ d) (hd2 : d ≤ 40)
    (hC : ∀ i, i < 8 → C i ≤ 99 ∧ f 54 i = nI (C i) ∧ g 217 (473 + i) = nI (C i)) (fF : ∀ x, x ≠ 152 → F x = f x) (fG : ∀ x, x ≠ 233 → G x = g x)
    (hL : ∀ j, j < d → ∃ l, l ≤ 198 * j ∧ F 152 j = nI l ∧ G 233 j = nI l) : ∃ (v : Int32) (F' G' : Nat → Nat → Int32), am_loop (fun (s4 : Int32 × Int32 × Int32 × (Nat → Nat → Int32)) => ((
        if nI d < s4.2.2.1 then (
          some (.inr (s4.1, s4.2.2.2)))
        else (
          if (nI 8) < s4.2.2.1 then (
            some (.inr (s4.1, s4.2.2.2)))
          else (
            if am_in (s4.2.2.1 - 1) 8 = true then (
            am_let ((s4.2.1 + (s4.2.2.2 54 (s4.2.2.1 - 1).toNatClampNeg)) : Int32) fun t5 =>
            if am_in (nI d - s4.2.2.1) 41 = true then (
            if am_in (nI d) 41 = true then (
            ((if (t5 + (s4.2.2.2 152 (nI d - s4.2.2.1).toNatClampNeg)) < s4.2.2.2 152 (nI d).toNatClampNeg then (
                if am_in (nI d - s4.2.2.1) 41 = true then (
                if am_in (nI d) 41 = true then (
                am_let (am_up s4.2.2.2 152 (nI d).toNatClampNeg (t5 + (s4.2.2.2 152 (nI d - s4.2.2.1).toNatClampNeg)) : Nat → Nat → Int32) fun f6 =>
                some (s4.2.2.1, f6)) else none) else none)
              else (
                some (s4.1, s4.2.2.2))) : Option (Int32 × (Nat → Nat → Int32))).bind fun t7 =>
            am_let (s4.2.2.1 + 1 : Int32) fun t8 =>
            some (.inl (t7.1, t5, t8, t7.2))) else none) else none) else none))) : Option ((Int32 × Int32 × Int32 × (Nat → Nat → Int32)) ⊕ (Int32 × (Nat → Nat → Int32))))) am_F (a, nI p, 1, am_up F 152 d 1000000) = some (v, F') ∧ am_loop (fun (s7 : Int32 × Int32 × (Nat → Nat → Int32)) => ((
              if (m_lesser 8 (nI d)) < s7.2.1 then (
                some (.inr (s7.1, s7.2.2)))
              else (
                (m_keptFor s7.2.1 (nI p) s7.2.2).bind fun p9 =>
                if am_in (nI d - s7.2.1) 41 = true then (
                am_let ((p9 + (s7.2.2 233 (nI d - s7.2.1).toNatClampNeg)) : Int32) fun t10 =>
                if am_in (nI d) 41 = true then (
                ((if t10 < s7.2.2 233 (nI d).toNatClampNeg then (
                    if am_in (nI d) 41 = true then (
                    am_let (am_up s7.2.2 233 (nI d).toNatClampNeg t10 : Nat → Nat → Int32) fun f11 =>
                    some (s7.2.1, f11)) else none)
                  else (
                    some (s7.1, s7.2.2))) : Option (Int32 × (Nat → Nat → Int32))).bind fun t12 =>
                am_let (s7.2.1 + 1 : Int32) fun t13 =>
                some (.inl (t12.1, t13, t12.2))) else none) else none)) : Option ((Int32 × Int32 × (Nat → Nat → Int32)) ⊕ (Int32 × (Nat → Nat → Int32))))) am_F (b, 1, am_up G 233 d 100000000) = some (v, G') ∧ (∀ x, x ≠ 152 → F' x = f x) ∧ (∀ x, x ≠ 233 → G' x = g x) ∧ (∀ j, j < d + 1 → ∃ l, l ≤ 198 * j ∧ F' 152 j = nI l ∧ G' 233 j = nI l) := by
  have eN : m_lesser 8 (nI d) = nI (min 8 d) := by
    unfold m_lesser
    by_cases h : 8 < d
    · rw [if_pos (show (8 : Int32) < nI d from nI_lt (a := 8) h (by omega)), show min 8 d = 8 by omega]
      rfl
    · rw [if_neg (show ¬ (8 : Int32) < nI d from nI_nlt (a := 8) (by omega) (by omega)), show min 8 d = d by omega]
  have cd : am_in (nI d) 41 = true := pu_in (by omega) (by omega)
  rw [eN]
  have K := pu_two (f := fun (s4 : Int32 × Int32 × Int32 × (Nat → Nat → Int32)) => ((
        if nI d < s4.2.2.1 then (
          some (.inr (s4.1, s4.2.2.2)))
        else (
          if (nI 8) < s4.2.2.1 then (
            some (.inr (s4.1, s4.2.2.2)))
          else (
            if am_in (s4.2.2.1 - 1) 8 = true then (
            am_let ((s4.2.1 + (s4.2.2.2 54 (s4.2.2.1 - 1).toNatClampNeg)) : Int32) fun t5 =>
            if am_in (nI d - s4.2.2.1) 41 = true then (
            if am_in (nI d) 41 = true then (
            ((if (t5 + (s4.2.2.2 152 (nI d - s4.2.2.1).toNatClampNeg)) < s4.2.2.2 152 (nI d).toNatClampNeg then (
                if am_in (nI d - s4.2.2.1) 41 = true then (
                if am_in (nI d) 41 = true then (
                am_let (am_up s4.2.2.2 152 (nI d).toNatClampNeg (t5 + (s4.2.2.2 152 (nI d - s4.2.2.1).toNatClampNeg)) : Nat → Nat → Int32) fun f6 =>
                some (s4.2.2.1, f6)) else none) else none)
              else (
                some (s4.1, s4.2.2.2))) : Option (Int32 × (Nat → Nat → Int32))).bind fun t7 =>
            am_let (s4.2.2.1 + 1 : Int32) fun t8 =>
            some (.inl (t7.1, t5, t8, t7.2))) else none) else none) else none))) : Option ((Int32 × Int32 × Int32 × (Nat → Nat → Int32)) ⊕ (Int32 × (Nat → Nat → Int32))))) (g := fun (s7 : Int32 × Int32 × (Nat → Nat → Int32)) => ((
              if (nI (min 8 d)) < s7.2.1 then (
                some (.inr (s7.1, s7.2.2)))
              else (
                (m_keptFor s7.2.1 (nI p) s7.2.2).bind fun p9 =>
                if am_in (nI d - s7.2.1) 41 = true then (
                am_let ((p9 + (s7.2.2 233 (nI d - s7.2.1).toNatClampNeg)) : Int32) fun t10 =>
                if am_in (nI d) 41 = true then (
                ((if t10 < s7.2.2 233 (nI d).toNatClampNeg then (
                    if am_in (nI d) 41 = true then (
                    am_let (am_up s7.2.2 233 (nI d).toNatClampNeg t10 : Nat → Nat → Int32) fun f11 =>
                    some (s7.2.1, f11)) else none)
                  else (
                    some (s7.1, s7.2.2))) : Option (Int32 × (Nat → Nat → Int32))).bind fun t12 =>
                am_let (s7.2.1 + 1 : Int32) fun t13 =>
                some (.inl (t12.1, t13, t12.2))) else none) else none)) : Option ((Int32 × Int32 × (Nat → Nat → Int32)) ⊕ (Int32 × (Nat → Nat → Int32))))) (s := (a, nI p, 1, am_up F 152 d 1000000)) (t := (b, 1, am_up G 233 d 100000000))
    (fun c s t => ∃ a b F' G', s = (a, nI (ch_k C p c), nI (c + 1), F') ∧ t = (b, nI (c + 1), G') ∧ (∀ x, x ≠ 152 → F' x = f x) ∧ (∀ x, x ≠ 233 → G' x = g x) ∧ (∀ j, j < d → ∃ l, l ≤ 198 * j ∧ F' 152 j = nI l ∧ G' 233 j = nI l) ∧ ((c = 0 ∧ F' 152 d = nI 1000000 ∧ G' 233 d = nI 100000000) ∨ (1 ≤ c ∧ a = b ∧ ∃ v, v ≤ 198 * d ∧ F' 152 d = nI v ∧ G' 233 d = nI v)))
    (fun e e' => ∃ v F' G', e = (v, F') ∧ e' = (v, G') ∧ (∀ x, x ≠ 152 → F' x = f x) ∧ (∀ x, x ≠ 233 → G' x = g x) ∧ (∀ j, j < d + 1 → ∃ l, l ≤ 198 * j ∧ F' 152 j = nI l ∧ G' 233 j = nI l)) (min 8 d)
    ⟨a, b, _, _, rfl, rfl, fun x hx => by rw [pu_up_ne _ _ hx]; exact fF x hx, fun x hx => by rw [pu_up_ne _ _ hx]; exact fG x hx, fun j hj => by
      obtain ⟨l, l1, l2, l3⟩ := hL j hj
      exact ⟨l, l1, by rw [pu_up_row, pu_upd_ne _ _ (by omega)]; exact l2, by rw [pu_up_row, pu_upd_ne _ _ (by omega)]; exact l3⟩, Or.inl ⟨rfl, by rw [pu_up_row, pu_upd_eq]; rfl, by rw [pu_up_row, pu_upd_eq]; rfl⟩⟩ (by
    rintro c s t hc ⟨a, b, F', G', rfl, rfl, kF, kG, kL, kD⟩
    refine Or.inl ?_
    have hc8 : c < 8 := by omega
    have hcd : c < d := by omega
    have h1 : ¬ nI d < nI (c + 1) := nI_nlt (by omega) (by omega)
    have h2 : ¬ nI 8 < nI (c + 1) := nI_nlt (by omega) (by omega)
    have h3 : ¬ nI (min 8 d) < nI (c + 1) := nI_nlt (by omega) (by omega)
    have c1 : am_in (nI c) 8 = true := pu_in (by omega) (by omega)
    have c2 : am_in (nI (d - (c + 1))) 41 = true := pu_in (by omega) (by omega)
    obtain ⟨C1, C2, C3⟩ := hC c (by omega)
    have eC : F' 54 c = nI (C c) := by rw [kF 54 (by decide)]; exact C2
    have eK := ch_kf (G := G') (C := C) (p := p) (fun i hi => by rw [kG 217 (by decide)]; exact (hC i hi).2.2) (c := c + 1) (by omega)
    have bK := ch_k_le hp (fun i hi => (hC i hi).1) (c + 1) (by omega)
    have eK1 : ch_k C p (c + 1) = ch_k C p c + C c := rfl
    obtain ⟨l, l1, l2, l3⟩ := kL (d - (c + 1)) (by omega)
    dsimp only
    simp only [h1, h2, h3, if_false, nI_pred, c1, if_true, pu_letE, nI_clamp (show c < 2 ^ 31 by omega), eC, nI_add, ← eK1, pk_sub (show c + 1 ≤ d by omega), c2, cd, nI_clamp (show d - (c + 1) < 2 ^ 31 by omega), nI_clamp (show d < 2 ^ 31 by omega), l2, l3, eK, pu_bs, nI_1]
    have nextL : ∀ (x y : Int32), (∀ j, j < d → ∃ l, l ≤ 198 * j ∧ am_up F' 152 d x 152 j = nI l ∧ am_up G' 233 d y 233 j = nI l) := fun x y j hj => by
      obtain ⟨l, l1, l2, l3⟩ := kL j hj
      exact ⟨l, l1, by rw [pu_up_row, pu_upd_ne _ _ (by omega)]; exact l2, by rw [pu_up_row, pu_upd_ne _ _ (by omega)]; exact l3⟩
    have nF : ∀ (x : Int32), (∀ q, q ≠ 152 → am_up F' 152 d x q = f q) := fun x q hq => by rw [pu_up_ne _ _ hq]; exact kF q hq
    have nG : ∀ (x : Int32), (∀ q, q ≠ 233 → am_up G' 233 d x q = g q) := fun x q hq => by rw [pu_up_ne _ _ hq]; exact kG q hq
    rcases kD with ⟨rfl, d1, d2⟩ | ⟨d0, rfl, v, v1, v2, v3⟩
    · have hv : ch_k C p (0 + 1) + l ≤ 198 * d := by omega
      have q1 : nI (ch_k C p (0 + 1) + l) < nI 1000000 := nI_lt (by omega) (by omega)
      have q2 : nI (ch_k C p (0 + 1) + l) < nI 100000000 := nI_lt (by omega) (by omega)
      simp only [d1, d2, q1, q2, if_true, pu_bs]
      exact ⟨_, _, rfl, rfl, _, _, _, _, rfl, rfl, nF _, nG _, nextL _ _, Or.inr ⟨by omega, rfl, _, hv, by rw [pu_up_row, pu_upd_eq], by rw [pu_up_row, pu_upd_eq]⟩⟩
    · simp only [v2, v3]
      by_cases hq : nI (ch_k C p (c + 1) + l) < nI v
      · have hq' : ch_k C p (c + 1) + l < v := (nI_ltI (by omega) (by omega)).mp hq
        simp only [hq, if_true, pu_bs]
        exact ⟨_, _, rfl, rfl, _, _, _, _, rfl, rfl, nF _, nG _, nextL _ _, Or.inr ⟨by omega, rfl, ch_k C p (c + 1) + l, by omega, by rw [pu_up_row, pu_upd_eq], by rw [pu_up_row, pu_upd_eq]⟩⟩
      · simp only [hq, if_false, pu_bs]
        exact ⟨_, _, rfl, rfl, _, _, _, _, rfl, rfl, kF, kG, kL, Or.inr ⟨by omega, rfl, v, v1, v2, v3⟩⟩) (by
    rintro s t ⟨a, b, F', G', rfl, rfl, kF, kG, kL, kD⟩
    have h3 : nI (min 8 d) < nI (min 8 d + 1) := nI_lt (by omega) (by omega)
    dsimp only
    rcases kD with ⟨z, -⟩ | ⟨d0, rfl, v, v1, v2, v3⟩
    · omega
    · refine ⟨_, _, ?_, by simp only [h3, if_true], a, F', G', rfl, rfl, kF, kG, fun j hj => ?_⟩
      · by_cases h1 : nI d < nI (min 8 d + 1)
        · simp only [h1, if_true]
        · have h2 : nI 8 < nI (min 8 d + 1) := by
            by_cases h8 : d ≤ 8
            · exact absurd (nI_lt (a := d) (b := min 8 d + 1) (by omega) (by omega)) h1
            · exact nI_lt (by omega) (by omega)
          simp only [h1, h2, if_false, if_true]
      · by_cases hjd : j < d
        · exact kL j hjd
        · have : j = d := by omega
          subst this
          exact ⟨v, v1, v2, v3⟩)
  obtain ⟨e, e', k1, k2, v, F', G', rfl, rfl, kF, kG, kL⟩ := K
  exact ⟨v, F', G', k1, k2, kF, kG, kL⟩
theorem ch_end {f g F G : Nat → Nat → Int32} (h : rl_Rel f g) (hF : ∀ a, a ≠ 152 → F a = f a) (hG : ∀ a, a ≠ 233 → G a = g a) : rl_Rel F G := by
  have g216 := hG 216 (by decide)
  refine h.congr ⟨fun a h1 h2 => hF a (by omega), fun a h1 => hF a (by omega), by rw [hF 0 (by omega)], by rw [hF 0 (by omega)], by rw [hF 123 (by omega)], hF 124 (by omega), by rw [hF 128 (by omega)], by rw [hF 128 (by omega)], by rw [hF 143 (by omega)], by rw [hF 143 (by omega)], hF 150 (by omega), hF 153 (by omega), by rw [hF 144 (by omega)]⟩
    ⟨hG 217 (by decide), hG 218 (by decide), hG 219 (by decide), hG 224 (by decide), by rw [g216], by rw [g216], by rw [g216], by rw [g216], by rw [g216]⟩
theorem sm_change (x1 x2 x3 : Int32) (f g : Nat → Nat → Int32) (h : rl_Rel f g) : ∃ (v : Int32) (f1 g1 : Nat → Nat → Int32), x_change x1 x2 x3 f = some (v, f1) ∧ m_change x1 x2 x3 g = some (v, g1) ∧ rl_Rel f1 g1 := by
  unfold x_change m_change
  rw [pu_isIn, pu_isIn, pu_isIn]
  rcases pu_within_cases x1 (lo := 1) (hi := 40) 1 40 with ⟨e, n, n1, n2, rfl⟩ | e
  rotate_left
  · simp only [e, Bool.false_eq_true, if_false]
    exact ⟨-1, f, g, rfl, rfl, h⟩
  rcases pu_within_cases x2 (lo := 0) (hi := 99) 0 99 with ⟨e', p, p1, p2, rfl⟩ | e'
  rotate_left
  · simp only [e, e', Bool.false_eq_true, if_false, if_true]
    exact ⟨-1, f, g, rfl, rfl, h⟩
  rcases pu_within_cases x3 (lo := 0) (hi := 1) 0 1 with ⟨e'', w, w1, w2, rfl⟩ | e''
  rotate_left
  · simp only [e, e', e'', Bool.false_eq_true, if_false, if_true]
    exact ⟨-1, f, g, rfl, rfl, h⟩
  simp only [e, e', e'', if_true]
  unfold xm_leastChange_54
  have hC : ∀ i, i < 8 → (fun i => (g 217 (473 + i)).toNatClampNeg) i ≤ 99 ∧ f 54 i = nI ((fun i => (g 217 (473 + i)).toNatClampNeg) i) ∧ g 217 (473 + i) = nI ((fun i => (g 217 (473 + i)).toNatClampNeg) i) := fun i hi => by
    obtain ⟨a, a1, a2⟩ := h.1.2.2.2.2.2.1.2.2.2.2.2.2.2.2.2 i hi
    dsimp only
    rw [rl_f_cs h hi, a2, nI_clamp (by omega)]
    exact ⟨a1, rfl, rfl⟩
  generalize (fun i => (g 217 (473 + i)).toNatClampNeg) = C at hC
  have cn : am_in (nI n) 41 = true := pu_in (by omega) (by omega)
  simp only [pu_letE]
  have K := pu_two (f := fun (s2 : Int32 × Int32 × (Nat → Nat → Int32)) => ((
    if nI n < s2.2.1 then (
      some (.inr (s2.1, s2.2.2)))
    else (
      if am_in s2.2.1 41 = true then (
      (am_loop (fun (s4 : Int32 × Int32 × Int32 × (Nat → Nat → Int32)) => ((
        if s2.2.1 < s4.2.2.1 then (
          some (.inr (s4.1, s4.2.2.2)))
        else (
          if (nI 8) < s4.2.2.1 then (
            some (.inr (s4.1, s4.2.2.2)))
          else (
            if am_in (s4.2.2.1 - 1) 8 = true then (
            am_let ((s4.2.1 + (s4.2.2.2 54 (s4.2.2.1 - 1).toNatClampNeg)) : Int32) fun t5 =>
            if am_in (s2.2.1 - s4.2.2.1) 41 = true then (
            if am_in s2.2.1 41 = true then (
            ((if (t5 + (s4.2.2.2 152 (s2.2.1 - s4.2.2.1).toNatClampNeg)) < s4.2.2.2 152 s2.2.1.toNatClampNeg then (
                if am_in (s2.2.1 - s4.2.2.1) 41 = true then (
                if am_in s2.2.1 41 = true then (
                am_let (am_up s4.2.2.2 152 s2.2.1.toNatClampNeg (t5 + (s4.2.2.2 152 (s2.2.1 - s4.2.2.1).toNatClampNeg)) : Nat → Nat → Int32) fun f6 =>
                some (s4.2.2.1, f6)) else none) else none)
              else (
                some (s4.1, s4.2.2.2))) : Option (Int32 × (Nat → Nat → Int32))).bind fun t7 =>
            am_let (s4.2.2.1 + 1 : Int32) fun t8 =>
            some (.inl (t7.1, t5, t8, t7.2))) else none) else none) else none))) : Option ((Int32 × Int32 × Int32 × (Nat → Nat → Int32)) ⊕ (Int32 × (Nat → Nat → Int32))))) am_F (s2.1, nI p, 1, am_up s2.2.2 152 s2.2.1.toNatClampNeg 1000000)).bind fun e9 =>
      some (.inl (e9.1, s2.2.1 + 1, e9.2))) else none)) : Option ((Int32 × Int32 × (Nat → Nat → Int32)) ⊕ (Int32 × (Nat → Nat → Int32))))) (g := fun (s5 : Int32 × Int32 × (Nat → Nat → Int32)) => ((
          if nI n < s5.2.1 then (
            some (.inr (s5.1, s5.2.2)))
          else (
            if am_in s5.2.1 41 = true then (
            (am_loop (fun (s7 : Int32 × Int32 × (Nat → Nat → Int32)) => ((
              if (m_lesser 8 s5.2.1) < s7.2.1 then (
                some (.inr (s7.1, s7.2.2)))
              else (
                (m_keptFor s7.2.1 (nI p) s7.2.2).bind fun p9 =>
                if am_in (s5.2.1 - s7.2.1) 41 = true then (
                am_let ((p9 + (s7.2.2 233 (s5.2.1 - s7.2.1).toNatClampNeg)) : Int32) fun t10 =>
                if am_in s5.2.1 41 = true then (
                ((if t10 < s7.2.2 233 s5.2.1.toNatClampNeg then (
                    if am_in s5.2.1 41 = true then (
                    am_let (am_up s7.2.2 233 s5.2.1.toNatClampNeg t10 : Nat → Nat → Int32) fun f11 =>
                    some (s7.2.1, f11)) else none)
                  else (
                    some (s7.1, s7.2.2))) : Option (Int32 × (Nat → Nat → Int32))).bind fun t12 =>
                am_let (s7.2.1 + 1 : Int32) fun t13 =>
                some (.inl (t12.1, t13, t12.2))) else none) else none)) : Option ((Int32 × Int32 × (Nat → Nat → Int32)) ⊕ (Int32 × (Nat → Nat → Int32))))) am_F (s5.1, 1, am_up s5.2.2 233 s5.2.1.toNatClampNeg 100000000)).bind fun e14 =>
            some (.inl (e14.1, s5.2.1 + 1, e14.2))) else none)) : Option ((Int32 × Int32 × (Nat → Nat → Int32)) ⊕ (Int32 × (Nat → Nat → Int32))))) (s := (-1, 1, am_up f 152 0 0)) (t := (0, 1, am_up g 233 0 0))
    (fun i s t => ∃ a b F G, s = (a, nI (i + 1), F) ∧ t = (b, nI (i + 1), G) ∧ (1 ≤ i → a = b) ∧ (∀ x, x ≠ 152 → F x = f x) ∧ (∀ x, x ≠ 233 → G x = g x) ∧ (∀ j, j < i + 1 → ∃ l, l ≤ 198 * j ∧ F 152 j = nI l ∧ G 233 j = nI l))
    (fun e e' => ∃ a F G, e = (a, F) ∧ e' = (a, G) ∧ (∀ x, x ≠ 152 → F x = f x) ∧ (∀ x, x ≠ 233 → G x = g x) ∧ (∀ j, j < n + 1 → ∃ l, l ≤ 198 * j ∧ F 152 j = nI l ∧ G 233 j = nI l)) n
    ⟨-1, 0, _, _, rfl, rfl, fun z => absurd z (by decide), fun x hx => pu_up_ne _ _ hx, fun x hx => pu_up_ne _ _ hx, fun j hj => by
      have : j = 0 := by omega
      subst this
      exact ⟨0, by omega, by rw [pu_up_row, pu_upd_eq]; rfl, by rw [pu_up_row, pu_upd_eq]; rfl⟩⟩ (by
    rintro i s t hi ⟨a, b, F, G, rfl, rfl, hab, kF, kG, kL⟩
    refine Or.inl ?_
    have h1 : ¬ nI n < nI (i + 1) := nI_nlt (by omega) (by omega)
    have c1 : am_in (nI (i + 1)) 41 = true := pu_in (by omega) (by omega)
    obtain ⟨v, F', G', k1, k2, k3, k4, k5⟩ := ch_in (f := f) (g := g) (F := F) (G := G) (C := C) (p := p) (d := i + 1) (a := a) (b := b) p2 (by omega) (by omega) hC kF kG kL
    simp only [pu_letE] at k1 k2
    dsimp only
    simp only [h1, if_false, c1, if_true, pu_letE, nI_clamp (show i + 1 < 2 ^ 31 by omega)] at k1 k2 ⊢
    rw [k1, k2, pu_bs, pu_bs]
    exact ⟨_, _, rfl, rfl, v, v, F', G', by rw [nI_1], by rw [nI_1], fun _ => rfl, k3, k4, k5⟩) (by
    rintro s t ⟨a, b, F, G, rfl, rfl, hab, kF, kG, kL⟩
    have h1 : nI n < nI (n + 1) := nI_lt (by omega) (by omega)
    have := hab n1
    subst this
    dsimp only
    simp only [h1, if_true]
    exact ⟨_, _, rfl, rfl, a, F, G, rfl, rfl, kF, kG, kL⟩) (by omega)
  obtain ⟨e1, e2, r1, r2, a, F, G, rfl, rfl, kF, kG, kL⟩ := K
  simp only [pu_letE] at r1 r2
  rw [r1, r2, pu_bs, pu_bs]
  obtain ⟨l, l1, l2, l3⟩ := kL n (by omega)
  by_cases hw : nI w = 0
  · simp only [hw, if_true, cn, pu_bs, nI_clamp (show n < 2 ^ 31 by omega), l2, l3]
    exact ⟨_, _, _, rfl, rfl, ch_end h kF kG⟩
  · simp only [hw, if_false, pu_bs]
    exact ⟨_, _, _, rfl, rfl, ch_end h kF kG⟩
