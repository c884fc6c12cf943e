def te_mk (f : te_H) (a0 : Int32) (u w : Nat) (a3 : Int32) (i : Nat) : Int32 :=
  if a0 = 3 then (if a3 = 0 then m_joined (m_joined (te_U f (u / 100) i) (nI (w % 3)) (te_U f (u / 10 % 10) i)) (nI (w / 3)) (te_U f (u % 10) i) else m_joined (te_U f (u / 100) i) (nI (w % 3)) (m_joined (te_U f (u / 10 % 10) i) (nI (w / 3)) (te_U f (u % 10) i)))
  else if a0 = 2 then m_joined (te_U f (u / 100) i) (nI (w % 3)) (te_U f (u / 10 % 10) i) else te_U f (u / 100) i
theorem te_makes {f g : te_H} (h : rl_Rel f g) {z : Nat} (hz : z ≤ 4) (e2 : g 217 437 = nI z) (a0 a3 : Int32) {u w : Nat} (hu : u < 1000) (hw : w < 9) : ∃ b, m_makes a0 (nI u) (nI w) a3 g = some b ∧ (b = true ↔ ∀ i, i < z → te_mk f a0 u w a3 i = f 35 i) := by
  unfold m_makes
  have u1 : nI u / 100 = nI (u / 100) := pk_div (d := 100) (by omega) (by omega) (by omega)
  have u2 : nI u / 10 = nI (u / 10) := pk_div (d := 10) (by omega) (by omega) (by omega)
  have u3 : nI (u / 10) - nI (u / 10) / 10 * 10 = nI (u / 10 % 10) := pk_rem (d := 10) (by omega) (by omega) (by omega)
  have u4 : nI u - nI (u / 10) * 10 = nI (u % 10) := by
    rw [← u2]
    exact pk_rem (d := 10) (by omega) (by omega) (by omega)
  have w1 : nI w / 3 = nI (w / 3) := pk_div (d := 3) (by omega) (by omega) (by omega)
  have w2 : nI w - nI (w / 3) * 3 = nI (w % 3) := by
    rw [← w1]
    exact pk_rem (d := 3) (by omega) (by omega) (by omega)
  refine pu_one (fun j s => ∃ b, s = (b, nI j) ∧ (b = true ↔ ∀ i, i < j → te_mk f a0 u w a3 i = f 35 i)) (fun b => b = true ↔ ∀ i, i < z → te_mk f a0 u w a3 i = f 35 i) z ⟨true, rfl, fun _ i hi => absurd hi (Nat.not_lt_zero _), fun _ => rfl⟩ ?_ ?_
  · rintro j s hj ⟨b, rfl, K⟩
    have l1 : nI j < nI z := nI_lt hj (by omega)
    have a1 : (439 : Int32) + 2 * nI j = nI (439 + 2 * j) := by rw [show (2 : Int32) = nI 2 from rfl, pk_mul, show (439 : Int32) = nI 439 from rfl, nI_add]
    have c1 : am_in (nI (439 + 2 * j)) 2008 = true := pu_in (by omega) (by omega)
    cases b with
    | false =>
      refine Or.inr ⟨false, ?_, ?_⟩
      · simp only [e2, l1, if_true, Bool.false_eq_true, if_false]
      · constructor
        · intro e; cases e
        · intro e
          have := K.mpr (fun i hi => e i (by omega))
          cases this
    | true =>
      refine Or.inl ⟨(if te_mk f a0 u w a3 j = f 35 j then true else false, nI (j + 1)), ?_, _, rfl, ?_⟩
      · simp only [e2, l1, if_true, u1, u2, u3, u4, w1, w2, te_um h (show u / 100 < 10 by omega) (show j < 4 by omega), te_um h (show u / 10 % 10 < 10 by omega) (show j < 4 by omega), te_um h (show u % 10 < 10 by omega) (show j < 4 by omega), pu_bs, pu_letE, a1, c1, nI_clamp (show 439 + 2 * j < 2 ^ 31 by omega), ← rl_f_r3b h (show j < 4 by omega), nI_1]
        rfl
      · constructor
        · intro e i hi
          by_cases he : i = j
          · rw [he]
            by_cases c : te_mk f a0 u w a3 j = f 35 j
            · exact c
            · rw [if_neg c] at e
              cases e
          · exact K.mp rfl i (by omega)
        · intro e
          rw [if_pos (e j (by omega))]
  · rintro s ⟨b, rfl, K⟩
    simp only [e2, show ¬ nI z < nI z from nI_nlt (Nat.le_refl _) (by omega), if_false]
    exact ⟨_, rfl, K⟩
def te_M (f : te_H) (z : Nat) (a0 : Int32) (u w : Nat) : Prop := (∀ i, i < z → te_mk f a0 u w 0 i = f 35 i) ∨ (∀ i, i < z → te_mk f a0 u w 1 i = f 35 i)
theorem te_any {f g : te_H} (h : rl_Rel f g) {z : Nat} (hz : z ≤ 4) (e2 : g 217 437 = nI z) (a0 : Int32) : ∃ b, m_makesAny a0 g = some b ∧ (b = true ↔ ∃ u w, u < 1000 ∧ w < 9 ∧ te_M f z a0 u w) := by
  unfold m_makesAny
  refine pu_one (fun j s => s = nI j ∧ ∀ u w, u < j → w < 9 → ¬ te_M f z a0 u w) (fun b => b = true ↔ ∃ u w, u < 1000 ∧ w < 9 ∧ te_M f z a0 u w) 1000 ⟨rfl, fun c k hc => absurd hc (Nat.not_lt_zero _)⟩ ?_ ?_
  · rintro j s hj ⟨rfl, K⟩
    have X := pu_one (f := fun (s2 : Int32) => ((
        if s2 < 9 then (
          (m_makes a0 (nI j) s2 0 g).bind fun p3 =>
          if p3 = true then (
            some (.inr (.inl true)))
          else (
            (m_makes a0 (nI j) s2 1 g).bind fun p4 =>
            if p4 = true then (
              some (.inr (.inl true)))
            else (
              am_let (s2 + 1 : Int32) fun t5 =>
              some (.inl t5))))
        else (
          some (.inr (.inr ())))) : Option ((Int32) ⊕ ((Bool) ⊕ (Unit)))))
      (fun k s => s = nI k ∧ ∀ k', k' < k → ¬ te_M f z a0 j k')
      (fun (e : Bool ⊕ Unit) => (e = Sum.inl true ∧ ∃ k, k < 9 ∧ te_M f z a0 j k) ∨ (e = Sum.inr () ∧ ∀ k', k' < 9 → ¬ te_M f z a0 j k')) 9 (s := 0) ⟨rfl, fun k hk => absurd hk (Nat.not_lt_zero _)⟩ (by
      rintro k s hk ⟨rfl, M⟩
      obtain ⟨b, b1, b2⟩ := te_makes h hz e2 a0 0 hj hk
      obtain ⟨c, c1, c2⟩ := te_makes h hz e2 a0 1 hj hk
      rw [if_pos (show nI k < (9 : Int32) from nI_lt (b := 9) hk (by omega)), b1, pu_bs]
      cases b with
      | true =>
        rw [if_pos rfl]
        exact Or.inr ⟨_, rfl, Or.inl ⟨rfl, k, hk, Or.inl (b2.mp rfl)⟩⟩
      | false =>
        rw [if_neg (by decide), c1, pu_bs]
        cases c with
        | true =>
          rw [if_pos rfl]
          exact Or.inr ⟨_, rfl, Or.inl ⟨rfl, k, hk, Or.inr (c2.mp rfl)⟩⟩
        | false =>
          rw [if_neg (by decide), pu_letE, nI_1]
          refine Or.inl ⟨_, rfl, rfl, fun k' hk' => ?_⟩
          by_cases he : k' = k
          · rw [he]
            rintro (q | q)
            · have := b2.mpr q
              cases this
            · have := c2.mpr q
              cases this
          · exact M k' (by omega)) (by
      rintro s ⟨rfl, M⟩
      rw [if_neg (show ¬ nI 9 < (9 : Int32) by decide)]
      exact ⟨_, rfl, Or.inr ⟨rfl, M⟩⟩) (by omega)
    obtain ⟨e, r1, r2⟩ := X
    rw [if_pos (show nI j < (1000 : Int32) from nI_lt (b := 1000) hj (by omega)), r1, pu_bs]
    rcases r2 with ⟨rfl, k, hk, r3⟩ | ⟨rfl, r3⟩
    · exact Or.inr ⟨_, rfl, fun _ => ⟨j, k, hj, hk, r3⟩, fun _ => rfl⟩
    · refine Or.inl ⟨nI (j + 1), by rw [← nI_1]; rfl, rfl, fun c k hc hk => ?_⟩
      by_cases he : c = j
      · rw [he]; exact r3 k hk
      · exact K c k (by omega) hk
  · rintro s ⟨rfl, K⟩
    rw [if_neg (show ¬ nI 1000 < (1000 : Int32) by decide)]
    refine ⟨_, rfl, ?_⟩
    constructor
    · intro e; cases e
    · rintro ⟨c, k, hc, hk, q⟩
      exact absurd q (K c k hc hk)
theorem te_jc {h : Nat} (hh : h < 3) (p q : Int32) : xm_combined p q (nI h) = m_joined p (nI h) q := by
  have : h = 0 ∨ h = 1 ∨ h = 2 := by omega
  unfold xm_combined m_joined
  rcases this with rfl | rfl | rfl
  · rw [if_pos (show nI 0 = 0 from rfl), if_pos (show nI 0 = 0 from rfl)]
  · rw [if_neg (show ¬ nI 1 = 0 by decide), if_pos (show nI 1 = 1 from rfl), if_neg (show ¬ nI 1 = 0 by decide), if_pos (show nI 1 = 1 from rfl)]
  · rw [if_neg (show ¬ nI 2 = 0 by decide), if_neg (show ¬ nI 2 = 1 by decide), if_pos (show nI 2 = 2 from rfl), if_neg (show ¬ nI 2 = 0 by decide), if_neg (show ¬ nI 2 = 1 by decide)]
theorem te_c3 (p q : Int32) : xm_combined p q (nI 3) = q - p := by
  unfold xm_combined
  rw [if_neg (show ¬ nI 3 = 0 by decide), if_neg (show ¬ nI 3 = 1 by decide), if_neg (show ¬ nI 3 = 2 by decide)]
theorem te_j0 (p q : Int32) : m_joined p (nI 0) q = p + q := by
  unfold m_joined
  rw [if_pos (show nI 0 = 0 from rfl)]
theorem te_j1 (p q : Int32) : m_joined p (nI 1) q = p - q := by
  unfold m_joined
  rw [if_neg (show ¬ nI 1 = 0 by decide), if_pos (show nI 1 = 1 from rfl)]
theorem te_j2 (p q : Int32) : m_joined p (nI 2) q = p * q := by
  unfold m_joined
  rw [if_neg (show ¬ nI 2 = 0 by decide), if_neg (show ¬ nI 2 = 1 by decide)]
theorem te_m1 (f : te_H) (z : Nat) : (∃ u w, u < 1000 ∧ w < 9 ∧ te_M f z (nI 1) u w) ↔ te_P1 f z := by
  have e : ∀ u w a3 i, te_mk f (nI 1) u w a3 i = te_U f (u / 100) i := fun u w a3 i => by
    unfold te_mk
    rw [if_neg (show ¬ nI 1 = 3 by decide), if_neg (show ¬ nI 1 = 2 by decide)]
  constructor
  · rintro ⟨u, w, hu, hw, q | q⟩
    · exact ⟨u / 100, by omega, fun i hi => by rw [← e u w 0 i]; exact q i hi⟩
    · exact ⟨u / 100, by omega, fun i hi => by rw [← e u w 1 i]; exact q i hi⟩
  · rintro ⟨a, ha, q⟩
    refine ⟨100 * a, 0, by omega, by omega, Or.inl fun i hi => ?_⟩
    rw [e, show 100 * a / 100 = a by omega]
    exact q i hi
theorem te_m2 (f : te_H) (z : Nat) : (∃ u w, u < 1000 ∧ w < 9 ∧ te_M f z (nI 2) u w) ↔ te_P2 f z := by
  have e : ∀ u w a3 i, te_mk f (nI 2) u w a3 i = xm_combined (te_U f (u / 100) i) (te_U f (u / 10 % 10) i) (nI (w % 3)) := fun u w a3 i => by
    unfold te_mk
    rw [if_neg (show ¬ nI 2 = 3 by decide), if_pos (show nI 2 = 2 from rfl), te_jc (by omega)]
  constructor
  · rintro ⟨u, w, hu, hw, q | q⟩
    · exact ⟨u / 100, by omega, u / 10 % 10, by omega, w % 3, by omega, fun i hi => by rw [← e u w 0 i]; exact q i hi⟩
    · exact ⟨u / 100, by omega, u / 10 % 10, by omega, w % 3, by omega, fun i hi => by rw [← e u w 1 i]; exact q i hi⟩
  · rintro ⟨a, ha, b, hb, h, hh, q⟩
    refine ⟨100 * a + 10 * b, h, by omega, by omega, Or.inl fun i hi => ?_⟩
    rw [e, show (100 * a + 10 * b) / 100 = a by omega, show (100 * a + 10 * b) / 10 % 10 = b by omega, show h % 3 = h by omega]
    exact q i hi
theorem te_m3 (f : te_H) (z : Nat) : (∃ u w, u < 1000 ∧ w < 9 ∧ te_M f z (nI 3) u w) ↔ te_P3 f z := by
  have ea : ∀ u w i, te_mk f (nI 3) u w 0 i = m_joined (m_joined (te_U f (u / 100) i) (nI (w % 3)) (te_U f (u / 10 % 10) i)) (nI (w / 3)) (te_U f (u % 10) i) := fun u w i => by
    unfold te_mk
    rw [if_pos (show nI 3 = 3 from rfl), if_pos rfl]
  have eb : ∀ u w i, te_mk f (nI 3) u w 1 i = m_joined (te_U f (u / 100) i) (nI (w % 3)) (m_joined (te_U f (u / 10 % 10) i) (nI (w / 3)) (te_U f (u % 10) i)) := fun u w i => by
    unfold te_mk
    rw [if_pos (show nI 3 = 3 from rfl), if_neg (by decide)]
  constructor
  · rintro ⟨u, w, hu, hw, q | q⟩
    · refine ⟨u / 100, by omega, u / 10 % 10, by omega, w % 3, by omega, u % 10, w / 3, by omega, by omega, fun i hi => ?_⟩
      rw [te_jc (by omega), te_jc (by omega), ← ea u w i]
      exact q i hi
    · have hw3 : w % 3 = 0 ∨ w % 3 = 1 ∨ w % 3 = 2 := by omega
      rcases hw3 with e | e | e
      · refine ⟨u / 10 % 10, by omega, u % 10, by omega, w / 3, by omega, u / 100, 0, by omega, by omega, fun i hi => ?_⟩
        have := q i hi
        rw [eb, e, te_j0, Int32.add_comm] at this
        rw [te_jc (by omega), te_jc (by omega), te_j0]
        exact this
      · refine ⟨u / 10 % 10, by omega, u % 10, by omega, w / 3, by omega, u / 100, 3, by omega, by omega, fun i hi => ?_⟩
        have := q i hi
        rw [eb, e, te_j1] at this
        rw [te_c3, te_jc (by omega)]
        exact this
      · refine ⟨u / 10 % 10, by omega, u % 10, by omega, w / 3, by omega, u / 100, 2, by omega, by omega, fun i hi => ?_⟩
        have := q i hi
        rw [eb, e, te_j2, Int32.mul_comm] at this
        rw [te_jc (by omega), te_jc (by omega), te_j2]
        exact this
  · rintro ⟨a, ha, b, hb, h, hh, c, k, hc, hk, q⟩
    by_cases hk3 : k = 3
    · subst hk3
      refine ⟨100 * c + 10 * a + b, 1 + 3 * h, by omega, by omega, Or.inr fun i hi => ?_⟩
      rw [eb, show (100 * c + 10 * a + b) / 100 = c by omega, show (100 * c + 10 * a + b) / 10 % 10 = a by omega, show (100 * c + 10 * a + b) % 10 = b by omega, show (1 + 3 * h) % 3 = 1 by omega, show (1 + 3 * h) / 3 = h by omega, te_j1]
      have := q i hi
      rw [te_c3, te_jc hh] at this
      exact this
    · refine ⟨100 * a + 10 * b + c, h + 3 * k, by omega, by omega, Or.inl fun i hi => ?_⟩
      rw [ea, show (100 * a + 10 * b + c) / 100 = a by omega, show (100 * a + 10 * b + c) / 10 % 10 = b by omega, show (100 * a + 10 * b + c) % 10 = c by omega, show (h + 3 * k) % 3 = h by omega, show (h + 3 * k) / 3 = k by omega]
      have := q i hi
      rw [te_jc hh, te_jc (by omega)] at this
      exact this
theorem sm_term (f g : Nat → Nat → Int32) (h : rl_Rel f g) : ∃ (v : Int32) (f1 : Nat → Nat → Int32), x_term f = some (v, f1) ∧ m_term g = some v ∧ rl_Rel f1 g := by
  obtain ⟨z, hz, e2, -⟩ := h.1.2.2.2.2.2.1.2.2.1
  have e1 : f 33 0 = nI z := by rw [rl_f_r3n h]; exact e2
  obtain ⟨v, F, x1, x2, x3⟩ := te_x hz e1
  refine ⟨v, F, x1, ?_, h.congr ⟨fun a h1 h2 => x2 a (by omega), fun a h1 => x2 a (by omega), by rw [x2 0 (by omega)], by rw [x2 0 (by omega)], by rw [x2 123 (by omega)], x2 124 (by omega), by rw [x2 128 (by omega)], by rw [x2 128 (by omega)], by rw [x2 143 (by omega)], by rw [x2 143 (by omega)], x2 150 (by omega), x2 153 (by omega), by rw [x2 144 (by omega)]⟩ rl_sm.rf⟩
  obtain ⟨b1, p1, q1⟩ := te_any h hz e2 (nI 1)
  obtain ⟨b2, p2, q2⟩ := te_any h hz e2 (nI 2)
  obtain ⟨b3, p3, q3⟩ := te_any h hz e2 (nI 3)
  rw [te_m1] at q1
  rw [te_m2] at q2
  rw [te_m3] at q3
  unfold m_term
  have s1 : ∀ k b, k = 1 ∨ k = 2 ∨ k = 3 → m_makesAny (nI k) g = some b → (fun (s1 : Int32) => ((
    if s1 < 4 then (
      (m_makesAny s1 g).bind fun p2 =>
      if p2 = true then (
        some (.inr s1))
      else (
        am_let (s1 + 1 : Int32) fun t3 =>
        some (.inl t3)))
    else (
      some (.inr (-1)))) : Option ((Int32) ⊕ (Int32)))) (nI k) = if b = true then some (.inr (nI k)) else some (.inl (nI (k + 1))) := fun k b hk hb => by
    dsimp only
    rw [if_pos (show nI k < (4 : Int32) from nI_lt (b := 4) (by omega) (by omega)), hb, pu_bs, pu_letE, nI_1]
  have t1 := s1 1 b1 (by decide) p1
  have t2 := s1 2 b2 (by decide) p2
  have t3 := s1 3 b3 (by decide) p3
  show am_loop _ (999999 + 1) (nI 1) = _
  rcases x3 with ⟨y1, rfl⟩ | ⟨y1, y2, rfl⟩ | ⟨y1, y2, y3, rfl⟩ | ⟨y1, y2, y3, rfl⟩
  · rw [q1.mpr y1, if_pos rfl] at t1
    exact pu_loop_inr t1
  · have c1 : b1 = false := by cases b1 with | true => exact absurd (q1.mp rfl) y1 | false => rfl
    rw [c1, if_neg (by decide)] at t1
    rw [q2.mpr y2, if_pos rfl] at t2
    rw [pu_loop_inl t1]
    exact pu_loop_inr (n := 999998) t2
  · have c1 : b1 = false := by cases b1 with | true => exact absurd (q1.mp rfl) y1 | false => rfl
    have c2 : b2 = false := by cases b2 with | true => exact absurd (q2.mp rfl) y2 | false => rfl
    rw [c1, if_neg (by decide)] at t1
    rw [c2, if_neg (by decide)] at t2
    rw [q3.mpr y3, if_pos rfl] at t3
    rw [pu_loop_inl t1, pu_loop_inl (n := 999998) t2]
    exact pu_loop_inr (n := 999997) t3
  · have c1 : b1 = false := by cases b1 with | true => exact absurd (q1.mp rfl) y1 | false => rfl
    have c2 : b2 = false := by cases b2 with | true => exact absurd (q2.mp rfl) y2 | false => rfl
    have c3 : b3 = false := by cases b3 with | true => exact absurd (q3.mp rfl) y3 | false => rfl
    rw [c1, if_neg (by decide)] at t1
    rw [c2, if_neg (by decide)] at t2
    rw [c3, if_neg (by decide)] at t3
    rw [pu_loop_inl t1, pu_loop_inl (n := 999998) t2, pu_loop_inl (n := 999997) t3]
    refine pu_loop_inr (n := 999996) ?_
    rw [if_neg (show ¬ nI (3 + 1) < (4 : Int32) by decide)]
