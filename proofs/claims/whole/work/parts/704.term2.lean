abbrev te_H : Type := Nat → Nat → Int32
def te_B1 (tst : te_H → Option Bool) (a b : Int32) : Int32 × te_H → Option ((Int32 × te_H) ⊕ ((Bool × te_H) ⊕ te_H)) := fun (s3 : Int32 × te_H) => ((
            if s3.1 < 3 then (
              (xm_joinUnits_33 a b s3.1 s3.2).bind fun p4 =>
                (tst  p4).bind fun p5 =>
                if p5 = true then (
                  some (.inr (.inl (true, p4))))
                else (
                  some (.inl (s3.1 + 1, p4))))
            else (
              some (.inr (.inr s3.2)))) : Option ((Int32 × te_H) ⊕ ((Bool × te_H) ⊕ (te_H))))
def te_B2 (tst : te_H → Option Bool) (a : Int32) : Int32 × te_H → Option ((Int32 × te_H) ⊕ ((Bool × te_H) ⊕ te_H)) := fun (s2 : Int32 × te_H) => ((
        if 9 < s2.1 then (
          some (.inr (.inr s2.2)))
        else (
          (am_loop (te_B1 tst a s2.1) am_F (0, s2.2)).bind fun e9 =>
          e9.elim (fun v => some (.inr (.inl v))) fun e10 =>
          some (.inl (s2.1 + 1, e10)))) : Option ((Int32 × te_H) ⊕ ((Bool × te_H) ⊕ (te_H))))
def te_B3 (tst : te_H → Option Bool) : Int32 × te_H → Option ((Int32 × te_H) ⊕ ((Bool × te_H) ⊕ te_H)) := fun (s1 : Int32 × te_H) => ((
    if 9 < s1.1 then (
      some (.inr (.inr s1.2)))
    else (
      (am_loop (te_B2 tst s1.1) am_F (0, s1.2)).bind fun e12 =>
      e12.elim (fun v => some (.inr (.inl v))) fun e13 =>
      some (.inl (s1.1 + 1, e13)))) : Option ((Int32 × te_H) ⊕ ((Bool × te_H) ⊕ (te_H))))
section TEL
variable {f : Nat → Nat → Int32} {z : Nat} {tst : te_H → Option Bool} {Q : Nat → Nat → Nat → Prop}
def te_O (f : te_H) (e : (Bool × te_H) ⊕ te_H) (P : Prop) : Prop := ∃ F : te_H, (∀ x, x ≠ 147 → F x = f x) ∧ ((e = Sum.inl (true, F) ∧ P) ∨ (e = Sum.inr F ∧ ¬ P))
theorem te_l1 (hz : z ≤ 4) (e1 : f 33 0 = nI z) (hQ : ∀ a b h, a < 10 → b < 10 → h < 3 → ∀ F : te_H, (∀ x, x ≠ 147 → F x = f x) → (∀ i, i < z → F 147 i = xm_combined (te_U f a i) (te_U f b i) (nI h)) → ∃ r, tst F = some r ∧ (r = true ↔ Q a b h)) {F : te_H} (hF : ∀ x, x ≠ 147 → F x = f x) {a b : Nat} (ha : a < 10) (hb : b < 10) : ∃ e, am_loop (te_B1 tst (nI a) (nI b)) am_F (0, F) = some e ∧ te_O f e (∃ h, h < 3 ∧ Q a b h) := by
  refine pu_one (fun k s => ∃ F : te_H, s = (nI k, F) ∧ (∀ x, x ≠ 147 → F x = f x) ∧ ∀ k', k' < k → ¬ Q a b k') _ 3 ⟨F, rfl, hF, fun k hk => absurd hk (Nat.not_lt_zero _)⟩ ?_ ?_
  · rintro k s hk ⟨F, rfl, K, M⟩
    obtain ⟨F', j1, j2, j3⟩ := te_join hz e1 K ha hb (h := k)
    obtain ⟨r, r1, r2⟩ := hQ a b k ha hb hk F' j2 j3
    have l1 : nI k < (3 : Int32) := nI_lt (b := 3) hk (by omega)
    unfold te_B1
    dsimp only
    simp only [l1, if_true, j1, pu_bs, r1, nI_1]
    cases r with
    | true =>
      rw [if_pos rfl]
      exact Or.inr ⟨_, rfl, F', j2, Or.inl ⟨rfl, k, hk, r2.mp rfl⟩⟩
    | false =>
      rw [if_neg (by decide)]
      refine Or.inl ⟨_, rfl, F', rfl, j2, fun k' hk' => ?_⟩
      by_cases he : k' = k
      · rw [he]
        intro q
        have := r2.mpr q
        cases this
      · exact M k' (by omega)
  · rintro s ⟨F, rfl, K, M⟩
    unfold te_B1
    dsimp only
    simp only [show ¬ nI 3 < (3 : Int32) by decide, if_false]
    exact ⟨_, rfl, F, K, Or.inr ⟨rfl, fun ⟨h, h1, h2⟩ => M h h1 h2⟩⟩
theorem te_l2 (hz : z ≤ 4) (e1 : f 33 0 = nI z) (hQ : ∀ a b h, a < 10 → b < 10 → h < 3 → ∀ F : te_H, (∀ x, x ≠ 147 → F x = f x) → (∀ i, i < z → F 147 i = xm_combined (te_U f a i) (te_U f b i) (nI h)) → ∃ r, tst F = some r ∧ (r = true ↔ Q a b h)) {F : te_H} (hF : ∀ x, x ≠ 147 → F x = f x) {a : Nat} (ha : a < 10) : ∃ e, am_loop (te_B2 tst (nI a)) am_F (0, F) = some e ∧ te_O f e (∃ b, b < 10 ∧ ∃ h, h < 3 ∧ Q a b h) := by
  refine pu_one (fun k s => ∃ F : te_H, s = (nI k, F) ∧ (∀ x, x ≠ 147 → F x = f x) ∧ ∀ k', k' < k → ¬ ∃ h, h < 3 ∧ Q a k' h) _ 10 ⟨F, rfl, hF, fun k hk => absurd hk (Nat.not_lt_zero _)⟩ ?_ ?_
  · rintro k s hk ⟨F, rfl, K, M⟩
    obtain ⟨e, r1, F', j2, r2⟩ := te_l1 hz e1 hQ K ha hk
    have l1 : ¬ 9 < nI k := nI_nlt (b := k) (a := 9) (by omega) (by omega)
    unfold te_B2
    dsimp only
    rw [if_neg l1, r1, pu_bs]
    rcases r2 with ⟨rfl, q⟩ | ⟨rfl, q⟩
    · exact Or.inr ⟨_, rfl, F', j2, Or.inl ⟨rfl, k, hk, q⟩⟩
    · refine Or.inl ⟨(nI (k + 1), F'), by rw [← nI_1]; rfl, F', rfl, j2, fun k' hk' => ?_⟩
      by_cases he : k' = k
      · rw [he]; exact q
      · exact M k' (by omega)
  · rintro s ⟨F, rfl, K, M⟩
    unfold te_B2
    dsimp only
    rw [if_pos (show (9 : Int32) < nI 10 by decide)]
    exact ⟨_, rfl, F, K, Or.inr ⟨rfl, fun ⟨h, h1, h2⟩ => M h h1 h2⟩⟩
theorem te_l3 (hz : z ≤ 4) (e1 : f 33 0 = nI z) (hQ : ∀ a b h, a < 10 → b < 10 → h < 3 → ∀ F : te_H, (∀ x, x ≠ 147 → F x = f x) → (∀ i, i < z → F 147 i = xm_combined (te_U f a i) (te_U f b i) (nI h)) → ∃ r, tst F = some r ∧ (r = true ↔ Q a b h)) {F : te_H} (hF : ∀ x, x ≠ 147 → F x = f x) : ∃ e, am_loop (te_B3 tst) am_F (0, F) = some e ∧ te_O f e (∃ a, a < 10 ∧ ∃ b, b < 10 ∧ ∃ h, h < 3 ∧ Q a b h) := by
  refine pu_one (fun k s => ∃ F : te_H, s = (nI k, F) ∧ (∀ x, x ≠ 147 → F x = f x) ∧ ∀ k', k' < k → ¬ ∃ b, b < 10 ∧ ∃ h, h < 3 ∧ Q k' b h) _ 10 ⟨F, rfl, hF, fun k hk => absurd hk (Nat.not_lt_zero _)⟩ ?_ ?_
  · rintro k s hk ⟨F, rfl, K, M⟩
    obtain ⟨e, r1, F', j2, r2⟩ := te_l2 hz e1 hQ K hk
    have l1 : ¬ 9 < nI k := nI_nlt (b := k) (a := 9) (by omega) (by omega)
    unfold te_B3
    dsimp only
    rw [if_neg l1, r1, pu_bs]
    rcases r2 with ⟨rfl, q⟩ | ⟨rfl, q⟩
    · exact Or.inr ⟨_, rfl, F', j2, Or.inl ⟨rfl, k, hk, q⟩⟩
    · refine Or.inl ⟨(nI (k + 1), F'), by rw [← nI_1]; rfl, F', rfl, j2, fun k' hk' => ?_⟩
      by_cases he : k' = k
      · rw [he]; exact q
      · exact M k' (by omega)
  · rintro s ⟨F, rfl, K, M⟩
    unfold te_B3
    dsimp only
    rw [if_pos (show (9 : Int32) < nI 10 by decide)]
    exact ⟨_, rfl, F, K, Or.inr ⟨rfl, fun ⟨h, h1, h2⟩ => M h h1 h2⟩⟩
end TEL
def te_Q2 (f : te_H) (z a b h : Nat) : Prop := ∀ i, i < z → xm_combined (te_U f a i) (te_U f b i) (nI h) = f 35 i
def te_Q3 (f : te_H) (z a b h : Nat) : Prop := ∃ c k, c < 10 ∧ k < 4 ∧ ∀ i, i < z → xm_combined (xm_combined (te_U f a i) (te_U f b i) (nI h)) (te_U f c i) (nI k) = f 35 i
def te_P1 (f : te_H) (z : Nat) : Prop := ∃ a, a < 10 ∧ ∀ i, i < z → te_U f a i = f 35 i
def te_P2 (f : te_H) (z : Nat) : Prop := ∃ a, a < 10 ∧ ∃ b, b < 10 ∧ ∃ h, h < 3 ∧ te_Q2 f z a b h
def te_P3 (f : te_H) (z : Nat) : Prop := ∃ a, a < 10 ∧ ∃ b, b < 10 ∧ ∃ h, h < 3 ∧ te_Q3 f z a b h
theorem te_long {f F : te_H} {z : Nat} (hz : z ≤ 4) (e1 : f 33 0 = nI z) (hF : ∀ x, x ≠ 147 → F x = f x) (three : Bool) : ∃ b F', xm_isLonger_33 three F = some (b, F') ∧ (∀ x, x ≠ 147 → F' x = f x) ∧ (b = true ↔ if three = true then te_P3 f z else te_P2 f z) := by
  unfold xm_isLonger_33
  cases three with
  | true =>
    obtain ⟨e, r1, F', j2, r2⟩ := te_l3 (tst := xm_isWithThird_33) (Q := te_Q3 f z) hz e1 (fun a b h ha hb hh F hF hV => te_with hz e1 hF hV) hF
    unfold te_B3 te_B2 te_B1 at r1
    simp only [if_true, pu_letE]
    rw [r1, pu_bs]
    rcases r2 with ⟨rfl, q⟩ | ⟨rfl, q⟩
    · exact ⟨true, F', rfl, j2, fun _ => q, fun _ => rfl⟩
    · exact ⟨false, F', rfl, j2, fun e => (by cases e), fun e => absurd e q⟩
  | false =>
    obtain ⟨e, r1, F', j2, r2⟩ := te_l3 (tst := xm_isReached_33) (Q := te_Q2 f z) hz e1 (fun a b h ha hb hh F hF hV => te_reach hz e1 hF hV) hF
    unfold te_B3 te_B2 te_B1 at r1
    simp only [Bool.false_eq_true, if_false, pu_letE]
    rw [r1, pu_bs]
    rcases r2 with ⟨rfl, q⟩ | ⟨rfl, q⟩
    · exact ⟨true, F', rfl, j2, fun _ => q, fun _ => rfl⟩
    · exact ⟨false, F', rfl, j2, fun e => (by cases e), fun e => absurd e q⟩


def te_V (f : te_H) (z : Nat) (v : Int32) : Prop := (te_P1 f z ∧ v = 1) ∨ (¬ te_P1 f z ∧ te_P2 f z ∧ v = 2) ∨ (¬ te_P1 f z ∧ ¬ te_P2 f z ∧ te_P3 f z ∧ v = 3) ∨ (¬ te_P1 f z ∧ ¬ te_P2 f z ∧ ¬ te_P3 f z ∧ v = -1)
theorem te_x {f : te_H} {z : Nat} (hz : z ≤ 4) (e1 : f 33 0 = nI z) : ∃ v F, x_term f = some (v, F) ∧ (∀ x, x ≠ 147 → F x = f x) ∧ te_V f z v := by
  unfold x_term xm_leastTerm_33
  have X := pu_one (f := fun (s1 : Int32) => ((
    if 9 < s1 then (
      some (.inr (.inr ())))
    else (
      (xm_isUnit_33 s1 f).bind fun p2 =>
      if p2 = true then (
        some (.inr (.inl (1, f))))
      else (
        am_let (s1 + 1 : Int32) fun t3 =>
        some (.inl t3)))) : Option ((Int32) ⊕ ((Int32 × (Nat → Nat → Int32)) ⊕ (Unit))))) (fun k s => s = nI k ∧ ∀ k', k' < k → ¬ ∀ i, i < z → te_U f k' i = f 35 i) (fun (e : (Int32 × te_H) ⊕ Unit) => (e = Sum.inl (1, f) ∧ te_P1 f z) ∨ (e = Sum.inr () ∧ ¬ te_P1 f z)) 10 (s := 0) ⟨rfl, fun k hk => absurd hk (Nat.not_lt_zero _)⟩ (by
    rintro k s hk ⟨rfl, M⟩
    obtain ⟨b, b1, b2⟩ := te_unit hz e1 (a := k) hk
    rw [if_neg (show ¬ 9 < nI k from nI_nlt (b := k) (a := 9) (by omega) (by omega)), b1, pu_bs]
    cases b with
    | true =>
      rw [if_pos rfl]
      exact Or.inr ⟨_, rfl, Or.inl ⟨rfl, k, hk, b2.mp rfl⟩⟩
    | false =>
      rw [if_neg (by decide), pu_letE, nI_1]
      refine Or.inl ⟨_, rfl, rfl, fun k' hk' => ?_⟩
      by_cases he : k' = k
      · rw [he]
        intro q
        have := b2.mpr q
        cases this
      · exact M k' (by omega)) (by
    rintro s ⟨rfl, M⟩
    rw [if_pos (show (9 : Int32) < nI 10 by decide)]
    exact ⟨_, rfl, Or.inr ⟨rfl, fun ⟨a, h1, h2⟩ => M a h1 h2⟩⟩) (by omega)
  obtain ⟨e, r1, r2⟩ := X
  rw [r1, pu_bs]
  rcases r2 with ⟨rfl, q⟩ | ⟨rfl, q⟩
  · exact ⟨1, f, rfl, fun _ _ => rfl, Or.inl ⟨q, rfl⟩⟩
  · obtain ⟨b, F, l1, l2, l3⟩ := te_long hz e1 (F := f) (fun _ _ => rfl) false
    rw [if_neg (by decide)] at l3
    show ∃ v F, (((xm_isLonger_33 false f).bind _).bind _) = _ ∧ _
    rw [l1, pu_bs]
    cases b with
    | true => exact ⟨2, F, rfl, l2, Or.inr (Or.inl ⟨q, l3.mp rfl, rfl⟩)⟩
    | false =>
      have q2 : ¬ te_P2 f z := fun z => by have := l3.mpr z; cases this
      obtain ⟨b, F3, m1, m2, m3⟩ := te_long hz e1 (F := F) l2 true
      rw [if_pos rfl] at m3
      dsimp only
      rw [if_neg (by decide), m1, pu_bs]
      cases b with
      | true => exact ⟨3, F3, rfl, m2, Or.inr (Or.inr (Or.inl ⟨q, q2, m3.mp rfl, rfl⟩))⟩
      | false => exact ⟨-1, F3, rfl, m2, Or.inr (Or.inr (Or.inr ⟨q, q2, (fun z => (by have := m3.mpr z; cases this)), rfl⟩))⟩
