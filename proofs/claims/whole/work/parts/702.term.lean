/-! TERM -/
def te_U (f : Nat → Nat → Int32) (a i : Nat) : Int32 := if a = 0 then f 34 i else nI a
theorem te_ux {f F : Nat → Nat → Int32} (hF : F 34 = f 34) {a i : Nat} (ha : a < 10) (hi : i < 4) : xm_unitAt_33 (nI a) (nI i) F = some (te_U f a i) := by
  unfold xm_unitAt_33 te_U
  by_cases h : a = 0
  · subst h
    rw [if_pos (show nI 0 = 0 from rfl), if_pos rfl, if_pos (pu_in (by omega) (by omega)), nI_clamp (by omega), hF]
  · rw [if_neg (nI_ne0 (by omega) (by omega)), if_neg h]
theorem te_um {f g : Nat → Nat → Int32} (h : rl_Rel f g) {a i : Nat} (ha : a < 10) (hi : i < 4) : m_unitAt (nI a) (nI i) g = some (te_U f a i) := by
  unfold m_unitAt te_U
  have a1 : (438 : Int32) + 2 * nI i = nI (438 + 2 * i) := by rw [show (2 : Int32) = nI 2 from rfl, pk_mul, show (438 : Int32) = nI 438 from rfl, nI_add]
  by_cases h0 : a = 0
  · subst h0
    rw [if_pos (show nI 0 = 0 from rfl), if_pos rfl, a1, if_pos (pu_in (by omega) (by omega)), nI_clamp (by omega), rl_f_r3a h hi]
  · rw [if_neg (nI_ne0 (by omega) (by omega)), if_neg h0]
/-- a loop that asks all of them -/
theorem te_all {B : Int32 → Option (Int32 ⊕ Bool)} {ok : Nat → Prop} (z : Nat) (hz : z < 100) (h1 : ∀ i, i < z → ok i → B (nI i) = some (.inl (nI (i + 1)))) (h2 : ∀ i, i < z → ¬ ok i → B (nI i) = some (.inr false)) (h3 : B (nI z) = some (.inr true)) : ∃ b, am_loop B am_F 0 = some b ∧ (b = true ↔ ∀ i, i < z → ok i) := by
  refine pu_one (fun j s => s = nI j ∧ ∀ i, i < j → ok i) (fun b => b = true ↔ ∀ i, i < z → ok i) z ⟨rfl, fun i hi => absurd hi (Nat.not_lt_zero _)⟩ ?_ ?_
  · rintro j s hj ⟨rfl, K⟩
    by_cases c : ok j
    · refine Or.inl ⟨_, h1 j hj c, rfl, fun i hi => ?_⟩
      by_cases he : i = j
      · rw [he]; exact c
      · exact K i (by omega)
    · refine Or.inr ⟨_, h2 j hj c, ?_⟩
      constructor
      · intro e; cases e
      · intro e; exact absurd (e j hj) c
  · rintro s ⟨rfl, K⟩
    exact ⟨_, h3, fun _ => K, fun _ => rfl⟩
theorem te_unit {f : Nat → Nat → Int32} {z : Nat} (hz : z ≤ 4) (e1 : f 33 0 = nI z) {a : Nat} (ha : a < 10) : ∃ b, xm_isUnit_33 (nI a) f = some b ∧ (b = true ↔ ∀ i, i < z → te_U f a i = f 35 i) := by
  unfold xm_isUnit_33
  refine te_all z (by omega) (fun i hi ok => ?_) (fun i hi ok => ?_) ?_
  · have c : am_in (nI i) 4 = true := pu_in (by omega) (by omega)
    rw [e1, if_pos (nI_lt hi (by omega)), te_ux rfl ha (by omega), pu_bs, if_pos c, nI_clamp (by omega), if_pos ok, pu_letE, nI_1]
  · have c : am_in (nI i) 4 = true := pu_in (by omega) (by omega)
    rw [e1, if_pos (nI_lt hi (by omega)), te_ux rfl ha (by omega), pu_bs, if_pos c, nI_clamp (by omega), if_neg ok]
  · rw [e1, if_neg (nI_nlt (Nat.le_refl _) (by omega))]
theorem te_join {f F : Nat → Nat → Int32} {z : Nat} (hz : z ≤ 4) (e1 : f 33 0 = nI z) (hF : ∀ x, x ≠ 147 → F x = f x) {a b h : Nat} (ha : a < 10) (hb : b < 10) : ∃ F', xm_joinUnits_33 (nI a) (nI b) (nI h) F = some F' ∧ (∀ x, x ≠ 147 → F' x = f x) ∧ ∀ i, i < z → F' 147 i = xm_combined (te_U f a i) (te_U f b i) (nI h) := by
  unfold xm_joinUnits_33
  refine pu_one (fun j s => ∃ F', s = (nI j, F') ∧ (∀ x, x ≠ 147 → F' x = f x) ∧ ∀ i, i < j → F' 147 i = xm_combined (te_U f a i) (te_U f b i) (nI h)) _ z ⟨F, rfl, hF, fun i hi => absurd hi (Nat.not_lt_zero _)⟩ ?_ ?_
  · rintro j s hj ⟨F', rfl, K1, K2⟩
    have c : am_in (nI j) 4 = true := pu_in (by omega) (by omega)
    left
    dsimp only
    simp only [K1 33 (by decide), e1, show nI j < nI z from nI_lt hj (by omega), if_true, te_ux (K1 34 (by decide)) ha (show j < 4 by omega), te_ux (K1 34 (by decide)) hb (show j < 4 by omega), pu_bs, c, pu_letE, nI_1, nI_clamp (show j < 2 ^ 31 by omega)]
    refine ⟨_, rfl, _, rfl, fun x hx => by rw [pu_up_ne _ _ hx]; exact K1 x hx, fun i hi => ?_⟩
    rw [pu_up_row]
    by_cases he : i = j
    · rw [he, pu_upd_eq]
    · rw [pu_upd_ne _ _ he]
      exact K2 i (by omega)
  · rintro s ⟨F', rfl, K1, K2⟩
    dsimp only
    simp only [K1 33 (by decide), e1, show ¬ nI z < nI z from nI_nlt (Nat.le_refl _) (by omega), if_false]
    exact ⟨_, rfl, K1, K2⟩
theorem te_reach {f F : Nat → Nat → Int32} {z : Nat} (hz : z ≤ 4) (e1 : f 33 0 = nI z) (hF : ∀ x, x ≠ 147 → F x = f x) {V : Nat → Int32} (hV : ∀ i, i < z → F 147 i = V i) : ∃ b, xm_isReached_33 F = some b ∧ (b = true ↔ ∀ i, i < z → V i = f 35 i) := by
  unfold xm_isReached_33
  rw [hF 33 (by decide), e1]
  refine te_all z (by omega) (fun i hi ok => ?_) (fun i hi ok => ?_) ?_
  · have c : am_in (nI i) 4 = true := pu_in (by omega) (by omega)
    rw [if_pos (nI_lt hi (by omega)), if_pos c, if_pos c, nI_clamp (by omega), hV i hi, hF 35 (by decide), if_pos ok, pu_letE, nI_1]
  · have c : am_in (nI i) 4 = true := pu_in (by omega) (by omega)
    rw [if_pos (nI_lt hi (by omega)), if_pos c, if_pos c, nI_clamp (by omega), hV i hi, hF 35 (by decide), if_neg ok]
  · rw [if_neg (nI_nlt (Nat.le_refl _) (by omega))]
theorem te_third {f F : Nat → Nat → Int32} {z : Nat} (hz : z ≤ 4) (e1 : f 33 0 = nI z) (hF : ∀ x, x ≠ 147 → F x = f x) {V : Nat → Int32} (hV : ∀ i, i < z → F 147 i = V i) {c k : Nat} (hc : c < 10) : ∃ b, xm_isThird_33 (nI c) (nI k) F = some b ∧ (b = true ↔ ∀ i, i < z → xm_combined (V i) (te_U f c i) (nI k) = f 35 i) := by
  unfold xm_isThird_33
  rw [hF 33 (by decide), e1]
  refine te_all z (by omega) (fun i hi ok => ?_) (fun i hi ok => ?_) ?_
  · have cc : am_in (nI i) 4 = true := pu_in (by omega) (by omega)
    rw [if_pos (nI_lt hi (by omega)), if_pos cc, te_ux (hF 34 (by decide)) hc (by omega), pu_bs, if_pos cc, nI_clamp (by omega), hV i hi, hF 35 (by decide), if_pos ok, pu_letE, nI_1]
  · have cc : am_in (nI i) 4 = true := pu_in (by omega) (by omega)
    rw [if_pos (nI_lt hi (by omega)), if_pos cc, te_ux (hF 34 (by decide)) hc (by omega), pu_bs, if_pos cc, nI_clamp (by omega), hV i hi, hF 35 (by decide), if_neg ok]
  · rw [if_neg (nI_nlt (Nat.le_refl _) (by omega))]
theorem te_with {f F : Nat → Nat → Int32} {z : Nat} (hz : z ≤ 4) (e1 : f 33 0 = nI z) (hF : ∀ x, x ≠ 147 → F x = f x) {V : Nat → Int32} (hV : ∀ i, i < z → F 147 i = V i) : ∃ b, xm_isWithThird_33 F = some b ∧ (b = true ↔ ∃ c k, c < 10 ∧ k < 4 ∧ ∀ i, i < z → xm_combined (V i) (te_U f c i) (nI k) = f 35 i) := by
  unfold xm_isWithThird_33
  refine pu_one (fun j s => s = nI j ∧ ∀ c k, c < j → k < 4 → ¬ ∀ i, i < z → xm_combined (V i) (te_U f c i) (nI k) = f 35 i) (fun b => b = true ↔ ∃ c k, c < 10 ∧ k < 4 ∧ ∀ i, i < z → xm_combined (V i) (te_U f c i) (nI k) = f 35 i) 10 ⟨rfl, fun c k hc => absurd hc (Nat.not_lt_zero _)⟩ ?_ ?_
  · rintro j s hj ⟨rfl, K⟩
    have X := pu_one (f := fun (s2 : Int32) => ((
        if s2 < 4 then (
          (xm_isThird_33 (nI j) s2 F).bind fun p3 =>
          if p3 = true then (
            some (.inr (.inl true)))
          else (
            am_let (s2 + 1 : Int32) fun t4 =>
            some (.inl t4)))
        else (
          some (.inr (.inr ())))) : Option ((Int32) ⊕ ((Bool) ⊕ (Unit)))))
      (fun k s => s = nI k ∧ ∀ k', k' < k → ¬ ∀ i, i < z → xm_combined (V i) (te_U f j i) (nI k') = f 35 i)
      (fun (e : Bool ⊕ Unit) => (e = Sum.inl true ∧ ∃ k, k < 4 ∧ ∀ i, i < z → xm_combined (V i) (te_U f j i) (nI k) = f 35 i) ∨ (e = Sum.inr () ∧ ∀ k', k' < 4 → ¬ ∀ i, i < z → xm_combined (V i) (te_U f j i) (nI k') = f 35 i)) 4 (s := 0) ⟨rfl, fun k hk => absurd hk (Nat.not_lt_zero _)⟩ (by
      rintro k s hk ⟨rfl, M⟩
      obtain ⟨b, b1, b2⟩ := te_third hz e1 hF hV (c := j) (k := k) hj
      rw [if_pos (show nI k < (4 : Int32) from nI_lt (b := 4) hk (by omega)), b1, pu_bs]
      cases b with
      | true =>
        rw [if_pos rfl]
        exact Or.inr ⟨_, rfl, Or.inl ⟨rfl, k, hk, b2.mp rfl⟩⟩
      | false =>
        rw [if_neg (by decide), pu_letE, nI_1]
        refine Or.inl ⟨_, rfl, rfl, fun k' hk' => ?_⟩
        by_cases he : k' = k
        · rw [he]
          intro z
          have := b2.mpr z
          cases this
        · exact M k' (by omega)) (by
      rintro s ⟨rfl, M⟩
      rw [if_neg (show ¬ nI 4 < (4 : Int32) by decide)]
      exact ⟨_, rfl, Or.inr ⟨rfl, M⟩⟩) (by omega)
    obtain ⟨e, r1, r2⟩ := X
    rw [if_neg (show ¬ 9 < nI j from nI_nlt (b := j) (a := 9) (by omega) (by omega)), r1, pu_bs]
    rcases r2 with ⟨rfl, k, hk, r3⟩ | ⟨rfl, r3⟩
    · exact Or.inr ⟨_, rfl, fun _ => ⟨j, k, hj, hk, r3⟩, fun _ => rfl⟩
    · refine Or.inl ⟨nI (j + 1), by rw [← nI_1]; rfl, rfl, fun c k hc hk => ?_⟩
      by_cases he : c = j
      · rw [he]; exact r3 k hk
      · exact K c k (by omega) hk
  · rintro s ⟨rfl, K⟩
    rw [if_pos (show (9 : Int32) < nI 10 by decide)]
    refine ⟨_, rfl, ?_⟩
    constructor
    · intro e; cases e
    · rintro ⟨c, k, hc, hk, z⟩
      exact absurd z (K c k hc hk)
