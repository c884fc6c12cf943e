/-! WHAT THE LAW TELLS: the whole of it -/
theorem lw_gr_pos (z : Int32) : ¬ m_greater 0 z < 0 := by
  unfold m_greater
  by_cases h : z < 0
  · rw [if_pos h]; decide
  · rw [if_neg h]; exact h
def lw_top (k : Nat) : Int32 := if k = 1 then 1000 else 99
def lw_def (r : Nat → Int32) (k : Nat) : Int32 := if k = 0 then 3 * r 1 - 2 * r 2 else if k = 1 then 0 else 5
theorem lw_les {a c : Nat} (ha : a ≤ 10) (hc : c ≤ 9) : m_lesser 99 (3 * nI a - 2 * nI c) = 3 * nI a - 2 * nI c := by
  have e : (3 * nI a - 2 * nI c).toInt = 3 * (a : Int) - 2 * c := by
    rw [show (3 : Int32) = nI 3 from rfl, show (2 : Int32) = nI 2 from rfl, pk_mul, pk_mul, pk_sub_toInt (by omega) (by omega)]
    omega
  unfold m_lesser
  rw [if_neg]
  intro h
  rw [Int32.lt_iff_toInt_lt, e, show (99 : Int32).toInt = 99 from by decide] at h
  omega
theorem lw_told {f g : Nat → Nat → Int32} {nm : Nat → Int32} (hy : iv_Y f 0 (g 217)) (hl : f 14 0 = g 217 71) (hnx : ∀ q, 1 ≤ q → q ≤ 10 → f 121 (q + 6) = nm q) (hnm : ∀ q, 1 ≤ q → q ≤ 10 → g 226 q = nm q) {a c : Nat} (ha : a ≤ 10) (hc : c ≤ 9) (h7 : nm 1 = nI a) (h8 : nm 2 = nI c) {k : Nat} (hk : k < 3) (u u' : Nat → Int32) :
    ∃ v u1 u1', xb_told (nI k) (am_row f 122 u) = some (v, am_row f 122 u1) ∧ m_lawSays (nI (20 + k)) (lw_def nm k) (lw_top k) (am_row g 225 u') = some (v, am_row g 225 u1') ∧ ¬ v < 0 := by
  obtain ⟨e, e', p1, p2, p3⟩ := lw_told0 hy hl hnx hnm hk (lw_top k) u u'
  have hM : (if nI k = 1 then (1000 : Int32) else 99) = lw_top k := by
    unfold lw_top
    by_cases h1 : k = 1
    · subst h1
      rfl
    · rw [if_neg h1, if_neg (fun z : nI k = (1 : Int32) => h1 (pu_nIinj (a := k) (b := 1) (by omega) (by omega) z))]
  rw [lw_T_def, hM, p1, pu_bs, lw_L_def, p2, pu_bs]
  rcases p3 with ⟨i, l, v, u1, u1', hi, hl16, hl71, rfl, rfl, hv⟩ | ⟨l, u1, u1', hl16, hl71, rfl, rfl⟩
  · obtain ⟨u2', hv⟩ := hv u1'
    refine ⟨am_max 0 (am_min (lw_top k) v), u1, u2', rfl, ?_, by rw [lw_mx]; exact lw_gr_pos _⟩
    dsimp only
    rw [if_pos (show nI i < am_row g 225 u1' 217 71 from by rw [show am_row g 225 u1' 217 71 = nI l from hl71]; exact nI_lt hi (by omega)), hv, pu_bs, lw_mx, lw_mn]
  · have e71 : am_row g 225 u1' 217 71 = nI l := hl71
    have e1 : am_row f 122 u1 121 7 = nm 1 := hnx 1 (by decide) (by decide)
    have e2 : am_row f 122 u1 121 8 = nm 2 := hnx 2 (by decide) (by decide)
    have key : ∃ v, (if nI k = (0 : Int32) then some ((am_max 0 ((3 * (am_row f 122 u1 121 7)) - (2 * (am_row f 122 u1 121 8)))), am_row f 122 u1) else if nI k = (1 : Int32) then some (0, am_row f 122 u1) else some (5, am_row f 122 u1)) = some (v, am_row f 122 u1) ∧ m_greater 0 (m_lesser (lw_top k) (lw_def nm k)) = v := by
      rcases (show k = 0 ∨ k = 1 ∨ k = 2 by omega) with rfl | rfl | rfl
      · rw [if_pos (show nI 0 = (0 : Int32) from rfl), e1, e2]
        refine ⟨_, rfl, ?_⟩
        show m_greater 0 (m_lesser 99 (3 * nm 1 - 2 * nm 2)) = am_max 0 (3 * nm 1 - 2 * nm 2)
        rw [lw_mx, h7, h8, lw_les ha hc]
      · rw [if_neg (show ¬ nI 1 = (0 : Int32) by decide), if_pos (show nI 1 = (1 : Int32) from rfl)]
        exact ⟨0, rfl, by show m_greater 0 (m_lesser 1000 0) = 0; decide⟩
      · rw [if_neg (show ¬ nI 2 = (0 : Int32) by decide), if_neg (show ¬ nI 2 = (1 : Int32) by decide)]
        exact ⟨5, rfl, by show m_greater 0 (m_lesser 99 5) = 5; decide⟩
    obtain ⟨v, k1, k2⟩ := key
    refine ⟨v, u1, u1', k1, ?_, by rw [← k2]; exact lw_gr_pos _⟩
    dsimp only
    rw [if_neg (show ¬ nI l < am_row g 225 u1' 217 71 from by rw [e71]; exact nI_nlt (Nat.le_refl _) (by omega)), pu_bs, k2]
/-! NEARNESS -/
theorem nr_gr (x p : Int32) : (if x < p then p else x) = m_greater x p := by
  unfold m_greater
  by_cases h1 : x < p
  · rw [if_pos h1, if_neg (fun h2 : p < x => by rw [Int32.lt_iff_toInt_lt] at h1 h2; omega)]
  · rw [if_neg h1]
    by_cases h2 : p < x
    · rw [if_pos h2]
    · rw [if_neg h2]
      rw [Int32.lt_iff_toInt_lt] at h1 h2
      exact Int32.toInt_inj.mp (by omega)
theorem nr_le {a b : Nat} (ha : a ≤ 9) (hb : b ≤ 9) : ∃ z, z ≤ 9 ∧ m_greater (nI a) (nI b) = nI z := by
  unfold m_greater
  by_cases h : nI b < nI a
  · rw [if_pos h]; exact ⟨a, ha, rfl⟩
  · rw [if_neg h]; exact ⟨b, hb, rfl⟩
theorem nr_eq {f g : Nat → Nat → Int32} (hf : ∀ j, j < 256 → f 26 j = g 217 (87 + j)) (hN : iv_N (g 217)) (s : Int32) {t : Int32} (ht : t = -1 ∨ ∃ q, q < 16 ∧ t = nI q) : ∃ z, z ≤ 10 ∧ xn_nearness_25 s t f = some (nI z) ∧ m_nearnessOf s t g = some (nI z) := by
  unfold xn_nearness_25 m_nearnessOf
  rcases ht with rfl | ⟨q, hq, rfl⟩
  · exact ⟨0, by decide, by rw [if_pos (by decide)]; rfl, by rw [if_pos rfl]; rfl⟩
  · rw [if_neg (nI_pos (by omega)), if_pos (show nI q < (16 : Int32) from nI_lt (b := 16) hq (by omega)), if_neg (pu_neg1 (by omega))]
    by_cases hb : ((s >>> (nI q &&& 31)) &&& 1) = 1
    · rw [if_pos hb, if_pos hb]
      exact ⟨10, by decide, rfl, rfl⟩
    · rw [if_neg hb, if_neg hb]
      obtain ⟨e, e', p1, p2, z, hz, rfl, rfl⟩ := pu_two (f := fun (s1 : Int32 × Int32) => ((
          if s1.2 < 16 then (
            ((if ((s >>> (s1.2 &&& 31)) &&& 1) = 1 then (
                (xn_between_25 (nI q) s1.2 f).bind fun p2 =>
                if s1.1 < p2 then (
                  (xn_between_25 (nI q) s1.2 f).bind fun p3 =>
                  some p3)
                else (
                  some s1.1))
              else (
                some s1.1)) : Option (Int32)).bind fun t4 =>
            am_let (s1.2 + 1 : Int32) fun t5 =>
            some (.inl (t4, t5)))
          else (
            some (.inr s1.1))) : Option ((Int32 × Int32) ⊕ (Int32)))) (g := fun (s1 : Int32 × Int32) => ((
        if s1.2 < 16 then (
          ((if ((s >>> (s1.2 &&& 31)) &&& 1) = 1 then (
              (m_nearness s1.2 (nI q) g).bind fun p2 =>
              am_let ((m_greater s1.1 p2) : Int32) fun t4 =>
              some t4)
            else (
              some s1.1)) : Option (Int32)).bind fun t5 =>
          am_let (s1.2 + 1 : Int32) fun t6 =>
          some (.inl (t5, t6)))
        else (
          some (.inr s1.1))) : Option ((Int32 × Int32) ⊕ (Int32)))) (fun i s t => ∃ z, z ≤ 9 ∧ s = (nI z, nI i) ∧ t = (nI z, nI i)) (fun e e' => ∃ z, z ≤ 9 ∧ e = nI z ∧ e' = nI z) 16 (s := (0, 0)) (t := (0, 0)) ⟨0, by decide, rfl, rfl⟩ (by
        rintro i x y hi ⟨z, hz, rfl, rfl⟩
        refine Or.inl ?_
        dsimp only
        have c16 : nI i < (16 : Int32) := nI_lt (b := 16) hi (by omega)
        rw [if_pos c16, if_pos c16]
        by_cases hc : ((s >>> (nI i &&& 31)) &&& 1) = 1
        · rw [if_pos hc, if_pos hc]
          have b1 : xn_between_25 (nI q) (nI i) f = some (g 217 (87 + (16 * i + q))) := by
            unfold xn_between_25
            rw [show (16 : Int32) = nI 16 from rfl, pk_mul, nI_add, if_pos (pu_in (by omega) (by omega)), nI_clamp (by omega), hf _ (by omega), hN.2 q i hq hi]
          have b2 : m_nearness (nI i) (nI q) g = some (g 217 (87 + (16 * i + q))) := by
            unfold m_nearness
            rw [show (16 : Int32) = nI 16 from rfl, show (87 : Int32) = nI 87 from rfl, pk_mul, nI_add, nI_add, if_pos (pu_in (by omega) (by omega)), nI_clamp (by omega), Nat.add_assoc]
          rw [b1, b2]
          simp only [pu_bs, pu_letE]
          obtain ⟨y, hy, ey⟩ := hN.1 (16 * i + q) (by omega)
          obtain ⟨z', hz', ez'⟩ := nr_le hz hy
          have e3 : (if nI z < g 217 (87 + (16 * i + q)) then some (g 217 (87 + (16 * i + q))) else some (nI z)) = some (m_greater (nI z) (g 217 (87 + (16 * i + q)))) := by
            rw [← nr_gr]
            by_cases hh : nI z < g 217 (87 + (16 * i + q))
            · rw [if_pos hh, if_pos hh]
            · rw [if_neg hh, if_neg hh]
          rw [e3, pu_bs, nI_1, ey, ez']
          exact ⟨_, _, rfl, rfl, z', hz', rfl, rfl⟩
        · rw [if_neg hc, if_neg hc]
          simp only [pu_bs, pu_letE, nI_1]
          exact ⟨_, _, rfl, rfl, z, hz, rfl, rfl⟩) (by
        rintro x y ⟨z, hz, rfl, rfl⟩
        dsimp only
        rw [if_neg (show ¬ nI 16 < (16 : Int32) by decide), if_neg (show ¬ nI 16 < (16 : Int32) by decide)]
        exact ⟨_, _, rfl, rfl, z, hz, rfl, rfl⟩)
      exact ⟨z, by omega, p1, p2⟩
