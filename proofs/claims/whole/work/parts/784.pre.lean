/-! A TEXT: before its lines -/
def tx_vf (f g F G : (Nat → Nat → Int32)) : Prop := (∀ a, (a < 123 ∨ a = 124 ∨ 142 < a) → F a = f a) ∧ (∀ a, a ≠ 216 → a ≠ 221 → a ≠ 222 → a ≠ 223 → G a = g a) ∧ ∀ j, j ≤ 11 ∨ 26 ≤ j → G 216 j = g 216 j
theorem tx_vf.tr {f g F G F' G' : (Nat → Nat → Int32)} (h : tx_vf f g F G) (w : tx_W F G F' G') : tx_vf f g F' G' :=
  ⟨fun a ha => (w.1 a ha).trans (h.1 a ha), fun a a1 a2 a3 a4 => (w.2.2.1 a a1 a2 a3 a4).trans (h.2.1 a a1 a2 a3 a4), fun j hj => (w.2.2.2 j (by omega)).trans (h.2.2 j hj)⟩
def tx_tE (e22 : (Int32 × (Nat → Nat → Int32)) ⊕ (Int32 × (Nat → Nat → Int32))) : Option (Int32 × (Nat → Nat → Int32)) := e22.elim (fun v => some v) fun e23 => some (e23.1, am_up (am_up (am_up e23.2 129 0 e23.1) 135 0 e23.1) 140 0 e23.1)
def tx_mEn (a0 : Int32) (t10 : Bool × (Nat → Nat → Int32)) : Option (Int32 × (Nat → Nat → Int32)) := if t10.1 = true then (m_putsText a0 (am_up t10.2 216 16 0)).bind fun p12 => some (p12.1, p12.2) else some ((-1), am_up (am_up (am_up t10.2 216 16 0) 216 23 (am_up t10.2 216 16 0 216 21)) 216 25 (am_up (am_up t10.2 216 16 0) 216 23 (am_up t10.2 216 16 0 216 21) 216 22))
theorem tx_cl1 (F : (Nat → Nat → Int32)) : ∃ F', xn_clearAll_140 F = some F' ∧ (∀ a, a ≠ 140 → a ≠ 141 → F' a = F a) ∧ ∀ j, j < 256 → F' 141 j = 0 := by
  unfold xn_clearAll_140
  rw [pu_letE]
  refine pu_one (fun i s => ∃ G, s = (nI i, G) ∧ (∀ a, a ≠ 140 → a ≠ 141 → G a = F a) ∧ ∀ j, j < i → G 141 j = 0) _ 256 ⟨_, rfl, fun a a1 _ => pu_up_ne _ _ a1, fun j hj => absurd hj (Nat.not_lt_zero _)⟩ ?_ ?_
  · rintro i s hi ⟨G, rfl, K1, K2⟩
    left
    dsimp only
    rw [if_pos (nI_lt hi (by omega)), if_pos (pu_in hi (by omega)), pu_letE, pu_letE, nI_clamp (by omega), nI_1]
    refine ⟨_, rfl, _, rfl, fun a a1 a2 => by rw [pu_up_ne _ _ a2]; exact K1 a a1 a2, fun j hj => ?_⟩
    rw [pu_up_row]
    by_cases d : j = i
    · rw [d, pu_upd_eq]
    · rw [pu_upd_ne _ _ d]; exact K2 j (by omega)
  · rintro s ⟨G, rfl, K1, K2⟩
    dsimp only
    rw [if_neg (nI_nlt (Nat.le_refl _) (by omega))]
    exact ⟨_, rfl, K1, K2⟩
theorem tx_cl2 (F : (Nat → Nat → Int32)) : ∃ F', am_loop (fun (s7 : Int32 × (Nat → Nat → Int32)) => ((
        if s7.1 < 12 then (
          if am_in s7.1 12 = true then (
          am_let (am_up s7.2 142 s7.1.toNatClampNeg 0 : Nat → Nat → Int32) fun f8 =>
          am_let (s7.1 + 1 : Int32) fun t9 =>
          some (.inl (t9, f8))) else none)
        else (
          some (.inr s7.2))) : Option ((Int32 × (Nat → Nat → Int32)) ⊕ ((Nat → Nat → Int32))))) am_F (0, F) = some F' ∧ (∀ a, a ≠ 142 → F' a = F a) ∧ ∀ j, j < 12 → F' 142 j = 0 := by
  refine pu_one (fun i s => ∃ G, s = (nI i, G) ∧ (∀ a, a ≠ 142 → G a = F a) ∧ ∀ j, j < i → G 142 j = 0) _ 12 ⟨_, rfl, fun a _ => rfl, fun j hj => absurd hj (Nat.not_lt_zero _)⟩ ?_ ?_
  · rintro i s hi ⟨G, rfl, K1, K2⟩
    left
    dsimp only
    rw [if_pos (show nI i < (12 : Int32) from nI_lt (b := 12) hi (by omega)), if_pos (pu_in hi (by omega)), pu_letE, pu_letE, nI_clamp (by omega), nI_1]
    refine ⟨_, rfl, _, rfl, fun a a2 => by rw [pu_up_ne _ _ a2]; exact K1 a a2, fun j hj => ?_⟩
    rw [pu_up_row]
    by_cases d : j = i
    · rw [d, pu_upd_eq]
    · rw [pu_upd_ne _ _ d]; exact K2 j (by omega)
  · rintro s ⟨G, rfl, K1, K2⟩
    dsimp only
    rw [if_neg (show ¬ nI 12 < (12 : Int32) by decide)]
    exact ⟨_, rfl, K1, K2⟩
theorem tx_cl3 (G : (Nat → Nat → Int32)) : ∃ G', am_loop (fun (s2 : Int32 × (Nat → Nat → Int32)) => ((
    if s2.1 < 256 then (
      if am_in s2.1 264 = true then (
      am_let (am_up s2.2 223 s2.1.toNatClampNeg 0 : Nat → Nat → Int32) fun f3 =>
      am_let (s2.1 + 1 : Int32) fun t4 =>
      some (.inl (t4, f3))) else none)
    else (
      some (.inr s2.2))) : Option ((Int32 × (Nat → Nat → Int32)) ⊕ ((Nat → Nat → Int32))))) am_F (0, G) = some G' ∧ (∀ a, a ≠ 223 → G' a = G a) ∧ ∀ j, j < 256 → G' 223 j = 0 := by
  refine pu_one (fun i s => ∃ F, s = (nI i, F) ∧ (∀ a, a ≠ 223 → F a = G a) ∧ ∀ j, j < i → F 223 j = 0) _ 256 ⟨_, rfl, fun a _ => rfl, fun j hj => absurd hj (Nat.not_lt_zero _)⟩ ?_ ?_
  · rintro i s hi ⟨F, rfl, K1, K2⟩
    left
    dsimp only
    rw [if_pos (show nI i < (256 : Int32) from nI_lt (b := 256) hi (by omega)), if_pos (pu_in (by omega) (by omega)), pu_letE, pu_letE, nI_clamp (by omega), nI_1]
    refine ⟨_, rfl, _, rfl, fun a a2 => by rw [pu_up_ne _ _ a2]; exact K1 a a2, fun j hj => ?_⟩
    rw [pu_up_row]
    by_cases d : j = i
    · rw [d, pu_upd_eq]
    · rw [pu_upd_ne _ _ d]; exact K2 j (by omega)
  · rintro s ⟨F, rfl, K1, K2⟩
    dsimp only
    rw [if_neg (show ¬ nI 256 < (256 : Int32) by decide)]
    exact ⟨_, rfl, K1, K2⟩
theorem tx_pre {f g : (Nat → Nat → Int32)} (h : rl_Rel f g) {k : Nat} (hk : k < 4) : ∃ F0 G0 n b N ng nw, xs_readText_2 (nI k) f = (am_loop (tx_tL (nI k)) am_F (0, F0)).bind tx_tE ∧ m_text (nI k) g = (if nI k = 0 then m_readsLaw G0 else m_readsRows G0).bind (tx_mEn (nI k)) ∧
    tx_T n b k N 0 F0 G0 ∧ F0 129 1 = 0 ∧ tx_en ng nw F0 G0 ∧ (∀ j, j < 256 → F0 141 j = 0) ∧ (∀ j, j < 12 → F0 142 j = 0) ∧ tx_vf f g F0 G0 ∧ G0 216 23 = 0 ∧ G0 216 25 = -1 := by
  obtain ⟨hW, hIm, hPs, ⟨n, t1, t2, t3, t4⟩, _⟩ := h
  obtain ⟨hT, ⟨ng, nw, _, _, y1, y2, y3, y4, _⟩, _⟩ := hW
  have f20 : f 2 0 = nI ng := (rl_g_gn hT.C).trans y1
  have f21 : f 2 1 = nI nw := (rl_g_wn hT.C).trans y3
  have hb : ∀ i, i < n → (f 124 i).toNatClampNeg < 256 ∧ f 124 i = nI (f 124 i).toNatClampNeg ∧ g 224 i = nI (f 124 i).toNatClampNeg := by
    intro i hi
    obtain ⟨z, z1, z2, z3⟩ := t4 i hi
    have e : (f 124 i).toNatClampNeg = z := by rw [z2, nI_clamp (by omega)]
    rw [e]
    exact ⟨z1, z2, z3⟩
  -- the class
  obtain ⟨Fa, a1, a2, a3⟩ := tx_cl1 (am_up (am_up (am_up (am_up (am_up f 128 4 0) 128 5 (-1)) 128 8 (f 2 0)) 128 9 (f 2 1)) 129 1 0)
  obtain ⟨Fb, b1, b2, b3⟩ := tx_cl2 Fa
  have eb : ∀ a, a ≠ 128 → a ≠ 129 → a ≠ 140 → a ≠ 141 → a ≠ 142 → Fb a = f a := by
    intro a h1 h2 h3 h4 h5
    rw [b2 a h5, a2 a h3 h4, pu_up_ne _ _ h2, pu_up_ne _ _ h1, pu_up_ne _ _ h1, pu_up_ne _ _ h1, pu_up_ne _ _ h1]
  have TF : lx_T n (fun i => (f 124 i).toNatClampNeg) Fb := ⟨t1, by rw [eb 123 (by omega) (by omega) (by omega) (by omega) (by omega)]; exact t2, fun i hi => ⟨(hb i hi).1, by rw [eb 124 (by omega) (by omega) (by omega) (by omega) (by omega)]; exact (hb i hi).2.1⟩⟩
  -- the model
  have TG : md_T n (fun i => (f 124 i).toNatClampNeg) (am_up (am_up (am_up (am_up (am_up g 216 23 0) 216 25 (-1)) 216 21 0) 216 17 0) 216 12 (nI k)) := by
    refine ⟨t1, ?_, fun i hi => ⟨(hb i hi).1, ?_⟩⟩
    · rw [pu_up_row, pu_upd_ne _ _ (by omega), pu_up_row, pu_upd_ne _ _ (by omega), pu_up_row, pu_upd_ne _ _ (by omega), pu_up_row, pu_upd_ne _ _ (by omega), pu_up_row, pu_upd_ne _ _ (by omega)]
      exact t3
    · rw [pu_up_ne _ _ (by omega), pu_up_ne _ _ (by omega), pu_up_ne _ _ (by omega), pu_up_ne _ _ (by omega), pu_up_ne _ _ (by omega)]
      exact (hb i hi).2.2
  obtain ⟨N, F0, G0, s1, s2, s3, s4, s5⟩ := tx_start TF TG hk (by rw [pu_up_row, pu_upd_eq]) (by rw [pu_up_row, pu_upd_ne _ _ (by omega), pu_up_row, pu_upd_eq])
  have e128 : F0 128 = upd (upd (upd (upd (f 128) 4 0) 5 (-1)) 8 (f 2 0)) 9 (f 2 1) := by
    rw [s4.1 128 (by omega) (by omega) (by omega) (by omega), b2 128 (by omega), a2 128 (by omega) (by omega), pu_up_ne _ _ (by omega), pu_up_row, pu_up_row, pu_up_row, pu_up_row]
  have e129 : F0 129 1 = 0 := by
    rw [s4.1 129 (by omega) (by omega) (by omega) (by omega), b2 129 (by omega), a2 129 (by omega) (by omega), pu_up_row, pu_upd_eq]
  have eG : ∀ j, j < 17 ∨ 20 < j → G0 216 j = am_up (am_up (am_up (am_up (am_up g 216 23 0) 216 25 (-1)) 216 21 0) 216 17 0) 216 12 (nI k) 216 j := fun j hj => s5.2 j (by omega) (by omega) (by omega) (by omega)
  have eG2 : ∀ a, a ≠ 216 → G0 a = g a := by
    intro a ha
    rw [s5.1 a ha, pu_up_ne _ _ ha, pu_up_ne _ _ ha, pu_up_ne _ _ ha, pu_up_ne _ _ ha, pu_up_ne _ _ ha]
  have kk : xs_wordsOf (nI k) = k := by
    have : ∀ k, k < 4 → xs_wordsOf (nI k) = k := by decide
    exact this k hk
  refine ⟨F0, G0, n, fun i => (f 124 i).toNatClampNeg, N, ng, nw, ?_, ?_, ⟨s3, ?_⟩, e129, ⟨y2, y4, ?_, ?_, ?_, ?_⟩, ?_, ?_, ⟨?_, ?_, ?_⟩, ?_, ?_⟩
  · unfold xs_readText_2
    rw [pu_letE, pu_letE, if_neg (show ¬ nI k < (0 : Int32) from nI_nlt (b := 0) (by omega) (by omega)), if_neg (show ¬ (3 : Int32) < nI k from nI_nlt (a := 3) (by omega) (by omega)), pu_letE, pu_letE, pu_letE]
    simp only [pu_up_ne _ _ (show (2 : Nat) ≠ 128 by omega)]
    rw [a1, pu_bs, b1, pu_bs, kk, s1, pu_bs]
    rfl
  · unfold m_text
    simp only [pu_letE]
    rw [if_pos (show m_isIn (nI k) 0 3 = true from pu_within_t (n := k) (a := 0) (b := 3) (by omega) (by omega) (by omega)), s2, pu_bs]
    by_cases c : nI k = 0
    · rw [if_pos c, if_pos c]
      cases m_readsLaw G0 with
      | none => rfl
      | some p => rfl
    · rw [if_neg c, if_neg c]
      cases m_readsRows G0 with
      | none => rfl
      | some p => rfl
  · unfold tx_ok
    rw [e128, pu_upd_ne _ _ (by omega), pu_upd_ne _ _ (by omega), pu_upd_ne _ _ (by omega), pu_upd_eq, pu_upd_ne _ _ (by omega), pu_upd_ne _ _ (by omega), pu_upd_eq]
    exact ⟨rfl, rfl⟩
  · rw [e128, pu_upd_ne _ _ (by omega), pu_upd_eq]; exact f20
  · rw [e128, pu_upd_eq]; exact f21
  · rw [eG2 217 (by omega)]; exact y1
  · rw [eG2 217 (by omega)]; exact y3
  · intro j hj
    rw [s4.1 141 (by omega) (by omega) (by omega) (by omega), b2 141 (by omega)]
    exact a3 j hj
  · intro j hj
    rw [s4.1 142 (by omega) (by omega) (by omega) (by omega)]
    exact b3 j hj
  · intro a ha
    rw [s4.1 a (by omega) (by omega) (by omega) (by omega)]
    exact eb a (by omega) (by omega) (by omega) (by omega) (by omega)
  · exact fun a a1 _ _ _ => eG2 a a1
  · intro j hj
    rw [eG j (by omega), pu_up_row, pu_upd_ne _ _ (by omega), pu_up_row, pu_upd_ne _ _ (by omega), pu_up_row, pu_upd_ne _ _ (by omega), pu_up_row, pu_upd_ne _ _ (by omega), pu_up_row, pu_upd_ne _ _ (by omega)]
  · rw [eG 23 (by omega), pu_up_row, pu_upd_ne _ _ (by omega), pu_up_row, pu_upd_ne _ _ (by omega), pu_up_row, pu_upd_ne _ _ (by omega), pu_up_row, pu_upd_ne _ _ (by omega), pu_up_row, pu_upd_eq]
  · rw [eG 25 (by omega), pu_up_row, pu_upd_ne _ _ (by omega), pu_up_row, pu_upd_ne _ _ (by omega), pu_up_row, pu_upd_ne _ _ (by omega), pu_up_row, pu_upd_eq]
/-- the relation, when the tape is empty again -/
theorem tx_rel {f g F G : (Nat → Nat → Int32)} (h : rl_Rel f g) (h1 : ∀ a, 55 ≤ a → a ≤ 108 → F a = f a) (h2 : ∀ a, 142 < a → F a = f a) (h02 : F 0 2 = f 0 2) (h3 : F 123 0 = 0) (g1 : G 218 = g 218) (g5 : G 216 5 = g 216 5) (g16 : G 216 16 = 0) (z1 : F 128 4 = G 216 23) (z2 : F 128 5 = G 216 25) (hW : rl_Wd 0 9999 F (G 217)) (hP : rl_Ps F G) : rl_Rel F G := by
  obtain ⟨_, k2, k3, k4, _, k6, k7⟩ := h
  refine ⟨hW, ?_, hP, ⟨0, by omega, h3, g16, fun i hi => absurd hi (Nat.not_lt_zero _)⟩, ⟨z1, z2⟩, ?_, ?_⟩
  · unfold rl_Im at k2 ⊢
    rw [h02, g5, g1]
    rcases k2 with h2 | ⟨x, y, z⟩
    · exact Or.inl h2
    · exact Or.inr ⟨x, y, z.congr fun a x y => h1 (a + 54) (by omega) (by omega)⟩
  · unfold rl_Ni at k6 ⊢
    rw [h2 143 (by omega), h2 150 (by omega)]
    exact k6
  · unfold rl_Pr at k7 ⊢
    rw [h2 143 (by omega), h2 144 (by omega), h2 153 (by omega)]
    exact k7
theorem tx_fail {f g F G : (Nat → Nat → Int32)} (h : rl_Rel f g) (hV : tx_vf f g F G) (hZ : tx_Z F G) : rl_Rel (am_up F 123 0 0) (am_up (am_up (am_up G 216 16 0) 216 23 (am_up G 216 16 0 216 21)) 216 25 (am_up (am_up G 216 16 0) 216 23 (am_up G 216 16 0 216 21) 216 22)) := by
  have r1 : ∀ a, (a < 123 ∨ 142 < a) → am_up F 123 0 0 a = f a := fun a ha => by rw [pu_up_ne _ _ (by omega)]; exact hV.1 a (by omega)
  have r2 : ∀ a, a ≠ 216 → a ≠ 221 → a ≠ 222 → a ≠ 223 → am_up (am_up (am_up G 216 16 0) 216 23 (am_up G 216 16 0 216 21)) 216 25 (am_up (am_up G 216 16 0) 216 23 (am_up G 216 16 0 216 21) 216 22) a = g a := fun a a1 a2 a3 a4 => by rw [pu_up_ne _ _ a1, pu_up_ne _ _ a1, pu_up_ne _ _ a1]; exact hV.2.1 a a1 a2 a3 a4
  have r3 : ∀ j, j ≤ 11 → am_up (am_up (am_up G 216 16 0) 216 23 (am_up G 216 16 0 216 21)) 216 25 (am_up (am_up G 216 16 0) 216 23 (am_up G 216 16 0 216 21) 216 22) 216 j = g 216 j := fun j hj => by rw [pu_up_row, pu_upd_ne _ _ (by omega), pu_up_row, pu_upd_ne _ _ (by omega), pu_up_row, pu_upd_ne _ _ (by omega)]; exact hV.2.2 j (by omega)
  refine tx_rel h (fun a a1 a2 => r1 a (by omega)) (fun a a1 => r1 a (by omega)) (by rw [r1 0 (by omega)]) (by rw [pu_up_row, pu_upd_eq]) (r2 218 (by omega) (by omega) (by omega) (by omega)) (r3 5 (by omega)) ?_ ?_ ?_ ?_ ?_
  · rw [pu_up_row, pu_upd_ne _ _ (by omega), pu_up_row, pu_upd_ne _ _ (by omega), pu_up_row, pu_upd_eq]
  · rw [pu_up_ne _ _ (by omega), hZ.1, pu_up_row, pu_upd_ne _ _ (by omega), pu_up_row, pu_upd_eq, pu_up_row, pu_upd_ne _ _ (by omega)]
  · rw [pu_up_ne _ _ (by omega), hZ.2, pu_up_row, pu_upd_eq, pu_up_row, pu_upd_ne _ _ (by omega), pu_up_row, pu_upd_ne _ _ (by omega)]
  · rw [r2 217 (by omega) (by omega) (by omega) (by omega)]
    exact h.1.congr fun a a1 a2 => r1 (a + 0) (by omega)
  · exact h.2.2.1.same (r1 109 (by omega)) (by rw [r1 0 (by omega)]) (r3 4 (by omega)) (fun a ha => r1 a (by omega)) (r2 219 (by omega) (by omega) (by omega) (by omega)) (fun i _ _ => by rw [r2 217 (by omega) (by omega) (by omega) (by omega)])
