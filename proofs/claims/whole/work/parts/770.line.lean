/-! LAW: a line -/
def tx_ln (W : List lw_S) (F G : (Nat → Nat → Int32)) (j : Nat) : Prop := ∃ (k : Nat) (P0 P Q R : List lw_S), W = P0 ++ P ++ Q ++ R ∧ k < 3 ∧ F 131 j = nI k ∧ F 132 j = nI (lw_es P0).length ∧ F 133 j = nI (lw_es (P0 ++ P)).length ∧ F 134 j = nI (lw_es (P0 ++ P ++ Q)).length ∧
  G 221 (4 * j) = nI P0.length ∧ G 221 (4 * j + 1) = nI (P0 ++ P).length ∧ G 221 (4 * j + 2) = nI (P0 ++ P ++ Q).length ∧ G 221 (4 * j + 3) = nI (20 + k) ∧ lw_ks P [] = some [false] ∧ (Q = [] ∨ lw_ks Q [] = some [true])
theorem tx_ln.to {W D : List lw_S} {F G F' G' : (Nat → Nat → Int32)} {j : Nat} (h : tx_ln W F G j) (h1 : ∀ a, 131 ≤ a → a ≤ 134 → F' a j = F a j) (h2 : ∀ t, t < 4 → G' 221 (4 * j + t) = G 221 (4 * j + t)) : tx_ln (W ++ D) F' G' j := by
  obtain ⟨k, P0, P, Q, R, e0, a1, a2, a3, a4, a5, b1, b2, b3, b4, c⟩ := h
  refine ⟨k, P0, P, Q, R ++ D, by rw [e0, List.append_assoc _ R D], a1, by rw [h1 131 (by omega) (by omega)]; exact a2, by rw [h1 132 (by omega) (by omega)]; exact a3, by rw [h1 133 (by omega) (by omega)]; exact a4, by rw [h1 134 (by omega) (by omega)]; exact a5,
    (h2 0 (by omega)).trans b1, (h2 1 (by omega)).trans b2, (h2 2 (by omega)).trans b3, (h2 3 (by omega)).trans b4, c⟩
def tx_W (F G F' G' : (Nat → Nat → Int32)) : Prop := (∀ a, (a < 123 ∨ a = 124 ∨ 142 < a) → F' a = F a) ∧ (F' 128 8 = F 128 8 ∧ F' 128 9 = F 128 9) ∧ (∀ a, a ≠ 216 → a ≠ 221 → a ≠ 222 → a ≠ 223 → G' a = G a) ∧ ∀ j, j ≤ 12 ∨ j = 16 ∨ j = 23 ∨ 25 ≤ j → G' 216 j = G 216 j
theorem tx_P.W {F G F' G' : (Nat → Nat → Int32)} (h : tx_P F G F' G') : tx_W F G F' G' := ⟨fun a ha => h.1 a (by omega) (by omega) (by omega) (by omega), ⟨h.2.1.1, h.2.1.2.1⟩, fun a a1 _ a2 a3 => h.2.2.1 a a1 a2 a3, fun j hj => h.2.2.2.1 j (by omega)⟩
theorem tx_W.rf {F G : (Nat → Nat → Int32)} : tx_W F G F G := ⟨fun _ _ => rfl, ⟨rfl, rfl⟩, fun _ _ _ _ _ => rfl, fun _ _ => rfl⟩
theorem tx_W.tr {F G F' G' F'' G'' : (Nat → Nat → Int32)} (h : tx_W F G F' G') (h' : tx_W F' G' F'' G'') : tx_W F G F'' G'' :=
  ⟨fun a ha => (h'.1 a ha).trans (h.1 a ha), ⟨h'.2.1.1.trans h.2.1.1, h'.2.1.2.trans h.2.1.2⟩, fun a a1 a2 a3 a4 => (h'.2.2.1 a a1 a2 a3 a4).trans (h.2.2.1 a a1 a2 a3 a4), fun j hj => (h'.2.2.2 j hj).trans (h.2.2.2 j hj)⟩
theorem tx_P.r {F G F' G' : (Nat → Nat → Int32)} (h : tx_P F G F' G') {a : Nat} (ha : 131 ≤ a) : F' a = F a := h.1 a (by omega) (by omega) (by omega) (by omega)
theorem tx_P.m {F G F' G' : (Nat → Nat → Int32)} (h : tx_P F G F' G') : G' 221 = G 221 := h.2.2.1 221 (by omega) (by omega) (by omega)
theorem tx_P.c {F G F' G' : (Nat → Nat → Int32)} (h : tx_P F G F' G') : G' 216 13 = G 216 13 := h.2.2.2.1 13 (by omega)
section
variable {n : Nat} {b : Nat → Nat} {k N i e : Nat} {W : List lw_S} {F G : (Nat → Nat → Int32)}
theorem tx_S.fu (h : tx_S n b k N i e W F G) {a j : Nat} (ha : 131 ≤ a ∧ a ≤ 142) (v : Int32) : tx_S n b k N i e W (am_up F a j v) G ∧ tx_W F G (am_up F a j v) G := by
  obtain ⟨h1, ⟨e1, e2, e3, e4⟩, h3, h4⟩ := h
  exact ⟨⟨h1.fx (fun c c1 c2 => pu_up_ne _ _ (by omega)), ⟨by rw [pu_up_ne _ _ (by omega)]; exact e1, by rw [pu_up_ne _ _ (by omega)]; exact e2, e3, e4⟩, h3, h4.to (pu_up_ne _ _ (by omega))⟩, ⟨fun c hc => pu_up_ne _ _ (by omega), ⟨by rw [pu_up_ne _ _ (by omega)], by rw [pu_up_ne _ _ (by omega)]⟩, fun _ _ _ _ _ => rfl, fun _ _ => rfl⟩⟩
theorem tx_S.gu (h : tx_S n b k N i e W F G) {a j : Nat} (ha : a = 221 ∨ a = 223) (v : Int32) : tx_S n b k N i e W F (am_up G a j v) ∧ tx_W F G F (am_up G a j v) := by
  obtain ⟨h1, ⟨e1, e2, e3, e4⟩, h3⟩ := h
  exact ⟨⟨h1.gx (tx_gm.row (by omega) _), ⟨e1, e2, by rw [pu_up_ne _ _ (by omega)]; exact e3, by rw [pu_up_ne _ _ (by omega)]; exact e4⟩, h3⟩, ⟨fun _ _ => rfl, ⟨rfl, rfl⟩, fun c c1 c2 c3 c4 => pu_up_ne _ _ (by omega), fun j hj => by rw [pu_up_ne _ _ (by omega)]⟩⟩
end
def tx_xl (l : Int32) (F : (Nat → Nat → Int32)) : Option (Bool × (Nat → Nat → Int32)) := (xs_takeHead 0 l F).bind fun p15 => if p15.1 = true then (xs_readLawLine l (F 123 2) p15.2).bind fun p16 => if p16.1 = true then xs_takeSign 59 p16.2 else some (false, p16.2) else some (false, p15.2)
section
variable {n : Nat} {b : Nat → Nat} {N i e : Nat} {W : List lw_S} {F G : (Nat → Nat → Int32)}
theorem tx_head (h : tx_S n b 0 N i e W F G) {l : Nat} (hl : l ≤ 16) (h13 : G 216 13 = nI l) :
    (∃ F' G', tx_xl (nI l) F = some (false, F') ∧ m_aLine G = some (false, G') ∧ tx_P F G F' G' ∧ tx_Z F' G') ∨
    (l < 16 ∧ i < N ∧ ∃ x, x < 3 ∧ F 123 2 = nI x ∧ G 216 18 = nI (20 + x) ∧ xs_takeHead 0 (nI l) F = (xt_advance F).bind fun p3 => some (true, p3)) := by
  unfold tx_xl m_aLine xs_takeHead
  simp only [pu_letE, eq_self, if_true]
  rcases h.1.wrd with ⟨hi, w1, x, w2, w3, w4, w5, w6⟩ | ⟨w1, y, w2, w3, w4⟩
  · rw [if_pos w1, w3, w4]
    have hx : x < 17 := w2
    by_cases c : x < 3
    · have e20 : kw_c 0 x = 20 + x := by
        have : ∀ x, x < 3 → kw_c 0 x = 20 + x := by decide
        exact this x c
      have f2 : m_isIn (nI (kw_c 0 x)) 20 22 = true := by
        rw [e20, pu_isIn]
        exact pu_within_t (n := 20 + x) (a := 20) (b := 22) (by omega) (by omega) (by omega)
      rw [if_neg (show ¬ (2 : Int32) < nI x from nI_nlt (a := 2) (by omega) (by omega)), if_pos f2]
      by_cases c16 : l < 16
      · right
        rw [if_pos (show nI l < (16 : Int32) from nI_lt (b := 16) c16 (by omega))]
        exact ⟨c16, hi, x, c, rfl, by rw [e20], rfl⟩
      · left
        obtain ⟨F', G', b1, b2, b3, b4⟩ := h.bad 3
        rw [if_neg (show ¬ nI l < (16 : Int32) from nI_nlt (b := 16) (by omega) (by omega)), b1, pu_bs, if_neg Bool.false_ne_true, if_pos (show G 216 13 = 16 by rw [h13, show l = 16 by omega]; rfl), b2]
        exact ⟨F', G', rfl, rfl, b3, b4⟩
    · left
      have f2 : ¬ m_isIn (nI (kw_c 0 x)) 20 22 = true := by
        have : ∀ x, x < 17 → ¬ x < 3 → ¬ m_isIn (nI (kw_c 0 x)) 20 22 = true := by decide
        exact this x hx c
      obtain ⟨F', G', b1, b2, b3, b4⟩ := h.bad 1
      rw [if_pos (show (2 : Int32) < nI x from nI_lt (a := 2) (by omega) (by omega)), if_neg f2, b1, pu_bs, if_neg Bool.false_ne_true, b2]
      exact ⟨F', G', rfl, rfl, b3, b4⟩
  · left
    have f2 : ¬ m_isIn (nI y) 20 22 = true := by
      rw [pu_isIn]
      intro z
      obtain ⟨m, m1, m2, m3⟩ := pu_within (a := 20) (b := 22) (by omega) z (by omega)
      have := pu_nIinj (by omega) (by omega) m3
      omega
    obtain ⟨F', G', b1, b2, b3, b4⟩ := h.bad 1
    rw [if_neg w1, w4, if_neg f2, b1, pu_bs, if_neg Bool.false_ne_true, b2]
    exact ⟨F', G', rfl, rfl, b3, b4⟩
theorem tx_line (h : tx_S n b 0 N i e W F G) {l : Nat} (hl : l ≤ 16) (h13 : G 216 13 = nI l) (hL : ∀ j, j < l → tx_ln W F G j) :
    ∃ ok F' G', tx_xl (nI l) F = some (ok, F') ∧ m_aLine G = some (ok, G') ∧ tx_W F G F' G' ∧ G' 216 13 = nI l ∧ ((ok = false ∧ tx_Z F' G') ∨ (ok = true ∧ l < 16 ∧ ∃ i' D, i < i' ∧ tx_S n b 0 N i' 0 (W ++ D) F' G' ∧ ∀ j, j < l + 1 → tx_ln (W ++ D) F' G' j)) := by
  rcases tx_head h hl h13 with ⟨F', G', r1, r2, r3, r4⟩ | ⟨l16, hi, x, x3, hx, gx, hd⟩
  · exact ⟨false, F', G', r1, r2, r3.W, (r3.c).trans h13, Or.inl ⟨rfl, r4⟩⟩
  have f2 : m_isIn (G 216 18) 20 22 = true := by
    rw [gx, pu_isIn]
    exact pu_within_t (n := 20 + x) (a := 20) (b := 22) (by omega) (by omega) (by omega)
  have c16 : am_in (nI l) 16 = true := pu_in l16 (by omega)
  have t16 : (nI l).toNatClampNeg = l := nI_clamp (by omega)
  have m4 : (4 : Int32) * nI l = nI (4 * l) := by rw [show (4 : Int32) = nI 4 from rfl, pk_mul]
  have m41 : (4 : Int32) * nI l + 1 = nI (4 * l + 1) := by rw [m4, nI_1]
  have m42 : (4 : Int32) * nI l + 2 = nI (4 * l + 2) := by rw [m4]; exact nI_add _ 2
  have m43 : (4 : Int32) * nI l + 3 = nI (4 * l + 3) := by rw [m4]; exact nI_add _ 3
  have a0 : am_in (nI (4 * l)) 64 = true := pu_in (by omega) (by omega)
  have a1 : am_in (nI (4 * l + 1)) 64 = true := pu_in (by omega) (by omega)
  have a2 : am_in (nI (4 * l + 2)) 64 = true := pu_in (by omega) (by omega)
  have a3 : am_in (nI (4 * l + 3)) 64 = true := pu_in (by omega) (by omega)
  have k0 : (nI (4 * l)).toNatClampNeg = 4 * l := nI_clamp (by omega)
  have k1 : (nI (4 * l + 1)).toNatClampNeg = 4 * l + 1 := nI_clamp (by omega)
  have k2 : (nI (4 * l + 2)).toNatClampNeg = 4 * l + 2 := nI_clamp (by omega)
  have k3 : (nI (4 * l + 3)).toNatClampNeg = 4 * l + 3 := nI_clamp (by omega)
  -- the head
  obtain ⟨g1, p1⟩ := h.g24 0
  obtain ⟨g2, w2⟩ := g1.gu (a := 221) (j := 4 * l + 3) (Or.inl rfl) (nI (20 + x))
  obtain ⟨F1, G1, u1, u2, u3, u4, u5, _, _⟩ := g2.adv hi
  have q13 : G1 216 13 = nI l := by rw [u4.c, pu_up_ne _ _ (by omega), p1.c]; exact h13
  have q14 : G1 216 14 = nI W.length := u3.2.1.2.2.1
  have q24 : G1 216 24 = 0 := by rw [u5, pu_up_ne _ _ (by omega), pu_up_row, pu_upd_eq]
  have f129 : F1 129 1 = nI (lw_es W).length := u3.2.1.1
  have q221 : G1 221 = upd (G 221) (4 * l + 3) (nI (20 + x)) := by rw [u4.m, pu_up_row, pu_up_ne _ _ (by omega)]
  obtain ⟨g3, w3⟩ := u3.fu (a := 131) (j := l) (by omega) (nI x)
  obtain ⟨g4, w4⟩ := g3.fu (a := 132) (j := l) (by omega) (nI (lw_es W).length)
  obtain ⟨g5, w5⟩ := g4.gu (a := 221) (j := 4 * l) (Or.inl rfl) (nI W.length)
  have W1 := ((((p1.W.tr w2).tr u4.W).tr w3).tr w4).tr w5
  obtain ⟨ok, F2, G2, v1, v2, v3, v4⟩ := tx_sum g5
  have q213 : G2 216 13 = nI l := by rw [v3.c, pu_up_ne _ _ (by omega)]; exact q13
  -- the model so far
  have em : m_aLine G = (if (ok, G2).1 = true then (
        am_let (am_up G2 221 (4 * l + 1) (G2 216 14) : Nat → Nat → Int32) fun f8 =>
        if f8 216 18 = 3 then (
          (m_next0 f8).bind fun p9 =>
          (m_any 40 p9).bind fun p10 =>
          if p10.1 = true then (
            if am_in ((4 * (p10.2 216 13)) + 2) 64 = true then (
            am_let (am_up p10.2 221 ((4 * (p10.2 216 13)) + 2).toNatClampNeg (p10.2 216 14) : Nat → Nat → Int32) fun f11 =>
            (m_need 159 f11).bind fun p12 =>
            some (p12.1, p12.2)) else none)
          else (
            some (false, p10.2)))
        else (
          am_let (am_up f8 221 (4 * l + 2) (f8 216 14) : Nat → Nat → Int32) fun f13 =>
          (m_need 159 f13).bind fun p14 =>
          some (p14.1, p14.2))) else some (false, G2)) := by
    unfold m_aLine
    rw [if_pos f2, if_neg (show ¬ G 216 13 = 16 by rw [h13]; exact nI_ne (b := 16) (by omega))]
    have z1 : am_up G 216 24 0 216 13 = nI l := by rw [p1.c]; exact h13
    have z2 : am_up G 216 24 0 216 18 = nI (20 + x) := by rw [pu_up_row, pu_upd_ne _ _ (by omega)]; exact gx
    simp only [pu_letE, z1, z2, m43, a3, k3, if_true]
    rw [u2, pu_bs]
    simp only [q13, q14, m4, a0, k0, if_true]
    rw [v2, pu_bs]
    simp only [pu_up_ne _ _ (show (216 : Nat) ≠ 221 by omega), q213, m41, m42, a1, a2, k1, k2, if_true]
  have ec : tx_xl (nI l) F = (if (ok, F2).1 = true then (
    am_let (am_up F2 133 l (F2 129 1) : Nat → Nat → Int32) fun f4 =>
    if (xt_isWord 3 f4) = true then (
      (xt_advance  f4).bind fun p6 =>
      (xs_readAny 40 0 p6).bind fun p7 =>
      if p7.1 = true then xs_takeSign 59 (am_up p7.2 134 l (p7.2 129 1))
      else (
        some (false, p7.2)))
    else xs_takeSign 59 (am_up f4 134 l (f4 129 1))) else some (false, F2)) := by
    unfold tx_xl
    rw [hd, u1, pu_bs, pu_bs, if_pos rfl, hx]
    dsimp only
    unfold xs_readLawLine
    simp only [pu_letE, c16, t16, if_true, pu_up_ne _ _ (show (129 : Nat) ≠ 131 by omega), f129]
    rw [v1, pu_bs]
    by_cases co : ok = true
    · subst co
      rw [if_pos rfl, if_pos rfl]
      dsimp only
      by_cases cw : xt_isWord 3 (am_up F2 133 l (F2 129 1)) = true
      · rw [if_pos cw, if_pos cw]
        cases xt_advance (am_up F2 133 l (F2 129 1)) with
        | none => rfl
        | some p6 =>
          rw [pu_bs, pu_bs]
          cases xs_readAny 40 0 p6 with
          | none => rfl
          | some p7 =>
            rw [pu_bs, pu_bs]
            by_cases c7 : p7.1 = true
            · rw [if_pos c7, if_pos c7, pu_bs, if_pos rfl]
            · rw [if_neg c7, if_neg c7, pu_bs, if_neg Bool.false_ne_true]
      · rw [if_neg cw, if_neg cw, pu_bs, if_pos rfl]
    · have co : ok = false := by simpa using co
      subst co
      rfl
  rw [em, ec]
  rcases v4 with ⟨rfl, vz⟩ | ⟨rfl, i2, D, vi, vS, v24, vQ⟩
  · exact ⟨false, F2, G2, rfl, rfl, W1.tr v3.W, q213, Or.inl ⟨rfl, vz⟩⟩
  rw [if_pos rfl, if_pos rfl]
  have e129 : F2 129 1 = nI (lw_es (W ++ D)).length := vS.2.1.1
  have e14 : G2 216 14 = nI (W ++ D).length := vS.2.1.2.2.1
  simp only [pu_letE]
  rw [e129, e14]
  obtain ⟨g6, w6⟩ := vS.fu (a := 133) (j := l) (by omega) (nI (lw_es (W ++ D)).length)
  obtain ⟨g7, w7⟩ := g6.gu (a := 221) (j := 4 * l + 1) (Or.inl rfl) (nI (W ++ D).length)
  have W2 := ((W1.tr v3.W).tr w6).tr w7
  have s3 : xt_isWord 3 (am_up F2 133 l (nI (lw_es (W ++ D)).length)) = true ↔ am_up G2 221 (4 * l + 1) (nI (W ++ D).length) 216 18 = 3 := tx_wordN g7.1 (x := 3) (by omega)
  have r131 : ∀ a, 131 ≤ a → F2 a = am_up (am_up F1 131 l (nI x)) 132 l (nI (lw_es W).length) a := fun a ha => v3.r ha
  have rF1 : ∀ a, 131 ≤ a → F1 a = F a := fun a ha => u4.r ha
  have r221 : G2 221 = upd (upd (G 221) (4 * l + 3) (nI (20 + x))) (4 * l) (nI W.length) := by rw [v3.m, pu_up_row, q221]
  have q24' : am_up G2 221 (4 * l + 1) (nI (W ++ D).length) 216 24 = nI 0 := by rw [pu_up_ne _ _ (by omega), v24, pu_up_ne _ _ (by omega)]; exact q24
  have q13' : am_up G2 221 (4 * l + 1) (nI (W ++ D).length) 216 13 = nI l := by rw [pu_up_ne _ _ (by omega)]; exact q213
  have kD : lw_ks D [] = some [false] := vQ [] (by show 0 + 3 ≤ 60; omega)
  -- the end of a line, both ways
  have fin : ∀ (i3 : Nat) (E : List lw_S) (F3 G3 : (Nat → Nat → Int32)), i2 ≤ i3 → tx_S n b 0 N i3 0 (W ++ D ++ E) F3 G3 → tx_W F G F3 G3 → G3 216 13 = nI l → (∀ a, 131 ≤ a → F3 a = am_up F2 133 l (nI (lw_es (W ++ D)).length) a) → G3 221 = upd (G2 221) (4 * l + 1) (nI (W ++ D).length) → (E = [] ∨ lw_ks E [] = some [true]) →
      ∃ ok F' G', xs_takeSign 59 (am_up F3 134 l (F3 129 1)) = some (ok, F') ∧ ((m_need 159 (am_up G3 221 (4 * l + 2) (G3 216 14))).bind fun p12 => some (p12.1, p12.2)) = some (ok, G') ∧ tx_W F G F' G' ∧ G' 216 13 = nI l ∧ ((ok = false ∧ tx_Z F' G') ∨ (ok = true ∧ l < 16 ∧ ∃ i' D, i < i' ∧ tx_S n b 0 N i' 0 (W ++ D) F' G' ∧ ∀ j, j < l + 1 → tx_ln (W ++ D) F' G' j)) := by
    intro i3 E F3 G3 hi3 hS hW h13' hF hG hE
    obtain ⟨g8, w8⟩ := hS.fu (a := 134) (j := l) (by omega) (nI (lw_es (W ++ D ++ E)).length)
    obtain ⟨g9, w9⟩ := g8.gu (a := 221) (j := 4 * l + 2) (Or.inl rfl) (nI (W ++ D ++ E).length)
    rw [show F3 129 1 = nI (lw_es (W ++ D ++ E)).length from hS.2.1.1, show G3 216 14 = nI (W ++ D ++ E).length from hS.2.1.2.2.1]
    obtain ⟨ok, F', G', y1, y2, y3, y4⟩ := tx_sign g9 (c := 59) (by omega) (by omega)
    rw [show (59 : Int32) = nI 59 from rfl, y1, show (159 : Int32) = nI (100 + 59) from rfl, y2, pu_bs]
    refine ⟨ok, F', G', rfl, rfl, ((hW.tr w8).tr w9).tr y3.W, ?_, ?_⟩
    · rw [y3.c, pu_up_ne _ _ (by omega)]
      exact h13'
    · rcases y4 with ⟨rfl, yz⟩ | ⟨rfl, yS, _⟩
      · exact Or.inl ⟨rfl, yz⟩
      · refine Or.inr ⟨rfl, l16, i3 + 1, D ++ E, by omega, by rw [← List.append_assoc]; exact yS.le (by omega), fun j hj => ?_⟩
        have FF : ∀ a, 131 ≤ a → F' a = am_up F3 134 l (nI (lw_es (W ++ D ++ E)).length) a := fun a ha => y3.r ha
        have GG : G' 221 = upd (G3 221) (4 * l + 2) (nI (W ++ D ++ E).length) := by rw [y3.m, pu_up_row]
        rw [hG, r221] at GG
        by_cases cj : j = l
        · subst cj
          refine ⟨x, W, D, E, [], by rw [List.append_nil, List.append_assoc W D E], x3, ?_, ?_, ?_, ?_, ?_, ?_, ?_, ?_, kD, hE⟩
          · rw [FF 131 (by omega), pu_up_ne _ _ (by omega), hF 131 (by omega), pu_up_ne _ _ (by omega), r131 131 (by omega), pu_up_ne _ _ (by omega), pu_up_row, pu_upd_eq]
          · rw [FF 132 (by omega), pu_up_ne _ _ (by omega), hF 132 (by omega), pu_up_ne _ _ (by omega), r131 132 (by omega), pu_up_row, pu_upd_eq]
          · rw [FF 133 (by omega), pu_up_ne _ _ (by omega), hF 133 (by omega), pu_up_row, pu_upd_eq]
          · rw [FF 134 (by omega), pu_up_row, pu_upd_eq]
          · rw [GG, pu_upd_ne _ _ (by omega), pu_upd_ne _ _ (by omega), pu_upd_eq]
          · rw [GG, pu_upd_ne _ _ (by omega), pu_upd_eq]
          · rw [GG, pu_upd_eq]
          · rw [GG, pu_upd_ne _ _ (by omega), pu_upd_ne _ _ (by omega), pu_upd_ne _ _ (by omega), pu_upd_eq]
        · have hj' : j < l := by omega
          refine (hL j hj').to (fun a x1 x2 => ?_) (fun t ht => ?_)
          · rw [FF a x1]
            have s1 : ∀ (X : (Nat → Nat → Int32)) (c : Nat) (v : Int32), am_up X c l v a j = X a j := by
              intro X c v
              by_cases ca : a = c
              · rw [ca, pu_up_row, pu_upd_ne _ _ cj]
              · rw [pu_up_ne _ _ ca]
            rw [s1, hF a x1, s1, r131 a x1, s1, s1, rF1 a x1]
          · rw [GG, pu_upd_ne _ _ (by omega), pu_upd_ne _ _ (by omega), pu_upd_ne _ _ (by omega), pu_upd_ne _ _ (by omega)]
  by_cases cw : xt_isWord 3 (am_up F2 133 l (nI (lw_es (W ++ D)).length)) = true
  · rw [if_pos cw, if_pos (s3.mp cw)]
    have hi2 := g7.1.signN (c := 3) (by omega) (s3.mp cw) (by omega)
    obtain ⟨F3, G3, y1, y2, y3, y4, y5, _, _⟩ := g7.adv hi2
    obtain ⟨ok, F4, G4, z1, z2, z3, z4⟩ := tx_given _ _ _ _ _ y3 (y5.trans q24')
    rw [y1, y2, pu_bs, pu_bs, z1, z2, pu_bs, pu_bs]
    have q413 : G4 216 13 = nI l := by rw [z3.c, y4.c]; exact q13'
    rcases z4 with ⟨rfl, zz⟩ | ⟨rfl, i3, E, zi, zS, z24, zQ⟩
    · exact ⟨false, F4, G4, rfl, rfl, (W2.tr y4.W).tr z3.W, q413, Or.inl ⟨rfl, zz⟩⟩
    · rw [if_pos rfl, if_pos rfl]
      simp only [q413, m42, a2, k2, if_true]
      exact fin i3 E F4 G4 (by omega) (zS.le (by omega)) ((W2.tr y4.W).tr z3.W) q413 (fun a ha => by rw [z3.r ha, y4.r ha]) (by rw [z3.m, y4.m, pu_up_row]) (Or.inr (zQ [] (by show 0 + 22 ≤ 60; omega)))
  · rw [if_neg cw, if_neg (fun z => cw (s3.mpr z))]
    exact fin i2 [] _ _ (Nat.le_refl _) (by rw [List.append_nil]; exact g7.le (by omega)) W2 q13' (fun a ha => rfl) (by rw [pu_up_row]) (Or.inl rfl)
end
