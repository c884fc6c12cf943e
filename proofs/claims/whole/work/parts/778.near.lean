/-! NEAR: a line -/
def tx_ne (F G : (Nat → Nat → Int32)) : Prop := (∀ j, j < 256 → ∃ z, z ≤ 9 ∧ F 141 j = nI z ∧ G 223 j = nI z) ∧ ∀ x y, x < 16 → y < 16 → G 223 (16 * x + y) = G 223 (16 * y + x)
theorem tx_neS {F G F' G' : (Nat → Nat → Int32)} {a c M : Nat} (h : tx_ne F G) (ha : a < 16) (hc : c < 16) (hM : M ≤ 9) (h1 : ∀ j, j < 256 → F' 141 j = if j = 16 * a + c ∨ j = 16 * c + a then nI M else F 141 j) (h2 : ∀ j, j < 256 → G' 223 j = if j = 16 * a + c ∨ j = 16 * c + a then nI M else G 223 j) : tx_ne F' G' := by
  refine ⟨fun j hj => ?_, fun x y hx hy => ?_⟩
  · rw [h1 j hj, h2 j hj]
    by_cases d : j = 16 * a + c ∨ j = 16 * c + a
    · rw [if_pos d, if_pos d]
      exact ⟨M, hM, rfl, rfl⟩
    · rw [if_neg d, if_neg d]
      exact h.1 j hj
  · rw [h2 _ (by omega), h2 _ (by omega)]
    by_cases d : 16 * x + y = 16 * a + c ∨ 16 * x + y = 16 * c + a
    · rw [if_pos d, if_pos (show 16 * y + x = 16 * a + c ∨ 16 * y + x = 16 * c + a by omega)]
    · rw [if_neg d, if_neg (show ¬ (16 * y + x = 16 * a + c ∨ 16 * y + x = 16 * c + a) by omega)]
      exact h.2 x y hx hy
def tx_kN (f : (Nat → Nat → Int32)) : Option (Bool × (Nat → Nat → Int32)) := (m_number 262 1 9 f).bind fun p12 =>
          if p12.1 = true then (
            am_let (p12.2 223 260 : Int32) fun t13 =>
            am_let (p12.2 223 261 : Int32) fun t14 =>
            if am_in ((16 * t13) + t14) 264 = true then (
            if am_in ((16 * t13) + t14) 264 = true then (
            am_let (am_up p12.2 223 ((16 * t13) + t14).toNatClampNeg (m_greater (p12.2 223 ((16 * t13) + t14).toNatClampNeg) (p12.2 223 262)) : Nat → Nat → Int32) fun f16 =>
            if am_in ((16 * t13) + t14) 264 = true then (
            if am_in ((16 * t14) + t13) 264 = true then (
            am_let (am_up f16 223 ((16 * t14) + t13).toNatClampNeg (f16 223 ((16 * t13) + t14).toNatClampNeg) : Nat → Nat → Int32) fun f17 =>
            some (true, f17)) else none) else none) else none) else none)
          else (
            some (false, p12.2))
section
variable {n : Nat} {b : Nat → Nat} {N i : Nat} {F G G1 : (Nat → Nat → Int32)}
/-- the end of a line -/
theorem tx_nearE (h : tx_T n b 2 N i F G) {a c : Nat} (ha : a < 16) (hc : c < 16) (g0 : G 223 260 = nI a) (g1 : G 223 261 = nI c) (hI : tx_ne F G) : ∃ ok F' G', ((xs_takeNumber 1 9 F).bind fun p7 =>
        if p7.1 = true then (
          (xn_tell_140 (nI a) (nI c) (p7.2 128 7) p7.2).bind fun p8 =>
          some (true, p8))
        else (
          some (false, p7.2))) = some (ok, F') ∧ tx_kN G = some (ok, G') ∧ tx_W F G F' G' ∧ G' 216 15 = G 216 15 ∧ ((ok = false ∧ tx_Z F' G') ∨ (ok = true ∧ ∃ i', i ≤ i' ∧ tx_T n b 2 N i' F' G' ∧ tx_ne F' G')) := by
  unfold tx_kN
  obtain ⟨ok, F1, G2, r1, r2, r3, r4⟩ := h.numb (p := 262) (by omega) 1 9
  rw [r1, show (262 : Int32) = nI 262 from rfl, r2, pu_bs, pu_bs]
  rcases r4 with ⟨rfl, rz⟩ | ⟨rfl, v, rv, _, _, rv2, rT, r7, rG⟩
  · exact ⟨false, F1, G2, rfl, rfl, r3.W, r3.2.2.2 15 (by omega), Or.inl ⟨rfl, rz⟩⟩
  have hv := tx_inL (a := 1) (b := 9) (by omega) (by omega) (by omega) rv2
  obtain ⟨z, hz, fz, gz⟩ := hI.1 (16 * a + c) (by omega)
  obtain ⟨z', hz', fz', gz'⟩ := hI.1 (16 * c + a) (by omega)
  have ezz : z' = z := by
    have := hI.2 a c ha hc
    rw [gz, gz'] at this
    exact (pu_nIinj (by omega) (by omega) this).symm
  rw [ezz] at fz' gz'
  have e1 : (16 : Int32) * nI a + nI c = nI (16 * a + c) := by rw [show (16 : Int32) = nI 16 from rfl, pk_mul, nI_add]
  have e2 : (16 : Int32) * nI c + nI a = nI (16 * c + a) := by rw [show (16 : Int32) = nI 16 from rfl, pk_mul, nI_add]
  have G260 : G2 223 260 = nI a := by rw [rG, pu_upd_ne _ _ (by omega)]; exact g0
  have G261 : G2 223 261 = nI c := by rw [rG, pu_upd_ne _ _ (by omega)]; exact g1
  have G262 : G2 223 262 = nI v := by rw [rG, pu_upd_eq]
  have Gz : G2 223 (16 * a + c) = nI z := by rw [rG, pu_upd_ne _ _ (by omega)]; exact gz
  have Fz : F1 141 (16 * a + c) = nI z := by rw [r3.1 141 (by omega) (by omega)]; exact fz
  have i1 : am_in (nI (16 * a + c)) 264 = true := pu_in (by omega) (by omega)
  have i2 : am_in (nI (16 * c + a)) 264 = true := pu_in (by omega) (by omega)
  have i3 : am_in (nI (16 * a + c)) 256 = true := pu_in (by omega) (by omega)
  have i4 : am_in (nI (16 * c + a)) 256 = true := pu_in (by omega) (by omega)
  have k1 : (nI (16 * a + c)).toNatClampNeg = 16 * a + c := nI_clamp (by omega)
  have k2 : (nI (16 * c + a)).toNatClampNeg = 16 * c + a := nI_clamp (by omega)
  rw [if_pos rfl, if_pos rfl]
  simp only [pu_letE, G260, G261, G262, e1, e2, i1, i2, k1, k2, if_true, Gz, pu_up_row, pu_upd_eq]
  have F1r : F1 141 = F 141 := r3.1 141 (by omega) (by omega)
  unfold xn_tell_140 xn_between_140
  simp only [e1, e2, i3, i4, k1, k2, if_true, pu_bs, Fz, r7, pu_letE]
  have hg : m_greater (nI z) (nI v) = nI (if v < z then z else v) := by
    unfold m_greater
    by_cases d : v < z
    · rw [if_pos (nI_lt d (by omega)), if_pos d]
    · rw [if_neg (nI_nlt (by omega) (by omega)), if_neg d]
  rw [hg]
  have hgf : ∀ M j, j < 256 → am_up (am_up G2 223 (16 * a + c) (nI M)) 223 (16 * c + a) (nI M) 223 j = if j = 16 * a + c ∨ j = 16 * c + a then nI M else G 223 j := by
    intro M j hj
    rw [pu_up_row, pu_up_row]
    by_cases d2 : j = 16 * c + a
    · rw [d2, pu_upd_eq, if_pos (Or.inr rfl)]
    · rw [pu_upd_ne _ _ d2]
      by_cases d1 : j = 16 * a + c
      · rw [d1, pu_upd_eq, if_pos (Or.inl rfl)]
      · rw [pu_upd_ne _ _ d1, if_neg (fun y => y.elim d1 d2), rG, pu_upd_ne _ _ (by omega)]
  by_cases d : z < v
  · rw [if_pos (nI_lt d (by omega)), if_neg (show ¬ v < z by omega), pu_bs]
    refine ⟨true, _, _, rfl, rfl, ((r3.W.tr (tx_W.fu (by omega) _)).tr (tx_W.fu (by omega) _)).tr ((tx_Q.gu _).tr (tx_Q.gu _)).W, ?_, Or.inr ⟨rfl, i + 1, by omega, (((rT.fu (by omega) _).fu (by omega) _).gu _).gu _, tx_neS hI ha hc (M := v) (by omega) (fun j hj => ?_) (hgf v)⟩⟩
    · rw [pu_up_ne _ _ (by omega), pu_up_ne _ _ (by omega)]
      exact r3.2.2.2 15 (by omega)
    · rw [pu_up_row, pu_up_row]
      by_cases d2 : j = 16 * c + a
      · rw [d2, pu_upd_eq, if_pos (Or.inr rfl)]
      · rw [pu_upd_ne _ _ d2]
        by_cases d1 : j = 16 * a + c
        · rw [d1, pu_upd_eq, if_pos (Or.inl rfl)]
        · rw [pu_upd_ne _ _ d1, if_neg (fun y => y.elim d1 d2), F1r]
  · rw [if_neg (nI_nlt (by omega) (by omega)), pu_bs]
    have eM : (if v < z then z else v) = z := by
      by_cases d2 : v < z
      · rw [if_pos d2]
      · rw [if_neg d2]; omega
    rw [eM]
    refine ⟨true, _, _, rfl, rfl, r3.W.tr ((tx_Q.gu _).tr (tx_Q.gu _)).W, ?_, Or.inr ⟨rfl, i + 1, by omega, (rT.gu _).gu _, tx_neS hI ha hc (M := z) (by omega) (fun j hj => ?_) (hgf z)⟩⟩
    · rw [pu_up_ne _ _ (by omega), pu_up_ne _ _ (by omega)]
      exact r3.2.2.2 15 (by omega)
    · rw [F1r]
      by_cases dd : j = 16 * a + c ∨ j = 16 * c + a
      · rw [if_pos dd]
        rcases dd with rfl | rfl
        · exact fz
        · exact fz'
      · rw [if_neg dd]
theorem tx_near (h : tx_T n b 2 N i F G1) (hN : m_need 15 G = some (true, G1)) (hI : tx_ne F G1) : ∃ ok F' G', xs_readNearLine F = some (ok, F') ∧ m_aNearness G = some (ok, G') ∧ tx_W F G1 F' G' ∧ G' 216 15 = G1 216 15 ∧ ((ok = false ∧ tx_Z F' G') ∨ (ok = true ∧ ∃ i', i ≤ i' ∧ tx_T n b 2 N i' F' G' ∧ tx_ne F' G')) := by
  have em : m_aNearness G = (m_number 260 0 15 G1).bind fun p1 => if p1.1 = true then (m_need 16 p1.2).bind fun p2 => if p2.1 = true then (if p2.2 216 18 = 2 then (if p2.2 216 20 = p2.2 223 260 then some ((m_bad 2 p2.2).1, (m_bad 2 p2.2).2) else (m_number 261 0 15 p2.2).bind fun p11 => if p11.1 = true then tx_kN p11.2 else some (false, p11.2)) else (m_number 261 0 15 p2.2).bind fun p11 => if p11.1 = true then tx_kN p11.2 else some (false, p11.2)) else some (false, p2.2) else some (false, p1.2) := by
    unfold m_aNearness
    rw [md_told, hN, pu_bs, if_pos rfl]
    rfl
  rw [em]
  unfold xs_readNearLine
  obtain ⟨ok, F1, G2, r1, r2, r3, r4⟩ := h.numb (p := 260) (by omega) 0 15
  rw [r1, show (260 : Int32) = nI 260 from rfl, r2, pu_bs, pu_bs]
  rcases r4 with ⟨rfl, rz⟩ | ⟨rfl, a, ra, _, _, ra2, rT, r7, rG⟩
  · exact ⟨false, F1, G2, rfl, rfl, r3.W, r3.2.2.2 15 (by omega), Or.inl ⟨rfl, rz⟩⟩
  have hra := tx_inL (a := 0) (b := 15) (by omega) (by omega) (by omega) ra2
  rw [if_pos rfl, if_pos rfl]
  simp only [pu_letE, r7]
  obtain ⟨ok, F3, G3, s1, s2, s3, s4⟩ := rT.word (x := 1) (show 1 < 2 by omega)
  rw [show (1 : Int32) = nI 1 from rfl, s1, show (16 : Int32) = nI (kw_c 2 1) from rfl, s2, pu_bs, pu_bs]
  have q15 : G3 216 15 = G1 216 15 := (s3.2.2.2 15 (by omega)).trans (r3.2.2.2 15 (by omega))
  rcases s4 with ⟨rfl, sz⟩ | ⟨rfl, sT, s128, sG⟩
  · exact ⟨false, F3, G3, rfl, rfl, r3.W.tr s3.W, q15, Or.inl ⟨rfl, sz⟩⟩
  rw [if_pos rfl, if_pos rfl]
  have g260 : G3 223 260 = nI a := by rw [sG, rG, pu_upd_eq]
  simp only [g260]
  -- the other topic
  have I3 : ∀ F4 G4 : (Nat → Nat → Int32), (∀ x, x = 141 → F4 x = F3 x) → (∀ j, j < 256 → G4 223 j = G3 223 j) → tx_ne F4 G4 := by
    intro F4 G4 e1 e2
    have f3 : F3 141 = F 141 := (s3.1 141 (by omega) (by omega)).trans (r3.1 141 (by omega) (by omega))
    have g3 : ∀ j, j < 256 → G3 223 j = G1 223 j := fun j hj => by rw [sG, rG, pu_upd_ne _ _ (by omega)]
    refine ⟨fun j hj => ?_, fun x y hx hy => ?_⟩
    · rw [e1 141 rfl, f3, e2 j hj, g3 j hj]
      exact hI.1 j hj
    · rw [e2 _ (by omega), e2 _ (by omega), g3 _ (by omega), g3 _ (by omega)]
      exact hI.2 x y hx hy
  have fin : ∃ ok F' G', ((xs_takeNumber 0 15 F3).bind fun p5 => if p5.1 = true then (xs_takeNumber 1 9 p5.2).bind fun p7 => if p7.1 = true then (xn_tell_140 (nI a) (p5.2 128 7) (p7.2 128 7) p7.2).bind fun p8 => some (true, p8) else some (false, p7.2) else some (false, p5.2)) = some (ok, F') ∧ ((m_number 261 0 15 G3).bind fun p11 => if p11.1 = true then tx_kN p11.2 else some (false, p11.2)) = some (ok, G') ∧ tx_W F G1 F' G' ∧ G' 216 15 = G1 216 15 ∧ ((ok = false ∧ tx_Z F' G') ∨ (ok = true ∧ ∃ i', i ≤ i' ∧ tx_T n b 2 N i' F' G' ∧ tx_ne F' G')) := by
    obtain ⟨ok, F5, G5, u1, u2, u3, u4⟩ := sT.numb (p := 261) (by omega) 0 15
    rw [u1, show (261 : Int32) = nI 261 from rfl, u2, pu_bs, pu_bs]
    rcases u4 with ⟨rfl, uz⟩ | ⟨rfl, c, uc, _, _, uc2, uT, u7, uG⟩
    · exact ⟨false, F5, G5, rfl, rfl, (r3.W.tr s3.W).tr u3.W, (u3.2.2.2 15 (by omega)).trans q15, Or.inl ⟨rfl, uz⟩⟩
    · have huc := tx_inL (a := 0) (b := 15) (by omega) (by omega) (by omega) uc2
      rw [if_pos rfl, if_pos rfl]
      dsimp only
      rw [u7]
      obtain ⟨ok, F6, G6, v1, v2, v3, v4, v5⟩ := tx_nearE uT (a := a) (c := c) (by omega) (by omega) (by rw [uG, pu_upd_ne _ _ (by omega)]; exact g260) (by rw [uG, pu_upd_eq]) (I3 F5 G5 (fun x hx => u3.1 x (by omega) (by omega)) (fun j hj => by rw [uG, pu_upd_ne _ _ (by omega)]))
      refine ⟨ok, F6, G6, v1, v2, ((r3.W.tr s3.W).tr u3.W).tr v3, v4.trans ((u3.2.2.2 15 (by omega)).trans q15), ?_⟩
      rcases v5 with y | ⟨y1, i', y2, y3⟩
      · exact Or.inl y
      · exact Or.inr ⟨y1, i', by omega, y3⟩
  unfold xs_takeTopicUnless
  by_cases c1 : F3 123 1 = 2
  · obtain ⟨_, v, hv, v1, v2⟩ := sT.1.numV c1
    simp only [if_pos c1, if_pos (sT.1.num.mp c1), v1, v2]
    by_cases c2 : v = a
    · have et : x_isTopic (nI v) = true := pu_within_t (n := v) (a := 0) (b := 15) (by omega) (by omega) (by omega)
      obtain ⟨F', G', b1, b2, b3, b4⟩ := sT.bad 2
      simp only [c2] at et ⊢
      simp only [if_true, et, b1, b2, pu_bs]
      exact ⟨false, F', G', rfl, rfl, (r3.W.tr s3.W).tr b3.W, (b3.2.2.2 15 (by omega)).trans q15, Or.inl ⟨rfl, b4⟩⟩
    · have c3 : ¬ nI v = nI a := nI_ne c2
      simp only [if_neg c3]
      obtain ⟨ok, F', G', y1, y2, y3⟩ := fin
      refine ⟨ok, F', G', ?_, y2, y3⟩
      rw [← y1]
      cases xs_takeNumber 0 15 F3 with
      | none => rfl
      | some p => rfl
  · simp only [if_neg c1, if_neg (fun y => c1 (sT.1.num.mpr y))]
    obtain ⟨ok, F', G', y1, y2, y3⟩ := fin
    refine ⟨ok, F', G', ?_, y2, y3⟩
    rw [← y1]
    cases xs_takeNumber 0 15 F3 with
    | none => split <;> rfl
    | some p => split <;> rfl
end
