/-! KEEPS: a line -/
def tx_kL : Int32 × Int32 × (Nat → Nat → Int32) → Option ((Int32 × Int32 × (Nat → Nat → Int32)) ⊕ ((Bool × (Nat → Nat → Int32)) ⊕ (Int32 × (Nat → Nat → Int32)))) := fun (s4 : Int32 × Int32 × (Nat → Nat → Int32)) => ((
        if 6 < s4.2.1 then (
          some (.inr (.inr (s4.1, s4.2.2))))
        else (
          am_let ((if s4.2.1 = 6 then (
              true)
            else (
              false)) : Bool) fun t5 =>
          (xs_takeTopicUnless t5 3 s4.2.2).bind fun p6 =>
          if p6.1 = true then (
            am_let ((s4.1 ||| (1 <<< ((p6.2 128 7) &&& 31))) : Int32) fun t7 =>
            if p6.2 123 1 = 2 then (
              am_let (s4.2.1 + 1 : Int32) fun t8 =>
              some (.inl (t7, t8, p6.2)))
            else (
              some (.inr (.inr (t7, p6.2)))))
          else (
            some (.inr (.inl (false, p6.2)))))) : Option ((Int32 × Int32 × (Nat → Nat → Int32)) ⊕ ((Bool × (Nat → Nat → Int32)) ⊕ (Int32 × (Nat → Nat → Int32)))))
def tx_kM : Int32 × Int32 × (Nat → Nat → Int32) → Option ((Int32 × Int32 × (Nat → Nat → Int32)) ⊕ ((Bool × (Nat → Nat → Int32)) ⊕ (Int32 × (Nat → Nat → Int32)))) := fun (s4 : Int32 × Int32 × (Nat → Nat → Int32)) => ((
        if s4.2.2 216 18 = 2 then (
          if (m_isIn (s4.2.2 216 20) 0 15) = true then (
            if s4.2.1 = 6 then (
              am_let (m_bad 3 s4.2.2) fun p6 =>
              some (.inr (.inl (p6.1, p6.2))))
            else (
              am_let (s4.2.1 + 1 : Int32) fun t7 =>
              am_let ((s4.1 ||| (1 <<< ((s4.2.2 216 20) &&& 31))) : Int32) fun t8 =>
              (m_next0  s4.2.2).bind fun p9 =>
              some (.inl (t8, t7, p9))))
          else (
            am_let (m_bad 2 s4.2.2) fun p10 =>
            some (.inr (.inl (p10.1, p10.2)))))
        else (
          some (.inr (.inr (s4.1, s4.2.2))))) : Option ((Int32 × Int32 × (Nat → Nat → Int32)) ⊕ ((Bool × (Nat → Nat → Int32)) ⊕ (Int32 × (Nat → Nat → Int32)))))
def tx_ke (nw : Nat) (F G : (Nat → Nat → Int32)) : Prop := ∀ j, j < 12 → ∃ s, s < 65536 ∧ F 142 j = nI s ∧ G 223 j = nI s ∧ (nw ≤ j → s = 0)
section
variable {n : Nat} {b : Nat → Nat} {N : Nat}
theorem tx_or {S v : Nat} (hS : S < 65536) (hv : v < 16) : nI S ||| ((1 : Int32) <<< (nI v &&& 31)) = nI (S ||| 2 ^ v) ∧ S ||| 2 ^ v < 65536 := by
  rw [wo_sh v hv, nm_or]
  exact ⟨rfl, Nat.or_lt_two_pow (n := 16) hS (by
    have h2 : 2 ^ v ≤ 2 ^ 15 := Nat.pow_le_pow_right (by omega) (by omega)
    have h3 : 2 ^ 15 = 32768 := rfl
    have h4 : 2 ^ 16 = 65536 := rfl
    omega)⟩
/-- the class's step of the loop, when a topic has been taken -/
theorem tx_kT {S c v : Nat} {F F' : (Nat → Nat → Int32)} (hc : c ≤ 6) (hS : S < 65536) (hv : v < 16) (ht : xs_takeTopicUnless (if nI c = 6 then true else false) 3 F = some (true, F')) (h7 : F' 128 7 = nI v) : tx_kL (nI S, nI c, F) = if F' 123 1 = 2 then some (.inl (nI (S ||| 2 ^ v), nI (c + 1), F')) else some (.inr (.inr (nI (S ||| 2 ^ v), F'))) := by
  unfold tx_kL
  dsimp only
  rw [if_neg (show ¬ (6 : Int32) < nI c from nI_nlt (a := 6) (by omega) (by omega)), pu_letE, ht, pu_bs, if_pos rfl, pu_letE, pu_letE]
  dsimp only
  rw [h7, (tx_or hS hv).1, nI_1]
theorem tx_keepL : ∀ (m c i S Fc Fm : Nat) (F G : (Nat → Nat → Int32)), c + m = 6 → 1 ≤ c → S < 65536 → m < Fc → m < Fm → tx_T n b 3 N i F G →
    (∃ F' G', (if F 123 1 = 2 then am_loop tx_kL Fc (nI S, nI c, F) else some (.inr (nI S, F))) = some (.inl (false, F')) ∧ am_loop tx_kM Fm (nI S, nI c, G) = some (.inl (false, G')) ∧ tx_Q F G F' G' ∧ tx_Z F' G') ∨
    ∃ F' G' S' i', (if F 123 1 = 2 then am_loop tx_kL Fc (nI S, nI c, F) else some (.inr (nI S, F))) = some (.inr (nI S', F')) ∧ am_loop tx_kM Fm (nI S, nI c, G) = some (.inr (nI S', G')) ∧ tx_Q F G F' G' ∧ S' < 65536 ∧ i ≤ i' ∧ tx_T n b 3 N i' F' G' ∧ G' 223 = G 223 := by
  intro m
  induction m with
  | zero =>
    intro c i S Fc Fm F G hm h1 hS hFc hFm hT
    obtain ⟨Fc', rfl⟩ : ∃ F', Fc = F' + 1 := ⟨Fc - 1, by omega⟩
    obtain ⟨Fm', rfl⟩ : ∃ F', Fm = F' + 1 := ⟨Fm - 1, by omega⟩
    by_cases c2 : F 123 1 = 2
    · left
      rw [if_pos c2]
      have c6 : c = 6 := by omega
      obtain ⟨hi, v, hv, v1, v2⟩ := hT.1.numV c2
      by_cases cv : v ≤ 15
      · obtain ⟨F', G', b1, b2, b3, b4⟩ := hT.bad 3
        refine ⟨F', G', pu_loop_inr ?_, pu_loop_inr ?_, b3, b4⟩
        · unfold tx_kL
          dsimp only
          rw [if_neg (show ¬ (6 : Int32) < nI c from nI_nlt (a := 6) (by omega) (by omega)), pu_letE, if_pos (show nI c = 6 by rw [c6]; rfl)]
          unfold xs_takeTopicUnless
          rw [if_pos rfl, if_pos c2, v1, if_pos (show x_isTopic (nI v) = true from pu_within_t (n := v) (a := 0) (b := 15) (by omega) (by omega) (by omega)), b1]
          rfl
        · unfold tx_kM
          dsimp only
          rw [if_pos (hT.1.num.mp c2)]
          simp only [v2]
          rw [if_pos (show m_isIn (nI v) 0 15 = true from pu_within_t (n := v) (a := 0) (b := 15) (by omega) (by omega) (by omega)), if_pos (show nI c = 6 by rw [c6]; rfl), b2]
          rfl
      · obtain ⟨F', G', b1, b2, b3, b4⟩ := hT.bad 2
        have fI : ¬ m_isIn (nI v) 0 15 = true := fun z => by
          have := tx_inL (a := 0) (b := 15) (by omega) (by omega) (by omega) z
          omega
        refine ⟨F', G', pu_loop_inr ?_, pu_loop_inr ?_, b3, b4⟩
        · unfold tx_kL
          dsimp only
          rw [if_neg (show ¬ (6 : Int32) < nI c from nI_nlt (a := 6) (by omega) (by omega)), pu_letE, if_pos (show nI c = 6 by rw [c6]; rfl)]
          unfold xs_takeTopicUnless
          rw [if_pos rfl, if_pos c2, v1, if_neg (show ¬ x_isTopic (nI v) = true from fI)]
          unfold xs_takeNumber
          rw [if_pos c2, v1, if_neg (show ¬ nI v < (0 : Int32) from nI_nlt (b := 0) (by omega) (by omega)), if_pos (show (15 : Int32) < nI v from nI_lt (a := 15) (by omega) (by omega)), b1]
          rfl
        · unfold tx_kM
          dsimp only
          rw [if_pos (hT.1.num.mp c2)]
          simp only [v2]
          rw [if_neg fI, b2]
          rfl
    · right
      rw [if_neg c2]
      refine ⟨F, G, S, i, rfl, pu_loop_inr ?_, tx_Q.rf, hS, Nat.le_refl _, hT, rfl⟩
      unfold tx_kM
      dsimp only
      rw [if_neg (fun z => c2 (hT.1.num.mpr z))]
  | succ m ih =>
    intro c i S Fc Fm F G hm h1 hS hFc hFm hT
    obtain ⟨Fc', rfl⟩ : ∃ F', Fc = F' + 1 := ⟨Fc - 1, by omega⟩
    obtain ⟨Fm', rfl⟩ : ∃ F', Fm = F' + 1 := ⟨Fm - 1, by omega⟩
    have n6 : ¬ nI c = (6 : Int32) := nI_ne (b := 6) (by omega)
    by_cases c2 : F 123 1 = 2
    · rw [if_pos c2]
      obtain ⟨hi, v, hv, v1, v2⟩ := hT.1.numV c2
      by_cases cv : v ≤ 15
      · have tI : m_isIn (nI v) 0 15 = true := pu_within_t (n := v) (a := 0) (b := 15) (by omega) (by omega) (by omega)
        obtain ⟨F1, G1, r1, r2, r3, r4, r5, r6⟩ := (hT.f7 (nI v)).adv hi
        have e7 : F1 128 7 = nI v := by rw [r5, pu_up_row, pu_upd_eq]
        have ht : xs_takeTopicUnless (if nI c = 6 then true else false) 3 F = some (true, F1) := by
          rw [if_neg n6]
          unfold xs_takeTopicUnless
          rw [if_neg Bool.false_ne_true]
          unfold xs_takeNumber
          rw [if_pos c2, v1, if_neg (show ¬ nI v < (0 : Int32) from nI_nlt (b := 0) (by omega) (by omega)), if_neg (show ¬ (15 : Int32) < nI v from nI_nlt (a := 15) (by omega) (by omega)), pu_letE, r1]
          rfl
        have ec := tx_kT (by omega) hS (by omega) ht e7
        have em : tx_kM (nI S, nI c, G) = some (.inl (nI (S ||| 2 ^ v), nI (c + 1), G1)) := by
          unfold tx_kM
          dsimp only
          rw [if_pos (hT.1.num.mp c2)]
          simp only [v2]
          rw [if_pos tI, if_neg n6, pu_letE, pu_letE, r2, pu_bs, (tx_or hS (by omega)).1, nI_1]
        have hS' := (tx_or (v := v) hS (by omega)).2
        have Q1 : tx_Q F G F1 G1 := (tx_Q.f7 _).tr r4
        rw [pu_loop_inl em]
        have el : am_loop tx_kL (Fc' + 1) (nI S, nI c, F) = if F1 123 1 = 2 then am_loop tx_kL Fc' (nI (S ||| 2 ^ v), nI (c + 1), F1) else some (.inr (nI (S ||| 2 ^ v), F1)) := by
          by_cases c3 : F1 123 1 = 2
          · rw [if_pos c3] at ec ⊢
            exact pu_loop_inl ec
          · rw [if_neg c3] at ec ⊢
            exact pu_loop_inr ec
        rw [el]
        rcases ih (c + 1) (i + 1) (S ||| 2 ^ v) Fc' Fm' F1 G1 (by omega) (by omega) hS' (by omega) (by omega) r3 with ⟨F', G', q1, q2, q3, q4⟩ | ⟨F', G', S', i', q1, q2, q3, q4, q5, q6, q7⟩
        · exact Or.inl ⟨F', G', q1, q2, Q1.tr q3, q4⟩
        · exact Or.inr ⟨F', G', S', i', q1, q2, Q1.tr q3, q4, by omega, q6, q7.trans r6⟩
      · left
        obtain ⟨F', G', b1, b2, b3, b4⟩ := hT.bad 2
        have fI : ¬ m_isIn (nI v) 0 15 = true := fun z => by
          have := tx_inL (a := 0) (b := 15) (by omega) (by omega) (by omega) z
          omega
        refine ⟨F', G', pu_loop_inr ?_, pu_loop_inr ?_, b3, b4⟩
        · unfold tx_kL
          dsimp only
          rw [if_neg (show ¬ (6 : Int32) < nI c from nI_nlt (a := 6) (by omega) (by omega)), pu_letE, if_neg n6]
          unfold xs_takeTopicUnless
          rw [if_neg Bool.false_ne_true]
          unfold xs_takeNumber
          rw [if_pos c2, v1, if_neg (show ¬ nI v < (0 : Int32) from nI_nlt (b := 0) (by omega) (by omega)), if_pos (show (15 : Int32) < nI v from nI_lt (a := 15) (by omega) (by omega)), b1]
          rfl
        · unfold tx_kM
          dsimp only
          rw [if_pos (hT.1.num.mp c2)]
          simp only [v2]
          rw [if_neg fI, b2]
          rfl
    · right
      rw [if_neg c2]
      refine ⟨F, G, S, i, rfl, pu_loop_inr ?_, tx_Q.rf, hS, Nat.le_refl _, hT, rfl⟩
      unfold tx_kM
      dsimp only
      rw [if_neg (fun z => c2 (hT.1.num.mpr z))]
theorem tx_keep {i : Nat} {F G G1 : (Nat → Nat → Int32)} (h : tx_T n b 3 N i F G1) (hN : m_need 17 G = some (true, G1)) {nw : Nat} (hw : nw ≤ 12) (f9 : F 128 9 = nI nw) (g70 : G 217 70 = nI nw) (hI : tx_ke nw F G1) :
    ∃ ok F' G', xs_readKeepsLine F = some (ok, F') ∧ m_aSecret G = some (ok, G') ∧ tx_W F G1 F' G' ∧ G' 216 15 = G1 216 15 ∧ ((ok = false ∧ tx_Z F' G') ∨ (ok = true ∧ ∃ i', i ≤ i' ∧ tx_T n b 3 N i' F' G' ∧ tx_ke nw F' G')) := by
  have em : m_aSecret G = (m_number 260 0 (nI nw - 1) G1).bind fun p1 => if p1.1 = true then ((m_need 18 p1.2).bind fun p1 => if p1.1 = true then m_number 261 0 15 p1.2 else some (false, p1.2)).bind fun p2 => if p2.1 = true then (am_loop tx_kM am_F (1 <<< (p2.2 223 261 &&& 31), 1, p2.2)).bind fun e11 => e11.elim (fun v => some v) fun e12 => if am_in (e12.2 223 260) 264 = true then some (true, am_up e12.2 223 (e12.2 223 260).toNatClampNeg e12.1) else none else some (false, p2.2) else some (false, p1.2) := by
    unfold m_aSecret
    rw [md_told, hN, pu_bs, if_pos rfl, g70]
    simp only [md_told]
    rfl
  have ec : xs_readKeepsLine F = (xs_takeNumber 0 (nI nw - 1) F).bind fun p1 => if p1.1 = true then (xs_takeWord 1 p1.2).bind fun p3 => if p3.1 = true then (am_loop tx_kL am_F (0, 0, p3.2)).bind fun e9 => e9.elim (fun v => some v) fun e10 => if am_in (p1.2 128 7) 12 = true then some (true, am_up e10.2 142 (p1.2 128 7).toNatClampNeg e10.1) else none else some (false, p3.2) else some (false, p1.2) := by
    unfold xs_readKeepsLine
    rw [f9]
    rfl
  rw [em, ec]
  obtain ⟨ok, F1, G2, r1, r2, r3, r4⟩ := h.numb (p := 260) (by omega) 0 (nI nw - 1)
  rw [r1, show (260 : Int32) = nI 260 from rfl, r2, pu_bs, pu_bs]
  rcases r4 with ⟨rfl, rz⟩ | ⟨rfl, a, ra, _, _, ra2, rT, r7, rG⟩
  · exact ⟨false, F1, G2, rfl, rfl, r3.W, r3.2.2.2 15 (by omega), Or.inl ⟨rfl, rz⟩⟩
  have hra := tx_in (by omega) (by omega) ra2
  rw [if_pos rfl, if_pos rfl]
  simp only [r7]
  obtain ⟨ok, F3, G3, s1, s2, s3, s4⟩ := rT.word (x := 1) (show 1 < 2 by omega)
  rw [show xs_takeWord 1 F1 = some (ok, F3) from s1, show m_need 18 G2 = some (ok, G3) from s2, pu_bs, pu_bs]
  have q15 : G3 216 15 = G1 216 15 := (s3.2.2.2 15 (by omega)).trans (r3.2.2.2 15 (by omega))
  rcases s4 with ⟨rfl, sz⟩ | ⟨rfl, sT, s128, sG⟩
  · rw [if_neg Bool.false_ne_true, if_neg Bool.false_ne_true, pu_bs, if_neg Bool.false_ne_true]
    exact ⟨false, F3, G3, rfl, rfl, r3.W.tr s3.W, q15, Or.inl ⟨rfl, sz⟩⟩
  rw [if_pos rfl, if_pos rfl]
  dsimp only
  obtain ⟨ok, F5, G5, u1, u2, u3, u4⟩ := sT.numb (p := 261) (by omega) 0 15
  rw [show m_number 261 0 15 G3 = some (ok, G5) from u2, pu_bs]
  have W5 := (r3.W.tr s3.W).tr u3.W
  have q515 : G5 216 15 = G1 216 15 := (u3.2.2.2 15 (by omega)).trans q15
  have ht : xs_takeTopicUnless (if nI 0 = 6 then true else false) 3 F3 = some (ok, F5) := by
    rw [if_neg (show ¬ nI 0 = (6 : Int32) by decide)]
    unfold xs_takeTopicUnless
    rw [if_neg Bool.false_ne_true, u1]
    rfl
  have hF : am_F = 999999 + 1 := rfl
  rcases u4 with ⟨rfl, uz⟩ | ⟨rfl, v, uv, _, _, uv2, uT, u7, uG⟩
  · have ek : tx_kL (nI 0, nI 0, F3) = some (.inr (.inl (false, F5))) := by
      unfold tx_kL
      dsimp only
      rw [if_neg (show ¬ (6 : Int32) < nI 0 by decide), pu_letE, ht]
      rfl
    rw [hF, show ((0 : Int32), (0 : Int32), F3) = (nI 0, nI 0, F3) from rfl, pu_loop_inr ek, if_neg Bool.false_ne_true]
    exact ⟨false, F5, G5, rfl, rfl, W5, q515, Or.inl ⟨rfl, uz⟩⟩
  · have hv := tx_inL (a := 0) (b := 15) (by omega) (by omega) (by omega) uv2
    rw [if_pos rfl]
    dsimp only
    have ek := tx_kT (S := 0) (c := 0) (by omega) (by omega) (show v < 16 by omega) ht u7
    rw [Nat.zero_or] at ek
    have hS : 2 ^ v < 65536 := by
      have h2 : 2 ^ v ≤ 2 ^ 15 := Nat.pow_le_pow_right (by omega) (by omega)
      have h3 : 2 ^ 15 = 32768 := rfl
      omega
    have el : am_loop tx_kL am_F (0, 0, F3) = if F5 123 1 = 2 then am_loop tx_kL 999999 (nI (2 ^ v), nI 1, F5) else some (.inr (nI (2 ^ v), F5)) := by
      rw [hF, show ((0 : Int32), (0 : Int32), F3) = (nI 0, nI 0, F3) from rfl]
      by_cases c3 : F5 123 1 = 2
      · rw [if_pos c3] at ek ⊢
        exact pu_loop_inl ek
      · rw [if_neg c3] at ek ⊢
        exact pu_loop_inr ek
    have g261 : G5 223 261 = nI v := by rw [uG, pu_upd_eq]
    rw [el, g261, wo_sh v (by omega)]
    rcases tx_keepL 5 1 (i + 1 + 1 + 1) (2 ^ v) 999999 am_F F5 G5 (by omega) (by omega) hS (by omega) (by rw [hF]; omega) uT with ⟨F', G', q1, q2, q3, q4⟩ | ⟨F', G', S', i', q1, q2, q3, q4, q5, q6, q7⟩
    · rw [q1, show ((nI (2 ^ v)), (1 : Int32), G5) = (nI (2 ^ v), nI 1, G5) from rfl, q2, pu_bs, pu_bs]
      exact ⟨false, F', G', rfl, rfl, W5.tr q3.W, (q3.2.2.2 15 (by omega)).trans q515, Or.inl ⟨rfl, q4⟩⟩
    · rw [q1, show ((nI (2 ^ v)), (1 : Int32), G5) = (nI (2 ^ v), nI 1, G5) from rfl, q2, pu_bs, pu_bs]
      have g260 : G' 223 260 = nI a := by rw [q7, uG, pu_upd_ne _ _ (by omega), sG, rG, pu_upd_eq]
      have c12 : am_in (nI a) 12 = true := pu_in (by omega) (by omega)
      have c264 : am_in (nI a) 264 = true := pu_in (by omega) (by omega)
      have ka : (nI a).toNatClampNeg = a := nI_clamp (by omega)
      dsimp only [Sum.elim_inr]
      simp only [g260, c12, c264, ka, if_true]
      refine ⟨true, _, _, rfl, rfl, ((W5.tr q3.W).tr (tx_W.fu (by omega) _)).tr (tx_Q.gu _).W, ?_, Or.inr ⟨rfl, i', by omega, (q6.fu (by omega) _).gu _, fun j hj => ?_⟩⟩
      · rw [pu_up_ne _ _ (by omega)]
        exact (q3.2.2.2 15 (by omega)).trans q515
      · rw [pu_up_row, pu_up_row]
        by_cases d : j = a
        · rw [d, pu_upd_eq, pu_upd_eq]
          exact ⟨S', q4, rfl, rfl, fun z => by omega⟩
        · rw [pu_upd_ne _ _ d, pu_upd_ne _ _ d, q7, uG, pu_upd_ne _ _ (by omega), sG, rG, pu_upd_ne _ _ (by omega), q3.1 142 (by omega) (by omega), u3.1 142 (by omega) (by omega), s3.1 142 (by omega) (by omega), r3.1 142 (by omega) (by omega)]
          exact hI j hj
end
