theorem pu_loop_none {S E : Type} {f : S → Option (S ⊕ E)} {n : Nat} {s : S} (h : f s = none) : am_loop f (n + 1) s = none := by
  unfold am_loop
  rw [h]
  rfl
theorem tx_aS {G1 : Nat → Nat → Int32} {w : Nat} (hw : (w = 23 ∧ G1 216 18 = 143) ∨ (w = 24 ∧ G1 216 18 = 145)) (Fs : Nat) : am_loop tx_aL (Fs + 1) G1 = (m_next0 G1).bind fun p4 => (m_unit p4).bind fun p5 => if p5.1 = true then (am_loop tx_pL am_F p5.2).bind (tx_aK w Fs) else some (false, p5.2) := by
  have e1 : tx_aL G1 = (m_next0 G1).bind fun p4 => (m_product p4).bind fun p5 => if p5.1 = true then (m_lay (nI w) 0 p5.2).bind fun p6 => some (.inl p6) else some (.inr (false, p5.2)) := by
    unfold tx_aL
    rcases hw with ⟨rfl, h⟩ | ⟨rfl, h⟩
    · simp only [h, pu_letE]
      rfl
    · simp only [h, pu_letE]
      rfl
  have hw0 : ¬ w = 0 := by omega
  cases h1 : m_next0 G1 with
  | none =>
    rw [h1] at e1
    exact pu_loop_none e1
  | some p4 =>
    rw [h1, pu_bs, tx_mp] at e1
    rw [pu_bs]
    cases h2 : m_unit p4 with
    | none =>
      rw [h2] at e1
      exact pu_loop_none e1
    | some p5 =>
      rw [h2, pu_bs] at e1
      rw [pu_bs]
      by_cases c : p5.1 = true
      · rw [if_pos c] at e1 ⊢
        cases h3 : am_loop tx_pL am_F p5.2 with
        | none =>
          rw [h3] at e1
          exact pu_loop_none e1
        | some r =>
          rw [h3, pu_bs] at e1
          rw [pu_bs]
          unfold tx_aK
          cases h4 : tx_pE r with
          | none =>
            rw [h4] at e1
            exact pu_loop_none e1
          | some p =>
            rw [h4, pu_bs] at e1
            rw [pu_bs]
            by_cases d : p.1 = true
            · rw [if_pos d] at e1 ⊢
              rw [if_neg hw0]
              cases h5 : m_lay (nI w) 0 p.2 with
              | none =>
                rw [h5] at e1
                exact pu_loop_none e1
              | some p6 =>
                rw [h5] at e1
                exact pu_loop_inl e1
            · rw [if_neg d] at e1 ⊢
              exact pu_loop_inr e1
      · rw [if_neg c, pu_bs, if_neg Bool.false_ne_true] at e1
        rw [if_neg c]
        exact pu_loop_inr e1
section
variable {n : Nat} {b : Nat → Nat} {N i e : Nat} {W : List lw_S} {F G : Nat → Nat → Int32}
/-- and, less -/
theorem tx_stepA {w : Nat} (h : tx_S n b 0 N i (e + (if w = 0 then 0 else 1)) W F G) (hw : w = 0 ∨ w = 23 ∨ w = 24) {c : Nat} (hc : c < 400) (Fs : Nat) (hG : G 216 18 = 143 ∨ G 216 18 = 145) : tx_pL G = some (.inr (.inr G)) ∧
    ((∃ F' G', tx_sL (nI (tx_cw w), nI c, F) = some (.inr (.inl (false, F'))) ∧ tx_aK w (Fs + 1) (.inr G) = some (false, G') ∧ tx_P F G F' G' ∧ tx_Z F' G') ∨
    ∃ w' F' G' D i', (w' = 23 ∨ w' = 24) ∧ i < i' ∧ i' ≤ N ∧ tx_sL (nI (tx_cw w), nI c, F) = some (.inl (nI (tx_cw w'), nI (c + 1), F')) ∧ tx_aK w (Fs + 1) (.inr G) = (am_loop tx_pL am_F G').bind (tx_aK w' Fs) ∧ tx_P F G F' G' ∧ tx_S n b 0 N i' (e + 1) (W ++ D) F' G' ∧ G' 216 24 = G 216 24 ∧
      ∀ st : List Bool, st.length + 3 ≤ 60 → lw_ks D (false :: (if w = 0 then st else false :: st)) = some (false :: false :: st)) := by
  have hj := (tx_joinI h.1).mpr (Or.inl hG)
  have lc : nI c < (400 : Int32) := nI_lt (b := 400) hc (by omega)
  obtain ⟨w', d, hw', hd, hd2, hGd⟩ : ∃ w' d : Nat, (w' = 23 ∨ w' = 24) ∧ (d = 43 ∧ w' = 23 ∨ d = 45 ∧ w' = 24) ∧ 20000 + d = tx_cw w' ∧ G 216 18 = nI (100 + d) := by
    rcases hG with hG | hG
    · exact ⟨23, 43, Or.inl rfl, Or.inl ⟨rfl, rfl⟩, rfl, hG⟩
    · exact ⟨24, 45, Or.inr rfl, Or.inr ⟨rfl, rfl⟩, rfl, hG⟩
  have hs := (h.1.sign (c := d) (by omega) (by omega)).mpr hGd
  have h2 := (xt_signI.mp hs).2
  have hi := h.1.signN (c := 100 + d) (by omega) hGd (by omega)
  have hp : tx_pL G = some (.inr (.inr G)) := by
    unfold tx_pL
    rw [if_neg (show ¬ G 216 18 = 142 by rw [hGd]; exact nI_ne (b := 142) (by omega)), if_neg (show ¬ G 216 18 = 147 by rw [hGd]; exact nI_ne (b := 147) (by omega))]
  refine ⟨hp, ?_⟩
  obtain ⟨F1, G1, D1, r1, r2, r3, r4, r5, r6, r7⟩ := tx_pend h hw
  have hG1 : G1 216 18 = nI (100 + d) := (r3.1.sign (c := d) (by omega) (by omega)).mp (by rw [xt_signI, r6]; exact xt_signI.mp hs)
  obtain ⟨F2, G2, q1, q2, q3, q4, q5, _, _⟩ := r3.adv hi
  obtain ⟨ok, F3, G3, u1, u2, u3, u4⟩ := tx_unit q3
  have ef : (if nI d = (42 : Int32) then true else if nI d = (47 : Int32) then true else false) = false := by
    rcases hd with ⟨rfl, _⟩ | ⟨rfl, _⟩ <;> decide
  have e47 : ¬ nI d = (47 : Int32) := nI_ne (b := 47) (by omega)
  have ek : tx_aK w (Fs + 1) (.inr G) = (m_unit G2).bind fun p5 => if p5.1 = true then (am_loop tx_pL am_F p5.2).bind (tx_aK w' Fs) else some (false, p5.2) := by
    show ((some (true, G)).bind fun p => if p.1 = true then (if w = 0 then some p.2 else m_lay (nI w) 0 p.2).bind fun p6 => am_loop tx_aL (Fs + 1) p6 else some (false, p.2)) = _
    rw [pu_bs, if_pos rfl]
    dsimp only
    rw [r2, pu_bs, tx_aS (w := w') (by
      rcases hd with ⟨rfl, h⟩ | ⟨rfl, h⟩
      · exact Or.inl ⟨h, hG1⟩
      · exact Or.inr ⟨h, hG1⟩), q2, pu_bs]
  have el : tx_sL (nI (tx_cw w), nI c, F) = (xs_readUnit F2).bind fun p16 => if p16.1 = true then some (.inl (nI (tx_cw w'), nI (c + 1), p16.2)) else some (.inr (.inl (false, p16.2))) := by
    unfold tx_sL
    dsimp only
    rw [if_pos lc, if_pos hj]
    simp only [h2, pu_letE, ef]
    rw [if_neg Bool.false_ne_true, r1, pu_bs, q1, pu_bs, if_neg e47]
    simp only [if_neg e47, if_neg Bool.false_ne_true, pu_bs, nI_1]
    rw [show (20000 : Int32) + nI d = nI (20000 + d) from nI_add 20000 d, hd2]
  rw [ek, el, u1, u2, pu_bs, pu_bs]
  rcases u4 with ⟨rfl, uz⟩ | ⟨rfl, s, us, uS, u24⟩
  · left
    exact ⟨F3, G3, rfl, rfl, (r4.tr q4).tr u3, uz⟩
  · right
    refine ⟨w', F3, G3, D1 ++ [s], i + 1 + 1, hw', by omega, uS.lt.1, rfl, rfl, (r4.tr q4).tr u3, ?_, u24.trans (q5.trans r5), fun st hst => ?_⟩
    · rw [← List.append_assoc]
      exact uS
    · rw [lw_ksa, r7 st hst, pu_bs, lw_ks1 (by show st.length + 1 ≤ 60; omega), lq_uk us]
/-- and then none of these -/
theorem tx_stepE {w : Nat} (h : tx_S n b 0 N i (e + (if w = 0 then 0 else 1)) W F G) (hw : w = 0 ∨ w = 23 ∨ w = 24) (c : Nat) (Fs : Nat) (hG : ¬ ((G 216 18 = 143 ∨ G 216 18 = 145) ∨ (G 216 18 = 142 ∨ G 216 18 = 147))) : tx_pL G = some (.inr (.inr G)) ∧ tx_sL (nI (tx_cw w), nI c, F) = some (.inr (.inr (nI (tx_cw w), F))) ∧
    ∃ F' G' D, tx_sK (.inr (nI (tx_cw w), F)) = some (true, F') ∧ tx_aK w (Fs + 1) (.inr G) = some (true, G') ∧ tx_P F G F' G' ∧ tx_S n b 0 N i e (W ++ D) F' G' ∧ G' 216 24 = G 216 24 ∧ ∀ st : List Bool, st.length + 3 ≤ 60 → lw_ks D (false :: (if w = 0 then st else false :: st)) = some (false :: st) := by
  have hj : ¬ xs_isJoin F = true := fun z => hG ((tx_joinI h.1).mp z)
  have hp : tx_pL G = some (.inr (.inr G)) := by
    unfold tx_pL
    rw [if_neg (fun z => hG (Or.inr (Or.inl z))), if_neg (fun z => hG (Or.inr (Or.inr z)))]
  obtain ⟨F1, G1, D1, r1, r2, r3, r4, r5, r6, r7⟩ := tx_pend h hw
  refine ⟨hp, ?_, F1, G1, D1, ?_, ?_, r4, r3, r5, r7⟩
  · unfold tx_sL
    dsimp only
    rw [if_neg hj]
    split <;> rfl
  · show (if nI (tx_cw w) = 0 then some (true, F) else (xl_emit_129 (nI (tx_cw w)) F).bind fun p25 => some (true, p25)) = _
    by_cases c0 : nI (tx_cw w) = 0
    · rw [if_pos c0] at r1 ⊢
      cases r1
      rfl
    · rw [if_neg c0] at r1 ⊢
      cases h1 : xl_emit_129 (nI (tx_cw w)) F with
      | none => rw [h1] at r1; cases r1
      | some z =>
        rw [h1] at r1
        cases r1
        rfl
  · show ((some (true, G)).bind fun p => if p.1 = true then (if w = 0 then some p.2 else m_lay (nI w) 0 p.2).bind fun p6 => am_loop tx_aL (Fs + 1) p6 else some (false, p.2)) = _
    rw [pu_bs, if_pos rfl]
    dsimp only
    rw [r2, pu_bs]
    have hG1 : ∀ d, 40 ≤ d → d ≤ 62 → (G1 216 18 = nI (100 + d) ↔ G 216 18 = nI (100 + d)) := by
      intro d d1 d2
      rw [← r3.1.sign d1 d2, ← h.1.sign d1 d2, xt_signI, xt_signI, r6]
    refine pu_loop_inr ?_
    unfold tx_aL
    rw [if_neg (show ¬ G1 216 18 = 143 from fun z => hG (Or.inl (Or.inl ((hG1 43 (by omega) (by omega)).mp z)))), if_neg (show ¬ G1 216 18 = 145 from fun z => hG (Or.inl (Or.inr ((hG1 45 (by omega) (by omega)).mp z))))]
end
