/-! A SUM: the class's flat loop, the model's loop in a loop -/
def tx_sL : Int32 × Int32 × (Nat → Nat → Int32) → Option ((Int32 × Int32 × (Nat → Nat → Int32)) ⊕ ((Bool × (Nat → Nat → Int32)) ⊕ (Int32 × (Nat → Nat → Int32)))) := fun (s2 : Int32 × Int32 × (Nat → Nat → Int32)) => ((
      if s2.2.1 < 400 then (
        if (xs_isJoin  s2.2.2) = true then (
          am_let (s2.2.2 123 2 : Int32) fun t4 =>
          am_let ((if t4 = 42 then (
              true)
            else (
              if t4 = 47 then (
                true)
              else (
                false))) : Bool) fun t5 =>
          ((if t5 = true then (
              some s2.2.2)
            else (
              if s2.1 = 0 then (
                some s2.2.2)
              else (
                (xl_emit_129 s2.1 s2.2.2).bind fun p6 =>
                some p6))) : Option ((Nat → Nat → Int32))).bind fun t7 =>
          (xt_advance  t7).bind fun p8 =>
          if t4 = 47 then (
            (xs_takeNumber 1 9999 p8).bind fun p9 =>
            if p9.1 = true then (
              ((if t4 = 47 then (
                  (xl_emit_129 (p9.2 128 7) p9.2).bind fun p10 =>
                  some p10)
                else (
                  some p9.2)) : Option ((Nat → Nat → Int32))).bind fun t11 =>
              ((if t5 = true then (
                  (xl_emit_129 (20000 + t4) t11).bind fun p12 =>
                  some (s2.1, p12))
                else (
                  am_let ((20000 + t4) : Int32) fun t13 =>
                  some (t13, t11))) : Option (Int32 × (Nat → Nat → Int32))).bind fun t14 =>
              am_let (s2.2.1 + 1 : Int32) fun t15 =>
              some (.inl (t14.1, t15, t14.2)))
            else (
              some (.inr (.inl (false, p9.2)))))
          else (
            (xs_readUnit  p8).bind fun p16 =>
            if p16.1 = true then (
              ((if t4 = 47 then (
                  (xl_emit_129 (p16.2 128 7) p16.2).bind fun p17 =>
                  some p17)
                else (
                  some p16.2)) : Option ((Nat → Nat → Int32))).bind fun t18 =>
              ((if t5 = true then (
                  (xl_emit_129 (20000 + t4) t18).bind fun p19 =>
                  some (s2.1, p19))
                else (
                  am_let ((20000 + t4) : Int32) fun t20 =>
                  some (t20, t18))) : Option (Int32 × (Nat → Nat → Int32))).bind fun t21 =>
              am_let (s2.2.1 + 1 : Int32) fun t22 =>
              some (.inl (t21.1, t22, t21.2)))
            else (
              some (.inr (.inl (false, p16.2))))))
        else (
          some (.inr (.inr (s2.1, s2.2.2)))))
      else (
        some (.inr (.inr (s2.1, s2.2.2))))) : Option ((Int32 × Int32 × (Nat → Nat → Int32)) ⊕ ((Bool × (Nat → Nat → Int32)) ⊕ (Int32 × (Nat → Nat → Int32)))))
def tx_sK (e : (Bool × (Nat → Nat → Int32)) ⊕ (Int32 × (Nat → Nat → Int32))) : Option (Bool × (Nat → Nat → Int32)) := e.elim (fun v => some v) fun e24 => if e24.1 = 0 then some (true, e24.2) else (xl_emit_129 e24.1 e24.2).bind fun p25 => some (true, p25)
def tx_pL : (Nat → Nat → Int32) → Option ((Nat → Nat → Int32) ⊕ ((Bool × (Nat → Nat → Int32)) ⊕ (Nat → Nat → Int32))) := fun (s2 : (Nat → Nat → Int32)) => ((
      if s2 216 18 = 142 then (
        am_let ((if s2 216 18 = 147 then (
            true)
          else (
            false)) : Bool) fun t3 =>
        (m_next0  s2).bind fun p4 =>
        if t3 = true then (
          am_let (p4 216 20 : Int32) fun t5 =>
          if p4 216 18 = 2 then (
            if t5 = 0 then (
              am_let (m_bad 2 p4) fun p6 =>
              some (.inr (.inl (p6.1, p6.2))))
            else (
              (m_next0  p4).bind fun p7 =>
              (m_lay 26 t5 p7).bind fun p8 =>
              some (.inl p8)))
          else (
            am_let (m_bad 1 p4) fun p9 =>
            some (.inr (.inl (p9.1, p9.2)))))
        else (
          (m_unit  p4).bind fun p10 =>
          if p10.1 = true then (
            (m_lay 25 0 p10.2).bind fun p11 =>
            some (.inl p11))
          else (
            some (.inr (.inl (false, p10.2))))))
      else (
        if s2 216 18 = 147 then (
          am_let ((if s2 216 18 = 147 then (
              true)
            else (
              false)) : Bool) fun t12 =>
          (m_next0  s2).bind fun p13 =>
          if t12 = true then (
            am_let (p13 216 20 : Int32) fun t14 =>
            if p13 216 18 = 2 then (
              if t14 = 0 then (
                am_let (m_bad 2 p13) fun p15 =>
                some (.inr (.inl (p15.1, p15.2))))
              else (
                (m_next0  p13).bind fun p16 =>
                (m_lay 26 t14 p16).bind fun p17 =>
                some (.inl p17)))
            else (
              am_let (m_bad 1 p13) fun p18 =>
              some (.inr (.inl (p18.1, p18.2)))))
          else (
            (m_unit  p13).bind fun p19 =>
            if p19.1 = true then (
              (m_lay 25 0 p19.2).bind fun p20 =>
              some (.inl p20))
            else (
              some (.inr (.inl (false, p19.2))))))
        else (
          some (.inr (.inr s2))))) : Option (((Nat → Nat → Int32)) ⊕ ((Bool × (Nat → Nat → Int32)) ⊕ ((Nat → Nat → Int32)))))
def tx_aL : (Nat → Nat → Int32) → Option ((Nat → Nat → Int32) ⊕ (Bool × (Nat → Nat → Int32))) := fun (s2 : (Nat → Nat → Int32)) => ((
      if s2 216 18 = 143 then (
        am_let ((if s2 216 18 = 143 then (
            23)
          else (
            24)) : Int32) fun t3 =>
        (m_next0  s2).bind fun p4 =>
        (m_product  p4).bind fun p5 =>
        if p5.1 = true then (
          (m_lay t3 0 p5.2).bind fun p6 =>
          some (.inl p6))
        else (
          some (.inr (false, p5.2))))
      else (
        if s2 216 18 = 145 then (
          am_let ((if s2 216 18 = 143 then (
              23)
            else (
              24)) : Int32) fun t7 =>
          (m_next0  s2).bind fun p8 =>
          (m_product  p8).bind fun p9 =>
          if p9.1 = true then (
            (m_lay t7 0 p9.2).bind fun p10 =>
            some (.inl p10))
          else (
            some (.inr (false, p9.2))))
        else (
          some (.inr (true, s2))))) : Option (((Nat → Nat → Int32)) ⊕ (Bool × (Nat → Nat → Int32))))
def tx_pE (e : (Bool × (Nat → Nat → Int32)) ⊕ (Nat → Nat → Int32)) : Option (Bool × (Nat → Nat → Int32)) := e.elim (fun v => some v) fun e22 => some (true, e22)
def tx_aK (w Fs : Nat) (e : (Bool × (Nat → Nat → Int32)) ⊕ (Nat → Nat → Int32)) : Option (Bool × (Nat → Nat → Int32)) := (tx_pE e).bind fun p => if p.1 = true then (if w = 0 then some p.2 else m_lay (nI w) 0 p.2).bind fun p6 => am_loop tx_aL Fs p6 else some (false, p.2)
theorem tx_rs (F : (Nat → Nat → Int32)) : xs_readSum F = (xs_readUnit F).bind fun p1 => if p1.1 = true then (am_loop tx_sL am_F (0, 0, p1.2)).bind tx_sK else some (false, p1.2) := rfl
theorem tx_mp (G : (Nat → Nat → Int32)) : m_product G = (m_unit G).bind fun p1 => if p1.1 = true then (am_loop tx_pL am_F p1.2).bind tx_pE else some (false, p1.2) := rfl
theorem tx_ms0 (G : (Nat → Nat → Int32)) : m_sumUp G = (m_product G).bind fun p1 => if p1.1 = true then am_loop tx_aL am_F p1.2 else some (false, p1.2) := rfl
theorem tx_ms (G : (Nat → Nat → Int32)) : m_sumUp G = (m_unit G).bind fun p1 => if p1.1 = true then (am_loop tx_pL am_F p1.2).bind (tx_aK 0 am_F) else some (false, p1.2) := by
  rw [tx_ms0, tx_mp]
  cases m_unit G with
  | none => rfl
  | some p1 =>
    rw [pu_bs, pu_bs]
    by_cases c : p1.1 = true
    · rw [if_pos c, if_pos c]
      cases am_loop tx_pL am_F p1.2 with
      | none => rfl
      | some r => rfl
    · rw [if_neg c, if_neg c, pu_bs, if_neg Bool.false_ne_true]
theorem lw_ksa : ∀ (P Q : List lw_S) (st : List Bool), lw_ks (P ++ Q) st = (lw_ks P st).bind (lw_ks Q) := by
  intro P
  induction P with
  | nil => intro Q st; rfl
  | cons s P ih =>
    intro Q st
    show (if st.length ≤ 60 then (lw_k s st).bind (lw_ks (P ++ Q)) else none) = (if st.length ≤ 60 then (lw_k s st).bind (lw_ks P) else none).bind (lw_ks Q)
    by_cases c : st.length ≤ 60
    · rw [if_pos c, if_pos c]
      cases lw_k s st with
      | none => rfl
      | some t => exact ih Q t
    · rw [if_neg c, if_neg c]
      rfl
theorem lw_ks1 {s : lw_S} {st : List Bool} (h : st.length ≤ 60) : lw_ks [s] st = lw_k s st := by
  show (if st.length ≤ 60 then (lw_k s st).bind (lw_ks []) else none) = _
  rw [if_pos h]
  cases lw_k s st <;> rfl
def tx_cw (w : Nat) : Nat := if w = 0 then 0 else if w = 23 then 20043 else 20045
section
variable {n : Nat} {b : Nat → Nat} {N i e : Nat} {W : List lw_S} {F G : (Nat → Nat → Int32)}
theorem tx_joinI (h : tx_C n b 0 N i F G) : xs_isJoin F = true ↔ (G 216 18 = 143 ∨ G 216 18 = 145) ∨ (G 216 18 = 142 ∨ G 216 18 = 147) := by
  have s1 := h.sign (c := 43) (by omega) (by omega)
  have s2 := h.sign (c := 45) (by omega) (by omega)
  have s3 := h.sign (c := 42) (by omega) (by omega)
  have s4 := h.sign (c := 47) (by omega) (by omega)
  unfold xs_isJoin
  by_cases c1 : xt_isSign 43 F = true
  · rw [if_pos c1]; exact ⟨fun _ => Or.inl (Or.inl (s1.mp c1)), fun _ => rfl⟩
  · rw [if_neg c1]
    by_cases c2 : xt_isSign 45 F = true
    · rw [if_pos c2]; exact ⟨fun _ => Or.inl (Or.inr (s2.mp c2)), fun _ => rfl⟩
    · rw [if_neg c2]
      by_cases c3 : xt_isSign 42 F = true
      · rw [if_pos c3]; exact ⟨fun _ => Or.inr (Or.inl (s3.mp c3)), fun _ => rfl⟩
      · rw [if_neg c3]
        by_cases c4 : xt_isSign 47 F = true
        · rw [if_pos c4]; exact ⟨fun _ => Or.inr (Or.inr (s4.mp c4)), fun _ => rfl⟩
        · rw [if_neg c4]
          refine ⟨(fun z => by cases z), fun z => ?_⟩
          rcases z with (z | z) | (z | z)
          · exact absurd (s1.mpr z) c1
          · exact absurd (s2.mpr z) c2
          · exact absurd (s3.mpr z) c3
          · exact absurd (s4.mpr z) c4
theorem tx_pend {w : Nat} (h : tx_S n b 0 N i (e + (if w = 0 then 0 else 1)) W F G) (hw : w = 0 ∨ w = 23 ∨ w = 24) : ∃ F1 G1 D, (if nI (tx_cw w) = 0 then some F else (xl_emit_129 (nI (tx_cw w)) F).bind fun p6 => some p6) = some F1 ∧ (if w = 0 then some G else m_lay (nI w) 0 G) = some G1 ∧ tx_S n b 0 N i e (W ++ D) F1 G1 ∧ tx_P F G F1 G1 ∧ G1 216 24 = G 216 24 ∧ F1 123 = F 123 ∧ ∀ st : List Bool, st.length + 3 ≤ 60 → lw_ks D (false :: (if w = 0 then st else false :: st)) = some (false :: st) := by
  by_cases c : w = 0
  · rw [if_pos c] at h
    rw [c]
    exact ⟨F, G, [], rfl, rfl, by rw [List.append_nil]; exact h, tx_P.rf, rfl, rfl, fun st _ => rfl⟩
  · rw [if_neg c] at h
    have hx : lw_e (w, 0) = [tx_cw w] := by
      rcases hw with rfl | rfl | rfl
      · exact absurd rfl c
      · rfl
      · rfl
    have hk : ∀ st, lw_k (w, 0) (false :: false :: st) = some (false :: st) := by
      rcases hw with rfl | rfl | rfl
      · exact absurd rfl c
      · intro st; rfl
      · intro st; rfl
    have h0 : ¬ nI (tx_cw w) = 0 := by
      rcases hw with rfl | rfl | rfl
      · exact absurd rfl c
      · decide
      · decide
    obtain ⟨F1, G1, r1, r2, r3, r4, r5, r6, r7⟩ := tx_emit h hx 0 (fun z => by dsimp only at z; omega)
    refine ⟨F1, G1, [(w, 0)], ?_, ?_, r3, r4, r5, r7, fun st hst => ?_⟩
    · rw [if_neg h0, r1, pu_bs]
    · rw [if_neg c]; exact r2
    · rw [if_neg c, lw_ks1 (by show (st.length + 1) + 1 ≤ 60; omega), hk]
theorem tx_by {v : Nat} (h : tx_S n b 0 N i (e + 2) W F G) : ∃ F3 F4 G4, xl_emit_129 (nI v) F = some F3 ∧ xl_emit_129 20047 F3 = some F4 ∧ m_lay 26 (nI v) G = some G4 ∧ tx_S n b 0 N i e (W ++ [(26, v)]) F4 G4 ∧ tx_P F G F4 G4 ∧ G4 216 24 = G 216 24 := by
  obtain ⟨l1, l2⟩ := h.lt
  obtain ⟨h1, ⟨e1, e2, e3, e4⟩, h3⟩ := h
  have hl := lw_len W
  have lt1 : nI (lw_es W).length < nI 400 := nI_lt (by omega) (by omega)
  have c1 : am_in (nI (lw_es W).length) 400 = true := pu_in (by omega) (by omega)
  have lt2 : nI ((lw_es W).length + 1) < nI 400 := nI_lt (by omega) (by omega)
  have c12 : am_in (nI ((lw_es W).length + 1)) 400 = true := pu_in (by omega) (by omega)
  have m1 : (2 : Int32) * nI W.length = nI (2 * W.length) := by rw [show (2 : Int32) = nI 2 from rfl, pk_mul]
  have c2 : am_in (nI (2 * W.length)) 820 = true := pu_in (by omega) (by omega)
  have c3 : am_in (nI (2 * W.length + 1)) 820 = true := pu_in (by omega) (by omega)
  have hx : lw_es (W ++ [(26, v)]) = lw_es W ++ [v, 20047] := by rw [lw_esa, lw_es1]; rfl
  refine ⟨am_up (am_up F 130 (lw_es W).length (nI v)) 129 1 (nI ((lw_es W).length + 1)), am_up (am_up (am_up (am_up F 130 (lw_es W).length (nI v)) 129 1 (nI ((lw_es W).length + 1))) 130 ((lw_es W).length + 1) 20047) 129 1 (nI ((lw_es W).length + 1 + 1)), am_up (am_up (am_up G 222 (2 * W.length) 26) 222 (2 * W.length + 1) (nI v)) 216 14 (nI (W.length + 1)), ?_, ?_, ?_, ⟨(h1.fx ?_).gx ?_, ⟨?_, ?_, ?_, ?_⟩, ?_, h3.2.to (by rw [pu_up_ne _ _ (by omega), pu_up_ne _ _ (by omega), pu_up_ne _ _ (by omega), pu_up_ne _ _ (by omega)])⟩, ⟨?_, ⟨?_, ?_, ?_⟩, ?_, ?_, fun _ => ⟨(lw_es W).length + 1 + 1, by omega, ?_⟩⟩, ?_⟩
  · unfold xl_emit_129
    rw [e1]
    simp only [lt1, c1, if_true, pu_letE, nI_clamp (show (lw_es W).length < 2 ^ 31 by omega), pu_up_ne _ _ (show (129 : Nat) ≠ 130 by omega), e1, nI_1]
  · unfold xl_emit_129
    simp only [pu_up_row, pu_upd_eq, lt2, c12, if_true, pu_letE, nI_clamp (show (lw_es W).length + 1 < 2 ^ 31 by omega), pu_up_ne _ _ (show (129 : Nat) ≠ 130 by omega), nI_1]
  · unfold m_lay
    simp only [e3, m1, c2, if_true, pu_letE, nI_clamp (show 2 * W.length < 2 ^ 31 by omega), pu_up_ne _ _ (show (216 : Nat) ≠ 222 by omega), nI_1, c3, nI_clamp (show 2 * W.length + 1 < 2 ^ 31 by omega)]
  · intro a a1 a2
    rw [pu_up_ne _ _ (by omega), pu_up_ne _ _ (by omega), pu_up_ne _ _ (by omega), pu_up_ne _ _ (by omega)]
  · exact ((tx_gm.row (by omega) _).tr (tx_gm.row (by omega) _)).tr (tx_gm.up (by omega) _)
  · rw [pu_up_row, pu_upd_eq, hx, List.length_append]
    rfl
  · intro t y hy
    rw [hx] at hy
    rw [pu_up_ne _ _ (by omega), pu_up_row, pu_up_ne _ _ (by omega), pu_up_row]
    by_cases ct : t < (lw_es W).length
    · rw [List.getElem?_append_left ct] at hy
      rw [pu_upd_ne _ _ (by omega), pu_upd_ne _ _ (by omega)]
      exact e2 t y hy
    · rw [List.getElem?_append_right (by omega)] at hy
      by_cases c0 : t - (lw_es W).length = 0
      · rw [c0] at hy
        have hy : some v = some y := hy
        cases hy
        rw [show t = (lw_es W).length by omega, pu_upd_ne _ _ (by omega), pu_upd_eq]
      · by_cases c01 : t - (lw_es W).length = 1
        · rw [c01] at hy
          have hy : some 20047 = some y := hy
          cases hy
          rw [show t = (lw_es W).length + 1 by omega, pu_upd_eq]
          rfl
        · obtain ⟨z, hz⟩ : ∃ z, t - (lw_es W).length = z + 2 := ⟨t - (lw_es W).length - 2, by omega⟩
          rw [hz] at hy
          cases hy
  · rw [pu_up_row, pu_upd_eq, List.length_append]
    rfl
  · intro t y hy
    rw [pu_up_ne _ _ (by omega), pu_up_row, pu_up_row]
    by_cases ct : t < W.length
    · rw [List.getElem?_append_left ct] at hy
      rw [pu_upd_ne _ _ (by omega), pu_upd_ne _ _ (by omega), pu_upd_ne _ _ (by omega), pu_upd_ne _ _ (by omega)]
      exact e4 t y hy
    · rw [List.getElem?_append_right (by omega)] at hy
      by_cases c0 : t - W.length = 0
      · rw [c0] at hy
        have hy : some (26, v) = some y := hy
        cases hy
        rw [show t = W.length by omega, pu_upd_ne _ _ (by omega), pu_upd_eq, pu_upd_eq]
        exact ⟨rfl, fun _ => rfl⟩
      · obtain ⟨z, hz⟩ : ∃ z, t - W.length = z + 1 := ⟨t - W.length - 1, by omega⟩
        rw [hz] at hy
        cases hy
  · rw [hx, List.length_append]
    show _ + 2 + e ≤ i
    omega
  · intro a a1 a2 a3 a4
    rw [pu_up_ne _ _ a3, pu_up_ne _ _ a4, pu_up_ne _ _ a3, pu_up_ne _ _ a4]
  · rw [pu_up_ne _ _ (by omega), pu_up_ne _ _ (by omega), pu_up_ne _ _ (by omega), pu_up_ne _ _ (by omega)]
  · rw [pu_up_ne _ _ (by omega), pu_up_ne _ _ (by omega), pu_up_ne _ _ (by omega), pu_up_ne _ _ (by omega)]
  · rw [pu_up_row, pu_upd_ne _ _ (by omega), pu_up_ne _ _ (by omega), pu_up_row, pu_upd_ne _ _ (by omega), pu_up_ne _ _ (by omega)]
  · intro a a1 a2 a3
    rw [pu_up_ne _ _ a1, pu_up_ne _ _ a2, pu_up_ne _ _ a2]
  · intro j hj
    rw [pu_up_row, pu_upd_ne _ _ (by omega), pu_up_ne _ _ (by omega), pu_up_ne _ _ (by omega)]
  · rw [pu_up_row, pu_upd_eq]
  · rw [pu_up_row, pu_upd_ne _ _ (by omega), pu_up_ne _ _ (by omega), pu_up_ne _ _ (by omega)]
/-- times, by -/
theorem tx_stepM (h : tx_S n b 0 N i e W F G) {c : Nat} (hc : c < 400) (w : Int32) (hG : G 216 18 = 142 ∨ G 216 18 = 147) :
    (∃ F' G', tx_sL (w, nI c, F) = some (.inr (.inl (false, F'))) ∧ tx_pL G = some (.inr (.inl (false, G'))) ∧ tx_P F G F' G' ∧ tx_Z F' G') ∨
    ∃ F' G' D i', i < i' ∧ i' ≤ N ∧ tx_sL (w, nI c, F) = some (.inl (w, nI (c + 1), F')) ∧ tx_pL G = some (.inl G') ∧ tx_P F G F' G' ∧ tx_S n b 0 N i' e (W ++ D) F' G' ∧ G' 216 24 = G 216 24 ∧ ∀ base : List Bool, base.length + 2 ≤ 60 → lw_ks D (false :: base) = some (false :: base) := by
  have hj := (tx_joinI h.1).mpr (Or.inr hG)
  have lc : nI c < (400 : Int32) := nI_lt (b := 400) hc (by omega)
  rcases hG with hG | hG
  · have hs := ((h.1.sign (c := 42) (by omega) (by omega)).mpr hG)
    have h2 := (xt_signI.mp hs).2
    have hi := h.1.signN (c := 142) (by omega) hG (by omega)
    obtain ⟨F1, G1, r1, r2, r3, r4, r5, _, _⟩ := h.adv hi
    obtain ⟨ok, F2, G2, u1, u2, u3, u4⟩ := tx_unit r3
    rcases u4 with ⟨rfl, uz⟩ | ⟨rfl, s, us, uS, u24⟩
    · left
      refine ⟨F2, G2, ?_, ?_, r4.tr u3, uz⟩
      · unfold tx_sL
        dsimp only
        rw [if_pos lc, if_pos hj]
        simp only [h2, pu_letE]
        rw [if_pos (show (if nI 42 = (42 : Int32) then true else if nI 42 = (47 : Int32) then true else false) = true from rfl), pu_bs, r1, pu_bs, if_neg (show ¬ nI 42 = (47 : Int32) by decide), u1, pu_bs, if_neg Bool.false_ne_true]
      · unfold tx_pL
        rw [if_pos hG]
        simp only [hG, pu_letE]
        rw [r2, pu_bs, if_neg (show ¬ (if (142 : Int32) = 147 then true else false) = true by decide), u2, pu_bs, if_neg Bool.false_ne_true]
    · right
      obtain ⟨F3, G3, q1, q2, q3, q4, q5, _⟩ := tx_emit (s := (25, 0)) (x := 20042) uS rfl 0 (fun z => by dsimp only at z; omega)
      refine ⟨F3, G3, [s] ++ [(25, 0)], i + 1 + 1, by omega, uS.lt.1, ?_, ?_, (r4.tr u3).tr q4, ?_, q5.trans (u24.trans r5), fun base hb => ?_⟩
      · unfold tx_sL
        dsimp only
        rw [if_pos lc, if_pos hj]
        simp only [h2, pu_letE]
        rw [if_pos (show (if nI 42 = (42 : Int32) then true else if nI 42 = (47 : Int32) then true else false) = true from rfl), pu_bs, r1, pu_bs, if_neg (show ¬ nI 42 = (47 : Int32) by decide), u1, pu_bs, if_pos rfl, if_neg (show ¬ nI 42 = (47 : Int32) by decide), pu_bs, if_pos (show (if nI 42 = (42 : Int32) then true else if nI 42 = (47 : Int32) then true else false) = true from rfl),
          show (20000 : Int32) + nI 42 = nI 20042 from rfl, q1, pu_bs, pu_bs, nI_1]
      · unfold tx_pL
        rw [if_pos hG]
        simp only [hG, pu_letE]
        rw [r2, pu_bs, if_neg (show ¬ (if (142 : Int32) = 147 then true else false) = true by decide), u2, pu_bs, if_pos rfl, show (25 : Int32) = nI (25, 0).1 from rfl, q2, pu_bs]
      · rw [← List.append_assoc]
        exact q3
      · rw [lw_ksa, lw_ks1 (by show base.length + 1 ≤ 60; omega), lq_uk us, pu_bs, lw_ks1 (by show (base.length + 1) + 1 ≤ 60; omega)]
        rfl
  · have hs := ((h.1.sign (c := 47) (by omega) (by omega)).mpr hG)
    have h2 := (xt_signI.mp hs).2
    have hi := h.1.signN (c := 147) (by omega) hG (by omega)
    obtain ⟨F1, G1, r1, r2, r3, r4, r5, _, _⟩ := h.adv hi
    have e1 : tx_sL (w, nI c, F) = (xs_takeNumber 1 9999 F1).bind fun p9 => if p9.1 = true then (xl_emit_129 (p9.2 128 7) p9.2).bind fun p10 => (xl_emit_129 20047 p10).bind fun p12 => some (.inl (w, nI (c + 1), p12)) else some (.inr (.inl (false, p9.2))) := by
      unfold tx_sL
      dsimp only
      rw [if_pos lc, if_pos hj]
      simp only [h2, pu_letE]
      rw [if_pos (show (if nI 47 = (42 : Int32) then true else if nI 47 = (47 : Int32) then true else false) = true from rfl), pu_bs, r1, pu_bs, if_pos (show nI 47 = (47 : Int32) from rfl), nI_1]
      cases xs_takeNumber 1 9999 F1 with
      | none => rfl
      | some p9 =>
        rw [pu_bs, pu_bs]
        by_cases cp : p9.1 = true
        · rw [if_pos cp, if_pos cp, if_pos (show nI 47 = (47 : Int32) from rfl)]
          cases xl_emit_129 (p9.2 128 7) p9.2 with
          | none => rfl
          | some p10 =>
            rw [pu_bs, pu_bs, pu_bs, if_pos (show (if nI 47 = (42 : Int32) then true else if nI 47 = (47 : Int32) then true else false) = true from rfl), show (20000 : Int32) + nI 47 = 20047 from rfl]
            cases xl_emit_129 20047 p10 with
            | none => rfl
            | some p12 => rfl
        · rw [if_neg cp, if_neg cp]
    have e2 : tx_pL G = if G1 216 18 = 2 then (if G1 216 20 = 0 then some (.inr (.inl ((m_bad 2 G1).1, (m_bad 2 G1).2))) else (m_next0 G1).bind fun p7 => (m_lay 26 (G1 216 20) p7).bind fun p8 => some (.inl p8)) else some (.inr (.inl ((m_bad 1 G1).1, (m_bad 1 G1).2))) := by
      unfold tx_pL
      rw [if_neg (show ¬ G 216 18 = 142 by rw [hG]; decide), if_pos hG]
      simp only [hG, pu_letE]
      rw [r2, pu_bs, if_pos (show (if True then true else false) = true from rfl)]
    rw [e1, e2]
    by_cases cn : F1 123 1 = 2
    · obtain ⟨hi1, v, v1, v2, v3⟩ := r3.1.numV cn
      have cm := r3.1.num.mp cn
      rw [if_pos cm, v3]
      by_cases c0 : v = 0
      · left
        obtain ⟨F', G', b1, b2, b3, b4⟩ := r3.bad 2
        have et : xs_takeNumber 1 9999 F1 = some (false, F') := by
          unfold xs_takeNumber
          rw [if_pos cn, v2, if_pos (show nI v < (1 : Int32) by rw [c0]; decide), b1]
          rfl
        rw [et, pu_bs, if_neg Bool.false_ne_true, if_pos (show nI v = 0 by rw [c0]; rfl), b2]
        exact ⟨F', G', rfl, rfl, r4.tr b3, b4⟩
      · right
        have r3' : tx_S n b 0 N (i + 1) (e + 1) W (am_up F1 128 7 (nI v)) G1 := by
          obtain ⟨x1, ⟨y1, y2, y3, y4⟩, x3⟩ := r3
          exact ⟨x1.fx (fun a a1 a2 => pu_up_ne _ _ (by omega)), ⟨by rw [pu_up_ne _ _ (by omega)]; exact y1, by rw [pu_up_ne _ _ (by omega)]; exact y2, y3, y4⟩, x3.1, by unfold tx_ok; rw [pu_up_row, pu_upd_ne _ _ (by omega), pu_upd_ne _ _ (by omega)]; exact x3.2⟩
        obtain ⟨F2, G2, q1, q2, q3, q4, q5, q6, q7⟩ := r3'.adv hi1
        have et : xs_takeNumber 1 9999 F1 = some (true, F2) := by
          unfold xs_takeNumber
          rw [if_pos cn, v2, if_neg (show ¬ nI v < (1 : Int32) from nI_nlt (b := 1) (by omega) (by omega)), if_neg (show ¬ (9999 : Int32) < nI v from nI_nlt (a := 9999) (by omega) (by omega)), pu_letE, q1]
          rfl
        have e7 : F2 128 7 = nI v := by rw [q6 128 (by omega), pu_up_row, pu_upd_eq]
        rw [et, pu_bs, if_pos rfl]
        dsimp only
        rw [e7, if_neg (show ¬ nI v = 0 from nI_ne (b := 0) c0), q2, pu_bs]
        obtain ⟨F3, F4, G4, t1, t2, t3, t4, t5, t6⟩ : ∃ F3 F4 G4, xl_emit_129 (nI v) F2 = some F3 ∧ xl_emit_129 20047 F3 = some F4 ∧ m_lay 26 (nI v) G2 = some G4 ∧ tx_S n b 0 N (i + 1 + 1) e (W ++ [(26, v)]) F4 G4 ∧ tx_P F2 G2 F4 G4 ∧ G4 216 24 = G2 216 24 := tx_by q3
        rw [t1, pu_bs, t2, pu_bs, t3, pu_bs]
        refine ⟨F4, G4, [(26, v)], i + 1 + 1, by omega, q3.lt.1, rfl, rfl, ?_, t4, t6.trans (q5.trans r5), fun base hb => ?_⟩
        · refine (r4.tr ?_).tr (q4.tr t5)
          exact ⟨fun a a1 a2 a3 a4 => pu_up_ne _ _ a2, ⟨by rw [pu_up_row, pu_upd_ne _ _ (by omega)], by rw [pu_up_row, pu_upd_ne _ _ (by omega)], by rw [pu_up_ne _ _ (by omega)]⟩, fun _ _ _ _ => rfl, fun _ _ => rfl, fun z => by rw [pu_up_ne _ _ (by omega)]; exact z⟩
        · rw [lw_ks1 (by show base.length + 1 ≤ 60; omega)]
          show (if 1 ≤ v ∧ v ≤ 9999 then some (false :: base) else none) = _
          rw [if_pos ⟨by omega, v1⟩]
    · left
      have cm : ¬ G1 216 18 = 2 := fun z => cn (r3.1.num.mpr z)
      obtain ⟨F', G', b1, b2, b3, b4⟩ := r3.bad 1
      have et : xs_takeNumber 1 9999 F1 = some (false, F') := by
        unfold xs_takeNumber
        rw [if_neg cn, b1]
        rfl
      rw [et, pu_bs, if_neg Bool.false_ne_true, if_neg cm, b2]
      exact ⟨F', G', rfl, rfl, r4.tr b3, b4⟩
end
