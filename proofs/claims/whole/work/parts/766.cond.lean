/-! CONDITIONS -/
def tx_cL (RC : (Nat → Nat → Int32) → Option (Bool × (Nat → Nat → Int32))) : Bool × Int32 × (Nat → Nat → Int32) → Option ((Bool × Int32 × (Nat → Nat → Int32)) ⊕ ((Bool × (Nat → Nat → Int32)) ⊕ (Bool × (Nat → Nat → Int32)))) := fun (s2 : Bool × Int32 × (Nat → Nat → Int32)) => ((
      if s2.2.1 < 400 then (
        if (xt_isWord 4 s2.2.2) = true then (
          am_let ((xt_isWord 5 s2.2.2) : Bool) fun t5 =>
          ((if t5 = true then (
              some s2.2.2)
            else (
              if s2.1 = true then (
                (xl_emit_129 20124 s2.2.2).bind fun p6 =>
                some p6)
              else (
                some s2.2.2))) : Option ((Nat → Nat → Int32))).bind fun t7 =>
          am_let ((if s2.1 = true then (
              true)
            else (
              if t5 = true then (
                false)
              else (
                true))) : Bool) fun t8 =>
          (xt_advance  t7).bind fun p9 =>
          (RC p9).bind fun p10 =>
          if p10.1 = true then (
            ((if t5 = true then (
                (xl_emit_129 20038 p10.2).bind fun p11 =>
                some p11)
              else (
                some p10.2)) : Option ((Nat → Nat → Int32))).bind fun t12 =>
            am_let (s2.2.1 + 1 : Int32) fun t13 =>
            some (.inl (t8, t13, t12)))
          else (
            some (.inr (.inl (false, p10.2)))))
        else (
          if (xt_isWord 5 s2.2.2) = true then (
            am_let ((xt_isWord 5 s2.2.2) : Bool) fun t16 =>
            ((if t16 = true then (
                some s2.2.2)
              else (
                if s2.1 = true then (
                  (xl_emit_129 20124 s2.2.2).bind fun p17 =>
                  some p17)
                else (
                  some s2.2.2))) : Option ((Nat → Nat → Int32))).bind fun t18 =>
            am_let ((if s2.1 = true then (
                true)
              else (
                if t16 = true then (
                  false)
                else (
                  true))) : Bool) fun t19 =>
            (xt_advance  t18).bind fun p20 =>
            (RC p20).bind fun p21 =>
            if p21.1 = true then (
              ((if t16 = true then (
                  (xl_emit_129 20038 p21.2).bind fun p22 =>
                  some p22)
                else (
                  some p21.2)) : Option ((Nat → Nat → Int32))).bind fun t23 =>
              am_let (s2.2.1 + 1 : Int32) fun t24 =>
              some (.inl (t19, t24, t23)))
            else (
              some (.inr (.inl (false, p21.2)))))
          else (
            some (.inr (.inr (s2.1, s2.2.2))))))
      else (
        some (.inr (.inr (s2.1, s2.2.2))))) : Option ((Bool × Int32 × (Nat → Nat → Int32)) ⊕ ((Bool × (Nat → Nat → Int32)) ⊕ (Bool × (Nat → Nat → Int32)))))
def tx_cK (e : (Bool × (Nat → Nat → Int32)) ⊕ (Bool × (Nat → Nat → Int32))) : Option (Bool × (Nat → Nat → Int32)) := e.elim (fun v => some v) fun e26 => if e26.1 = true then (xl_emit_129 20124 e26.2).bind fun p27 => some (true, p27) else some (true, e26.2)
def tx_eL (RM : (Nat → Nat → Int32) → Option (Bool × (Nat → Nat → Int32))) : (Nat → Nat → Int32) → Option ((Nat → Nat → Int32) ⊕ (Bool × (Nat → Nat → Int32))) := fun (s2 : (Nat → Nat → Int32)) => ((
      if s2 216 18 = 5 then (
        (m_next0  s2).bind fun p3 =>
        (RM  p3).bind fun p4 =>
        if p4.1 = true then (
          (m_lay 31 0 p4.2).bind fun p5 =>
          some (.inl p5))
        else (
          some (.inr (false, p4.2))))
      else (
        some (.inr (true, s2)))) : Option (((Nat → Nat → Int32)) ⊕ (Bool × (Nat → Nat → Int32))))
def tx_nL (RE : (Nat → Nat → Int32) → Option (Bool × (Nat → Nat → Int32))) : (Nat → Nat → Int32) → Option ((Nat → Nat → Int32) ⊕ (Bool × (Nat → Nat → Int32))) := fun (s2 : (Nat → Nat → Int32)) => ((
      if s2 216 18 = 4 then (
        (m_next0  s2).bind fun p3 =>
        (RE  p3).bind fun p4 =>
        if p4.1 = true then (
          (m_lay 32 0 p4.2).bind fun p5 =>
          some (.inl p5))
        else (
          some (.inr (false, p4.2))))
      else (
        some (.inr (true, s2)))) : Option (((Nat → Nat → Int32)) ⊕ (Bool × (Nat → Nat → Int32))))
def tx_eR (RM : (Nat → Nat → Int32) → Option (Bool × (Nat → Nat → Int32))) (G : (Nat → Nat → Int32)) : Option (Bool × (Nat → Nat → Int32)) := (RM G).bind fun p1 => if p1.1 = true then am_loop (tx_eL RM) am_F p1.2 else some (false, p1.2)
def tx_nK (RM : (Nat → Nat → Int32) → Option (Bool × (Nat → Nat → Int32))) (pend : Bool) (Fs : Nat) (p : Bool × (Nat → Nat → Int32)) : Option (Bool × (Nat → Nat → Int32)) := if p.1 = true then (if pend = true then m_lay 32 0 p.2 else some p.2).bind fun p6 => am_loop (tx_nL (tx_eR RM)) Fs p6 else some (false, p.2)
theorem tx_xA (n : Nat) (a0 : Int32) (F : (Nat → Nat → Int32)) : (x_rec (n + 1)).1 a0 F = ((x_rec n).2 a0 F).bind fun p1 => if p1.1 = true then (am_loop (tx_cL ((x_rec n).2 a0)) am_F (false, 0, p1.2)).bind tx_cK else some (false, p1.2) := rfl
theorem tx_xC (n : Nat) (a0 : Int32) (F : (Nat → Nat → Int32)) : (x_rec (n + 1)).2 a0 F = xs_readCondition_B (x_rec n).1 (x_rec n).2 a0 F := rfl
theorem tx_mC (n : Nat) (G : (Nat → Nat → Int32)) : (m_rec (n + 1)).2.2 G = m_oneTest_B (m_rec n).1 (m_rec n).2.1 (m_rec n).2.2 G := rfl
theorem tx_mE (n : Nat) : (m_rec (n + 1)).2.1 = tx_eR (m_rec n).2.2 := rfl
theorem tx_mA0 (n : Nat) (G : (Nat → Nat → Int32)) : (m_rec (n + 1)).1 G = ((m_rec n).2.1 G).bind fun p1 => if p1.1 = true then am_loop (tx_nL (m_rec n).2.1) am_F p1.2 else some (false, p1.2) := rfl
theorem tx_mA (n : Nat) (G : (Nat → Nat → Int32)) : (m_rec (n + 2)).1 G = ((m_rec n).2.2 G).bind fun p1 => if p1.1 = true then (am_loop (tx_eL (m_rec n).2.2) am_F p1.2).bind (tx_nK (m_rec n).2.2 false am_F) else some (false, p1.2) := by
  rw [tx_mA0, tx_mE]
  generalize (m_rec n).2.2 = RM
  rw [show tx_eR RM G = (RM G).bind fun p1 => if p1.1 = true then am_loop (tx_eL RM) am_F p1.2 else some (false, p1.2) from rfl]
  cases h1 : RM G with
  | none => rfl
  | some p1 =>
    rw [pu_bs, pu_bs]
    by_cases c : p1.1 = true
    · rw [if_pos c, if_pos c]
      cases h2 : am_loop (tx_eL RM) am_F p1.2 with
      | none => rfl
      | some r =>
        rw [pu_bs, pu_bs]
        unfold tx_nK
        by_cases c2 : r.1 = true
        · rw [if_pos c2, if_pos c2, if_neg Bool.false_ne_true, pu_bs]
        · rw [if_neg c2, if_neg c2]
    · rw [if_neg c, if_neg c, pu_bs, if_neg Bool.false_ne_true]
section
variable {n : Nat} {b : Nat → Nat} {N : Nat}
theorem tx_S.g24 {i e : Nat} {W : List lw_S} {F G : (Nat → Nat → Int32)} (h : tx_S n b 0 N i e W F G) (v : Int32) : tx_S n b 0 N i e W F (am_up G 216 24 v) ∧ tx_P F G F (am_up G 216 24 v) := by
  obtain ⟨h1, ⟨e1, e2, e3, e4⟩, h3⟩ := h
  refine ⟨⟨h1.gx (tx_gm.up (by omega) _), ⟨e1, e2, by rw [pu_up_row, pu_upd_ne _ _ (by omega)]; exact e3, by rw [pu_up_ne _ _ (by omega)]; exact e4⟩, h3⟩, ⟨fun _ _ _ _ _ => rfl, ⟨rfl, rfl, rfl⟩, fun a a1 _ _ => pu_up_ne _ _ a1, fun j hj => by rw [pu_up_row, pu_upd_ne _ _ (by omega)], fun z => z⟩⟩
theorem tx_emF {F : (Nat → Nat → Int32)} (G : (Nat → Nat → Int32)) (x : Int32) (h : ∃ u, u ≤ 400 ∧ F 129 1 = nI u) : ∃ F', xl_emit_129 x F = some F' ∧ tx_P F G F' G ∧ F' 128 = F 128 := by
  obtain ⟨u, hu, e⟩ := h
  unfold xl_emit_129
  rw [e]
  by_cases c : u < 400
  · have l1 : nI u < nI 400 := nI_lt c (by omega)
    have c1 : am_in (nI u) 400 = true := pu_in (by omega) (by omega)
    simp only [l1, c1, if_true, pu_letE, nI_clamp (show u < 2 ^ 31 by omega), pu_up_ne _ _ (show (129 : Nat) ≠ 130 by omega), e, nI_1]
    refine ⟨_, rfl, ⟨fun a a1 a2 a3 a4 => by rw [pu_up_ne _ _ a3, pu_up_ne _ _ a4], ⟨?_, ?_, ?_⟩, fun _ _ _ _ => rfl, fun _ _ => rfl, fun _ => ⟨u + 1, by omega, by rw [pu_up_row, pu_upd_eq]⟩⟩, ?_⟩
    · rw [pu_up_ne _ _ (by omega), pu_up_ne _ _ (by omega)]
    · rw [pu_up_ne _ _ (by omega), pu_up_ne _ _ (by omega)]
    · rw [pu_up_row, pu_upd_ne _ _ (by omega), pu_up_ne _ _ (by omega)]
    · rw [pu_up_ne _ _ (by omega), pu_up_ne _ _ (by omega)]
  · rw [if_neg (nI_nlt (by omega) (by omega))]
    exact ⟨F, rfl, tx_P.rf, rfl⟩
theorem tx_S.U {i e : Nat} {W : List lw_S} {F G : (Nat → Nat → Int32)} (h : tx_S n b 0 N i e W F G) : ∃ u, u ≤ 400 ∧ F 129 1 = nI u := by
  have := h.lt
  have := h.2.2
  exact ⟨_, by omega, h.2.1.1⟩
/-- what reads a condition -/
def tx_RC (n : Nat) (b : Nat → Nat) (N d ex : Nat) (RC RM : (Nat → Nat → Int32) → Option (Bool × (Nat → Nat → Int32))) : Prop := ∀ (i e : Nat) (W : List lw_S) (F G : (Nat → Nat → Int32)), tx_S n b 0 N i e W F G → G 216 24 = nI d → ∃ ok F' G', RC F = some (ok, F') ∧ RM G = some (ok, G') ∧ tx_O n b N i e W (fun D => ∀ st : List Bool, st.length + ex ≤ 60 → lw_ks D st = some (true :: st)) F G ok F' G'
theorem tx_wordN {i : Nat} {F G : (Nat → Nat → Int32)} (h : tx_C n b 0 N i F G) {x : Nat} (hx : 3 ≤ x ∧ x ≤ 6) : xt_isWord (nI x) F = true ↔ G 216 18 = nI x := by
  have := h.word (x := x) (show x < 17 by omega)
  have e : kw_c 0 x = x := by
    have : ∀ x, x < 7 → 3 ≤ x → kw_c 0 x = x := by decide
    exact this x (by omega) hx.1
  rwa [e] at this
theorem tx_cpend {i e : Nat} {W : List lw_S} {F G : (Nat → Nat → Int32)} {pend : Bool} (h : tx_S n b 0 N i (e + (if pend = true then 1 else 0)) W F G) : ∃ F1 G1 D, (if pend = true then (xl_emit_129 20124 F).bind fun p6 => some p6 else some F) = some F1 ∧ (if pend = true then m_lay 32 0 G else some G) = some G1 ∧ tx_S n b 0 N i e (W ++ D) F1 G1 ∧ tx_P F G F1 G1 ∧ G1 216 24 = G 216 24 ∧ F1 123 = F 123 ∧ ∀ st : List Bool, st.length + 3 ≤ 60 → lw_ks D (true :: (if pend = true then true :: st else st)) = some (true :: st) := by
  cases pend with
  | false => exact ⟨F, G, [], rfl, rfl, by rw [List.append_nil]; exact h, tx_P.rf, rfl, rfl, fun st _ => rfl⟩
  | true =>
    obtain ⟨F1, G1, r1, r2, r3, r4, r5, r6, r7⟩ := tx_emit (s := (32, 0)) (x := 20124) h rfl 0 (fun z => by dsimp only at z; omega)
    refine ⟨F1, G1, [(32, 0)], ?_, ?_, r3, r4, r5, r7, fun st hst => ?_⟩
    · rw [if_pos rfl, show (20124 : Int32) = nI 20124 from rfl, r1, pu_bs]
    · rw [if_pos rfl]; exact r2
    · rw [if_pos rfl, lw_ks1 (by show (st.length + 1) + 1 ≤ 60; omega)]
      rfl
theorem tx_nS {RM : (Nat → Nat → Int32) → Option (Bool × (Nat → Nat → Int32))} {G1 : (Nat → Nat → Int32)} (h : G1 216 18 = 4) (Fs : Nat) : am_loop (tx_nL (tx_eR RM)) (Fs + 1) G1 = (m_next0 G1).bind fun p4 => (RM p4).bind fun p5 => if p5.1 = true then (am_loop (tx_eL RM) am_F p5.2).bind (tx_nK RM true Fs) else some (false, p5.2) := by
  have e1 : tx_nL (tx_eR RM) G1 = (m_next0 G1).bind fun p4 => (tx_eR RM p4).bind fun p5 => if p5.1 = true then (m_lay 32 0 p5.2).bind fun p6 => some (.inl p6) else some (.inr (false, p5.2)) := by
    unfold tx_nL
    rw [if_pos h]
  cases h1 : m_next0 G1 with
  | none =>
    rw [h1] at e1
    exact pu_loop_none e1
  | some p4 =>
    rw [h1, pu_bs] at e1
    unfold tx_eR at e1
    rw [pu_bs]
    cases h2 : RM p4 with
    | none =>
      rw [h2] at e1
      exact pu_loop_none e1
    | some p5 =>
      rw [h2, pu_bs] at e1
      rw [pu_bs]
      by_cases c : p5.1 = true
      · rw [if_pos c] at e1 ⊢
        cases h3 : am_loop (tx_eL RM) am_F p5.2 with
        | none =>
          rw [h3] at e1
          exact pu_loop_none e1
        | some p =>
          rw [h3, pu_bs] at e1
          rw [pu_bs]
          unfold tx_nK
          by_cases d : p.1 = true
          · rw [if_pos d] at e1 ⊢
            rw [if_pos rfl]
            cases h5 : m_lay 32 0 p.2 with
            | none =>
              rw [h5] at e1
              exact pu_loop_none e1
            | some p6 =>
              rw [h5] at e1
              exact pu_loop_inl e1
          · rw [if_neg d] at e1 ⊢
            exact pu_loop_inr e1
      · rw [if_neg c, pu_bs, if_neg Bool.false_ne_true] at e1
        rw [if_neg c]
        exact pu_loop_inr e1
theorem tx_anyE {RC RM : (Nat → Nat → Int32) → Option (Bool × (Nat → Nat → Int32))} {i e c Fc Fp Fs ex : Nat} {pend : Bool} {W : List lw_S} {F G : (Nat → Nat → Int32)} (hex : 4 ≤ ex) (h : tx_S n b 0 N i (e + (if pend = true then 1 else 0)) W F G) (w4 : ¬ xt_isWord 4 F = true) (w5 : ¬ xt_isWord 5 F = true) :
    ∃ ok F' G', (am_loop (tx_cL RC) (Fc + 1) (pend, nI c, F)).bind tx_cK = some (ok, F') ∧ (am_loop (tx_eL RM) (Fp + 1) G).bind (tx_nK RM pend (Fs + 1)) = some (ok, G') ∧ tx_O n b N i e W (fun D => ∀ st : List Bool, st.length + (ex + 2) ≤ 60 → lw_ks D (true :: (if pend = true then true :: st else st)) = some (true :: st)) F G ok F' G' := by
  have W4 : xt_isWord 4 F = true ↔ G 216 18 = 4 := tx_wordN h.1 (x := 4) (by omega)
  have W5 : xt_isWord 5 F = true ↔ G 216 18 = 5 := tx_wordN h.1 (x := 5) (by omega)
  obtain ⟨F0, G0, D0, p1, p2, p3, p4, p5, p6, p7⟩ := tx_cpend h
  have ec : tx_cL RC (pend, nI c, F) = some (.inr (.inr (pend, F))) := by
    unfold tx_cL
    dsimp only
    rw [if_neg w4, if_neg w5]
    split <;> rfl
  have em : tx_eL RM G = some (.inr (true, G)) := by
    unfold tx_eL
    rw [if_neg (fun z => w5 (W5.mpr z))]
  have en : tx_nL (tx_eR RM) G0 = some (.inr (true, G0)) := by
    unfold tx_nL
    rw [if_neg (fun z => w4 (by
      have := (tx_wordN p3.1 (x := 4) (by omega)).mpr z
      rw [xt_wordI, p6] at this
      exact xt_wordI.mpr this))]
  rw [pu_loop_inr ec, pu_loop_inr em, pu_bs, pu_bs]
  refine ⟨true, F0, G0, ?_, ?_, p4, Or.inr ⟨rfl, i, D0, Nat.le_refl _, p3, p5, fun st hst => p7 st (by omega)⟩⟩
  · show (if pend = true then (xl_emit_129 20124 F).bind fun p27 => some (true, p27) else some (true, F)) = _
    cases pend with
    | false =>
      cases p1
      rfl
    | true =>
      rw [if_pos rfl] at p1 ⊢
      cases h1 : xl_emit_129 20124 F with
      | none => rw [h1] at p1; cases p1
      | some z =>
        rw [h1] at p1
        cases p1
        rfl
  · unfold tx_nK
    rw [if_pos rfl]
    dsimp only
    rw [p2, pu_bs, pu_loop_inr en]
theorem tx_anyA {RC RM : (Nat → Nat → Int32) → Option (Bool × (Nat → Nat → Int32))} {d ex : Nat} (hex : 4 ≤ ex) (HC : tx_RC n b N d ex RC RM) : ∀ (m i e c Fc Fp Fs : Nat) (pend : Bool) (W : List lw_S) (F G : (Nat → Nat → Int32)), N - i ≤ m ∧ m ≤ 400 → tx_S n b 0 N i (e + (if pend = true then 1 else 0)) W F G → G 216 24 = nI d → c ≤ i → m < Fc → m < Fp → m < Fs →
    ∃ ok F' G', (am_loop (tx_cL RC) Fc (pend, nI c, F)).bind tx_cK = some (ok, F') ∧ (am_loop (tx_eL RM) Fp G).bind (tx_nK RM pend Fs) = some (ok, G') ∧ tx_O n b N i e W (fun D => ∀ st : List Bool, st.length + (ex + 2) ≤ 60 → lw_ks D (true :: (if pend = true then true :: st else st)) = some (true :: st)) F G ok F' G' := by
  intro m
  induction m with
  | zero =>
    intro i e c Fc Fp Fs pend W F G hm h h24 hc h1 h2 h3
    obtain ⟨Fc', rfl⟩ : ∃ F', Fc = F' + 1 := ⟨Fc - 1, by omega⟩
    obtain ⟨Fp', rfl⟩ : ∃ F', Fp = F' + 1 := ⟨Fp - 1, by omega⟩
    obtain ⟨Fs', rfl⟩ : ∃ F', Fs = F' + 1 := ⟨Fs - 1, by omega⟩
    have l := h.lt
    have hN : ∀ d, 1 ≤ d → d < 1000 → ¬ G 216 18 = nI d := fun d d1 d2 z => by
      have := h.1.signN d1 z d2
      omega
    have w4 : ¬ xt_isWord 4 F = true := fun z => hN 4 (by omega) (by omega) ((tx_wordN h.1 (x := 4) (by omega)).mp z)
    have w5 : ¬ xt_isWord 5 F = true := fun z => hN 5 (by omega) (by omega) ((tx_wordN h.1 (x := 5) (by omega)).mp z)
    exact tx_anyE hex h w4 w5
  | succ m ih =>
    intro i e c Fc Fp Fs pend W F G hm h h24 hc h1 h2 h3
    obtain ⟨Fc', rfl⟩ : ∃ F', Fc = F' + 1 := ⟨Fc - 1, by omega⟩
    obtain ⟨Fp', rfl⟩ : ∃ F', Fp = F' + 1 := ⟨Fp - 1, by omega⟩
    obtain ⟨Fs', rfl⟩ : ∃ F', Fs = F' + 1 := ⟨Fs - 1, by omega⟩
    have l := h.lt
    have W4 : xt_isWord 4 F = true ↔ G 216 18 = 4 := tx_wordN h.1 (x := 4) (by omega)
    have W5 : xt_isWord 5 F = true ↔ G 216 18 = 5 := tx_wordN h.1 (x := 5) (by omega)
    by_cases w5 : xt_isWord 5 F = true
    · have g5 := W5.mp w5
      have hi := h.1.signN (c := 5) (by omega) g5 (by omega)
      have w4 : ¬ xt_isWord 4 F = true := fun z => by
        have := W4.mp z
        rw [g5] at this
        exact absurd this (by decide)
      have lc : nI c < (400 : Int32) := nI_lt (b := 400) (by omega) (by omega)
      obtain ⟨F1, G1, r1, r2, r3, r4, r5, _, _⟩ := h.adv hi
      obtain ⟨ok, F2, G2, u1, u2, u3, u4⟩ := HC _ _ _ _ _ r3 (r5.trans h24)
      have ec : tx_cL RC (pend, nI c, F) = (RC F1).bind fun p21 => if p21.1 = true then (xl_emit_129 20038 p21.2).bind fun p22 => some (.inl (pend, nI (c + 1), p22)) else some (.inr (.inl (false, p21.2))) := by
        unfold tx_cL
        dsimp only
        rw [if_pos lc, if_neg w4, if_pos w5]
        simp only [w5, if_true, pu_letE, pu_bs, r1, nI_1]
        rw [u1, pu_bs, pu_bs]
        cases ok with
        | false => rfl
        | true =>
          rw [if_pos rfl, if_pos rfl]
          cases xl_emit_129 20038 (true, F2).2 with
          | none => rfl
          | some z =>
            cases pend <;> rfl
      have em : tx_eL RM G = (RM G1).bind fun p4 => if p4.1 = true then (m_lay 31 0 p4.2).bind fun p5 => some (.inl p5) else some (.inr (false, p4.2)) := by
        unfold tx_eL
        rw [if_pos g5, r2, pu_bs]
      rcases u4 with ⟨rfl, uz⟩ | ⟨rfl, i2, D, ui, uS, u24, uQ⟩
      · rw [u1, pu_bs, if_neg Bool.false_ne_true] at ec
        rw [u2, pu_bs, if_neg Bool.false_ne_true] at em
        rw [pu_loop_inr ec, pu_loop_inr em, pu_bs, pu_bs]
        exact ⟨false, F2, G2, rfl, rfl, r4.tr u3, Or.inl ⟨rfl, uz⟩⟩
      · obtain ⟨F3, G3, q1, q2, q3, q4, q5, _⟩ := tx_emit (s := (31, 0)) (x := 20038) (e := e + (if pend = true then 1 else 0)) uS rfl 0 (fun z => by dsimp only at z; omega)
        rw [u1, pu_bs, if_pos rfl, show (20038 : Int32) = nI 20038 from rfl, q1, pu_bs] at ec
        rw [u2, pu_bs, if_pos rfl, show (31 : Int32) = nI (31, 0).1 from rfl, q2, pu_bs] at em
        rw [pu_loop_inl ec, pu_loop_inl em]
        obtain ⟨ok, F4, G4, v1, v2, v3, v4⟩ := ih i2 e (c + 1) Fc' Fp' (Fs' + 1) pend (W ++ D ++ [(31, 0)]) F3 G3 (by omega) q3 (q5.trans (u24.trans (r5.trans h24))) (by omega) (by omega) (by omega) (by omega)
        refine ⟨ok, F4, G4, v1, v2, ((r4.tr u3).tr q4).tr v3, ?_⟩
        rcases v4 with ⟨rfl, vz⟩ | ⟨rfl, i3, D3, x1, x2, x3, x4⟩
        · exact Or.inl ⟨rfl, vz⟩
        · refine Or.inr ⟨rfl, i3, D ++ [(31, 0)] ++ D3, by omega, by rw [← List.append_assoc, ← List.append_assoc]; exact x2, x3.trans (q5.trans (u24.trans r5)), fun st hst => ?_⟩
          have hl : (true :: (if pend = true then true :: st else st)).length ≤ st.length + 2 := by
            cases pend
            · show st.length + 1 ≤ _; omega
            · show st.length + 1 + 1 ≤ _; omega
          rw [lw_ksa, lw_ksa, uQ _ (by omega), pu_bs, lw_ks1 (by show (true :: (if pend = true then true :: st else st)).length + 1 ≤ 60; omega)]
          show (some (true :: (if pend = true then true :: st else st))).bind _ = _
          rw [pu_bs, x4 st hst]
    · by_cases w4 : xt_isWord 4 F = true
      · have g4 := W4.mp w4
        have hi := h.1.signN (c := 4) (by omega) g4 (by omega)
        have lc : nI c < (400 : Int32) := nI_lt (b := 400) (by omega) (by omega)
        obtain ⟨F0, G0, D0, p1, p2, p3, p4, p5, p6, p7⟩ := tx_cpend h
        have g40 : G0 216 18 = 4 := (tx_wordN p3.1 (x := 4) (by omega)).mp (by rw [xt_wordI, p6]; exact xt_wordI.mp w4)
        obtain ⟨F1, G1, r1, r2, r3, r4, r5, _, _⟩ := p3.adv hi
        obtain ⟨ok, F2, G2, u1, u2, u3, u4⟩ := HC _ _ _ _ _ r3 (r5.trans (p5.trans h24))
        have ec : tx_cL RC (pend, nI c, F) = if ok = true then some (.inl (true, nI (c + 1), F2)) else some (.inr (.inl (false, F2))) := by
          unfold tx_cL
          dsimp only
          rw [if_pos lc, if_pos w4]
          simp only [if_neg w5, pu_letE, p1, pu_bs, r1, nI_1]
          rw [u1, pu_bs]
          have ew : (if pend = true then true else if xt_isWord 5 F = true then false else true) = true := by
            cases pend
            · rw [if_neg Bool.false_ne_true, if_neg w5]
            · rfl
          cases ok with
          | false => rfl
          | true =>
            rw [if_pos rfl, if_pos rfl]
            first | rfl | rw [ew] | (cases pend <;> rfl)
        have em : am_loop (tx_eL RM) (Fp' + 1) G = some (true, G) := by
          refine pu_loop_inr ?_
          unfold tx_eL
          rw [if_neg (fun z => w5 (W5.mpr z))]
        have ek : tx_nK RM pend (Fs' + 1) (true, G) = if ok = true then (am_loop (tx_eL RM) am_F G2).bind (tx_nK RM true Fs') else some (false, G2) := by
          rw [show tx_nK RM pend (Fs' + 1) (true, G) = (if pend = true then m_lay 32 0 G else some G).bind fun p6 => am_loop (tx_nL (tx_eR RM)) (Fs' + 1) p6 from rfl, p2, pu_bs, tx_nS g40, r2, pu_bs, u2, pu_bs]
        rw [em, pu_bs, ek]
        rcases u4 with ⟨rfl, uz⟩ | ⟨rfl, i2, D, ui, uS, u24, uQ⟩
        · rw [if_neg Bool.false_ne_true] at ec
          rw [pu_loop_inr ec, pu_bs, if_neg Bool.false_ne_true]
          exact ⟨false, F2, G2, rfl, rfl, (p4.tr r4).tr u3, Or.inl ⟨rfl, uz⟩⟩
        · rw [if_pos rfl] at ec
          rw [pu_loop_inl ec, if_pos rfl]
          obtain ⟨ok, F4, G4, v1, v2, v3, v4⟩ := ih i2 e (c + 1) Fc' am_F Fs' true (W ++ D0 ++ D) F2 G2 (by omega) uS (u24.trans (r5.trans (p5.trans h24))) (by omega) (by omega) (by have : am_F = 1000000 := rfl; omega) (by omega)
          refine ⟨ok, F4, G4, v1, v2, ((p4.tr r4).tr u3).tr v3, ?_⟩
          rcases v4 with ⟨rfl, vz⟩ | ⟨rfl, i3, D3, x1, x2, x3, x4⟩
          · exact Or.inl ⟨rfl, vz⟩
          · refine Or.inr ⟨rfl, i3, D0 ++ D ++ D3, by omega, by rw [← List.append_assoc, ← List.append_assoc]; exact x2, x3.trans (u24.trans (r5.trans p5)), fun st hst => ?_⟩
            rw [lw_ksa, lw_ksa, p7 st (by omega), pu_bs, uQ _ (by show st.length + 1 + ex ≤ 60; omega), pu_bs]
            exact x4 st hst
      · exact tx_anyE hex h w4 w5
theorem tx_any {RC RM : (Nat → Nat → Int32) → Option (Bool × (Nat → Nat → Int32))} {d ex : Nat} (hex : 4 ≤ ex) (HC : tx_RC n b N d ex RC RM) : tx_RC n b N d (ex + 2) (fun F => (RC F).bind fun p1 => if p1.1 = true then (am_loop (tx_cL RC) am_F (false, 0, p1.2)).bind tx_cK else some (false, p1.2))
    (fun G => (RM G).bind fun p1 => if p1.1 = true then (am_loop (tx_eL RM) am_F p1.2).bind (tx_nK RM false am_F) else some (false, p1.2)) := by
  intro i e W F G h h24
  have l := h.lt
  have hF : am_F = 1000000 := rfl
  obtain ⟨ok, F1, G1, u1, u2, u3, u4⟩ := HC _ _ _ _ _ h h24
  dsimp only
  rw [u1, u2, pu_bs, pu_bs]
  rcases u4 with ⟨rfl, uz⟩ | ⟨rfl, i2, D, ui, uS, u24, uQ⟩
  · exact ⟨false, F1, G1, rfl, rfl, u3, Or.inl ⟨rfl, uz⟩⟩
  · rw [if_pos rfl, if_pos rfl]
    obtain ⟨ok, F4, G4, v1, v2, v3, v4⟩ := tx_anyA hex HC (N - i2) i2 e 0 am_F am_F am_F false (W ++ D) F1 G1 (by omega) uS (u24.trans h24) (by omega) (by omega) (by omega) (by omega)
    refine ⟨ok, F4, G4, v1, v2, u3.tr v3, ?_⟩
    rcases v4 with ⟨rfl, vz⟩ | ⟨rfl, i3, D3, x1, x2, x3, x4⟩
    · exact Or.inl ⟨rfl, vz⟩
    · refine Or.inr ⟨rfl, i3, D ++ D3, by omega, by rw [← List.append_assoc]; exact x2, x3.trans u24, fun st hst => ?_⟩
      rw [lw_ksa, uQ st (by omega), pu_bs]
      exact x4 st hst
end
