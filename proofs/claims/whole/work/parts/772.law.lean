/-! LAW: the lines -/
def tx_tL (a0 : Int32) : Int32 × (Nat → Nat → Int32) → Option ((Int32 × (Nat → Nat → Int32)) ⊕ ((Int32 × (Nat → Nat → Int32)) ⊕ (Int32 × (Nat → Nat → Int32)))) := fun (s13 : Int32 × (Nat → Nat → Int32)) => ((
        if 16 < s13.1 then (
          some (.inr (.inr (s13.1, s13.2))))
        else (
          if s13.2 123 1 = 0 then (
            some (.inr (.inr (s13.1, s13.2))))
          else (
            am_let (s13.2 123 2 : Int32) fun t14 =>
            (xs_takeHead a0 s13.1 s13.2).bind fun p15 =>
            if p15.1 = true then (
              if a0 = 0 then (
                (xs_readLawLine s13.1 t14 p15.2).bind fun p16 =>
                if p16.1 = true then (
                  (xs_takeSign 59 p16.2).bind fun p17 =>
                  if p17.1 = true then (
                    am_let (s13.1 + 1 : Int32) fun t18 =>
                    some (.inl (t18, p17.2)))
                  else (
                    some (.inr (.inl ((-1), p17.2)))))
                else (
                  some (.inr (.inl ((-1), p16.2)))))
              else (
                (xs_readLine a0 s13.1 p15.2).bind fun p19 =>
                if p19.1 = true then (
                  (xs_takeSign 59 p19.2).bind fun p20 =>
                  if p20.1 = true then (
                    am_let (s13.1 + 1 : Int32) fun t21 =>
                    some (.inl (t21, p20.2)))
                  else (
                    some (.inr (.inl ((-1), p20.2)))))
                else (
                  some (.inr (.inl ((-1), p19.2))))))
            else (
              some (.inr (.inl ((-1), p15.2))))))) : Option ((Int32 × (Nat → Nat → Int32)) ⊕ ((Int32 × (Nat → Nat → Int32)) ⊕ (Int32 × (Nat → Nat → Int32)))))
def tx_gL : Bool × (Nat → Nat → Int32) → Option ((Bool × (Nat → Nat → Int32)) ⊕ (Bool × (Nat → Nat → Int32))) := fun (s3 : Bool × (Nat → Nat → Int32)) => ((
    if s3.1 = true then (
      if s3.2 216 18 = 0 then (
        some (.inr (s3.1, s3.2)))
      else (
        (m_aLine  s3.2).bind fun p4 =>
        am_let ((if p4.1 = true then (
            true)
          else (
            false)) : Bool) fun t5 =>
        am_let (am_up p4.2 216 13 ((p4.2 216 13) + (am_b t5)) : Nat → Nat → Int32) fun f6 =>
        some (.inl (p4.1, f6))))
    else (
      some (.inr (s3.1, s3.2)))) : Option ((Bool × (Nat → Nat → Int32)) ⊕ (Bool × (Nat → Nat → Int32))))
theorem tx_t0 (l : Int32) (F : (Nat → Nat → Int32)) (h16 : ¬ 16 < l) (h0 : ¬ F 123 1 = 0) : tx_tL 0 (l, F) = (tx_xl l F).bind fun p => if p.1 = true then some (.inl (l + 1, p.2)) else some (.inr (.inl (-1, p.2))) := by
  unfold tx_tL tx_xl
  dsimp only
  rw [if_neg h16, if_neg h0, pu_letE]
  cases xs_takeHead 0 l F with
  | none => rfl
  | some p15 =>
    rw [pu_bs, pu_bs]
    by_cases c : p15.1 = true
    · rw [if_pos c, if_pos c]
      simp only [eq_self, if_true]
      cases xs_readLawLine l (F 123 2) p15.2 with
      | none => rfl
      | some p16 =>
        rw [pu_bs, pu_bs]
        by_cases d : p16.1 = true
        · rw [if_pos d, if_pos d]
          cases xs_takeSign 59 p16.2 with
          | none => rfl
          | some p17 =>
            rw [pu_bs, pu_bs]
            rfl
        · rw [if_neg d, if_neg d, pu_bs, if_neg Bool.false_ne_true]
    · rw [if_neg c, if_neg c, pu_bs, if_neg Bool.false_ne_true]
section
variable {n : Nat} {b : Nat → Nat} {N : Nat}
theorem tx_S.g13 {k i e : Nat} {W : List lw_S} {F G : (Nat → Nat → Int32)} (h : tx_S n b k N i e W F G) {j : Nat} (hj : j = 13 ∨ j = 15) (v : Int32) : tx_S n b k N i e W F (am_up G 216 j v) := by
  obtain ⟨h1, ⟨e1, e2, e3, e4⟩, h3⟩ := h
  exact ⟨h1.gx (tx_gm.up (by omega) _), ⟨e1, e2, by rw [pu_up_row, pu_upd_ne _ _ (by omega)]; exact e3, by rw [pu_up_ne _ _ (by omega)]; exact e4⟩, h3⟩
theorem tx_W.g13 {F G : (Nat → Nat → Int32)} {j : Nat} (hj : j = 13 ∨ j = 14 ∨ j = 15) (v : Int32) : tx_W F G F (am_up G 216 j v) := ⟨fun _ _ => rfl, ⟨rfl, rfl⟩, fun a a1 _ _ _ => pu_up_ne _ _ a1, fun i hi => by rw [pu_up_row, pu_upd_ne _ _ (by omega)]⟩
theorem tx_lawL : ∀ (m l i Fc Fm : Nat) (W : List lw_S) (F G : (Nat → Nat → Int32)), N - i ≤ m → m < Fc → m + 1 < Fm → tx_S n b 0 N i 0 W F G → l ≤ 16 → G 216 13 = nI l → (∀ j, j < l → tx_ln W F G j) →
    (∃ F' G', am_loop (tx_tL 0) Fc (nI l, F) = some (.inl (-1, F')) ∧ am_loop tx_gL Fm (true, G) = some (false, G') ∧ tx_W F G F' G' ∧ tx_Z F' G') ∨
    ∃ F' G' l' i' W', am_loop (tx_tL 0) Fc (nI l, F) = some (.inr (nI l', F')) ∧ am_loop tx_gL Fm (true, G) = some (true, G') ∧ tx_W F G F' G' ∧ tx_S n b 0 N i' 0 W' F' G' ∧ l' ≤ 16 ∧ G' 216 13 = nI l' ∧ ∀ j, j < l' → tx_ln W' F' G' j := by
  intro m
  induction m with
  | zero =>
    intro l i Fc Fm W F G hm h1 h2 hS hl h13 hL
    obtain ⟨Fc', rfl⟩ : ∃ F', Fc = F' + 1 := ⟨Fc - 1, by omega⟩
    obtain ⟨Fm', rfl⟩ : ∃ F', Fm = F' + 1 := ⟨Fm - 1, by omega⟩
    have l16 : ¬ (16 : Int32) < nI l := nI_nlt (a := 16) (by omega) (by omega)
    rcases hS.1.fin with ⟨e0, e1, e2⟩ | ⟨e0, _⟩
    · right
      refine ⟨F, G, l, i, W, pu_loop_inr ?_, pu_loop_inr ?_, tx_W.rf, hS, hl, h13, hL⟩
      · unfold tx_tL
        dsimp only
        rw [if_neg l16, if_pos e1]
      · unfold tx_gL
        dsimp only
        rw [if_pos rfl, if_pos e2]
    · omega
  | succ m ih =>
    intro l i Fc Fm W F G hm h1 h2 hS hl h13 hL
    obtain ⟨Fc', rfl⟩ : ∃ F', Fc = F' + 1 := ⟨Fc - 1, by omega⟩
    obtain ⟨Fm', rfl⟩ : ∃ F', Fm = F' + 2 := ⟨Fm - 2, by omega⟩
    have l16 : ¬ (16 : Int32) < nI l := nI_nlt (a := 16) (by omega) (by omega)
    rcases hS.1.fin with ⟨e0, e1, e2⟩ | ⟨e0, e1, e2⟩
    · right
      refine ⟨F, G, l, i, W, pu_loop_inr ?_, pu_loop_inr ?_, tx_W.rf, hS, hl, h13, hL⟩
      · unfold tx_tL
        dsimp only
        rw [if_neg l16, if_pos e1]
      · unfold tx_gL
        dsimp only
        rw [if_pos rfl, if_pos e2]
    · obtain ⟨ok, F', G', r1, r2, r3, r4, r5⟩ := tx_line hS hl h13 hL
      have ec := tx_t0 (nI l) F l16 e1
      rw [r1, pu_bs] at ec
      have em : tx_gL (true, G) = some (.inl (ok, am_up G' 216 13 (G' 216 13 + am_b ok))) := by
        unfold tx_gL
        dsimp only
        rw [if_pos rfl, if_neg e2, r2, pu_bs]
        cases ok <;> rfl
      rcases r5 with ⟨rfl, rz⟩ | ⟨rfl, rl, i', D, ri, rS, rL⟩
      · left
        rw [if_neg Bool.false_ne_true] at ec
        refine ⟨F', am_up G' 216 13 (G' 216 13 + am_b false), pu_loop_inr ec, ?_, r3.tr (tx_W.g13 (Or.inl rfl) _), ?_⟩
        · rw [show Fm' + 2 = (Fm' + 1) + 1 from rfl, pu_loop_inl em]
          refine pu_loop_inr ?_
          unfold tx_gL
          dsimp only
          rw [if_neg Bool.false_ne_true]
        · unfold tx_Z
          rw [pu_up_row, pu_upd_ne _ _ (by omega), pu_upd_ne _ _ (by omega)]
          exact rz
      · rw [if_pos rfl, nI_1] at ec
        have e13 : G' 216 13 + am_b true = nI (l + 1) := by rw [r4]; exact nI_1 l
        rw [e13] at em
        rw [show Fm' + 2 = (Fm' + 1) + 1 from rfl, pu_loop_inl ec, pu_loop_inl em]
        rcases ih (l + 1) i' Fc' (Fm' + 1) (W ++ D) F' (am_up G' 216 13 (nI (l + 1))) (by omega) (by omega) (by omega) (rS.g13 (Or.inl rfl) _) (by omega) (by rw [pu_up_row, pu_upd_eq])
          (fun j hj => by
            have := (rL j hj).to (D := []) (F' := F') (G' := am_up G' 216 13 (nI (l + 1))) (fun _ _ _ => rfl) (fun _ _ => by rw [pu_up_ne _ _ (by omega)])
            rwa [List.append_nil] at this) with ⟨F2, G2, s1, s2, s3, s4⟩ | ⟨F2, G2, l', i2, W2, s1, s2, s3, s4⟩
        · exact Or.inl ⟨F2, G2, s1, s2, (r3.tr (tx_W.g13 (Or.inl rfl) _)).tr s3, s4⟩
        · exact Or.inr ⟨F2, G2, l', i2, W2, s1, s2, (r3.tr (tx_W.g13 (Or.inl rfl) _)).tr s3, s4⟩
end
