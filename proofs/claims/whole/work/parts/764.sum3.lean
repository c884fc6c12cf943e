section
variable {n : Nat} {b : Nat → Nat} {N : Nat}
/-- what reads leaves: the faults, or a place further on and steps laid down -/
def tx_O (n : Nat) (b : Nat → Nat) (N i e : Nat) (W : List lw_S) (Q : List lw_S → Prop) (F G : Nat → Nat → Int32) (ok : Bool) (F' G' : Nat → Nat → Int32) : Prop :=
  tx_P F G F' G' ∧ ((ok = false ∧ tx_Z F' G') ∨ (ok = true ∧ ∃ i' D, i ≤ i' ∧ tx_S n b 0 N i' e (W ++ D) F' G' ∧ G' 216 24 = G 216 24 ∧ Q D))
theorem tx_sumA : ∀ (m i e w c Fc Fp Fs : Nat) (W : List lw_S) (F G : Nat → Nat → Int32), N - i ≤ m ∧ m ≤ 400 → tx_S n b 0 N i (e + (if w = 0 then 0 else 1)) W F G → (w = 0 ∨ w = 23 ∨ w = 24) → c ≤ i → m < Fc → m < Fp → m < Fs →
    ∃ ok F' G', (am_loop tx_sL Fc (nI (tx_cw w), nI c, F)).bind tx_sK = some (ok, F') ∧ (am_loop tx_pL Fp G).bind (tx_aK w Fs) = some (ok, G') ∧ tx_O n b N i e W (fun D => ∀ st : List Bool, st.length + 3 ≤ 60 → lw_ks D (false :: (if w = 0 then st else false :: st)) = some (false :: st)) F G ok F' G' := by
  intro m
  induction m with
  | zero =>
    intro i e w c Fc Fp Fs W F G hm h hw hc h1 h2 h3
    obtain ⟨Fc', rfl⟩ : ∃ F', Fc = F' + 1 := ⟨Fc - 1, by omega⟩
    obtain ⟨Fp', rfl⟩ : ∃ F', Fp = F' + 1 := ⟨Fp - 1, by omega⟩
    obtain ⟨Fs', rfl⟩ : ∃ F', Fs = F' + 1 := ⟨Fs - 1, by omega⟩
    have l := h.lt
    have hN : ∀ d, 1 ≤ d → d < 1000 → ¬ G 216 18 = nI d := fun d d1 d2 z => by
      have := h.1.signN d1 z d2
      omega
    obtain ⟨r1, r2, F', G', D, r3, r4, r5, r6, r7, r8⟩ := tx_stepE h hw c Fs' (fun z => by
      rcases z with (z | z) | (z | z)
      · exact hN 143 (by omega) (by omega) z
      · exact hN 145 (by omega) (by omega) z
      · exact hN 142 (by omega) (by omega) z
      · exact hN 147 (by omega) (by omega) z)
    rw [pu_loop_inr r1, pu_loop_inr r2, pu_bs, pu_bs]
    exact ⟨true, F', G', r3, r4, r5, Or.inr ⟨rfl, i, D, Nat.le_refl _, r6, r7, r8⟩⟩
  | succ m ih =>
    intro i e w c Fc Fp Fs W F G hm h hw hc h1 h2 h3
    obtain ⟨Fc', rfl⟩ : ∃ F', Fc = F' + 1 := ⟨Fc - 1, by omega⟩
    obtain ⟨Fp', rfl⟩ : ∃ F', Fp = F' + 1 := ⟨Fp - 1, by omega⟩
    obtain ⟨Fs', rfl⟩ : ∃ F', Fs = F' + 1 := ⟨Fs - 1, by omega⟩
    have l := h.lt
    by_cases hA : G 216 18 = 143 ∨ G 216 18 = 145
    · have hi : i < N := by
        rcases hA with z | z
        · exact h.1.signN (c := 143) (by omega) z (by omega)
        · exact h.1.signN (c := 145) (by omega) z (by omega)
      obtain ⟨p1, ⟨F', G', q1, q2, q3, q4⟩ | ⟨w', F', G', D, i', q1, q2, q3, q4, q5, q6, q7, q8, q9⟩⟩ := tx_stepA h hw (c := c) (by omega) Fs' hA
      · rw [pu_loop_inr q1, pu_loop_inr p1, pu_bs, pu_bs]
        exact ⟨false, F', G', rfl, q2, q3, Or.inl ⟨rfl, q4⟩⟩
      · rw [pu_loop_inl q4, pu_loop_inr p1, pu_bs, q5]
        have hw' : ¬ w' = 0 := by omega
        obtain ⟨ok, F2, G2, u1, u2, u3, u4⟩ := ih i' e w' (c + 1) Fc' am_F Fs' (W ++ D) F' G' (by omega) (by rw [if_neg hw']; exact q7) (Or.inr q1) (by omega) (by omega) (by have : am_F = 1000000 := rfl; omega) (by omega)
        refine ⟨ok, F2, G2, u1, u2, q6.tr u3, ?_⟩
        rcases u4 with ⟨rfl, uz⟩ | ⟨rfl, i2, D2, v1, v2, v3, v4⟩
        · exact Or.inl ⟨rfl, uz⟩
        · refine Or.inr ⟨rfl, i2, D ++ D2, by omega, by rw [← List.append_assoc]; exact v2, v3.trans q8, fun st hst => ?_⟩
          have := v4 st hst
          rw [if_neg hw'] at this
          rw [lw_ksa, q9 st hst, pu_bs, this]
    · by_cases hM : G 216 18 = 142 ∨ G 216 18 = 147
      · have hi : i < N := by
          rcases hM with z | z
          · exact h.1.signN (c := 142) (by omega) z (by omega)
          · exact h.1.signN (c := 147) (by omega) z (by omega)
        rcases tx_stepM h (c := c) (by omega) (nI (tx_cw w)) hM with ⟨F', G', q1, q2, q3, q4⟩ | ⟨F', G', D, i', q1, q2, q3, q4, q5, q6, q7, q8⟩
        · rw [pu_loop_inr q1, pu_loop_inr q2, pu_bs, pu_bs]
          exact ⟨false, F', G', rfl, rfl, q3, Or.inl ⟨rfl, q4⟩⟩
        · rw [pu_loop_inl q3, pu_loop_inl q4]
          obtain ⟨ok, F2, G2, u1, u2, u3, u4⟩ := ih i' e w (c + 1) Fc' Fp' (Fs' + 1) (W ++ D) F' G' (by omega) q6 hw (by omega) (by omega) (by omega) (by omega)
          refine ⟨ok, F2, G2, u1, u2, q5.tr u3, ?_⟩
          rcases u4 with ⟨rfl, uz⟩ | ⟨rfl, i2, D2, v1, v2, v3, v4⟩
          · exact Or.inl ⟨rfl, uz⟩
          · refine Or.inr ⟨rfl, i2, D ++ D2, by omega, by rw [← List.append_assoc]; exact v2, v3.trans q7, fun st hst => ?_⟩
            rw [lw_ksa, q8 _ (by
              by_cases c0 : w = 0
              · rw [if_pos c0]; omega
              · rw [if_neg c0]; show st.length + 1 + 2 ≤ 60; omega), pu_bs, v4 st hst]
      · obtain ⟨r1, r2, F', G', D, r3, r4, r5, r6, r7, r8⟩ := tx_stepE h hw c Fs' (fun z => z.elim hA hM)
        rw [pu_loop_inr r1, pu_loop_inr r2, pu_bs, pu_bs]
        exact ⟨true, F', G', r3, r4, r5, Or.inr ⟨rfl, i, D, Nat.le_refl _, r6, r7, r8⟩⟩
theorem tx_sum {i e : Nat} {W : List lw_S} {F G : Nat → Nat → Int32} (h : tx_S n b 0 N i e W F G) : ∃ ok F' G', xs_readSum F = some (ok, F') ∧ m_sumUp G = some (ok, G') ∧ tx_O n b N i e W (fun D => ∀ st : List Bool, st.length + 3 ≤ 60 → lw_ks D st = some (false :: st)) F G ok F' G' := by
  have l := h.lt
  have hF : am_F = 1000000 := rfl
  rw [tx_rs, tx_ms]
  obtain ⟨ok, F1, G1, r1, r2, r3, r4⟩ := tx_unit h
  rw [r1, r2, pu_bs, pu_bs]
  rcases r4 with ⟨rfl, rz⟩ | ⟨rfl, s, rs, rS, r24⟩
  · exact ⟨false, F1, G1, rfl, rfl, r3, Or.inl ⟨rfl, rz⟩⟩
  · rw [if_pos rfl, if_pos rfl]
    obtain ⟨ok, F2, G2, u1, u2, u3, u4⟩ := tx_sumA (N - (i + 1)) (i + 1) e 0 0 am_F am_F am_F (W ++ [s]) F1 G1 (by omega) rS (Or.inl rfl) (by omega) (by omega) (by omega) (by omega)
    refine ⟨ok, F2, G2, u1, u2, r3.tr u3, ?_⟩
    rcases u4 with ⟨rfl, uz⟩ | ⟨rfl, i2, D2, v1, v2, v3, v4⟩
    · exact Or.inl ⟨rfl, uz⟩
    · refine Or.inr ⟨rfl, i2, [s] ++ D2, by omega, by rw [← List.append_assoc]; exact v2, v3.trans r24, fun st hst => ?_⟩
      have := v4 st hst
      rw [if_pos rfl] at this
      rw [lw_ksa, lw_ks1 (by omega), lq_uk rs, pu_bs, this]
end
