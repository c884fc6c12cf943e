/-! steps laid down, on both sides -/
def tx_E (W : List lw_S) (F G : Nat → Nat → Int32) : Prop := F 129 1 = nI (lw_es W).length ∧ (∀ t x, (lw_es W)[t]? = some x → F 130 t = nI x) ∧ G 216 14 = nI W.length ∧ ∀ t s, W[t]? = some s → G 222 (2 * t) = nI s.1 ∧ ((s.1 = 0 ∨ s.1 = 26) → G 222 (2 * t + 1) = nI s.2)
theorem lw_e1 (s : lw_S) : 1 ≤ (lw_e s).length := by
  unfold lw_e
  repeat' split
  all_goals (first | exact Nat.le_refl _ | exact Nat.le_succ _)
theorem lw_esa (P Q : List lw_S) : lw_es (P ++ Q) = lw_es P ++ lw_es Q := by
  unfold lw_es
  exact List.flatMap_append
theorem lw_es1 (s : lw_S) : lw_es [s] = lw_e s := by
  unfold lw_es
  rw [List.flatMap_cons, List.flatMap_nil, List.append_nil]
theorem lw_len : ∀ W : List lw_S, W.length ≤ (lw_es W).length := by
  intro W
  induction W with
  | nil => exact Nat.le_refl _
  | cons s W ih =>
    rw [show s :: W = [s] ++ W from rfl, lw_esa, lw_es1, List.length_append, List.length_append]
    have := lw_e1 s
    show 1 + _ ≤ _
    omega
/-- no fault so far -/
def tx_ok (F : Nat → Nat → Int32) : Prop := F 128 4 = 0 ∧ F 128 5 = -1
theorem tx_ok.to {F F' : Nat → Nat → Int32} (h : tx_ok F) (e : F' 128 = F 128) : tx_ok F' := by
  unfold tx_ok
  rw [e]
  exact h
def tx_S (n : Nat) (b : Nat → Nat) (k N i e : Nat) (W : List lw_S) (F G : Nat → Nat → Int32) : Prop := tx_C n b k N i F G ∧ tx_E W F G ∧ (lw_es W).length + e ≤ i ∧ tx_ok F
section
variable {n : Nat} {b : Nat → Nat} {k N i e : Nat} {W : List lw_S} {F G : Nat → Nat → Int32}
theorem tx_S.lt (h : tx_S n b k N i e W F G) : i ≤ N ∧ N ≤ 400 := by
  have h1 := h.1.2.2.1
  have h2 := h.1.1.1
  omega
theorem tx_S.adv (h : tx_S n b k N i e W F G) (hi : i < N) : ∃ F' G', xt_advance F = some F' ∧ m_next0 G = some G' ∧ tx_S n b k N (i + 1) (e + 1) W F' G' ∧ tx_P F G F' G' ∧ G' 216 24 = G 216 24 ∧ (∀ a, a ≠ 123 → F' a = F a) ∧ tx_fm G G' := by
  obtain ⟨h1, ⟨e1, e2, e3, e4⟩, h3⟩ := h
  obtain ⟨F', G', r1, r2, r3, r4, r5⟩ := tx_adv h1 hi
  refine ⟨F', G', r1, r2, ⟨r3, ⟨by rw [r4 129 (by omega)]; exact e1, by rw [r4 130 (by omega)]; exact e2, by rw [r5.2 14 (by omega) (by omega) (by omega) (by omega)]; exact e3, by rw [r5.1 222 (by omega)]; exact e4⟩, by omega, h3.2.to (r4 128 (by omega))⟩, tx_P.adv r4 r5, r5.2 24 (by omega) (by omega) (by omega) (by omega), r4, r5⟩
theorem tx_S.le {e' : Nat} (h : tx_S n b k N i e W F G) (he : e' ≤ e) : tx_S n b k N i e' W F G := ⟨h.1, h.2.1, by have := h.2.2.1; omega, h.2.2.2⟩
theorem tx_emit0 (h1 : tx_C n b k N i F G) (h2 : tx_E W F G) (l2 : (lw_es W).length < 400) {s : lw_S} {x : Nat} (hx : lw_e s = [x]) (v : Int32) (hv : (s.1 = 0 ∨ s.1 = 26) → v = nI s.2) : ∃ F' G', xl_emit_129 (nI x) F = some F' ∧ m_lay (nI s.1) v G = some G' ∧ tx_C n b k N i F' G' ∧ tx_E (W ++ [s]) F' G' ∧ tx_P F G F' G' ∧ G' 216 24 = G 216 24 ∧ F' 128 = F 128 ∧ F' 123 = F 123 := by
  obtain ⟨e1, e2, e3, e4⟩ := h2
  have hl := lw_len W
  have lt1 : nI (lw_es W).length < nI 400 := nI_lt (by omega) (by omega)
  have c1 : am_in (nI (lw_es W).length) 400 = true := pu_in (by omega) (by omega)
  have m1 : (2 : Int32) * nI W.length = nI (2 * W.length) := by rw [show (2 : Int32) = nI 2 from rfl, pk_mul]
  have c2 : am_in (nI (2 * W.length)) 820 = true := pu_in (by omega) (by omega)
  have c3 : am_in (nI (2 * W.length + 1)) 820 = true := pu_in (by omega) (by omega)
  refine ⟨am_up (am_up F 130 (lw_es W).length (nI x)) 129 1 (nI ((lw_es W).length + 1)), am_up (am_up (am_up G 222 (2 * W.length) (nI s.1)) 222 (2 * W.length + 1) v) 216 14 (nI (W.length + 1)), ?_, ?_, (h1.fx ?_).gx ?_, ⟨?_, ?_, ?_, ?_⟩, ⟨?_, ⟨?_, ?_, ?_⟩, ?_, ?_, fun _ => ⟨(lw_es W).length + 1, by omega, ?_⟩⟩, ?_, ?_, ?_⟩
  · unfold xl_emit_129
    rw [e1]
    simp only [lt1, c1, if_true, pu_letE, nI_clamp (show (lw_es W).length < 2 ^ 31 by omega), pu_up_ne _ _ (show (129 : Nat) ≠ 130 by omega), e1, nI_1]
  · unfold m_lay
    simp only [e3, m1, c2, if_true, pu_letE, nI_clamp (show 2 * W.length < 2 ^ 31 by omega), pu_up_ne _ _ (show (216 : Nat) ≠ 222 by omega), nI_1, c3, nI_clamp (show 2 * W.length + 1 < 2 ^ 31 by omega)]
  · intro a a1 a2
    rw [pu_up_ne _ _ (by omega), pu_up_ne _ _ (by omega)]
  · exact ((tx_gm.row (by omega) _).tr (tx_gm.row (by omega) _)).tr (tx_gm.up (by omega) _)
  · rw [pu_up_row, pu_upd_eq, lw_esa, lw_es1, hx, List.length_append]
    rfl
  · intro t y hy
    rw [lw_esa, lw_es1, hx] at hy
    rw [pu_up_ne _ _ (by omega), pu_up_row]
    by_cases ct : t < (lw_es W).length
    · rw [List.getElem?_append_left ct] at hy
      rw [pu_upd_ne _ _ (by omega)]
      exact e2 t y hy
    · rw [List.getElem?_append_right (by omega)] at hy
      by_cases c0 : t - (lw_es W).length = 0
      · rw [c0] at hy
        have hy : some x = some y := hy
        cases hy
        rw [show t = (lw_es W).length by omega, pu_upd_eq]
      · obtain ⟨z, hz⟩ : ∃ z, t - (lw_es W).length = z + 1 := ⟨t - (lw_es W).length - 1, by omega⟩
        rw [hz] at hy
        cases hy
  · rw [pu_up_row, pu_upd_eq, List.length_append]
    rfl
  · intro t y hy
    rw [pu_up_ne _ _ (by omega), pu_up_row, pu_up_row]
    by_cases ct : t < W.length
    · rw [List.getElem?_append_left ct] at hy
      rw [pu_upd_ne _ _ (by omega), pu_upd_ne _ _ (by omega), pu_upd_ne _ _ (by omega), pu_upd_ne _ _ (by omega)]
      exact e4 t y hy
    · rw [List.getElem?_append_right (by omega)] at hy
      by_cases c0 : t - W.length = 0
      · rw [c0] at hy
        have hy : some s = some y := hy
        cases hy
        rw [show t = W.length by omega, pu_upd_ne _ _ (by omega), pu_upd_eq, pu_upd_eq]
        exact ⟨rfl, hv⟩
      · obtain ⟨z, hz⟩ : ∃ z, t - W.length = z + 1 := ⟨t - W.length - 1, by omega⟩
        rw [hz] at hy
        cases hy
  · intro a a1 a2 a3 a4
    rw [pu_up_ne _ _ a3, pu_up_ne _ _ a4]
  · rw [pu_up_ne _ _ (by omega), pu_up_ne _ _ (by omega)]
  · rw [pu_up_ne _ _ (by omega), pu_up_ne _ _ (by omega)]
  · rw [pu_up_row, pu_upd_ne _ _ (by omega), pu_up_ne _ _ (by omega)]
  · intro a a1 a2 a3
    rw [pu_up_ne _ _ a1, pu_up_ne _ _ a2, pu_up_ne _ _ a2]
  · intro j hj
    rw [pu_up_row, pu_upd_ne _ _ (by omega), pu_up_ne _ _ (by omega), pu_up_ne _ _ (by omega)]
  · rw [pu_up_row, pu_upd_eq]
  · rw [pu_up_row, pu_upd_ne _ _ (by omega), pu_up_ne _ _ (by omega), pu_up_ne _ _ (by omega)]
  · rw [pu_up_ne _ _ (by omega), pu_up_ne _ _ (by omega)]
  · rw [pu_up_ne _ _ (by omega), pu_up_ne _ _ (by omega)]
theorem tx_emit (h : tx_S n b k N i (e + 1) W F G) {s : lw_S} {x : Nat} (hx : lw_e s = [x]) (v : Int32) (hv : (s.1 = 0 ∨ s.1 = 26) → v = nI s.2) : ∃ F' G', xl_emit_129 (nI x) F = some F' ∧ m_lay (nI s.1) v G = some G' ∧ tx_S n b k N i e (W ++ [s]) F' G' ∧ tx_P F G F' G' ∧ G' 216 24 = G 216 24 ∧ F' 128 = F 128 ∧ F' 123 = F 123 := by
  obtain ⟨l1, l2⟩ := h.lt
  have h3 := h.2.2
  obtain ⟨F', G', r1, r2, r3, r4, r5⟩ := tx_emit0 h.1 h.2.1 (by omega) hx v hv
  refine ⟨F', G', r1, r2, ⟨r3, r4, ?_, h3.2.to r5.2.2.1⟩, r5⟩
  rw [lw_esa, lw_es1, hx, List.length_append]
  show _ + 1 + e ≤ i
  omega
theorem tx_S.bad (h : tx_S n b k N i e W F G) (c : Int32) : ∃ F' G', xs_refuse c F = (false, F') ∧ m_bad c G = (false, G') ∧ tx_P F G F' G' ∧ tx_Z F' G' := tx_bad h.1 c
theorem tx_sign (h : tx_S n b k N i e W F G) {c : Nat} (h1 : 40 ≤ c) (h2 : c ≤ 62) : ∃ ok F' G', xs_takeSign (nI c) F = some (ok, F') ∧ m_need (nI (100 + c)) G = some (ok, G') ∧ tx_P F G F' G' ∧ ((ok = false ∧ tx_Z F' G') ∨ (ok = true ∧ tx_S n b k N (i + 1) (e + 1) W F' G' ∧ G' 216 24 = G 216 24 ∧ (∀ a, a ≠ 123 → F' a = F a) ∧ tx_fm G G')) := by
  have hs := h.1.sign h1 h2
  unfold xs_takeSign m_need
  by_cases c : G 216 18 = nI (100 + c)
  · rw [if_pos c, if_pos (hs.mpr c)]
    obtain ⟨F', G', r1, r2, r3, r4, r5, r6, r7⟩ := h.adv (h.1.signN (by omega) c (by omega))
    rw [r1, r2, pu_bs, pu_bs]
    exact ⟨true, F', G', rfl, rfl, r4, Or.inr ⟨rfl, r3, r5, r6, r7⟩⟩
  · rw [if_neg c, if_neg (fun z => c (hs.mp z))]
    obtain ⟨F', G', r1, r2, r3, r4⟩ := h.bad 1
    rw [r1, r2]
    exact ⟨false, F', G', rfl, rfl, r3, Or.inl ⟨rfl, r4⟩⟩
theorem tx_word (h : tx_S n b k N i e W F G) {x : Nat} (h1 : x < (kw_W k).length) : ∃ ok F' G', xs_takeWord (nI x) F = some (ok, F') ∧ m_need (nI (kw_c k x)) G = some (ok, G') ∧ tx_P F G F' G' ∧ ((ok = false ∧ tx_Z F' G') ∨ (ok = true ∧ tx_S n b k N (i + 1) (e + 1) W F' G' ∧ G' 216 24 = G 216 24 ∧ (∀ a, a ≠ 123 → F' a = F a) ∧ tx_fm G G')) := by
  have hs := h.1.word h1
  obtain ⟨c1, c2, _⟩ := kw_cB h.1.2.2.1.1 h1
  unfold xs_takeWord m_need
  by_cases c : G 216 18 = nI (kw_c k x)
  · rw [if_pos c, if_pos (hs.mpr c)]
    obtain ⟨F', G', r1, r2, r3, r4, r5, r6, r7⟩ := h.adv (h.1.signN (by omega) c (by omega))
    rw [r1, r2, pu_bs, pu_bs]
    exact ⟨true, F', G', rfl, rfl, r4, Or.inr ⟨rfl, r3, r5, r6, r7⟩⟩
  · rw [if_neg c, if_neg (fun z => c (hs.mp z))]
    obtain ⟨F', G', r1, r2, r3, r4⟩ := h.bad 1
    rw [r1, r2]
    exact ⟨false, F', G', rfl, rfl, r3, Or.inl ⟨rfl, r4⟩⟩
end
