/-! ROWS: what the other texts take -/
def tx_T (n : Nat) (b : Nat → Nat) (k N i : Nat) (F G : (Nat → Nat → Int32)) : Prop := tx_C n b k N i F G ∧ tx_ok F
def tx_Q (F G F' G' : (Nat → Nat → Int32)) : Prop := (∀ a, a ≠ 123 → a ≠ 128 → F' a = F a) ∧ (F' 128 8 = F 128 8 ∧ F' 128 9 = F 128 9) ∧ (∀ a, a ≠ 216 → a ≠ 223 → G' a = G a) ∧ ∀ j, j < 17 ∨ 22 < j → G' 216 j = G 216 j
theorem tx_Q.rf {F G : (Nat → Nat → Int32)} : tx_Q F G F G := ⟨fun _ _ _ => rfl, ⟨rfl, rfl⟩, fun _ _ _ => rfl, fun _ _ => rfl⟩
theorem tx_Q.tr {F G F' G' F'' G'' : (Nat → Nat → Int32)} (h : tx_Q F G F' G') (h' : tx_Q F' G' F'' G'') : tx_Q F G F'' G'' :=
  ⟨fun a a1 a2 => (h'.1 a a1 a2).trans (h.1 a a1 a2), ⟨h'.2.1.1.trans h.2.1.1, h'.2.1.2.trans h.2.1.2⟩, fun a a1 a2 => (h'.2.2.1 a a1 a2).trans (h.2.2.1 a a1 a2), fun j hj => (h'.2.2.2 j hj).trans (h.2.2.2 j hj)⟩
theorem tx_Q.W {F G F' G' : (Nat → Nat → Int32)} (h : tx_Q F G F' G') : tx_W F G F' G' := ⟨fun a ha => h.1 a (by omega) (by omega), h.2.1, fun a a1 _ _ a2 => h.2.2.1 a a1 a2, fun j hj => h.2.2.2 j (by omega)⟩
section
variable {n : Nat} {b : Nat → Nat} {k N i : Nat} {F G : (Nat → Nat → Int32)}
theorem tx_T.adv (h : tx_T n b k N i F G) (hi : i < N) : ∃ F' G', xt_advance F = some F' ∧ m_next0 G = some G' ∧ tx_T n b k N (i + 1) F' G' ∧ tx_Q F G F' G' ∧ F' 128 = F 128 ∧ G' 223 = G 223 := by
  obtain ⟨F', G', r1, r2, r3, r4, r5⟩ := tx_adv h.1 hi
  exact ⟨F', G', r1, r2, ⟨r3, h.2.to (r4 128 (by omega))⟩, ⟨fun a a1 _ => r4 a a1, ⟨by rw [r4 128 (by omega)], by rw [r4 128 (by omega)]⟩, fun a a1 _ => r5.1 a a1, fun j hj => r5.2 j (by omega) (by omega) (by omega) (by omega)⟩, r4 128 (by omega), r5.1 223 (by omega)⟩
theorem tx_T.bad (h : tx_T n b k N i F G) (c : Int32) : ∃ F' G', xs_refuse c F = (false, F') ∧ m_bad c G = (false, G') ∧ tx_Q F G F' G' ∧ tx_Z F' G' := by
  obtain ⟨a1, a2, a3, a4, a5, a6, ⟨a71, a72, a73⟩, a8, a9, a10, a11⟩ := h.1
  refine ⟨_, _, rfl, rfl, ⟨fun a h1 h2 => ?_, ⟨?_, ?_⟩, fun a h1 h2 => ?_, fun j hj => ?_⟩, ?_, ?_⟩
  · rw [pu_up_ne _ _ h2, pu_up_ne _ _ h2]
  · rw [pu_up_row, pu_upd_ne _ _ (by omega), pu_up_row, pu_upd_ne _ _ (by omega)]
  · rw [pu_up_row, pu_upd_ne _ _ (by omega), pu_up_row, pu_upd_ne _ _ (by omega)]
  · rw [pu_up_ne _ _ h1, pu_up_ne _ _ h1]
  · rw [pu_up_row, pu_upd_ne _ _ (by omega), pu_up_row, pu_upd_ne _ _ (by omega)]
  · rw [pu_up_row, pu_upd_ne _ _ (by omega), pu_up_row, pu_upd_eq, pu_up_row, pu_upd_ne _ _ (by omega), pu_up_row, pu_upd_eq]
  · rw [pu_up_row, pu_upd_eq, pu_up_ne _ _ (by omega), a73, pu_up_row, pu_upd_eq, pu_up_row, pu_upd_ne _ _ (by omega), a10]
theorem tx_T.sign (h : tx_T n b k N i F G) {c : Nat} (h1 : 40 ≤ c) (h2 : c ≤ 62) : ∃ ok F' G', xs_takeSign (nI c) F = some (ok, F') ∧ m_need (nI (100 + c)) G = some (ok, G') ∧ tx_Q F G F' G' ∧ ((ok = false ∧ tx_Z F' G') ∨ (ok = true ∧ tx_T n b k N (i + 1) F' G' ∧ F' 128 = F 128 ∧ G' 223 = G 223)) := by
  have hs := h.1.sign h1 h2
  unfold xs_takeSign m_need
  by_cases c : G 216 18 = nI (100 + c)
  · rw [if_pos c, if_pos (hs.mpr c)]
    obtain ⟨F', G', r1, r2, r3, r4, r5⟩ := h.adv (h.1.signN (by omega) c (by omega))
    rw [r1, r2, pu_bs, pu_bs]
    exact ⟨true, F', G', rfl, rfl, r4, Or.inr ⟨rfl, r3, r5⟩⟩
  · rw [if_neg c, if_neg (fun z => c (hs.mp z))]
    obtain ⟨F', G', r1, r2, r3, r4⟩ := h.bad 1
    rw [r1, r2]
    exact ⟨false, F', G', rfl, rfl, r3, Or.inl ⟨rfl, r4⟩⟩
theorem tx_T.word (h : tx_T n b k N i F G) {x : Nat} (h1 : x < (kw_W k).length) : ∃ ok F' G', xs_takeWord (nI x) F = some (ok, F') ∧ m_need (nI (kw_c k x)) G = some (ok, G') ∧ tx_Q F G F' G' ∧ ((ok = false ∧ tx_Z F' G') ∨ (ok = true ∧ tx_T n b k N (i + 1) F' G' ∧ F' 128 = F 128 ∧ G' 223 = G 223)) := by
  have hs := h.1.word h1
  obtain ⟨c1, c2, _⟩ := kw_cB h.1.2.2.1.1 h1
  unfold xs_takeWord m_need
  by_cases c : G 216 18 = nI (kw_c k x)
  · rw [if_pos c, if_pos (hs.mpr c)]
    obtain ⟨F', G', r1, r2, r3, r4, r5⟩ := h.adv (h.1.signN (by omega) c (by omega))
    rw [r1, r2, pu_bs, pu_bs]
    exact ⟨true, F', G', rfl, rfl, r4, Or.inr ⟨rfl, r3, r5⟩⟩
  · rw [if_neg c, if_neg (fun z => c (hs.mp z))]
    obtain ⟨F', G', r1, r2, r3, r4⟩ := h.bad 1
    rw [r1, r2]
    exact ⟨false, F', G', rfl, rfl, r3, Or.inl ⟨rfl, r4⟩⟩
theorem tx_T.fu (h : tx_T n b k N i F G) {a j : Nat} (ha : 131 ≤ a ∧ a ≤ 142) (v : Int32) : tx_T n b k N i (am_up F a j v) G :=
  ⟨h.1.fx (fun c c1 c2 => pu_up_ne _ _ (by omega)), h.2.to (pu_up_ne _ _ (by omega))⟩
theorem tx_T.f7 (h : tx_T n b k N i F G) (v : Int32) : tx_T n b k N i (am_up F 128 7 v) G :=
  ⟨h.1.fx (fun c c1 c2 => pu_up_ne _ _ (by omega)), by unfold tx_ok; rw [pu_up_row, pu_upd_ne _ _ (by omega), pu_upd_ne _ _ (by omega)]; exact h.2⟩
theorem tx_T.gu (h : tx_T n b k N i F G) {j : Nat} (v : Int32) : tx_T n b k N i F (am_up G 223 j v) :=
  ⟨h.1.gx (tx_gm.row (by omega) _), h.2⟩
theorem tx_T.g15 (h : tx_T n b k N i F G) (v : Int32) : tx_T n b k N i F (am_up G 216 15 v) :=
  ⟨h.1.gx (tx_gm.up (by omega) _), h.2⟩
theorem tx_Q.f7 (v : Int32) : tx_Q F G (am_up F 128 7 v) G := ⟨fun a a1 a2 => pu_up_ne _ _ a2, ⟨by rw [pu_up_row, pu_upd_ne _ _ (by omega)], by rw [pu_up_row, pu_upd_ne _ _ (by omega)]⟩, fun _ _ _ => rfl, fun _ _ => rfl⟩
theorem tx_Q.gu {j : Nat} (v : Int32) : tx_Q F G F (am_up G 223 j v) := ⟨fun _ _ _ => rfl, ⟨rfl, rfl⟩, fun a a1 a2 => pu_up_ne _ _ a2, fun j hj => by rw [pu_up_ne _ _ (by omega)]⟩
theorem tx_W.fu {a j : Nat} (ha : 131 ≤ a ∧ a ≤ 142) (v : Int32) : tx_W F G (am_up F a j v) G := ⟨fun c hc => pu_up_ne _ _ (by omega), ⟨by rw [pu_up_ne _ _ (by omega)], by rw [pu_up_ne _ _ (by omega)]⟩, fun _ _ _ _ _ => rfl, fun _ _ => rfl⟩
/-- a number within bounds -/
theorem tx_T.numb (h : tx_T n b k N i F G) {p : Nat} (hp : p < 264) (lo hi : Int32) : ∃ ok F' G', xs_takeNumber lo hi F = some (ok, F') ∧ m_number (nI p) lo hi G = some (ok, G') ∧ tx_Q F G F' G' ∧ ((ok = false ∧ tx_Z F' G') ∨ (ok = true ∧ ∃ v, v ≤ 9999 ∧ F 123 1 = 2 ∧ F 123 2 = nI v ∧ m_isIn (nI v) lo hi = true ∧ tx_T n b k N (i + 1) F' G' ∧ F' 128 7 = nI v ∧ G' 223 = upd (G 223) p (nI v))) := by
  unfold xs_takeNumber m_number
  by_cases c : F 123 1 = 2
  · obtain ⟨hi1, v, v1, v2, v3⟩ := h.1.numV c
    rw [if_pos c, if_pos (h.1.num.mp c), v2, v3]
    unfold m_isIn
    by_cases c1 : nI v < lo
    · obtain ⟨F', G', b1, b2, b3, b4⟩ := h.bad 2
      rw [if_pos c1, if_pos c1, b1, if_neg Bool.false_ne_true, b2]
      exact ⟨false, F', G', rfl, rfl, b3, Or.inl ⟨rfl, b4⟩⟩
    · by_cases c2 : hi < nI v
      · obtain ⟨F', G', b1, b2, b3, b4⟩ := h.bad 2
        rw [if_neg c1, if_neg c1, if_pos c2, if_pos c2, b1, if_neg Bool.false_ne_true, b2]
        exact ⟨false, F', G', rfl, rfl, b3, Or.inl ⟨rfl, b4⟩⟩
      · rw [if_neg c1, if_neg c1, if_neg c2, if_neg c2, if_pos rfl, if_pos (pu_in hp (by omega)), pu_letE, nI_clamp (by omega)]
        obtain ⟨F', G', r1, r2, r3, r4, r5, r6⟩ := ((h.f7 (nI v)).gu (j := p) (nI v)).adv hi1
        rw [r1, pu_bs, pu_letE, r2, pu_bs]
        refine ⟨true, F', G', rfl, rfl, ((tx_Q.f7 _).tr (tx_Q.gu _)).tr r4, Or.inr ⟨rfl, v, v1, c, rfl, ?_, r3, by rw [r5, pu_up_row, pu_upd_eq], by rw [r6, pu_up_row]⟩⟩
        rw [if_neg c1, if_neg c2]
  · obtain ⟨F', G', b1, b2, b3, b4⟩ := h.bad 1
    rw [if_neg c, if_neg (fun z => c (h.1.num.mpr z)), b1, b2]
    exact ⟨false, F', G', rfl, rfl, b3, Or.inl ⟨rfl, b4⟩⟩
end
