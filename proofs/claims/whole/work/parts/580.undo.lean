/-! UNDO -/
def rl_X : List rl_B := rl_W.drop 15
theorem rl_CX : rl_W = rl_C ++ rl_X := rfl
theorem rl_Xlo : ∀ q ∈ rl_X, 13 ≤ q.1 ∧ q.1 ≤ 54 ∧ 71 ≤ q.2.2.1 := by decide +kernel
theorem rl_Xix {q : rl_B} (hq : q ∈ rl_X) (t : Nat) : 71 ≤ rl_ix q t := by
  have := (rl_Xlo q hq).2.2
  unfold rl_ix
  omega
theorem rl_T.X {o : Nat} {F : Nat → Nat → Int32} {w : Nat → Int32} (h : rl_T rl_W o F w) : rl_T rl_X o F w := fun q hq => h q (by rw [rl_CX]; exact List.mem_append_right _ hq)
theorem rl_T.W {o : Nat} {F : Nat → Nat → Int32} {w : Nat → Int32} (h1 : rl_T rl_C o F w) (h2 : rl_T rl_X o F w) : rl_T rl_W o F w := by
  intro q hq
  rw [rl_CX] at hq
  rcases List.mem_append.mp hq with h | h
  · exact h1 q h
  · exact h2 q h
theorem sm_undo (f g : Nat → Nat → Int32) (h : rl_Rel f g) : ∃ (v : Bool) (f1 g1 : Nat → Nat → Int32), x_undo f = some (v, f1) ∧ m_undo g = some (v, g1) ∧ rl_Rel f1 g1 := by
  obtain ⟨k, n, hk, hn, hrow, hc, hc', hp⟩ := h.rot
  unfold x_undo
  rw [rk_of hk hrow, pu_bs, cnt_of (by omega) hc, pu_bs]
  by_cases h0 : n = 0
  · subst h0
    refine ⟨false, f, g, by rw [if_pos rfl], ?_, h⟩
    unfold m_undo
    rw [hc']
    rfl
  · obtain ⟨m, rfl⟩ : ∃ m, n = m + 1 := ⟨n - 1, by omega⟩
    rw [if_neg h0, pu_let, Nat.add_sub_cancel]
    have hm : m < 6 := by omega
    refine ⟨true, _, _, rfl, mu_undo hm hc', ?_⟩
    have pg := rl_pl_ge m k
    have hd : 2 + 9 < x_pl m k ∨ x_pl m k + 9 < 2 := by omega
    have F : ∀ b, b ≠ 0 → (b < 2 ∨ 11 < b) → x_tk 2 (x_pl m k) (am_up f 0 4 (nI m)) b = f b := fun b h1 h2 => by rw [tk_oth _ hd (by omega), pu_up_ne _ _ h1]
    have F0 : x_tk 2 (x_pl m k) (am_up f 0 4 (nI m)) 0 = upd (f 0) 4 (nI m) := by rw [tk_oth _ hd (by omega), pu_up_row]
    obtain ⟨d1, d2⟩ := hp m (by omega)
    have g217 : am_row (am_up g 216 4 (nI m)) 217 (rl_pw g m) 217 = rl_pw g m := row_row _ _ _
    have gne : ∀ b, b ≠ 217 → b ≠ 216 → am_row (am_up g 216 4 (nI m)) 217 (rl_pw g m) b = g b := fun b h1 h2 => by rw [row_ne _ _ h1, pu_up_ne _ _ h2]
    have hw : ∀ i, 69 ≤ i → rl_pw g m i = g 217 i := fun i hi => by
      unfold rl_pw
      rw [if_neg (by omega)]
    have hT : rl_T rl_C 0 (x_tk 2 (x_pl m k) (am_up f 0 4 (nI m))) (rl_pw g m) := by
      have := tk_T (d := 2) (s := x_pl m k) (f := am_up f 0 4 (nI m)) (w := rl_pw g m) hd (by decide) (by omega) (d1.row fun q hq => pu_up_ne _ _ (by have := (rl_loC q hq).1; omega))
      exact this
    refine rl_anew h ⟨fun a h1 h2 => F a (by omega) (by omega), by rw [F0, pu_upd_ne _ _ (by decide)], by rw [F 123 (by decide) (by decide)], F 124 (by decide) (by decide), by rw [F 128 (by decide) (by decide)], by rw [F 128 (by decide) (by decide)], by rw [F 143 (by decide) (by decide)], by rw [F 143 (by decide) (by decide)], F 150 (by decide) (by decide), F 153 (by decide) (by decide), by rw [F 144 (by decide) (by decide)], gne 218 (by decide) (by decide), gne 224 (by decide) (by decide), rfl, rfl, rfl, rfl⟩ ?_ ?_
    · rw [g217]
      refine iv_oth h.1 (rl_T.W hT ?_) d2 (fun a h1 h2 => F _ (by omega) (by omega)) (fun i h1 h2 => hw i h1)
      refine h.1.1.X.congr (fun q hq t ht => ?_) (fun q hq t ht => hw _ (by have := rl_Xix hq t; omega))
      have := rl_Xlo q hq
      rw [F _ (by omega) (by omega)]
    · refine ⟨k, m, hk, by omega, by rw [F 109 (by decide) (by decide)]; exact hrow, by rw [F0, pu_upd_eq], by rw [row_ne _ _ (by decide), pu_up_row, pu_upd_eq], fun p hpm => ?_⟩
      obtain ⟨e1, e2⟩ := hp p (by omega)
      have e : rl_pw (am_row (am_up g 216 4 (nI m)) 217 (rl_pw g m)) p = rl_pw g p := by
        funext i
        show (if i < 69 then am_row (am_up g 216 4 (nI m)) 217 (rl_pw g m) 219 (69 * p + i) else am_row (am_up g 216 4 (nI m)) 217 (rl_pw g m) 217 i) = if i < 69 then g 219 (69 * p + i) else g 217 i
        rw [gne 219 (by decide) (by decide), g217]
        by_cases hi : i < 69
        · rw [if_pos hi, if_pos hi]
        · rw [if_neg hi, if_neg hi, hw i (by omega)]
      rw [e]
      refine ⟨e1.row fun q hq => ?_, e2⟩
      have := rl_loC q hq
      have := rl_pl_ge p k
      exact F _ (by omega) (by omega)
