/-! A PAST IS KEPT on both sides; UNDO -/
theorem rl_pw_new {g g1 : Nat → Nat → Int32} {p : Nat} (h1 : g1 217 = g 217) (h2 : ∀ i, i < 69 → g1 219 (69 * p + i) = g 217 i) : rl_pw g1 p = g 217 := by
  funext i
  unfold rl_pw
  by_cases hi : i < 69
  · rw [if_pos hi, h2 i hi]
  · rw [if_neg hi, h1]
theorem rl_pw_old {g g1 : Nat → Nat → Int32} {p q : Nat} (h1 : g1 217 = g 217) (h2 : ∀ i, i < 69 → g1 219 (69 * p + i) = g 219 (69 * q + i)) : rl_pw g1 p = rl_pw g q := by
  funext i
  unfold rl_pw
  by_cases hi : i < 69
  · rw [if_pos hi, if_pos hi, h2 i hi]
  · rw [if_neg hi, if_neg hi, h1]
theorem rl_keep {f g : Nat → Nat → Int32} (h : rl_Rel f g) : ∃ f1 g1, x_keepPast f = some f1 ∧ m_keeps g = some g1 ∧ rl_Rel f1 g1 ∧ g1 216 26 = 1 ∧ g1 217 = g 217 ∧ (∀ a, 1 ≤ a → a ≤ 108 → f1 a = f a) ∧ (∀ a, 110 ≤ a → a < 156 → f1 a = f a) ∧ (∀ a, a ≠ 216 → a ≠ 219 → g1 a = g a) := by
  obtain ⟨k, n, hk, hn, hrow, hc, hc', hp⟩ := h.rot
  have e1 := rk_of hk hrow
  have e2 := cnt_of (by omega) hc
  have e3 := mk_keeps hn hc'
  unfold x_keepPast
  rw [e1, pu_bs, e2, pu_bs]
  by_cases h6 : n < 6
  · rw [if_pos h6]
    rw [if_pos h6] at e3
    have pg := rl_pl_ge n k
    have hd : x_pl n k + 9 < 2 ∨ 2 + 9 < x_pl n k := by omega
    have F : ∀ b, b ≠ 0 → (b < x_pl n k ∨ x_pl n k + 9 < b) → am_up (x_tk (x_pl n k) 2 f) 0 4 (nI (n + 1)) b = f b := fun b h0 hb => by rw [pu_up_ne _ _ h0, tk_oth f hd hb]
    have g217 : (am_up (am_up (mk_cp n g) 216 4 (nI (n + 1))) 216 26 1) 217 = g 217 := rfl
    refine ⟨_, _, rfl, e3, ?_, rfl, g217, fun a h1 h2 => F a (by omega) (by omega), fun a h1 h2 => F a (by omega) (by omega), fun a h1 h2 => by rw [pu_up_ne _ _ h1, pu_up_ne _ _ h1]; exact row_ne _ _ h2⟩
    refine rl_anew h ⟨fun a h1 h2 => F a (by omega) (by omega), ?_, by rw [F 123 (by decide) (by omega)], F 124 (by decide) (by omega), by rw [F 128 (by decide) (by omega)], by rw [F 128 (by decide) (by omega)], by rw [F 143 (by decide) (by omega)], by rw [F 143 (by decide) (by omega)], F 150 (by decide) (by omega), F 153 (by decide) (by omega), by rw [F 144 (by decide) (by omega)], rfl, rfl, rfl, rfl, rfl, rfl⟩ ?_ ?_
    · rw [pu_up_row, pu_upd_ne _ _ (by decide), tk_oth f hd (by omega)]
    · rw [g217]
      exact h.1.congr fun a h1 h2 => F _ (by omega) (by omega)
    · refine ⟨k, n + 1, hk, by omega, by rw [F 109 (by decide) (by omega)]; exact hrow, by rw [pu_up_row, pu_upd_eq], rfl, fun p hpn => ?_⟩
      by_cases ep : p = n
      · subst ep
        rw [rl_pw_new g217 (fun i hi => ?_)]
        · exact ⟨(tk_T hd (by omega) (by decide) h.1.1.C).row fun q hq => pu_up_ne _ _ (by have := (rl_loC q hq).1; omega), h.1.2.1⟩
        · show (if 69 * p ≤ 69 * p + i ∧ 69 * p + i < 69 * p + 69 then g 217 (69 * p + i - 69 * p) else g 219 (69 * p + i)) = g 217 i
          rw [if_pos ⟨by omega, by omega⟩]
          congr 1
          omega
      · have hlt : p < n := by omega
        obtain ⟨d1, d2⟩ := hp p hlt
        rw [rl_pw_old (q := p) g217 (fun i hi => ?_)]
        · refine ⟨d1.row fun q hq => ?_, d2⟩
          have := rl_loC q hq
          have := rl_pl_ge p k
          have := pl_ne (k := k) (show p < 6 by omega) h6 ep
          exact F _ (by omega) (by omega)
        · show (if 69 * n ≤ 69 * p + i ∧ 69 * p + i < 69 * n + 69 then g 217 (69 * p + i - 69 * n) else g 219 (69 * p + i)) = g 219 (69 * p + i)
          rw [if_neg (by omega)]
  · have en : n = 6 := by omega
    subst en
    rw [if_neg h6]
    rw [if_neg h6] at e3
    simp only [am_let]
    have pg := rl_pl_ge 5 (k + 1)
    have hd : x_pl 5 (k + 1) + 9 < 2 ∨ 2 + 9 < x_pl 5 (k + 1) := by omega
    have F : ∀ b, b ≠ 0 → b ≠ 109 → (b < x_pl 5 (k + 1) ∨ x_pl 5 (k + 1) + 9 < b) → am_up (x_tk (x_pl 5 (k + 1)) 2 (am_up (x_lay (k + 1) f) 0 4 5)) 0 4 6 b = f b := fun b h0 h1 hb => by
      rw [pu_up_ne _ _ h0, tk_oth _ hd hb, pu_up_ne _ _ h0]
      exact row_ne _ _ h1
    have F2 : ∀ b, 2 ≤ b → b ≤ 11 → am_up (x_lay (k + 1) f) 0 4 5 b = f b := fun b h1 h2 => by
      rw [pu_up_ne _ _ (by omega)]
      exact row_ne _ _ (by omega)
    have g217 : (am_up (am_up (mk_cp 5 (am_up (mk_sh g) 216 4 5)) 216 4 6) 216 26 1) 217 = g 217 := rfl
    refine ⟨_, _, rfl, e3, ?_, rfl, g217, fun a h1 h2 => F a (by omega) (by omega) (by omega), fun a h1 h2 => F a (by omega) (by omega) (by omega), fun a h1 h2 => by
      rw [pu_up_ne _ _ h1, pu_up_ne _ _ h1]
      show mk_cp 5 (am_up (mk_sh g) 216 4 5) a = g a
      unfold mk_cp
      rw [row_ne _ _ h2, pu_up_ne _ _ h1]
      exact row_ne _ _ h2⟩
    refine rl_anew h ⟨fun a h1 h2 => F a (by omega) (by omega) (by omega), ?_, by rw [F 123 (by decide) (by decide) (by omega)], F 124 (by decide) (by decide) (by omega), by rw [F 128 (by decide) (by decide) (by omega)], by rw [F 128 (by decide) (by decide) (by omega)], by rw [F 143 (by decide) (by decide) (by omega)], by rw [F 143 (by decide) (by decide) (by omega)], F 150 (by decide) (by decide) (by omega), F 153 (by decide) (by decide) (by omega), by rw [F 144 (by decide) (by decide) (by omega)], rfl, rfl, rfl, rfl, rfl, rfl⟩ ?_ ?_
    · rw [pu_up_row, pu_upd_ne _ _ (by decide), tk_oth _ hd (by omega), pu_up_row, pu_upd_ne _ _ (by decide)]
      rfl
    · rw [g217]
      exact h.1.congr fun a h1 h2 => F _ (by omega) (by omega) (by omega)
    · refine ⟨(k + 1) % 6, 6, Nat.mod_lt _ (by decide), Nat.le_refl _, fun j hj => ?_, by rw [pu_up_row, pu_upd_eq]; rfl, rfl, fun p hpn => ?_⟩
      · rw [pu_up_ne _ _ (by decide), tk_oth _ hd (by omega), pu_up_ne _ _ (by decide), pl_mod]
        show (if j < 6 then nI (x_pl j (k + 1) + 1) else f 109 j) = _
        rw [if_pos hj]
      · rw [pl_mod]
        by_cases ep : p = 5
        · subst ep
          rw [rl_pw_new g217 (fun i hi => ?_)]
          · exact ⟨(tk_T (s := 2) hd (by omega) (by decide) (h.1.1.C.row fun q hq => by
              have := rl_loC q hq
              exact F2 _ (by omega) (by omega))).row fun q hq => pu_up_ne _ _ (by have := (rl_loC q hq).1; omega), h.1.2.1⟩
          · show (if 69 * 5 ≤ 69 * 5 + i ∧ 69 * 5 + i < 69 * 5 + 69 then g 217 (69 * 5 + i - 69 * 5) else _) = g 217 i
            rw [if_pos ⟨by omega, by omega⟩, show 69 * 5 + i - 69 * 5 = i by omega]
        · obtain ⟨d1, d2⟩ := hp (p + 1) (by omega)
          rw [rl_pw_old (q := p + 1) g217 (fun i hi => ?_)]
          · refine ⟨?_, d2⟩
            rw [pl_succ]
            refine d1.row fun q hq => ?_
            have := rl_loC q hq
            have := rl_pl_ge (p + 1) k
            have := pl_ne (k := k + 1) (show p < 6 by omega) (show 5 < 6 by decide) ep
            rw [pl_succ p k] at this
            exact F _ (by omega) (by omega) (by omega)
          · show (if 69 * 5 ≤ 69 * p + i ∧ 69 * p + i < 69 * 5 + 69 then g 217 (69 * p + i - 69 * 5) else if 69 * p + i < 345 then g 219 (69 * p + i + 69) else g 219 (69 * p + i)) = g 219 (69 * (p + 1) + i)
            rw [if_neg (by omega), if_pos (by omega)]
            congr 1
            omega
/-- the model's row out of a past -/
theorem mu_undo {g : Nat → Nat → Int32} {n : Nat} (hn : n < 6) (h : g 216 4 = nI (n + 1)) : m_undo g = some (true, am_row (am_up g 216 4 (nI n)) 217 (rl_pw g n)) := by
  unfold m_undo
  rw [h, if_neg (nI_ne0 (by omega) (by omega))]
  rw [pu_let, nI_pred]
  refine pu_for (fun i => (nI i, am_row (am_up g 216 4 (nI n)) 217 (fun x => if x < i then g 219 (69 * n + x) else g 217 x))) 69 ?_ (fun i hi => ?_) ?_
  · refine Prod.ext rfl ?_
    show am_up g 216 4 (nI n) = am_row _ 217 _
    conv => lhs; rw [← row_self (am_up g 216 4 (nI n)) 217]
    rfl
  · have e1 : (69 : Int32) * nI n + nI i = nI (69 * n + i) := by rw [show (69 : Int32) = nI 69 from rfl, pk_mul, nI_add]
    have e2 : am_up g 216 4 (nI n) 216 4 = nI n := by rw [pu_up_row, pu_upd_eq]
    have e3 : am_up g 216 4 (nI n) 219 = g 219 := pu_up_ne _ _ (by decide)
    simp only [row_ne (am_up g 216 4 (nI n)) _ (show (216 : Nat) ≠ 217 by decide), row_ne (am_up g 216 4 (nI n)) _ (show (219 : Nat) ≠ 217 by decide), e2, e3, e1, am_let]
    rw [if_pos (show nI i < (69 : Int32) from nI_lt (b := 69) hi (by omega)), if_pos (pu_in (by omega) (by omega)), if_pos (pu_in (by omega) (by omega)), nI_clamp (by omega), nI_clamp (by omega), row_up, nI_1]
    congr 4
    funext x
    unfold upd
    by_cases hx : x = i
    · subst hx
      rw [if_pos rfl, if_pos (by omega)]
    · rw [if_neg hx]
      dsimp only
      by_cases hy : x < i
      · rw [if_pos hy, if_pos (by omega)]
      · rw [if_neg hy, if_neg (by omega)]
  · show (if nI 69 < (69 : Int32) then _ else _) = _
    rw [if_neg (by decide)]
    rfl
