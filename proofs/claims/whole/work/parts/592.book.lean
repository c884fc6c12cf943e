/-! THE BOOK, UNDER, OUT -/
def nt_w (a b c : Int32) (w : Nat → Int32) : Nat → Int32 := if w 2 = 150 then w else upd (upd (upd (upd (upd w (524 + 4 * (w 2).toNatClampNeg) (w 0)) (525 + 4 * (w 2).toNatClampNeg) a) (526 + 4 * (w 2).toNatClampNeg) b) (527 + 4 * (w 2).toNatClampNeg) c) 2 (w 2 + 1)
def nt_g (rl : Bool) (a b c : Int32) (g : Nat → Nat → Int32) : Nat → Nat → Int32 := if rl = true then am_row g 217 (nt_w a b c (g 217)) else g
theorem nt_mg {rl : Bool} {g : Nat → Nat → Int32} {k : Nat} (h26 : g 216 26 = am_b rl) (hk : k ≤ 150) (h2 : g 217 2 = nI k) (a b c : Int32) : m_notes a b c g = some (nt_g rl a b c g) := by
  unfold m_notes nt_g nt_w
  cases rl with
  | false => rw [h26, if_pos (show am_b false = 0 from rfl), if_neg (by decide)]
  | true =>
    rw [h26, if_neg (show ¬ am_b true = 0 by decide), if_pos rfl, h2]
    by_cases hz : nI k = 150
    · rw [if_pos hz, if_pos hz, row_self]
    · rw [if_neg hz, if_neg hz]
      have hk2 : k < 150 := by
        by_cases e : k = 150
        · exact absurd (by rw [e]; rfl) hz
        · omega
      rw [show (4 : Int32) = nI 4 from rfl, show (524 : Int32) = nI 524 from rfl, pk_mul, nI_add, nI_clamp (show k < 2 ^ 31 by omega)]
      have e1 : nI (524 + 4 * k) + 1 = nI (525 + 4 * k) := by rw [nI_1]; congr 1; omega
      have e2 : nI (524 + 4 * k) + 2 = nI (526 + 4 * k) := by rw [show (2 : Int32) = nI 2 from rfl, nI_add]; congr 1; omega
      have e3 : nI (524 + 4 * k) + 3 = nI (527 + 4 * k) := by rw [show (3 : Int32) = nI 3 from rfl, nI_add]; congr 1; omega
      simp only [am_let, e1, e2, e3, pu_in (show 524 + 4 * k < 2008 by omega) (show 2008 ≤ 2 ^ 31 by omega), pu_in (show 525 + 4 * k < 2008 by omega) (show 2008 ≤ 2 ^ 31 by omega), pu_in (show 526 + 4 * k < 2008 by omega) (show 2008 ≤ 2 ^ 31 by omega), pu_in (show 527 + 4 * k < 2008 by omega) (show 2008 ≤ 2 ^ 31 by omega), if_true, nI_clamp (show 524 + 4 * k < 2 ^ 31 by omega), nI_clamp (show 525 + 4 * k < 2 ^ 31 by omega), nI_clamp (show 526 + 4 * k < 2 ^ 31 by omega), nI_clamp (show 527 + 4 * k < 2 ^ 31 by omega), pu_up_row, pu_upd_ne _ _ (show 2 ≠ 524 + 4 * k by omega), pu_upd_ne _ _ (show 2 ≠ 525 + 4 * k by omega), pu_upd_ne _ _ (show 2 ≠ 526 + 4 * k by omega), pu_upd_ne _ _ (show 2 ≠ 527 + 4 * k by omega), h2]
      unfold am_up
      simp only [row_row]
      congr 1
      funext x
      unfold am_row
      by_cases hx : x = 217
      · simp only [if_pos hx]
      · simp only [if_neg hx]
theorem nt_w_comm {j : Nat} (h0 : j ≠ 0) (h2 : j ≠ 2) (hj : j < 524) (a b c v : Int32) (w : Nat → Int32) : nt_w a b c (upd w j v) = upd (nt_w a b c w) j v := by
  unfold nt_w
  rw [pu_upd_ne w v (show 2 ≠ j by omega), pu_upd_ne w v (show 0 ≠ j by omega)]
  by_cases hz : w 2 = 150
  · rw [if_pos hz, if_pos hz]
  · rw [if_neg hz, if_neg hz]
    generalize (w 2).toNatClampNeg = k
    rw [pu_upd_comm _ _ _ (show j ≠ 524 + 4 * k by omega), pu_upd_comm _ _ _ (show j ≠ 525 + 4 * k by omega), pu_upd_comm _ _ _ (show j ≠ 526 + 4 * k by omega), pu_upd_comm _ _ _ (show j ≠ 527 + 4 * k by omega), pu_upd_comm _ _ _ (show j ≠ 2 from h2)]
theorem nt_up {j : Nat} (h0 : j ≠ 0) (h2 : j ≠ 2) (hj : j < 524) (rl : Bool) (a b c v : Int32) (g : Nat → Nat → Int32) : nt_g rl a b c (am_up g 217 j v) = am_up (nt_g rl a b c g) 217 j v := by
  unfold nt_g
  cases rl with
  | false => rw [if_neg (by decide), if_neg (by decide)]
  | true =>
    rw [if_pos rfl, if_pos rfl, row_up, pu_up_row, nt_w_comm h0 h2 hj]
    funext x
    unfold am_row am_up am_row
    by_cases hx : x = 217
    · rw [if_pos hx, if_pos hx]
    · rw [if_neg hx, if_neg hx, if_neg hx]
theorem nt_oth (rl : Bool) (a b c : Int32) (g : Nat → Nat → Int32) {x : Nat} (hx : x ≠ 217) : nt_g rl a b c g x = g x := by
  unfold nt_g
  cases rl with
  | false => rw [if_neg (by decide)]
  | true => rw [if_pos rfl, row_ne _ _ hx]
theorem nt_w_lo (a b c : Int32) (w : Nat → Int32) {i : Nat} (hi : i < 524) (h2 : i ≠ 2) : nt_w a b c w i = w i := by
  unfold nt_w
  by_cases hz : w 2 = 150
  · rw [if_pos hz]
  · rw [if_neg hz, pu_upd_ne _ _ h2, pu_upd_ne _ _ (by omega), pu_upd_ne _ _ (by omega), pu_upd_ne _ _ (by omega), pu_upd_ne _ _ (by omega)]
theorem nt_lo (rl : Bool) (a b c : Int32) (g : Nat → Nat → Int32) {i : Nat} (hi : i < 524) (h2 : i ≠ 2) : nt_g rl a b c g 217 i = g 217 i := by
  unfold nt_g
  cases rl with
  | false => rw [if_neg (by decide)]
  | true => rw [if_pos rfl, row_row, nt_w_lo _ _ _ _ hi h2]
theorem rl_sX {F : Nat → Nat → Int32} {w : Nat → Int32} (h : rl_T rl_X 0 F w) {t : Nat} (ht : t < 600) (v : Int32) : rl_T rl_X 0 (am_up F 13 t v) (upd w (524 + t) v) := by
  have hq : ((13, 0, 524, 600, 1) : rl_B) ∈ rl_X := List.mem_of_getElem? (i := 0) rfl
  have g := h.set (fun q hq => by rw [rl_CX]; exact List.mem_append_right _ hq) hq (t := t) ht v
  have e : rl_ix (13, 0, 524, 600, 1) t = 524 + t := by
    show 524 + 1 * t = _
    omega
  rw [e] at g
  have e2 : ((13, 0, 524, 600, 1) : rl_B).2.1 + t = t := Nat.zero_add t
  rw [e2] at g
  exact g
theorem rl_T.oC {o : Nat} {F F' : Nat → Nat → Int32} {w w' : Nat → Int32} (h : rl_T rl_C o F w) (hF : ∀ a, 2 ≤ a → a ≤ 11 → F' (a + o) = F (a + o)) (hw : ∀ i, i < 87 → w' i = w i) : rl_T rl_C o F' w' :=
  h.congr (fun q hq t ht => by have := rl_loC q hq; rw [hF _ this.1 this.2]) (fun q hq t ht => hw _ (rl_iC hq ht))
theorem rl_T.oX {F F' : Nat → Nat → Int32} {w w' : Nat → Int32} (h : rl_T rl_X 0 F w) (hF : ∀ a, 13 ≤ a → a ≤ 54 → F' a = F a) (hw : ∀ i, 71 ≤ i → w' i = w i) : rl_T rl_X 0 F' w' :=
  h.congr (fun q hq t ht => by have := rl_Xlo q hq; rw [Nat.add_zero, hF _ this.1 this.2.1]) (fun q hq t ht => hw _ (rl_Xix hq t))
theorem iv_c_cg {c : Nat → Nat} {T : Nat} {w w' : Nat → Int32} (h : iv_Cc c T w) (e : ∀ i, i < 87 → w' i = w i) : iv_Cc c T w' := by
  obtain ⟨n, m, t, b, x1, x2, x3, x4, x5, x6, x7, x8, x9, x10, x11, x12, x13⟩ := h
  refine ⟨n, m, t, b, by rw [e _ (by decide)]; exact x1, x2, by rw [e _ (by decide)]; exact x3, x4, by rw [e _ (by decide)]; exact x5, x6, by rw [e _ (by decide)]; exact x7, x8, fun i hi => ?_, fun i hi => ?_, fun i hi => ?_, fun i hi => ?_, fun i hi => ?_⟩
  · rw [e _ (by omega)]; exact x9 i hi
  · rw [e _ (by omega)]; exact x10 i hi
  · rw [e _ (by omega)]; exact x11 i hi
  · rw [e _ (by omega)]; exact x12 i hi
  · exact ⟨by rw [e _ (by omega)]; exact (x13 i hi).1, fun hm => by rw [e _ (by omega), e _ (by omega)]; exact (x13 i hi).2 hm⟩
/-- a line of the book -/
theorem nt_2 {c : Nat → Nat} {T : Nat} {f g : Nat → Nat → Int32} (h : tk_R 0 true c T f g) (a b d : Int32) : ∃ f', xb_note_2 a b d true f = some f' ∧ m_notes a b d g = some (nt_g true a b d g) ∧ tk_R 0 true c T f' (nt_g true a b d g) ∧ tk_F 0 true f f' g (nt_g true a b d g) ∧ (∀ x, x ≠ 13 → x ≠ 2 → f' x = f x) := by
  obtain ⟨n, m, t, k, x1, x2, x3, x4, x5, x6, x7, x8, -⟩ := h.2.2.1
  have e4 : f 2 4 = nI k := by rw [rl_g_bn (o := 0) h.1]; exact x7
  have e2 : f 2 2 = g 217 0 := rl_g_ti (o := 0) h.1
  have hm := nt_mg h.2.2.2.2.2.2.2 x8 x7 a b d
  unfold xb_note_2
  rw [if_pos rfl]
  unfold xk_write_12_2
  rw [e4]
  by_cases hk : k < 150
  · rw [if_pos (show nI k < (150 : Int32) from nI_lt (b := 150) hk (by omega)), show (4 : Int32) = nI 4 from rfl, pk_mul]
    have q1 : nI (4 * k) + 1 = nI (4 * k + 1) := nI_1 _
    have q2 : nI (4 * k) + 2 = nI (4 * k + 2) := nI_add _ 2
    have q3 : nI (4 * k) + 3 = nI (4 * k + 3) := nI_add _ 3
    have hg : nt_g true a b d g = am_up (am_up (am_up (am_up (am_up g 217 (524 + 4 * k) (g 217 0)) 217 (524 + (4 * k + 1)) a) 217 (524 + (4 * k + 2)) b) 217 (524 + (4 * k + 3)) d) 217 2 (nI (k + 1)) := by
      unfold nt_g nt_w
      rw [if_pos rfl, x7, if_neg (fun z : nI k = (150 : Int32) => by have := pu_nIinj (a := k) (b := 150) (by omega) (by omega) z; omega), nI_clamp (by omega), nI_1, show 524 + (4 * k + 1) = 525 + 4 * k by omega, show 524 + (4 * k + 2) = 526 + 4 * k by omega, show 524 + (4 * k + 3) = 527 + 4 * k by omega]
      unfold am_up
      simp only [row_row]
      funext x
      unfold am_row
      by_cases hx : x = 217
      · simp only [if_pos hx]
      · simp only [if_neg hx]
    rw [hg] at hm ⊢
    refine ⟨am_up (am_up (am_up (am_up (am_up f 13 (4 * k) (g 217 0)) 13 (4 * k + 1) a) 13 (4 * k + 2) b) 13 (4 * k + 3) d) 2 4 (nI (k + 1)), ?_, hm, ?_, ?_, fun x hx1 hx2 => by rw [pu_up_ne _ _ hx2, pu_up_ne _ _ hx1, pu_up_ne _ _ hx1, pu_up_ne _ _ hx1, pu_up_ne _ _ hx1]⟩
    · simp only [am_let, q1, q2, q3, pu_in (show 4 * k < 600 by omega) (show 600 ≤ 2 ^ 31 by omega), pu_in (show 4 * k + 1 < 600 by omega) (show 600 ≤ 2 ^ 31 by omega), pu_in (show 4 * k + 2 < 600 by omega) (show 600 ≤ 2 ^ 31 by omega), pu_in (show 4 * k + 3 < 600 by omega) (show 600 ≤ 2 ^ 31 by omega), if_true, nI_clamp (show 4 * k < 2 ^ 31 by omega), nI_clamp (show 4 * k + 1 < 2 ^ 31 by omega), nI_clamp (show 4 * k + 2 < 2 ^ 31 by omega), nI_clamp (show 4 * k + 3 < 2 ^ 31 by omega), pu_up_ne _ _ (show (2 : Nat) ≠ 13 by decide), e4, e2, nI_1, pu_bs]
    · have F : tk_F 0 true f (am_up (am_up (am_up (am_up (am_up f 13 (4 * k) (g 217 0)) 13 (4 * k + 1) a) 13 (4 * k + 2) b) 13 (4 * k + 3) d) 2 4 (nI (k + 1))) g (am_up (am_up (am_up (am_up (am_up g 217 (524 + 4 * k) (g 217 0)) 217 (524 + (4 * k + 1)) a) 217 (524 + (4 * k + 2)) b) 217 (524 + (4 * k + 3)) d) 217 2 (nI (k + 1))) := by
        refine ⟨fun x x1 x2 x3 x4 => ?_, fun x x1 x2 x3 => ?_, fun i x1 x2 => ?_, fun j hj => ?_⟩
        · have : x ≠ 13 := fun z => by have := x4 z; cases this
          rw [pu_up_ne _ _ (by omega), pu_up_ne _ _ this, pu_up_ne _ _ this, pu_up_ne _ _ this, pu_up_ne _ _ this]
        · rw [pu_up_ne _ _ x1, pu_up_ne _ _ x1, pu_up_ne _ _ x1, pu_up_ne _ _ x1, pu_up_ne _ _ x1]
        · have : i < 524 ∨ 1124 ≤ i := x2.resolve_right (by decide)
          rw [pu_up_row, pu_up_row, pu_up_row, pu_up_row, pu_up_row, pu_upd_ne _ _ (by omega), pu_upd_ne _ _ (by omega), pu_upd_ne _ _ (by omega), pu_upd_ne _ _ (by omega), pu_upd_ne _ _ (by omega)]
        · rw [pu_up_row, pu_up_row, pu_up_row, pu_up_row, pu_up_row, pu_upd_ne _ _ (by omega), pu_upd_ne _ _ (by omega), pu_upd_ne _ _ (by omega), pu_upd_ne _ _ (by omega), pu_upd_ne _ _ (by omega)]
          exact Int.le_refl _
      refine h.frame (Or.inl rfl) F ?_ ?_ ?_
      · rw [pu_up_row, pu_up_row, pu_up_row, pu_up_row, pu_up_row]
        refine rl_s_bn (o := 0) (h.1.oC (fun x x1 x2 => ?_) (fun i hi => ?_)) _
        · rw [pu_up_ne _ _ (by omega), pu_up_ne _ _ (by omega), pu_up_ne _ _ (by omega), pu_up_ne _ _ (by omega)]
        · rw [pu_upd_ne _ _ (by omega), pu_upd_ne _ _ (by omega), pu_upd_ne _ _ (by omega), pu_upd_ne _ _ (by omega)]
      · rw [pu_up_row, pu_up_row, pu_up_row, pu_up_row, pu_up_row]
        have s1 := rl_sX h.2.1 (t := 4 * k) (by omega) (g 217 0)
        have s2 := rl_sX s1 (t := 4 * k + 1) (by omega) a
        have s3 := rl_sX s2 (t := 4 * k + 2) (by omega) b
        have s4 := rl_sX s3 (t := 4 * k + 3) (by omega) d
        exact s4.oX (fun x x1 x2 => pu_up_ne _ _ (by omega)) (fun i hi => pu_upd_ne _ _ (by omega))
      · rw [pu_up_row, pu_up_row, pu_up_row, pu_up_row, pu_up_row]
        refine iv_c_bn ?_ (by omega)
        refine iv_c_cg h.2.2.1 (fun i hi => ?_)
        rw [pu_upd_ne _ _ (by omega), pu_upd_ne _ _ (by omega), pu_upd_ne _ _ (by omega), pu_upd_ne _ _ (by omega)]
    · refine ⟨fun x x1 x2 x3 x4 => ?_, fun x x1 x2 x3 => ?_, fun i x1 x2 => ?_, fun j hj => ?_⟩
      · have : x ≠ 13 := fun z => by have := x4 z; cases this
        rw [pu_up_ne _ _ (by omega), pu_up_ne _ _ this, pu_up_ne _ _ this, pu_up_ne _ _ this, pu_up_ne _ _ this]
      · rw [pu_up_ne _ _ x1, pu_up_ne _ _ x1, pu_up_ne _ _ x1, pu_up_ne _ _ x1, pu_up_ne _ _ x1]
      · have : i < 524 ∨ 1124 ≤ i := x2.resolve_right (by decide)
        rw [pu_up_row, pu_up_row, pu_up_row, pu_up_row, pu_up_row, pu_upd_ne _ _ (by omega), pu_upd_ne _ _ (by omega), pu_upd_ne _ _ (by omega), pu_upd_ne _ _ (by omega), pu_upd_ne _ _ (by omega)]
      · rw [pu_up_row, pu_up_row, pu_up_row, pu_up_row, pu_up_row, pu_upd_ne _ _ (by omega), pu_upd_ne _ _ (by omega), pu_upd_ne _ _ (by omega), pu_upd_ne _ _ (by omega), pu_upd_ne _ _ (by omega)]
        exact Int.le_refl _
  · have ek : k = 150 := by omega
    subst ek
    have hg : nt_g true a b d g = g := by
      unfold nt_g nt_w
      rw [if_pos rfl, x7, if_pos (show nI 150 = (150 : Int32) from rfl), row_self]
    rw [hg] at hm ⊢
    exact ⟨f, by rw [if_neg (show ¬ nI 150 < (150 : Int32) by decide)]; rfl, hm, h, tk_F.rf, fun _ _ _ => rfl⟩
theorem nt_110 {c : Nat → Nat} {T : Nat} {f g : Nat → Nat → Int32} (h : tk_R 108 false c T f g) (a b d : Int32) : ∃ f', xb_note_110 a b d false f = some f' ∧ m_notes a b d g = some (nt_g false a b d g) ∧ tk_R 108 false c T f' (nt_g false a b d g) ∧ tk_F 108 false f f' g (nt_g false a b d g) ∧ (∀ x, x ≠ 13 → x ≠ 2 → f' x = f x) := by
  obtain ⟨n, m, t, k, x1, x2, x3, x4, x5, x6, x7, x8, -⟩ := h.2.2.1
  have hm := nt_mg h.2.2.2.2.2.2.2 x8 x7 a b d
  have hg : nt_g false a b d g = g := rfl
  rw [hg] at hm ⊢
  exact ⟨f, rfl, hm, h, tk_F.rf, fun _ _ _ => rfl⟩
