/-! MINUTES, GOES -/
theorem iv_c_tight {c : Nat → Nat} {T t : Nat} {w : Nat → Int32} (h : iv_Cc c T w) (hT : T < 2 ^ 31) (ht : t < 2 ^ 31) (e : w 0 = nI t) : t ≤ T ∧ iv_Cc c t w := by
  obtain ⟨n, m, t', b, x1, x2, x3, x4, x5, x6, x7⟩ := h
  have : t = t' := pu_nIinj ht (by omega) (e.symm.trans x5)
  subst this
  exact ⟨x6, n, m, t, b, x1, x2, x3, x4, x5, Nat.le_refl _, x7⟩
theorem tk_R.T {o : Nat} {rl : Bool} {c : Nat → Nat} {T T' : Nat} {f g : Nat → Nat → Int32} (h : tk_R o rl c T f g) (hc : iv_Cc c T' (g 217)) : tk_R o rl c T' f g := ⟨h.1, h.2.1, hc, h.2.2.2⟩
theorem sm_minutes (x1 : Int32) (f g : Nat → Nat → Int32) (h : rl_Rel f g) : ∃ (v : Int32) (f1 g1 : Nat → Nat → Int32), x_minutes x1 f = some (v, f1) ∧ m_minutes x1 g = some (v, g1) ∧ rl_Rel f1 g1 := by
  obtain ⟨n, m, t, b, hn, hm, ht, hb, e1, e2, e3, e4, e5, e6, -⟩ := rl_n h
  unfold x_minutes m_minutes
  rw [pu_isIn]
  rcases pu_within_cases x1 (lo := 1) (hi := 60) 1 60 with ⟨e, k, k1, k2, rfl⟩ | e
  · simp only [e, if_true, e5, e6, nI_add]
    by_cases hl : t + k ≤ 9999
    · have hl' : ¬ 9999 < nI (t + k) := nI_nlt (b := t + k) (a := 9999) hl (by omega)
      simp only [hl', if_false]
      have K := pu_two (f := fun (s2 : Int32 × Int32 × (Nat → Nat → Int32)) => ((
        if s2.2.1 < nI k then (
          (x_keepPast  s2.2.2).bind fun p3 =>
          (xb_passMinute_2 true p3).bind fun p4 =>
          am_let ((s2.1 + p4.1) : Int32) fun t5 =>
          am_let (s2.2.1 + 1 : Int32) fun t6 =>
          some (.inl (t5, t6, p4.2)))
        else (
          some (.inr (s2.1, s2.2.2)))) : Option ((Int32 × Int32 × (Nat → Nat → Int32)) ⊕ (Int32 × (Nat → Nat → Int32))))) (g := fun (s2 : Int32 × Int32 × (Nat → Nat → Int32)) => ((
        if s2.2.1 < nI k then (
          (m_keeps  s2.2.2).bind fun p3 =>
          (m_goesBy  p3).bind fun p4 =>
          am_let ((s2.1 + p4.1) : Int32) fun t5 =>
          am_let (s2.2.1 + 1 : Int32) fun t6 =>
          some (.inl (t5, t6, p4.2)))
        else (
          some (.inr (s2.1, s2.2.2)))) : Option ((Int32 × Int32 × (Nat → Nat → Int32)) ⊕ (Int32 × (Nat → Nat → Int32))))) (s := (0, 0, f)) (t := (0, 0, g))
        (fun j s t' => ∃ v fj gj, s = (v, nI j, fj) ∧ t' = (v, nI j, gj) ∧ rl_Rel fj gj ∧ iv_C (t + j) (gj 217)) (fun e e' => ∃ v fj gj, e = (v, fj) ∧ e' = (v, gj) ∧ rl_Rel fj gj) k ⟨0, f, g, rfl, rfl, h, (iv_c_tight h.1.2.1 (by omega) (by omega) e6).2⟩ (by
        rintro j s t' hj ⟨v, fj, gj, rfl, rfl, R, C⟩
        refine Or.inl ?_
        have hjl : nI j < nI k := nI_lt hj (by omega)
        obtain ⟨fk, gk, k1, k2, k3, k4, k5, k6, k7, k8⟩ := rl_keep R
        have K0 := (tk_of k3 k4).T (T' := t + j) (by rw [k5]; exact C)
        obtain ⟨v', f', g', p1, p2, p3, p4⟩ := min_2 K0 (by omega)
        dsimp only
        simp only [hjl, if_true, k1, k2, p1, p2, pu_bs, pu_letE, nI_1]
        refine ⟨_, _, rfl, rfl, _, f', g', rfl, rfl, rl_of k3 p4 (p3.T (iv_c_up p3.2.2.1 (by omega))), p3.2.2.1⟩) (by
        rintro s t' ⟨v, fj, gj, rfl, rfl, R, C⟩
        have hll : ¬ nI k < nI k := nI_nlt (Nat.le_refl _) (by omega)
        dsimp only
        simp only [hll, if_false]
        exact ⟨_, _, rfl, rfl, v, fj, gj, rfl, rfl, R⟩)
      obtain ⟨e', e'', k1, k2, v, fj, gj, rfl, rfl, R⟩ := K
      exact ⟨v, fj, gj, k1, k2, R⟩
    · have hl' : (9999 : Int32) < nI (t + k) := nI_lt (a := 9999) (b := t + k) (by omega) (by omega)
      simp only [hl', if_true]
      exact ⟨-1, f, g, rfl, rfl, h⟩
  · simp only [e, Bool.false_eq_true, if_false]
    exact ⟨-1, f, g, rfl, rfl, h⟩
/-! in thought -/
def th_g (g : Nat → Nat → Int32) : Nat → Nat → Int32 := am_up (am_row g 220 (fun x => if x < 69 then g 217 x else g 220 x)) 216 26 0
theorem th_m (g : Nat → Nat → Int32) : m_thinks g = some (th_g g) := by
  unfold m_thinks
  refine pu_forb (fun i => (nI i, am_row g 220 (fun x => if x < i then g 217 x else g 220 x))) 69 (e := am_row g 220 (fun x => if x < 69 then g 217 x else g 220 x)) ?_ ?_ ?_ rfl
  · show (0, g) = _
    have : (fun x => if x < 0 then g 217 x else g 220 x) = g 220 := by
      funext x
      rw [if_neg (Nat.not_lt_zero x)]
    show _ = (nI 0, am_row g 220 (fun x => if x < 0 then g 217 x else g 220 x))
    rw [this, row_self]
    rfl
  · intro i hi
    have h1 : nI i < (69 : Int32) := nI_lt (b := 69) hi (by omega)
    have c1 : am_in (nI i) 2008 = true := pu_in (by omega) (by omega)
    have c2 : am_in (nI i) 69 = true := pu_in (by omega) (by omega)
    dsimp only
    simp only [h1, c1, c2, if_true, pu_letE, nI_clamp (show i < 2 ^ 31 by omega), nI_1, row_up]
    congr 3
    congr 1
    funext x
    unfold upd
    rw [row_ne _ _ (by decide)]
    by_cases hx : x = i
    · subst hx
      rw [if_pos rfl, if_pos (by omega)]
    · rw [if_neg hx]
      dsimp only
      by_cases h2 : x < i
      · rw [if_pos h2, if_pos (by omega)]
      · rw [if_neg h2, if_neg (by omega)]
  · show (if nI 69 < (69 : Int32) then _ else _) = _
    rw [if_neg (by decide)]
theorem th_b (e : Nat → Nat → Int32) : m_putsBack e = some (am_row e 217 (fun x => if x < 69 then e 220 x else e 217 x)) := by
  unfold m_putsBack
  refine pu_for (fun i => (nI i, am_row e 217 (fun x => if x < i then e 220 x else e 217 x))) 69 ?_ ?_ ?_
  · show (0, e) = _
    have : (fun x => if x < 0 then e 220 x else e 217 x) = e 217 := by
      funext x
      rw [if_neg (Nat.not_lt_zero x)]
    show _ = (nI 0, am_row e 217 (fun x => if x < 0 then e 220 x else e 217 x))
    rw [this, row_self]
    rfl
  · intro i hi
    have h1 : nI i < (69 : Int32) := nI_lt (b := 69) hi (by omega)
    have c1 : am_in (nI i) 2008 = true := pu_in (by omega) (by omega)
    have c2 : am_in (nI i) 69 = true := pu_in (by omega) (by omega)
    dsimp only
    simp only [h1, c1, c2, if_true, pu_letE, nI_clamp (show i < 2 ^ 31 by omega), nI_1, row_up]
    congr 3
    congr 1
    funext x
    unfold upd
    rw [row_ne _ _ (by decide)]
    by_cases hx : x = i
    · subst hx
      rw [if_pos rfl, if_pos (by omega)]
    · rw [if_neg hx]
      dsimp only
      by_cases h2 : x < i
      · rw [if_pos h2, if_pos (by omega)]
      · rw [if_neg h2, if_neg (by omega)]
  · show (if nI 69 < (69 : Int32) then _ else _) = _
    rw [if_neg (by decide)]
theorem th_x (f : Nat → Nat → Int32) : xc_takeFrom_110_2 f = x_tk 110 2 f := rfl
theorem th_g217 (g : Nat → Nat → Int32) : th_g g 217 = g 217 := by
  unfold th_g
  rw [pu_up_ne _ _ (by decide), row_ne _ _ (by decide)]
theorem th_R {f g : Nat → Nat → Int32} (h : rl_Rel f g) {t : Nat} (ht : t < 2 ^ 31) (e : g 217 0 = nI t) : tk_R 108 false (fun _ => 0) t (xc_takeFrom_110_2 f) (th_g g) := by
  rw [th_x]
  have W := h.1.congr (F' := x_tk 110 2 f) fun a h1 h2 => tk_oth (d := 110) (s := 2) f (by omega) (by omega)
  have hT := tk_T (d := 110) (s := 2) (f := f) (by omega) (by omega) (by omega) (w := g 217) h.1.1.C
  unfold tk_R
  rw [th_g217]
  refine ⟨hT, W.1.X, (iv_c_tight W.2.1 (by omega) ht e).2, W.2.2.1, W.2.2.2.1, W.2.2.2.2.1, W.2.2.2.2.2.2, ?_⟩
  unfold th_g
  rw [pu_up_row, pu_upd_eq]
  rfl
theorem th_end {f g F G : Nat → Nat → Int32} (h : rl_Rel f g) (hF : tk_F 108 false (xc_takeFrom_110_2 f) F (th_g g) G) : ∃ G', m_putsBack G = some G' ∧ rl_Rel F G' := by
  rw [th_x] at hF
  obtain ⟨a1, a2, a3, -⟩ := hF
  have hg : ∀ a, a ≠ 217 → a ≠ 220 → a ≠ 225 → a ≠ 226 → a ≠ 216 → G a = g a := fun a h1 h2 h3 h4 h5 => by
    rw [a2 a h1 h3 h4]
    unfold th_g
    rw [pu_up_ne _ _ h5, row_ne _ _ h2]
  have hf : ∀ a, (a < 110 ∨ 119 < a) → a ≠ 121 → a ≠ 122 → F a = f a := fun a h1 h2 h3 => by
    rw [a1 a (by omega) h2 h3 (fun _ => rfl)]
    exact tk_oth (d := 110) (s := 2) f (by omega) (by omega)
  have g216 : ∀ j, j ≠ 26 → G 216 j = g 216 j := fun j hj => by
    rw [a2 216 (by decide) (by decide) (by decide)]
    unfold th_g
    rw [pu_up_row, pu_upd_ne _ _ hj, row_ne _ _ (by decide)]
  refine ⟨_, th_b G, ?_⟩
  refine h.congr ⟨fun a h1 h2 => hf a (by omega) (by omega) (by omega), fun a h1 => hf a (by omega) (by omega) (by omega), by rw [hf 0 (by omega) (by omega) (by omega)], by rw [hf 0 (by omega) (by omega) (by omega)], by rw [hf 123 (by omega) (by omega) (by omega)], hf 124 (by omega) (by omega) (by omega), by rw [hf 128 (by omega) (by omega) (by omega)], by rw [hf 128 (by omega) (by omega) (by omega)], by rw [hf 143 (by omega) (by omega) (by omega)], by rw [hf 143 (by omega) (by omega) (by omega)], hf 150 (by omega) (by omega) (by omega), hf 153 (by omega) (by omega) (by omega), by rw [hf 144 (by omega) (by omega) (by omega)]⟩ ?_
  refine ⟨?_, ?_, ?_, ?_, ?_, ?_, ?_, ?_, ?_⟩
  · rw [row_row]
    funext x
    by_cases hx : x < 69
    · rw [if_pos hx, a2 220 (by decide) (by decide) (by decide)]
      unfold th_g
      rw [pu_up_ne _ _ (by decide), row_row, if_pos hx]
    · rw [if_neg hx, a3 x (by omega) (Or.inr rfl), th_g217]
  · rw [row_ne _ _ (by decide)]; exact hg 218 (by decide) (by decide) (by decide) (by decide) (by decide)
  · rw [row_ne _ _ (by decide)]; exact hg 219 (by decide) (by decide) (by decide) (by decide) (by decide)
  · rw [row_ne _ _ (by decide)]; exact hg 224 (by decide) (by decide) (by decide) (by decide) (by decide)
  · rw [row_ne _ _ (by decide)]; exact g216 4 (by decide)
  · rw [row_ne _ _ (by decide)]; exact g216 5 (by decide)
  · rw [row_ne _ _ (by decide)]; exact g216 16 (by decide)
  · rw [row_ne _ _ (by decide)]; exact g216 23 (by decide)
  · rw [row_ne _ _ (by decide)]; exact g216 25 (by decide)
def th_F (f : Nat → Nat → Int32) : Nat → Nat → Nat → Int32
  | 0 => xc_takeFrom_110_2 f
  | k + 1 => ((xb_passMinute_110 false (th_F f k)).getD (0, f)).2
def th_G (g : Nat → Nat → Int32) : Nat → Nat → Nat → Int32
  | 0 => th_g g
  | k + 1 => ((m_goesBy (th_G g k)).getD (0, g)).2
theorem th_all {f g : Nat → Nat → Int32} (h : rl_Rel f g) {t : Nat} (ht : t ≤ 9999) (e : g 217 0 = nI t) : ∀ k, k ≤ 60 → tk_R 108 false (fun _ => 0) (t + k) (th_F f k) (th_G g k) ∧ tk_F 108 false (xc_takeFrom_110_2 f) (th_F f k) (th_g g) (th_G g k) := by
  intro k
  induction k with
  | zero => intro _; exact ⟨th_R h (by omega) e, tk_F.rf⟩
  | succ k ih =>
    intro hk
    obtain ⟨R, F⟩ := ih (by omega)
    obtain ⟨v, f', g', p1, p2, p3, p4⟩ := min_110 R (by omega)
    have e1 : th_F f (k + 1) = f' := by
      show ((xb_passMinute_110 false (th_F f k)).getD (0, f)).2 = f'
      rw [p1]
      rfl
    have e2 : th_G g (k + 1) = g' := by
      show ((m_goesBy (th_G g k)).getD (0, g)).2 = g'
      rw [p2]
      rfl
    rw [e1, e2]
    exact ⟨p3, F.trans p4⟩
theorem th_st {f g : Nat → Nat → Int32} (h : rl_Rel f g) {t : Nat} (ht : t ≤ 9999) (e : g 217 0 = nI t) {k : Nat} (hk : k < 60) : ∃ v, xb_passMinute_110 false (th_F f k) = some (v, th_F f (k + 1)) ∧ m_goesBy (th_G g k) = some (v, th_G g (k + 1)) := by
  obtain ⟨R, F⟩ := th_all h ht e k (by omega)
  obtain ⟨v, f', g', p1, p2, p3, p4⟩ := min_110 R (by omega)
  refine ⟨v, ?_, ?_⟩
  · show _ = some (v, ((xb_passMinute_110 false (th_F f k)).getD (0, f)).2)
    rw [p1]
    rfl
  · show _ = some (v, ((m_goesBy (th_G g k)).getD (0, g)).2)
    rw [p2]
    rfl
