def hot_X (f : Nat → Nat → Int32) (i : Nat) (F : Nat → Nat → Int32) : Prop := (∀ x, x ≠ 114 → x ≠ 121 → x ≠ 122 → F x = x_tk 110 2 f x) ∧ (∀ k, k ≠ i → F 114 k = x_tk 110 2 f 114 k)
def hot_G (g G : Nat → Nat → Int32) : Prop := ∀ x, x ≠ 225 → x ≠ 226 → G x = g x
theorem tk_P.g {o : Nat} {c : Nat → Nat} {T : Nat} {f g g' : Nat → Nat → Int32} (h : tk_P o c T f g) (e : g' 217 = g 217) : tk_P o c T f g' := by
  unfold tk_P at h ⊢
  rw [e]
  exact h
theorem hot_p {f g F G : Nat → Nat → Int32} (h : rl_Rel f g) {n m i p t : Nat} (en : g 217 69 = nI n) (hn : n ≤ 6) (em : g 217 70 = nI m) (hm : m ≤ 12) (hi : i < n) (hp : p < m) (hu : g 217 (15 + i) = nI p) (ht : t < 16) (hF : hot_X f i F) (hG : hot_G g G) : ∃ v F' G', xb_lawTells_110 (nI i) 0 (am_up F 114 i (nI t)) = some (v, F') ∧ m_warmsOf (nI i) (nI t) G = some (v, G') ∧ ¬ v < 0 ∧ hot_X f i F' ∧ hot_G g G' := by
  have ho : 108 = 0 ∨ 108 = 108 := by decide
  obtain ⟨n0, m0, t0, b0, x1, x2, x3, x4, x5, x6, -⟩ := id h.1.2.1
  have R0 := th_R h (t := t0) (by omega) x5
  have R1 := tk_cell ho R0 (a := 6) (j := i) (i := 21 + i) (v := nI t) (by decide) (by decide) (by omega) (rl_s_sa R0.1 (by omega) _) (iv_c_sa R0.2.2.1 (by omega) (Or.inr ⟨t, ht, rfl⟩))
  have g217 : G 217 = g 217 := hG 217 (by decide) (by decide)
  have P1 := R1.1.P.g (g' := am_up G 217 (21 + i) (nI t)) (by rw [pu_up_row, pu_up_row, th_g217, g217])
  have P2 := tk_P.scr (f' := am_up F 114 i (nI t)) (g' := am_up G 217 (21 + i) (nI t)) ho P1 (fun x h1 h2 => by
    show am_up F 114 i (nI t) x = am_up (xc_takeFrom_110_2 f) 114 i (nI t) x
    rw [th_x]
    by_cases h3 : x = 114
    · subst h3
      rw [pu_up_row, pu_up_row]
      funext k
      unfold upd
      by_cases hk : k = i
      · rw [if_pos hk, if_pos hk]
      · rw [if_neg hk, if_neg hk]
        exact hF.2 k hk
    · rw [pu_up_ne _ _ h3, pu_up_ne _ _ h3]
      exact hF.1 x h3 h1 h2) (fun x _ _ => rfl)
  have gt : ∀ j, j ≠ 21 + i → am_up G 217 (21 + i) (nI t) 217 j = g 217 j := fun j hj => by rw [pu_up_row, pu_upd_ne _ _ hj, g217]
  have q114 : am_up F 114 i (nI t) 114 i = nI t := by rw [pu_up_row, pu_upd_eq]
  obtain ⟨r, r', b1, b2, b3, b4, ⟨a, a1, a2⟩, ⟨d, d1, d2⟩⟩ := bh_110 P2 ((gt 69 (by omega)).trans en) hn hi (Or.inr ⟨t, ht, q114⟩)
  rw [q114] at b2
  obtain ⟨S, hS, hk, -⟩ := h.1.2.2.1 p (by omega)
  obtain ⟨z, _, _, z2⟩ := nr_eq (fun j hj => rl_f_ne h hj) h.1.2.2.2.1 (nI S) (t := nI t) (Or.inr ⟨t, ht, rfl⟩)
  have A := (bh_m1 (g := am_up G 217 (21 + i) (nI t)) (i := i) (p := p) (S := S) (t := nI t) (z := nI z) (by omega) (by omega) ((gt _ (by omega)).trans hu) hS ((gt _ (by omega)).trans hk) ((nf_eq h.1.2.2.2.1 (fun j hj => gt _ (by omega)) _ (Or.inr ⟨t, ht, rfl⟩)).trans z2)).1
  have B := (bh_m1 (g := G) (i := i) (p := p) (S := S) (t := nI t) (z := nI z) (by omega) (by omega) (by rw [g217]; exact hu) hS (by rw [g217]; exact hk) ((nf_eq h.1.2.2.2.1 (fun j hj => by rw [g217]) _ (Or.inr ⟨t, ht, rfl⟩)).trans z2)).1
  have er : r' = bh_m (g 217 (9 + i)) (g 217 (3 + i)) (bh_s (nI t)) (ji_bitCount (nI S)) (g 217 (45 + p)) (g 217 (27 + i)) (nI i) (g 217 0) (nI z) (g 217 (33 + p)) (G 226) := by
    have := Option.some.inj (b2.symm.trans A)
    have := congrFun this 226
    rw [row_row, row_row, gt _ (by omega), gt _ (by omega), gt _ (by omega), gt _ (by omega), gt _ (by omega), gt _ (by omega), pu_up_ne _ _ (by decide)] at this
    exact this
  rw [g217, ← er] at B
  have f1W := h.1.congr (F' := am_row (am_up F 114 i (nI t)) 121 r) (fun x h1 h2 => by
    rw [row_ne _ _ (by omega), pu_up_ne _ _ (by omega), hF.1 _ (by omega) (by omega) (by omega)]
    exact tk_oth (d := 110) (s := 2) f (by omega) (by omega))
  have e226 : am_row G 226 r' 217 = g 217 := by rw [row_ne _ _ (by decide)]; exact g217
  obtain ⟨v, u1, u1', y1, y2, y3⟩ := lw_told (f := am_row (am_up F 114 i (nI t)) 121 r) (g := am_row G 226 r') (nm := r') (by rw [e226]; exact f1W.2.2.2.2.2.2) (by rw [e226]; exact rl_g_ll (o := 0) f1W.1) (fun q q1 q2 => by rw [row_row]; exact b4 q q1 q2) (fun q _ _ => by rw [row_row]) a1 d1 a2 d2 (k := 0) (by decide) (am_row (am_up F 114 i (nI t)) 121 r 122) (am_row G 226 r' 225)
  rw [row_self] at y1 y2
  have y1' : xb_told 0 (am_row (am_up F 114 i (nI t)) 121 r) = some (v, am_row (am_row (am_up F 114 i (nI t)) 121 r) 122 u1) := y1
  have y2' : m_lawSays 20 (3 * r' 1 - 2 * r' 2) 99 (am_row G 226 r') = some (v, am_row (am_row G 226 r') 225 u1') := y2
  refine ⟨v, am_row (am_row (am_up F 114 i (nI t)) 121 r) 122 u1, am_row (am_row G 226 r') 225 u1', ?_, ?_, y3, ⟨fun x h1 h2 h3 => ?_, fun k hk => ?_⟩, fun x h1 h2 => ?_⟩
  · unfold xb_lawTells_110
    rw [b1, pu_bs, y1', pu_bs]
  · unfold m_warmsOf
    rw [B, pu_bs]
    simp only [row_row]
    rw [y2', pu_bs]
  · show am_row _ 122 u1 x = _
    rw [row_ne _ _ h3, row_ne _ _ h2, pu_up_ne _ _ h1]
    exact hF.1 x h1 h2 h3
  · show am_row _ 122 u1 114 k = _
    rw [row_ne _ _ (by decide), row_ne _ _ (by decide), pu_up_row, pu_upd_ne _ _ hk]
    exact hF.2 k hk
  · show am_row _ 225 u1' x = _
    rw [row_ne _ _ h1, row_ne _ _ h2]
    exact hG x h1 h2
theorem hot_W {f g : Nat → Nat → Int32} (h : rl_Rel f g) {n m i p : Nat} (en : g 217 69 = nI n) (hn : n ≤ 6) (em : g 217 70 = nI m) (hm : m ≤ 12) (hi : i < n) (hp : p < m) (hu : g 217 (15 + i) = nI p) : ∃ W : Nat → Int32, ∀ t, t < 16 → ¬ W t < 0 ∧ (∀ F, hot_X f i F → ∃ F', xb_lawTells_110 (nI i) 0 (am_up F 114 i (nI t)) = some (W t, F') ∧ hot_X f i F') ∧ (∀ G, hot_G g G → ∃ G', m_warmsOf (nI i) (nI t) G = some (W t, G') ∧ hot_G g G') := by
  have X : ∀ t, ∃ w : Int32, t < 16 → ¬ w < 0 ∧ (∀ F, hot_X f i F → ∃ F', xb_lawTells_110 (nI i) 0 (am_up F 114 i (nI t)) = some (w, F') ∧ hot_X f i F') ∧ (∀ G, hot_G g G → ∃ G', m_warmsOf (nI i) (nI t) G = some (w, G') ∧ hot_G g G') := by
    intro t
    by_cases ht : t < 16
    · have hF0 : hot_X f i (x_tk 110 2 f) := ⟨fun _ _ _ _ => rfl, fun _ _ => rfl⟩
      have hG0 : hot_G g g := fun _ _ _ => rfl
      obtain ⟨v, F', G', k1, k2, k3, k4, k5⟩ := hot_p h en hn em hm hi hp hu ht hF0 hG0
      refine ⟨v, fun _ => ⟨k3, fun F hF => ?_, fun G hG => ?_⟩⟩
      · obtain ⟨v2, F2, G2, l1, l2, l3, l4, l5⟩ := hot_p h en hn em hm hi hp hu ht hF hG0
        have : v = v2 := congrArg Prod.fst (Option.some.inj (k2.symm.trans l2))
        subst this
        exact ⟨F2, l1, l4⟩
      · obtain ⟨v2, F2, G2, l1, l2, l3, l4, l5⟩ := hot_p h en hn em hm hi hp hu ht hF0 hG
        have : v = v2 := congrArg Prod.fst (Option.some.inj (k1.symm.trans l1))
        subst this
        exact ⟨G2, l2, l5⟩
    · exact ⟨0, fun z => absurd z ht⟩
  exact ⟨fun t => Classical.choose (X t), fun t => Classical.choose_spec (X t)⟩
def hot_b (W : Nat → Int32) : Nat → Nat
  | 0 => 0
  | j + 1 => if W (hot_b W j) < W j then j else hot_b W j
theorem hot_lt (W : Nat → Int32) : ∀ j, hot_b W j ≤ j - 1 := by
  intro j
  induction j with
  | zero => exact Nat.le_refl _
  | succ j ih =>
    show (if W (hot_b W j) < W j then j else hot_b W j) ≤ j
    by_cases c : W (hot_b W j) < W j
    · rw [if_pos c]; exact Nat.le_refl _
    · rw [if_neg c]; omega
theorem hot_1 (W : Nat → Int32) : hot_b W 1 = 0 := by
  show (if W 0 < W 0 then 0 else 0) = 0
  by_cases c : W 0 < W 0
  · rw [if_pos c]
  · rw [if_neg c]
theorem hot_end {f g F G : Nat → Nat → Int32} (h : rl_Rel f g) {i : Nat} (hF : hot_X f i F) (hG : hot_G g G) : rl_Rel F G := by
  have hf : ∀ a, (a < 110 ∨ 119 < a) → a ≠ 121 → a ≠ 122 → F a = f a := fun a h1 h2 h3 => by
    rw [hF.1 a (by omega) h2 h3]
    exact tk_oth (d := 110) (s := 2) f (by omega) (by omega)
  have g216 := hG 216 (by decide) (by decide)
  refine h.congr ⟨fun a h1 h2 => hf a (by omega) (by omega) (by omega), fun a h1 => hf a (by omega) (by omega) (by omega), by rw [hf 0 (by omega) (by omega) (by omega)], by rw [hf 0 (by omega) (by omega) (by omega)], by rw [hf 123 (by omega) (by omega) (by omega)], hf 124 (by omega) (by omega) (by omega), by rw [hf 128 (by omega) (by omega) (by omega)], by rw [hf 128 (by omega) (by omega) (by omega)], by rw [hf 143 (by omega) (by omega) (by omega)], by rw [hf 143 (by omega) (by omega) (by omega)], hf 150 (by omega) (by omega) (by omega), hf 153 (by omega) (by omega) (by omega), by rw [hf 144 (by omega) (by omega) (by omega)]⟩
    ⟨hG 217 (by decide) (by decide), hG 218 (by decide) (by decide), hG 219 (by decide) (by decide), hG 224 (by decide) (by decide), by rw [g216], by rw [g216], by rw [g216], by rw [g216], by rw [g216]⟩
theorem sm_hottest (x1 x2 : Int32) (f g : Nat → Nat → Int32) (h : rl_Rel f g) : ∃ (v : Int32) (f1 g1 : Nat → Nat → Int32), x_hottest x1 x2 f = some (v, f1) ∧ m_hottest x1 x2 g = some (v, g1) ∧ rl_Rel f1 g1 := by
  obtain ⟨n, m, t, b, hn, hm, ht, hb, e1, e2, e3, e4, e5, e6, -⟩ := rl_n h
  unfold x_hottest m_hottest
  rw [pu_isIn]
  rcases pu_glass x1 hn e1 e2 with ⟨i, hi, rfl, b1, b2⟩ | ⟨b1, b2⟩
  rotate_left
  · simp only [b1, b2, Bool.false_eq_true, if_false]
    exact ⟨-1, f, g, rfl, rfl, h⟩
  have c6 : am_in (nI i) 6 = true := pu_in (by omega) (by omega)
  have a15 : (15 : Int32) + nI i = nI (15 + i) := nI_add 15 i
  have d15 : am_in (nI (15 + i)) 2008 = true := pu_in (by omega) (by omega)
  have eu : f 5 i = g 217 (15 + i) := rl_f_un h (by omega)
  simp only [b1, b2, if_true, c6, a15, d15, nI_clamp (show i < 2 ^ 31 by omega), nI_clamp (show 15 + i < 2 ^ 31 by omega), eu]
  obtain ⟨n0, m0, t0, b0, x1, x2', x3, x4, x5, x6, x7, x8, x9, x10, -⟩ := id h.1.2.1
  have e0 : n = n0 := pu_nIinj (by omega) (by omega) (e2.symm.trans x1)
  subst e0
  rcases x10 i hi with hu | ⟨p, hp, hu⟩
  · simp only [hu, if_true]
    exact ⟨-1, f, g, rfl, rfl, h⟩
  simp only [hu, pu_neg1 (show p < 2 ^ 31 by omega), if_false]
  rcases pu_within_cases x2 (lo := 0) (hi := 1) 0 1 with ⟨e', w, w1, w2, rfl⟩ | e'
  rotate_left
  · simp only [e', Bool.false_eq_true, if_false]
    exact ⟨-1, f, g, rfl, rfl, h⟩
  simp only [e', if_true, pu_letE]
  obtain ⟨W, hW⟩ := hot_W h x1 x2' x3 x4 hi hp hu
  have XX : ∃ e, am_loop (fun (s4 : Int32 × Int32 × Int32 × (Nat → Nat → Int32)) => ((
          if s4.2.2.1 < 16 then (
            (xb_lawTells_110 (nI i) 0 (am_up s4.2.2.2 114 i s4.2.2.1)).bind fun p6 =>
            some (.inl ((if s4.1 < p6.1 then (
                (p6.1, s4.2.2.1))
              else (
                (s4.1, s4.2.1))).1, (if s4.1 < p6.1 then (
                (p6.1, s4.2.2.1))
              else (
                (s4.1, s4.2.1))).2, s4.2.2.1 + 1, p6.2)))
          else (
            some (.inr (s4.1, s4.2.1, s4.2.2.2)))) : Option ((Int32 × Int32 × Int32 × (Nat → Nat → Int32)) ⊕ (Int32 × Int32 × (Nat → Nat → Int32))))) am_F ((-1), (-1), 0, xc_takeFrom_110_2 f) = some e ∧ ∃ F, e = (W (hot_b W 16), nI (hot_b W 16), F) ∧ hot_X f i F := by
    refine pu_one (fun j s => ∃ F, s = (if j = 0 then -1 else W (hot_b W j), if j = 0 then -1 else nI (hot_b W j), nI j, F) ∧ hot_X f i F) _ 16 ⟨_, rfl, fun _ _ _ _ => rfl, fun _ _ => rfl⟩ ?_ ?_
    · rintro j s hj ⟨F, rfl, hF⟩
      obtain ⟨q1, q2, -⟩ := hW j hj
      obtain ⟨F', y1, y2⟩ := q2 F hF
      have h1 : nI j < (16 : Int32) := nI_lt (b := 16) hj (by omega)
      left
      dsimp only
      simp only [h1, if_true, y1, pu_bs, nI_1]
      refine ⟨_, rfl, F', ?_, y2⟩
      by_cases hj0 : j = 0
      · subst hj0
        have hm1 : (-1 : Int32) < W 0 := by
          rcases pu_cases (W 0) with hc | ⟨a, ha, ea⟩
          · exact absurd hc q1
          · rw [ea]; exact pu_m1lt ha
        simp only [if_true, hm1, show ¬ (0 + 1 = 0) by decide, if_false]
        rw [show hot_b W (0 + 1) = 0 from hot_1 W]
      · simp only [hj0, if_false, show ¬ (j + 1 = 0) by omega]
        have eb : hot_b W (j + 1) = if W (hot_b W j) < W j then j else hot_b W j := rfl
        by_cases hc : W (hot_b W j) < W j
        · rw [if_pos hc] at eb
          simp only [hc, if_true, eb]
        · rw [if_neg hc] at eb
          simp only [hc, if_false, eb]
    · rintro s ⟨F, rfl, hF⟩
      dsimp only
      simp only [show ¬ nI 16 < (16 : Int32) by decide, if_false, show ¬ ((16 : Nat) = 0) by decide]
      exact ⟨_, rfl, F, rfl, hF⟩
  have MM : ∃ e, am_loop (fun (s3 : Int32 × Int32 × (Nat → Nat → Int32)) => ((
          if s3.2.1 < 16 then (
            (m_warmsOf (nI i) s3.2.1 s3.2.2).bind fun p4 =>
            (m_warmsOf (nI i) s3.1 p4.2).bind fun p5 =>
            some (.inl (if p5.1 < p4.1 then (
                s3.2.1)
              else (
                s3.1), s3.2.1 + 1, p5.2)))
          else (
            some (.inr (s3.1, s3.2.2)))) : Option ((Int32 × Int32 × (Nat → Nat → Int32)) ⊕ (Int32 × (Nat → Nat → Int32))))) am_F (0, 1, g) = some e ∧ ∃ G, e = (nI (hot_b W 16), G) ∧ hot_G g G := by
    refine pu_one (fun j s => ∃ G, s = (nI (hot_b W (j + 1)), nI (j + 1), G) ∧ hot_G g G) _ 15 ⟨g, by rw [hot_1]; rfl, fun _ _ _ => rfl⟩ ?_ ?_
    · rintro j s hj ⟨G, rfl, hG⟩
      obtain ⟨G1, y1, y2⟩ := (hW (j + 1) (by omega)).2.2 G hG
      have hl := hot_lt W (j + 1)
      obtain ⟨G2, z1, z2⟩ := (hW (hot_b W (j + 1)) (by omega)).2.2 G1 y2
      have h1 : nI (j + 1) < (16 : Int32) := nI_lt (b := 16) (by omega) (by omega)
      left
      dsimp only
      simp only [h1, if_true, y1, z1, pu_bs, nI_1]
      refine ⟨_, rfl, G2, ?_, z2⟩
      have eb : hot_b W (j + 1 + 1) = if W (hot_b W (j + 1)) < W (j + 1) then j + 1 else hot_b W (j + 1) := rfl
      by_cases hc : W (hot_b W (j + 1)) < W (j + 1)
      · rw [if_pos hc] at eb
        simp only [hc, if_true, eb]
      · rw [if_neg hc] at eb
        simp only [hc, if_false, eb]
    · rintro s ⟨G, rfl, hG⟩
      dsimp only
      simp only [show ¬ nI (15 + 1) < (16 : Int32) by decide, if_false]
      exact ⟨_, rfl, G, rfl, hG⟩
  obtain ⟨e, k1, F, rfl, hF⟩ := XX
  obtain ⟨e', k2, G, rfl, hG⟩ := MM
  rw [k1, k2, pu_bs, pu_bs]
  by_cases hw : nI w = 0
  · simp only [hw, if_true]
    exact ⟨_, _, _, rfl, rfl, hot_end h hF hG⟩
  · have hl := hot_lt W 16
    obtain ⟨G2, z1, z2⟩ := (hW (hot_b W 16) (by omega)).2.2 G hG
    simp only [hw, if_false, z1, pu_bs]
    exact ⟨_, _, _, rfl, rfl, hot_end h hF z2⟩
