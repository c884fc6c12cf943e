/-! A GLASS'S PART OF A MINUTE -/
theorem bh_x_id (rd le sd kp ca of i ti nr co : Int32) (u : Nat → Int32) : bh_x rd le sd kp ca of i ti nr co (bh_x rd le sd kp ca of i ti nr co u) = bh_x rd le sd kp ca of i ti nr co u := by
  funext k
  unfold bh_x upd
  by_cases h16 : k = 16
  · simp only [h16, if_true]
  by_cases h15 : k = 15
  · simp only [h15, if_true]
  by_cases h14 : k = 14
  · simp only [h14, if_true]
  by_cases h13 : k = 13
  · simp only [h13, if_true]
  by_cases h12 : k = 12
  · simp only [h12, if_true]
  by_cases h11 : k = 11
  · simp only [h11, if_true]
  by_cases h10 : k = 10
  · simp only [h10, if_true]
  by_cases h9 : k = 9
  · simp only [h9, if_true]
  by_cases h8 : k = 8
  · simp only [h8, if_true]
  by_cases h7 : k = 7
  · simp only [h7, if_true]
  simp only [h16, h15, h14, h13, h12, h11, h10, h9, h8, h7, if_false]
/-- nearness sees NEAR alone -/
theorem nf_eq {g g' : Nat → Nat → Int32} (hN : iv_N (g 217)) (e : ∀ j, j < 256 → g' 217 (87 + j) = g 217 (87 + j)) (s : Int32) {t : Int32} (ht : t = -1 ∨ ∃ q, q < 16 ∧ t = nI q) : m_nearnessOf s t g' = m_nearnessOf s t g := by
  have hN' : iv_N (g' 217) := by
    refine ⟨fun j hj => by rw [e j hj]; exact hN.1 j hj, fun a b ha hb => ?_⟩
    rw [e _ (by omega), e _ (by omega)]
    exact hN.2 a b ha hb
  obtain ⟨z, _, z1, z2⟩ := nr_eq (f := fun a j => if a = 26 then g 217 (87 + j) else 0) (g := g) (fun j hj => by show (if (26 : Nat) = 26 then _ else _) = _; rw [if_pos rfl]) hN s ht
  obtain ⟨y, _, y1, y2⟩ := nr_eq (f := fun a j => if a = 26 then g 217 (87 + j) else 0) (g := g') (fun j hj => by show (if (26 : Nat) = 26 then _ else _) = _; rw [if_pos rfl, e j hj]) hN' s ht
  rw [z2, y2, ← z1, ← y1]
theorem no_eq {g g' : Nat → Nat → Int32} (hN : iv_N (g 217)) (e : ∀ j, (15 ≤ j ∧ j < 21) ∨ (75 ≤ j ∧ j < 343) → g' 217 j = g 217 j) {i : Nat} (hi : i < 6) (hu : g 217 (15 + i) = -1 ∨ ∃ p, p < 12 ∧ g 217 (15 + i) = nI p) {t : Int32} (ht : t = -1 ∨ ∃ q, q < 16 ∧ t = nI q) : m_nearOf (nI i) t g' = m_nearOf (nI i) t g := by
  unfold m_nearOf
  have d15 : am_in (nI (15 + i)) 2008 = true := pu_in (by omega) (by omega)
  have a15 : (15 : Int32) + nI i = nI (15 + i) := nI_add 15 i
  have e15 := e (15 + i) (Or.inl (by omega))
  simp only [a15, d15, if_true, nI_clamp (show 15 + i < 2 ^ 31 by omega), e15]
  rcases hu with hu | ⟨p, hp, hu⟩
  · simp only [hu, if_true]
  · have a75 : (75 : Int32) + nI p = nI (75 + p) := nI_add 75 p
    have d75 : am_in (nI (75 + p)) 2008 = true := pu_in (by omega) (by omega)
    simp only [hu, a75, d75, if_true, nI_clamp (show 75 + p < 2 ^ 31 by omega), e (75 + p) (Or.inr (by omega)), nf_eq hN (fun j hj => e (87 + j) (Or.inr (by omega))) _ ht]
theorem iv_c_mo {c c' : Nat → Nat} {T : Nat} {w : Nat → Int32} (h : iv_Cc c T w) (hc : ∀ i, c i ≤ c' i) : iv_Cc c' T w := by
  obtain ⟨n, m, t, b, x1, x2, x3, x4, x5, x6, x7, x8, x9, x10, x11, x12, x13⟩ := h
  refine ⟨n, m, t, b, x1, x2, x3, x4, x5, x6, x7, x8, x9, x10, x11, fun i hi => ?_, x13⟩
  obtain ⟨z, z1, z2, z3⟩ := x12 i hi
  have := hc i
  exact ⟨z, z1, by omega, z3⟩
theorem tk_R.mo {o : Nat} {rl : Bool} {c c' : Nat → Nat} {T : Nat} {f g : Nat → Nat → Int32} (h : tk_R o rl c T f g) (hc : ∀ i, c i ≤ c' i) : tk_R o rl c' T f g := ⟨h.1, h.2.1, iv_c_mo h.2.2.1 hc, h.2.2.2⟩
theorem bh_id_2 {f f1 f3 g : Nat → Nat → Int32} {i m : Nat} (hi : i < 6) (hm : f 2 1 = nI m) (hm12 : m ≤ 12) (hu : f 5 i = -1 ∨ ∃ p, p < m ∧ f 5 i = nI p) (ht : f 6 i = -1 ∨ ∃ q, q < 16 ∧ f 6 i = nI q) (hf26 : ∀ j, j < 256 → f 26 j = g 217 (87 + j)) (hN : iv_N (g 217)) (hb : xb_behold_2 (nI i) f = some f1) (e121 : f3 121 = f1 121) (eo : ∀ x, x ≠ 121 → x ≠ 122 → x ≠ 2 → f3 x = f x) (e2 : ∀ j, j ≠ 3 → f3 2 j = f 2 j) : xb_behold_2 (nI i) f3 = some f3 := by
  have o3 := eo 3 (by decide) (by decide) (by decide)
  have o4 := eo 4 (by decide) (by decide) (by decide)
  have o5 := eo 5 (by decide) (by decide) (by decide)
  have o6 := eo 6 (by decide) (by decide) (by decide)
  have o7 := eo 7 (by decide) (by decide) (by decide)
  have o8 := eo 8 (by decide) (by decide) (by decide)
  have o9 := eo 9 (by decide) (by decide) (by decide)
  have o10 := eo 10 (by decide) (by decide) (by decide)
  have o26 := eo 26 (by decide) (by decide) (by decide)
  rcases hu with hu | ⟨p, hp, hu⟩
  · have A := bh_x0_2 hi hu
    rw [hb] at A
    have A' := Option.some.inj A
    have B := bh_x0_2 (f := f3) hi (by rw [o5]; exact hu)
    rw [B, o4, o3, o6, o7, e2 2 (by decide), e121, A', row_row, bh_x_id]
    congr 1
    have e' : f3 121 = bh_x (f 4 i) (f 3 i) (bh_s (f 6 i)) 0 0 (f 7 i) (nI i) (f 2 2) 0 0 (f 121) := by rw [e121, A', row_row]
    rw [← e', row_self]
  · obtain ⟨z, _, z1, z2⟩ := nr_eq hf26 hN (f 9 p) ht
    obtain ⟨y, _, y1, y2⟩ := nr_eq (f := f3) (g := g) (fun j hj => by rw [o26]; exact hf26 j hj) hN (f 9 p) ht
    have zy : nI z = nI y := Option.some.inj (z2.symm.trans y2)
    have A := bh_x1_2 hi hm hm12 hp hu z1
    rw [hb] at A
    have A' := Option.some.inj A
    have B := bh_x1_2 (f := f3) (z := nI y) hi (by rw [e2 1 (by decide)]; exact hm) hm12 hp (by rw [o5]; exact hu) (by rw [o9, o6]; exact y1)
    rw [B, o4, o3, o6, o7, o8, o9, o10, e2 2 (by decide), ← zy, e121, A', row_row, bh_x_id]
    congr 1
    have e' : f3 121 = bh_x (f 4 i) (f 3 i) (bh_s (f 6 i)) (ji_bitCount (f 9 p)) (f 10 p) (f 7 i) (nI i) (f 2 2) (nI z) (f 8 p) (f 121) := by rw [e121, A', row_row]
    rw [← e', row_self]
theorem bh_id_110 {f f1 f3 g : Nat → Nat → Int32} {i m : Nat} (hi : i < 6) (hm : f 110 1 = nI m) (hm12 : m ≤ 12) (hu : f 113 i = -1 ∨ ∃ p, p < m ∧ f 113 i = nI p) (ht : f 114 i = -1 ∨ ∃ q, q < 16 ∧ f 114 i = nI q) (hf26 : ∀ j, j < 256 → f 26 j = g 217 (87 + j)) (hN : iv_N (g 217)) (hb : xb_behold_110 (nI i) f = some f1) (e121 : f3 121 = f1 121) (eo : ∀ x, x ≠ 121 → x ≠ 122 → x ≠ 110 → f3 x = f x) (e2 : ∀ j, j ≠ 3 → f3 110 j = f 110 j) : xb_behold_110 (nI i) f3 = some f3 := by
  have o3 := eo 111 (by decide) (by decide) (by decide)
  have o4 := eo 112 (by decide) (by decide) (by decide)
  have o5 := eo 113 (by decide) (by decide) (by decide)
  have o6 := eo 114 (by decide) (by decide) (by decide)
  have o7 := eo 115 (by decide) (by decide) (by decide)
  have o8 := eo 116 (by decide) (by decide) (by decide)
  have o9 := eo 117 (by decide) (by decide) (by decide)
  have o10 := eo 118 (by decide) (by decide) (by decide)
  have o26 := eo 26 (by decide) (by decide) (by decide)
  rcases hu with hu | ⟨p, hp, hu⟩
  · have A := bh_x0_110 hi hu
    rw [hb] at A
    have A' := Option.some.inj A
    have B := bh_x0_110 (f := f3) hi (by rw [o5]; exact hu)
    rw [B, o4, o3, o6, o7, e2 2 (by decide), e121, A', row_row, bh_x_id]
    congr 1
    have e' : f3 121 = bh_x (f 112 i) (f 111 i) (bh_s (f 114 i)) 0 0 (f 115 i) (nI i) (f 110 2) 0 0 (f 121) := by rw [e121, A', row_row]
    rw [← e', row_self]
  · obtain ⟨z, _, z1, z2⟩ := nr_eq hf26 hN (f 117 p) ht
    obtain ⟨y, _, y1, y2⟩ := nr_eq (f := f3) (g := g) (fun j hj => by rw [o26]; exact hf26 j hj) hN (f 117 p) ht
    have zy : nI z = nI y := Option.some.inj (z2.symm.trans y2)
    have A := bh_x1_110 hi hm hm12 hp hu z1
    rw [hb] at A
    have A' := Option.some.inj A
    have B := bh_x1_110 (f := f3) (z := nI y) hi (by rw [e2 1 (by decide)]; exact hm) hm12 hp (by rw [o5]; exact hu) (by rw [o9, o6]; exact y1)
    rw [B, o4, o3, o6, o7, o8, o9, o10, e2 2 (by decide), ← zy, e121, A', row_row, bh_x_id]
    congr 1
    have e' : f3 121 = bh_x (f 112 i) (f 111 i) (bh_s (f 114 i)) (ji_bitCount (f 117 p)) (f 118 p) (f 115 i) (nI i) (f 110 2) (nI z) (f 116 p) (f 121) := by rw [e121, A', row_row]
    rw [← e', row_self]
theorem slip_2 {c : Nat → Nat} {T : Nat} {f f2 g2 : Nat → Nat → Int32} {v : Int32} (hx : xb_told 1 f = some (v, f2)) (h : tk_R 0 true c T f2 g2) : ∃ b f3 g3, xb_slipsNow_2 true f = some (b, f3) ∧ m_falls v g2 = some (b, g3) ∧ tk_R 0 true c T f3 g3 ∧ tk_F 0 true f2 f3 g2 g3 ∧ (∀ x, x ≠ 2 → f3 x = f2 x) ∧ (∀ x, x ≠ 217 → g3 x = g2 x) ∧ (∀ j, j ≠ 1 → g3 217 j = g2 217 j) ∧ (∀ j, j ≠ 3 → f3 2 j = f2 2 j) := by
  unfold xb_slipsNow_2 m_falls
  rw [hx, pu_bs, if_pos rfl]
  have h26 : ¬ g2 216 26 = 0 := by rw [h.2.2.2.2.2.2.2]; decide
  by_cases hv : 0 < v
  · simp only [hv, if_true, h26, if_false]
    unfold xb_drawThousand_2 m_draw
    have ed : f2 2 3 = g2 217 1 := rl_g_dr (o := 0) h.1
    have R := tk_cell (Or.inl rfl) h (a := 2) (j := 3) (i := 1) (v := 1664525 * (g2 217 1) + 1013904223) (by decide) (by decide) (by decide) (rl_s_dr h.1 _) (iv_c_dr h.2.2.1 _)
    simp only [pu_letE, pu_up_row, pu_upd_eq, ed, show ¬ ((1000 : Int32) = 0) by decide, if_false, pu_bs]
    generalize hq : ((((1664525 * (g2 217 1) + 1013904223 : Int32).toUInt32 >>> ((8 : Int32).toUInt32 &&& Int32.toUInt32 31)).toInt32) - (((1664525 * (g2 217 1) + 1013904223 : Int32).toUInt32 >>> ((8 : Int32).toUInt32 &&& Int32.toUInt32 31)).toInt32) / 1000 * 1000 : Int32) = q
    by_cases hqv : q < v
    · simp only [hqv, if_true]
      exact ⟨true, _, _, rfl, rfl, R.1, R.2, fun x hx => pu_up_ne _ _ hx, fun x hx => pu_up_ne _ _ hx, fun j hj => by rw [pu_up_row, pu_upd_ne _ _ hj], fun j hj => by rw [pu_up_row, pu_upd_ne _ _ hj]⟩
    · simp only [hqv, if_false]
      exact ⟨false, _, _, rfl, rfl, R.1, R.2, fun x hx => pu_up_ne _ _ hx, fun x hx => pu_up_ne _ _ hx, fun j hj => by rw [pu_up_row, pu_upd_ne _ _ hj], fun j hj => by rw [pu_up_row, pu_upd_ne _ _ hj]⟩
  · simp only [hv, if_false]
    exact ⟨false, f2, g2, rfl, rfl, h, tk_F.rf, fun _ _ => rfl, fun _ _ => rfl, fun _ _ => rfl, fun _ _ => rfl⟩
theorem slip_110 {c : Nat → Nat} {T : Nat} {f f2 g2 : Nat → Nat → Int32} {v : Int32} (hx : xb_told 1 f = some (v, f2)) (h : tk_R 108 false c T f2 g2) : ∃ b f3 g3, xb_slipsNow_110 false f = some (b, f3) ∧ m_falls v g2 = some (b, g3) ∧ tk_R 108 false c T f3 g3 ∧ tk_F 108 false f2 f3 g2 g3 ∧ (∀ x, x ≠ 110 → f3 x = f2 x) ∧ (∀ x, x ≠ 217 → g3 x = g2 x) ∧ (∀ j, j ≠ 1 → g3 217 j = g2 217 j) ∧ (∀ j, j ≠ 3 → f3 110 j = f2 110 j) := by
  unfold xb_slipsNow_110 m_falls
  rw [hx, pu_bs, if_neg (show ¬ (false = true) by decide)]
  have h26 : g2 216 26 = 0 := by rw [h.2.2.2.2.2.2.2]; rfl
  refine (?_ : ∃ b f3 g3, _)
  by_cases h5 : v < 500
  · refine ⟨false, f2, g2, by simp only [h5, if_true], ?_, h, tk_F.rf, fun _ _ => rfl, fun _ _ => rfl, fun _ _ => rfl, fun _ _ => rfl⟩
    simp only [h26, h5, if_true]
    by_cases hv : 0 < v
    · simp only [hv, if_true]
    · simp only [hv, if_false]
  · have hv : 0 < v := by
      rw [Int32.lt_iff_toInt_lt] at h5 ⊢
      rw [show (500 : Int32).toInt = 500 from by decide] at h5
      rw [show (0 : Int32).toInt = 0 from by decide]
      omega
    refine ⟨true, f2, g2, by simp only [h5, if_false], ?_, h, tk_F.rf, fun _ _ => rfl, fun _ _ => rfl, fun _ _ => rfl, fun _ _ => rfl⟩
    simp only [h26, h5, hv, if_true, if_false]
