theorem put_2 {c : Nat → Nat} {T : Nat} {f g : Nat → Nat → Int32} (h : tk_R 0 true c T f g) {n m i p : Nat} (en : g 217 69 = nI n) (hn : n ≤ 6) (em : g 217 70 = nI m) (hm : m ≤ 12) (hi : i < n) (hp : p < m) : ∃ f' g', xb_putUnder_2 (nI i) (nI p) true f = some f' ∧ m_putsUnder (nI i) (nI p) g = some g' ∧ tk_R 0 true c T f' g' ∧ tk_F 0 true f f' g g' := by
  have ho : 0 = 0 ∨ 0 = 108 := by decide
  have e1 : f 2 0 = nI n := (rl_g_gn (o := 0) h.1).trans en
  have e3 : f 2 1 = nI m := (rl_g_wn (o := 0) h.1).trans em
  obtain ⟨b, c1, c2⟩ := cg_2 hn hm e1 en e3 (fun i hi => rl_g_un (o := 0) h.1 (by omega)) hi hp
  unfold xb_putUnder_2 m_putsUnder
  rw [c1, c2, pu_bs, pu_bs]
  cases b with
  | false =>
    rw [if_neg (by decide), if_neg (by decide)]
    exact ⟨f, g, rfl, rfl, h, tk_F.rf⟩
  | true =>
    have R2 := tk_cell ho h (a := 5) (j := i) (i := 15 + i) (v := nI p) (by decide) (by decide) (by omega) (rl_s_un h.1 (by omega) _) (iv_c_un h.2.2.1 (by omega) (Or.inr ⟨p, m, hp, hm, em, rfl⟩))
    have em2 : (am_up g 217 (15 + i) (nI p)) 217 70 = nI m := by
      rw [pu_up_row, pu_upd_ne _ _ (by omega)]
      exact em
    have R3 := tk_cell ho R2.1 (a := 10) (j := p) (i := 45 + p) (v := (am_up g 217 (15 + i) (nI p)) 217 (45 + p) + 1) (by decide) (by decide) (by omega) (rl_s_ca R2.1.1 (by omega) _) (iv_c_ca R2.1.2.2.1 em2 hm hp _)
    have ev : am_up f (5 + 0) i (nI p) (10 + 0) p = (am_up g 217 (15 + i) (nI p)) 217 (45 + p) := rl_g_ca R2.1.1 (by omega)
    obtain ⟨f4, n1, n2, n3, n4, -⟩ := nt_2 R3.1 0 (nI i) (nI p)
    refine ⟨f4, _, ?_, ?_, n3, (R2.2.trans R3.2).trans n4⟩
    · rw [if_pos rfl, if_pos (pu_in (by omega) (by omega)), nI_clamp (by omega), pu_let, if_pos (pu_in (by omega) (by omega)), if_pos (pu_in (by omega) (by omega)), nI_clamp (by omega), pu_let]
      have ev2 : am_up f 5 i (nI p) 10 p = (am_up g 217 (15 + i) (nI p)) 217 (45 + p) := ev
      rw [ev2]
      have n1' : xb_note_2 0 (nI i) (nI p) true (am_up (am_up f 5 i (nI p)) 10 p ((am_up g 217 (15 + i) (nI p)) 217 (45 + p) + 1)) = some f4 := n1
      rw [n1', pu_bs]
    · rw [if_pos rfl, show (15 : Int32) = nI 15 from rfl, show (45 : Int32) = nI 45 from rfl, nI_add, nI_add, if_pos (pu_in (by omega) (by omega)), nI_clamp (by omega), pu_let, if_pos (pu_in (by omega) (by omega)), if_pos (pu_in (by omega) (by omega)), nI_clamp (by omega), pu_let, n2, pu_bs]
theorem out_2 {c : Nat → Nat} {T : Nat} {f g : Nat → Nat → Int32} (h : tk_R 0 true c T f g) {n i : Nat} (en : g 217 69 = nI n) (hn : n ≤ 6) (hi : i < n) : ∃ f' g', xb_takeOut_2 (nI i) true f = some f' ∧ m_takesOut (nI i) g = some g' ∧ tk_R 0 true c T f' g' ∧ tk_F 0 true f f' g g' := by
  have ho : 0 = 0 ∨ 0 = 108 := by decide
  have eu : f 5 i = g 217 (15 + i) := rl_g_un (o := 0) h.1 (by omega)
  unfold xb_takeOut_2 m_takesOut
  have c1 : am_in (nI i) 6 = true := pu_in (by omega) (by omega)
  have c2 : am_in (nI (15 + i)) 2008 = true := pu_in (by omega) (by omega)
  rw [show (15 : Int32) = nI 15 from rfl, nI_add]
  simp only [c1, c2, if_true, nI_clamp (show i < 2 ^ 31 by omega), nI_clamp (show 15 + i < 2 ^ 31 by omega), pu_let, eu]
  by_cases hz : g 217 (15 + i) = -1
  · simp only [hz, if_true]
    exact ⟨f, g, rfl, rfl, h, tk_F.rf⟩
  · have R2 := tk_cell ho h (a := 5) (j := i) (i := 15 + i) (v := -1) (by decide) (by decide) (by omega) (rl_s_un h.1 (by omega) _) (iv_c_un h.2.2.1 (by omega) (Or.inl rfl))
    obtain ⟨f4, n1, n2, n3, n4, -⟩ := nt_2 R2.1 1 (nI i) (g 217 (15 + i))
    obtain ⟨f5, -, n6, -⟩ := nt_2 h 1 (nI i) (g 217 (15 + i))
    rw [nt_up (by omega) (by omega) (by omega)] at n3 n4
    have n1' : xb_note_2 1 (nI i) (g 217 (15 + i)) true (am_up f 5 i (-1)) = some f4 := n1
    refine ⟨f4, _, ?_, ?_, n3, R2.2.trans n4⟩
    · rw [if_neg hz, n1', pu_bs]
    · rw [if_neg hz, n6, pu_bs]
theorem put_110 {c : Nat → Nat} {T : Nat} {f g : Nat → Nat → Int32} (h : tk_R 108 false c T f g) {n m i p : Nat} (en : g 217 69 = nI n) (hn : n ≤ 6) (em : g 217 70 = nI m) (hm : m ≤ 12) (hi : i < n) (hp : p < m) : ∃ f' g', xb_putUnder_110 (nI i) (nI p) false f = some f' ∧ m_putsUnder (nI i) (nI p) g = some g' ∧ tk_R 108 false c T f' g' ∧ tk_F 108 false f f' g g' := by
  have ho : 108 = 0 ∨ 108 = 108 := by decide
  have e1 : f 110 0 = nI n := (rl_g_gn (o := 108) h.1).trans en
  have e3 : f 110 1 = nI m := (rl_g_wn (o := 108) h.1).trans em
  obtain ⟨b, c1, c2⟩ := cg_110 hn hm e1 en e3 (fun i hi => rl_g_un (o := 108) h.1 (by omega)) hi hp
  unfold xb_putUnder_110 m_putsUnder
  rw [c1, c2, pu_bs, pu_bs]
  cases b with
  | false =>
    rw [if_neg (by decide), if_neg (by decide)]
    exact ⟨f, g, rfl, rfl, h, tk_F.rf⟩
  | true =>
    have R2 := tk_cell ho h (a := 5) (j := i) (i := 15 + i) (v := nI p) (by decide) (by decide) (by omega) (rl_s_un h.1 (by omega) _) (iv_c_un h.2.2.1 (by omega) (Or.inr ⟨p, m, hp, hm, em, rfl⟩))
    have em2 : (am_up g 217 (15 + i) (nI p)) 217 70 = nI m := by
      rw [pu_up_row, pu_upd_ne _ _ (by omega)]
      exact em
    have R3 := tk_cell ho R2.1 (a := 10) (j := p) (i := 45 + p) (v := (am_up g 217 (15 + i) (nI p)) 217 (45 + p) + 1) (by decide) (by decide) (by omega) (rl_s_ca R2.1.1 (by omega) _) (iv_c_ca R2.1.2.2.1 em2 hm hp _)
    have ev : am_up f (5 + 108) i (nI p) (10 + 108) p = (am_up g 217 (15 + i) (nI p)) 217 (45 + p) := rl_g_ca R2.1.1 (by omega)
    obtain ⟨f4, n1, n2, n3, n4, -⟩ := nt_110 R3.1 0 (nI i) (nI p)
    refine ⟨f4, _, ?_, ?_, n3, (R2.2.trans R3.2).trans n4⟩
    · rw [if_pos rfl, if_pos (pu_in (by omega) (by omega)), nI_clamp (by omega), pu_let, if_pos (pu_in (by omega) (by omega)), if_pos (pu_in (by omega) (by omega)), nI_clamp (by omega), pu_let]
      have ev2 : am_up f 113 i (nI p) 118 p = (am_up g 217 (15 + i) (nI p)) 217 (45 + p) := ev
      rw [ev2]
      have n1' : xb_note_110 0 (nI i) (nI p) false (am_up (am_up f 113 i (nI p)) 118 p ((am_up g 217 (15 + i) (nI p)) 217 (45 + p) + 1)) = some f4 := n1
      rw [n1', pu_bs]
    · rw [if_pos rfl, show (15 : Int32) = nI 15 from rfl, show (45 : Int32) = nI 45 from rfl, nI_add, nI_add, if_pos (pu_in (by omega) (by omega)), nI_clamp (by omega), pu_let, if_pos (pu_in (by omega) (by omega)), if_pos (pu_in (by omega) (by omega)), nI_clamp (by omega), pu_let, n2, pu_bs]
theorem out_110 {c : Nat → Nat} {T : Nat} {f g : Nat → Nat → Int32} (h : tk_R 108 false c T f g) {n i : Nat} (en : g 217 69 = nI n) (hn : n ≤ 6) (hi : i < n) : ∃ f' g', xb_takeOut_110 (nI i) false f = some f' ∧ m_takesOut (nI i) g = some g' ∧ tk_R 108 false c T f' g' ∧ tk_F 108 false f f' g g' := by
  have ho : 108 = 0 ∨ 108 = 108 := by decide
  have eu : f 113 i = g 217 (15 + i) := rl_g_un (o := 108) h.1 (by omega)
  unfold xb_takeOut_110 m_takesOut
  have c1 : am_in (nI i) 6 = true := pu_in (by omega) (by omega)
  have c2 : am_in (nI (15 + i)) 2008 = true := pu_in (by omega) (by omega)
  rw [show (15 : Int32) = nI 15 from rfl, nI_add]
  simp only [c1, c2, if_true, nI_clamp (show i < 2 ^ 31 by omega), nI_clamp (show 15 + i < 2 ^ 31 by omega), pu_let, eu]
  by_cases hz : g 217 (15 + i) = -1
  · simp only [hz, if_true]
    exact ⟨f, g, rfl, rfl, h, tk_F.rf⟩
  · have R2 := tk_cell ho h (a := 5) (j := i) (i := 15 + i) (v := -1) (by decide) (by decide) (by omega) (rl_s_un h.1 (by omega) _) (iv_c_un h.2.2.1 (by omega) (Or.inl rfl))
    obtain ⟨f4, n1, n2, n3, n4, -⟩ := nt_110 R2.1 1 (nI i) (g 217 (15 + i))
    obtain ⟨f5, -, n6, -⟩ := nt_110 h 1 (nI i) (g 217 (15 + i))
    rw [nt_up (by omega) (by omega) (by omega)] at n3 n4
    have n1' : xb_note_110 1 (nI i) (g 217 (15 + i)) false (am_up f 113 i (-1)) = some f4 := n1
    refine ⟨f4, _, ?_, ?_, n3, R2.2.trans n4⟩
    · rw [if_neg hz, n1', pu_bs]
    · rw [if_neg hz, n6, pu_bs]
