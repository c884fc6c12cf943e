theorem lo_two {E : Type} {a b : Option E} (h : ∃ e e', a = some e ∧ b = some e' ∧ e = e') : ∃ v, a = some v ∧ b = some v := by
  obtain ⟨e, e', h1, h2, h3⟩ := h
  exact ⟨e, h1, by rw [h3]; exact h2⟩
theorem lo_who {f g : Nat → Nat → Int32} (h : rl_Rel f g) : ∃ v, xc_whoHaveGlasses_2 f = some v ∧ m_haveGlasses g = some v := by
  obtain ⟨n, m, t, b, hn, hm, ht, hb, e1, e2, -⟩ := rl_n h
  unfold xc_whoHaveGlasses_2 m_haveGlasses
  refine lo_two (pu_two (fun i s t => s = t ∧ s.2 = nI i) (fun e e' => e = e') n (s := ((0, 0) : Int32 × Int32)) (t := ((0, 0) : Int32 × Int32)) ⟨rfl, rfl⟩ ?_ ?_)
  · rintro i ⟨a, z⟩ ⟨a', z'⟩ hi ⟨e3, e4⟩
    cases e3
    obtain rfl : z = nI i := e4
    refine Or.inl ?_
    dsimp only
    rw [e1, e2, if_pos (nI_lt hi (by omega)), if_pos (nI_lt hi (by omega)), if_pos (pu_in (by omega) (by omega)), show (15 : Int32) + nI i = nI (15 + i) from nI_add 15 i, if_pos (pu_in (by omega) (by omega)), nI_clamp (by omega), nI_clamp (by omega), rl_f_un h (by omega)]
    have c15 : am_in (nI (15 + i)) 2008 = true := pu_in (by omega) (by omega)
    by_cases hu : g 217 (15 + i) = -1
    · rw [if_pos hu, if_pos hu, pu_bs, pu_bs, if_pos c15]
      refine ⟨_, _, rfl, rfl, ?_, nI_1 i⟩
      show (a, nI i + 1) = (a ||| 0, nI i + 1)
      rw [Int32.or_zero]
    · rw [if_neg hu, if_neg hu, pu_letE, pu_bs, if_pos c15, if_pos c15, pu_bs]
      exact ⟨_, _, rfl, rfl, rfl, nI_1 i⟩
  · rintro ⟨a, z⟩ ⟨a', z'⟩ ⟨e3, e4⟩
    cases e3
    obtain rfl : z = nI n := e4
    dsimp only
    rw [e1, e2, if_neg (nI_nlt (Nat.le_refl _) (by omega)), if_neg (nI_nlt (Nat.le_refl _) (by omega))]
    exact ⟨_, _, rfl, rfl, rfl⟩
theorem sm_look (x1 : Int32) (f g : Nat → Nat → Int32) (h : rl_Rel f g) : ∃ (v : Int32), x_look x1 f = some v ∧ m_look x1 g = some v ∧ rl_Rel f g := by
  obtain ⟨v, l1, l2⟩ := lo_who h
  unfold x_look m_look
  rw [l1, l2]
  obtain ⟨k, n, -, -, -, p1, p2, -⟩ := h.2.2.1
  rw [p1, p2, rl_f_gn h, rl_f_wn h, rl_f_ti h, rl_f_dr h, rl_f_bn h, rl_f_kn h, rl_f_ll h, rl_f_wl h, rl_f_nl h]
  by_cases z0 : x1 = 0
  · subst z0
    exact ⟨_, rfl, rfl, h⟩
  by_cases z1 : x1 = 1
  · subst z1
    exact ⟨_, rfl, rfl, h⟩
  by_cases z2 : x1 = 2
  · subst z2
    exact ⟨_, rfl, rfl, h⟩
  by_cases z3 : x1 = 3
  · subst z3
    exact ⟨_, rfl, rfl, h⟩
  by_cases z4 : x1 = 4
  · subst z4
    exact ⟨_, rfl, rfl, h⟩
  by_cases z5 : x1 = 5
  · subst z5
    exact ⟨_, rfl, rfl, h⟩
  by_cases z6 : x1 = 6
  · subst z6
    exact ⟨_, rfl, rfl, h⟩
  by_cases z7 : x1 = 7
  · subst z7
    exact ⟨_, rfl, rfl, h⟩
  by_cases z8 : x1 = 8
  · subst z8
    exact ⟨_, rfl, rfl, h⟩
  by_cases z9 : x1 = 9
  · subst z9
    exact ⟨_, rfl, rfl, h⟩
  by_cases z10 : x1 = 10
  · subst z10
    exact ⟨_, rfl, rfl, h⟩
  rw [if_neg z0, if_neg z1, if_neg z2, if_neg z3, if_neg z4, if_neg z5, if_neg z6, if_neg z7, if_neg z8, if_neg z9, if_neg z10]
  exact ⟨_, rfl, rfl, h⟩
