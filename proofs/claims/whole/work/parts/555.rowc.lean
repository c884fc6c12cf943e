/-! THE CALLS that tell a row -/
theorem sm_warmth (x1 x2 : Int32) (f g : Nat → Nat → Int32) (h : rl_Rel f g) : ∃ (v : Int32) (f1 g1 : Nat → Nat → Int32), x_warmth x1 x2 f = some (v, f1) ∧ m_warmth x1 x2 g = some (v, g1) ∧ rl_Rel f1 g1 := by
  obtain ⟨z, hz, e, -⟩ := h.1.2.2.2.2.2.1.1
  have e1 : f 27 0 = nI z := by rw [rl_f_r1n h]; exact e
  unfold x_warmth m_warmth
  by_cases h1 : x1 = -1
  · rw [if_pos h1, if_pos h1, show (407 : Int32) = nI 407 from rfl, pu_endsRow (by omega)]
    exact ⟨0, _, _, rfl, rfl, rl_clr1 h⟩
  rw [if_neg h1, if_neg h1]
  rcases pu_topic x1 with ⟨a, ha, rfl, b1, b2⟩ | ⟨b1, b2⟩
  rotate_left
  · exact ⟨-1, f, g, by rw [b1]; rfl, by rw [b2]; rfl, h⟩
  rw [if_pos b1, if_pos b2]
  rw [pu_isIn]
  rcases pu_within_cases x2 (lo := 0) (hi := 10) 0 10 with ⟨c_b, b, b1, b2, rfl⟩ | c_b
  rotate_left
  · exact ⟨-1, f, g, by rw [c_b]; rfl, by rw [c_b]; rfl, h⟩
  rw [if_pos c_b, if_pos c_b]
  rw [pu_app1 (nI a) (nI b) e1 hz, show (407 : Int32) = nI 407 from rfl, show (8 : Int32) = nI 8 from rfl, pu_tellsTwo (nI a) (nI b) (by omega) e hz]
  by_cases hn : z < 8
  · rw [if_pos hn, if_pos hn]
    exact ⟨_, _, _, rfl, rfl, rl_app1 h e hn (nI a) (nI b) ⟨a, b, ha, by omega, rfl, rfl⟩⟩
  · rw [if_neg hn, if_neg hn]
    exact ⟨_, _, _, rfl, rfl, h⟩
theorem sm_world (x1 x2 : Int32) (f g : Nat → Nat → Int32) (h : rl_Rel f g) : ∃ (v : Int32) (f1 g1 : Nat → Nat → Int32), x_world x1 x2 f = some (v, f1) ∧ m_world x1 x2 g = some (v, g1) ∧ rl_Rel f1 g1 := by
  obtain ⟨z, hz, e, -⟩ := h.1.2.2.2.2.2.1.2.1
  have e1 : f 30 0 = nI z := by rw [rl_f_r2n h]; exact e
  unfold x_world m_world
  by_cases h1 : x1 = -1
  · rw [if_pos h1, if_pos h1, show (424 : Int32) = nI 424 from rfl, pu_endsRow (by omega)]
    exact ⟨0, _, _, rfl, rfl, rl_clr2 h⟩
  rw [if_neg h1, if_neg h1]
  rw [pu_isIn]
  rcases pu_within_cases x1 (lo := 1) (hi := 9) 1 9 with ⟨c_a, a, a1, a2, rfl⟩ | c_a
  rotate_left
  · exact ⟨-1, f, g, by rw [c_a]; rfl, by rw [c_a]; rfl, h⟩
  rw [if_pos c_a, if_pos c_a]
  rw [pu_isIn]
  rcases pu_within_cases x2 (lo := 0) (hi := 255) 0 255 with ⟨c_b, b, b1, b2, rfl⟩ | c_b
  rotate_left
  · exact ⟨-1, f, g, by rw [c_b]; rfl, by rw [c_b]; rfl, h⟩
  rw [if_pos c_b, if_pos c_b]
  rw [pu_app2 (nI a) (nI b) e1 hz, show (424 : Int32) = nI 424 from rfl, show (6 : Int32) = nI 6 from rfl, pu_tellsTwo (nI a) (nI b) (by omega) e hz]
  by_cases hn : z < 6
  · rw [if_pos hn, if_pos hn]
    exact ⟨_, _, _, rfl, rfl, rl_app2 h e hn (nI a) (nI b) ⟨a, b, by omega, by omega, by omega, rfl, rfl⟩⟩
  · rw [if_neg hn, if_neg hn]
    exact ⟨_, _, _, rfl, rfl, h⟩
theorem sm_point (x1 x2 : Int32) (f g : Nat → Nat → Int32) (h : rl_Rel f g) : ∃ (v : Int32) (f1 g1 : Nat → Nat → Int32), x_point x1 x2 f = some (v, f1) ∧ m_point x1 x2 g = some (v, g1) ∧ rl_Rel f1 g1 := by
  obtain ⟨z, hz, e, -⟩ := h.1.2.2.2.2.2.1.2.2.1
  have e1 : f 33 0 = nI z := by rw [rl_f_r3n h]; exact e
  unfold x_point m_point
  by_cases h1 : x1 = -1
  · rw [if_pos h1, if_pos h1, show (437 : Int32) = nI 437 from rfl, pu_endsRow (by omega)]
    exact ⟨0, _, _, rfl, rfl, rl_clr3 h⟩
  rw [if_neg h1, if_neg h1]
  rw [pu_isIn]
  rcases pu_within_cases x1 (lo := 0) (hi := 9) 0 9 with ⟨c_a, a, a1, a2, rfl⟩ | c_a
  rotate_left
  · exact ⟨-1, f, g, by rw [c_a]; rfl, by rw [c_a]; rfl, h⟩
  rw [if_pos c_a, if_pos c_a]
  rw [pu_isIn]
  by_cases c_b : x_within x2 (-99) 99 = true
  rotate_left
  · exact ⟨-1, f, g, by rw [if_neg c_b], by rw [if_neg c_b], h⟩
  rw [if_pos c_b, if_pos c_b]
  rw [pu_app3 (nI a) x2 e1 hz, show (437 : Int32) = nI 437 from rfl, show (4 : Int32) = nI 4 from rfl, pu_tellsTwo (nI a) x2 (by omega) e hz]
  by_cases hn : z < 4
  · rw [if_pos hn, if_pos hn]
    exact ⟨_, _, _, rfl, rfl, rl_app3 h e hn (nI a) x2 ⟨a, by omega, rfl⟩⟩
  · rw [if_neg hn, if_neg hn]
    exact ⟨_, _, _, rfl, rfl, h⟩
theorem sm_coal (x1 : Int32) (f g : Nat → Nat → Int32) (h : rl_Rel f g) : ∃ (v : Int32) (f1 g1 : Nat → Nat → Int32), x_coal x1 f = some (v, f1) ∧ m_coal x1 g = some (v, g1) ∧ rl_Rel f1 g1 := by
  obtain ⟨z, hz, e, -⟩ := h.1.2.2.2.2.2.1.2.2.2.2.1
  have e1 : f 39 0 = nI z := by rw [rl_f_r5n h]; exact e
  unfold x_coal m_coal
  by_cases h1 : x1 = -1
  · rw [if_pos h1, if_pos h1, show (459 : Int32) = nI 459 from rfl, pu_endsRow (by omega)]
    exact ⟨0, _, _, rfl, rfl, rl_clr5 h⟩
  rw [if_neg h1, if_neg h1]
  rw [pu_isIn]
  rcases pu_within_cases x1 (lo := 1) (hi := 40) 1 40 with ⟨c_a, a, a1, a2, rfl⟩ | c_a
  rotate_left
  · exact ⟨-1, f, g, by rw [c_a]; rfl, by rw [c_a]; rfl, h⟩
  rw [if_pos c_a, if_pos c_a]
  rw [pu_app5 (nI a) 0 e1 hz, show (459 : Int32) = nI 459 from rfl, show (4 : Int32) = nI 4 from rfl, pu_tellsOne (nI a) (by omega) e hz]
  by_cases hn : z < 4
  · rw [if_pos hn, if_pos hn]
    exact ⟨_, _, _, rfl, rfl, rl_app5 h e hn (nI a) 0 ⟨a, by omega, by omega, rfl⟩⟩
  · rw [if_neg hn, if_neg hn]
    exact ⟨_, _, _, rfl, rfl, h⟩
theorem sm_shown (x1 : Int32) (f g : Nat → Nat → Int32) (h : rl_Rel f g) : ∃ (v : Int32) (f1 g1 : Nat → Nat → Int32), x_shown x1 f = some (v, f1) ∧ m_shown x1 g = some (v, g1) ∧ rl_Rel f1 g1 := by
  obtain ⟨z, hz, e, -⟩ := h.1.2.2.2.2.2.1.2.2.2.2.2.1
  have e1 : f 42 0 = nI z := by rw [rl_f_r6n h]; exact e
  unfold x_shown m_shown
  by_cases h1 : x1 = -1
  · rw [if_pos h1, if_pos h1, show (464 : Int32) = nI 464 from rfl, pu_endsRow (by omega)]
    exact ⟨0, _, _, rfl, rfl, rl_clr6 h⟩
  rw [if_neg h1, if_neg h1]
  rw [pu_isIn]
  rcases pu_within_cases x1 (lo := 0) (hi := 65535) 0 65535 with ⟨c_a, a, a1, a2, rfl⟩ | c_a
  rotate_left
  · exact ⟨-1, f, g, by rw [c_a]; rfl, by rw [c_a]; rfl, h⟩
  rw [if_pos c_a, if_pos c_a]
  rw [pu_app6 (nI a) 0 e1 hz, show (464 : Int32) = nI 464 from rfl, show (8 : Int32) = nI 8 from rfl, pu_tellsOne (nI a) (by omega) e hz]
  by_cases hn : z < 8
  · rw [if_pos hn, if_pos hn]
    exact ⟨_, _, _, rfl, rfl, rl_app6 h e hn (nI a) 0 ⟨a, by omega, rfl⟩⟩
  · rw [if_neg hn, if_neg hn]
    exact ⟨_, _, _, rfl, rfl, h⟩
theorem sm_reading (x1 : Int32) (f g : Nat → Nat → Int32) (h : rl_Rel f g) : ∃ (v : Int32) (f1 g1 : Nat → Nat → Int32), x_reading x1 f = some (v, f1) ∧ m_reading x1 g = some (v, g1) ∧ rl_Rel f1 g1 := by
  obtain ⟨z, hz, e, -⟩ := h.1.2.2.2.2.2.1.2.2.2.2.2.2.1
  have e1 : f 45 0 = nI z := by rw [rl_f_r7n h]; exact e
  unfold x_reading m_reading
  by_cases h1 : x1 = -1
  · rw [if_pos h1, if_pos h1, show (481 : Int32) = nI 481 from rfl, pu_endsRow (by omega)]
    exact ⟨0, _, _, rfl, rfl, rl_clr7 h⟩
  rw [if_neg h1, if_neg h1]
  rw [pu_isIn]
  rcases pu_within_cases x1 (lo := 0) (hi := 99) 0 99 with ⟨c_a, a, a1, a2, rfl⟩ | c_a
  rotate_left
  · exact ⟨-1, f, g, by rw [c_a]; rfl, by rw [c_a]; rfl, h⟩
  rw [if_pos c_a, if_pos c_a]
  rw [pu_app7 (nI a) 0 e1 hz, show (481 : Int32) = nI 481 from rfl, show (24 : Int32) = nI 24 from rfl, pu_tellsOne (nI a) (by omega) e hz]
  by_cases hn : z < 24
  · rw [if_pos hn, if_pos hn]
    exact ⟨_, _, _, rfl, rfl, rl_app7 h e hn (nI a) 0 ⟨a, by omega, rfl⟩⟩
  · rw [if_neg hn, if_neg hn]
    exact ⟨_, _, _, rfl, rfl, h⟩
theorem sm_dog (x1 : Int32) (f g : Nat → Nat → Int32) (h : rl_Rel f g) : ∃ (v : Int32) (f1 g1 : Nat → Nat → Int32), x_dog x1 f = some (v, f1) ∧ m_dog x1 g = some (v, g1) ∧ rl_Rel f1 g1 := by
  obtain ⟨z, hz, e, -⟩ := h.1.2.2.2.2.2.1.2.2.2.2.2.2.2.1
  have e1 : f 48 0 = nI z := by rw [rl_f_r8n h]; exact e
  unfold x_dog m_dog
  by_cases h1 : x1 = -1
  · rw [if_pos h1, if_pos h1, show (506 : Int32) = nI 506 from rfl, pu_endsRow (by omega)]
    exact ⟨0, _, _, rfl, rfl, rl_clr8 h⟩
  rw [if_neg h1, if_neg h1]
  rw [pu_isIn]
  rcases pu_within_cases x1 (lo := 1) (hi := 9999) 1 9999 with ⟨c_a, a, a1, a2, rfl⟩ | c_a
  rotate_left
  · exact ⟨-1, f, g, by rw [c_a]; rfl, by rw [c_a]; rfl, h⟩
  rw [if_pos c_a, if_pos c_a]
  rw [pu_app8 (nI a) 0 e1 hz, show (506 : Int32) = nI 506 from rfl, show (8 : Int32) = nI 8 from rfl, pu_tellsOne (nI a) (by omega) e hz]
  by_cases hn : z < 8
  · rw [if_pos hn, if_pos hn]
    exact ⟨_, _, _, rfl, rfl, rl_app8 h e hn (nI a) 0 ⟨a, by omega, by omega, rfl⟩⟩
  · rw [if_neg hn, if_neg hn]
    exact ⟨_, _, _, rfl, rfl, h⟩
theorem sm_juror (x1 : Int32) (f g : Nat → Nat → Int32) (h : rl_Rel f g) : ∃ (v : Int32) (f1 g1 : Nat → Nat → Int32), x_juror x1 f = some (v, f1) ∧ m_juror x1 g = some (v, g1) ∧ rl_Rel f1 g1 := by
  obtain ⟨z, hz, e, -⟩ := h.1.2.2.2.2.2.1.2.2.2.2.2.2.2.2.1
  have e1 : f 51 0 = nI z := by rw [rl_f_r9n h]; exact e
  unfold x_juror m_juror
  by_cases h1 : x1 = -1
  · rw [if_pos h1, if_pos h1, show (515 : Int32) = nI 515 from rfl, pu_endsRow (by omega)]
    exact ⟨0, _, _, rfl, rfl, rl_clr9 h⟩
  rw [if_neg h1, if_neg h1]
  rw [pu_isIn]
  rcases pu_within_cases x1 (lo := 1) (hi := 20) 1 20 with ⟨c_a, a, a1, a2, rfl⟩ | c_a
  rotate_left
  · exact ⟨-1, f, g, by rw [c_a]; rfl, by rw [c_a]; rfl, h⟩
  rw [if_pos c_a, if_pos c_a]
  rw [pu_app9 (nI a) 0 e1 hz, show (515 : Int32) = nI 515 from rfl, show (8 : Int32) = nI 8 from rfl, pu_tellsOne (nI a) (by omega) e hz]
  by_cases hn : z < 8
  · rw [if_pos hn, if_pos hn]
    exact ⟨_, _, _, rfl, rfl, rl_app9 h e hn (nI a) 0 ⟨a, by omega, by omega, rfl⟩⟩
  · rw [if_neg hn, if_neg hn]
    exact ⟨_, _, _, rfl, rfl, h⟩
theorem sm_saying (x1 x2 : Int32) (f g : Nat → Nat → Int32) (h : rl_Rel f g) : ∃ (v : Int32) (f1 g1 : Nat → Nat → Int32), x_saying x1 x2 f = some (v, f1) ∧ m_saying x1 x2 g = some (v, g1) ∧ rl_Rel f1 g1 := by
  obtain ⟨z, hz, e, -⟩ := h.1.2.2.2.2.2.1.2.2.2.1
  have e1 : f 36 0 = nI z := by rw [rl_f_r4n h]; exact e
  unfold x_saying m_saying
  by_cases h1 : x1 = -1
  · rw [if_pos h1, if_pos h1, show (446 : Int32) = nI 446 from rfl, pu_endsRow (by omega)]
    exact ⟨0, _, _, rfl, rfl, rl_clr4 h⟩
  rw [if_neg h1, if_neg h1, pu_isIn, pu_isIn]
  rcases pu_within_cases x1 (lo := 0) (hi := 3) 0 3 with ⟨c_a, a, a1, a2, rfl⟩ | c_a
  rotate_left
  · exact ⟨-1, f, g, by rw [c_a]; rfl, by rw [c_a]; rfl, h⟩
  rw [if_pos c_a, if_pos c_a, pu_app4 (nI a) x2 e1 hz, show (446 : Int32) = nI 446 from rfl, show (6 : Int32) = nI 6 from rfl, pu_tellsTwo (nI a) x2 (by omega) e hz]
  have key : ∃ (v : Int32) (f1 g1 : Nat → Nat → Int32), ((if z < 6 then some (nI (z + 1), am_up (am_up (am_up f 37 z (nI a)) 38 z x2) 36 0 (nI (z + 1))) else some (-1, f) : Option (Int32 × (Nat → Nat → Int32))).bind fun p4 => some (p4.1, p4.2)) = some (v, f1) ∧ ((if z < 6 then some (nI (z + 1), am_up (am_up (am_up g 217 (446 + 1 + 2 * z) (nI a)) 217 (446 + 2 + 2 * z) x2) 217 446 (nI (z + 1))) else some (-1, g) : Option (Int32 × (Nat → Nat → Int32))).bind fun p4 => some (p4.1, p4.2)) = some (v, g1) ∧ rl_Rel f1 g1 := by
    by_cases hn : z < 6
    · rw [if_pos hn, if_pos hn]
      exact ⟨_, _, _, rfl, rfl, rl_app4 h e hn (nI a) x2 ⟨a, by omega, rfl⟩⟩
    · rw [if_neg hn, if_neg hn]
      exact ⟨_, _, _, rfl, rfl, h⟩
  by_cases h2 : a < 2
  · rw [if_pos (show nI a < (2 : Int32) from nI_lt (b := 2) h2 (by omega)), if_neg (show ¬ (1 : Int32) < nI a from nI_nlt (a := 1) (by omega) (by omega))]
    by_cases c_b : x_within x2 1 50 = true
    · rw [if_pos c_b, if_pos c_b]
      exact key
    · rw [if_neg c_b, if_neg c_b]
      exact ⟨-1, f, g, rfl, rfl, h⟩
  · rw [if_neg (show ¬ nI a < (2 : Int32) from nI_nlt (b := 2) (by omega) (by omega)), if_pos (show (1 : Int32) < nI a from nI_lt (a := 1) (by omega) (by omega))]
    exact key
theorem sm_cost (x1 x2 : Int32) (f g : Nat → Nat → Int32) (h : rl_Rel f g) : ∃ (v : Bool) (f1 g1 : Nat → Nat → Int32), x_cost x1 x2 f = some (v, f1) ∧ m_cost x1 x2 g = some (v, g1) ∧ rl_Rel f1 g1 := by
  unfold x_cost m_cost
  rw [pu_isIn, pu_isIn]
  rcases pu_within_cases x1 (lo := 0) (hi := 7) 0 7 with ⟨c_a, a, a1, a2, rfl⟩ | c_a
  rotate_left
  · exact ⟨false, f, g, by rw [c_a]; rfl, by rw [c_a]; rfl, h⟩
  rcases pu_within_cases x2 (lo := 0) (hi := 99) 0 99 with ⟨c_b, b, b1, b2, rfl⟩ | c_b
  rotate_left
  · exact ⟨false, f, g, by rw [if_pos c_a, c_b]; rfl, by rw [if_pos c_a, c_b]; rfl, h⟩
  rw [if_pos c_a, if_pos c_a, if_pos c_b, if_pos c_b, if_pos (pu_in (by omega) (by omega)), nI_clamp (by omega), show (473 : Int32) = nI 473 from rfl, nI_add, if_pos (pu_in (by omega) (by omega)), nI_clamp (by omega)]
  refine ⟨true, _, _, rfl, rfl, ?_⟩
  refine rl_thought h ?_ ?_ (fun x hx => pu_up_ne _ _ (by omega)) (fun x hx => pu_up_ne _ _ hx) (fun i hi => by rw [pu_up_row, pu_upd_ne _ _ (by omega)])
  · rw [pu_up_row]
    exact rl_s_cs (o := 0) h.1.1 (t := a) (by omega) _
  · rw [pu_up_row]
    refine iv_t0 h.1.2.2.2.2.2.1 (fun i hi => pu_upd_ne _ _ (by omega)) (fun i hi => ?_)
    by_cases ei : i = a
    · subst ei
      exact ⟨b, b2, pu_upd_eq _ _ _⟩
    · rw [pu_upd_ne _ _ (by omega)]
      exact h.1.2.2.2.2.2.1.2.2.2.2.2.2.2.2.2 i hi
