/-! THE CALLS, one by one: the simple ones -/
theorem rl_Rel.rot {f g : Nat → Nat → Int32} (h : rl_Rel f g) : rl_Ps f g := h.2.2.1
theorem sm_state (x1 : Int32) (f g : Nat → Nat → Int32) (h : rl_Rel f g) : ∃ (v : Int32) (f1 g1 : Nat → Nat → Int32), x_state x1 f = (v, f1) ∧ m_state x1 g = (v, g1) ∧ rl_Rel f1 g1 := by
  refine ⟨f 2 3, am_up (am_up f 2 3 x1) 0 4 0, am_up (am_up g 217 1 x1) 216 4 0, rfl, ?_, ?_⟩
  · rw [rl_f_dr h]
    rfl
  · refine rl_anew h ⟨fun a h1 h2 => by rw [pu_up_ne _ _ (by omega), pu_up_ne _ _ (by omega)], rfl, rfl, rfl, rfl, rfl, rfl, rfl, rfl, rfl, rfl, rfl, rfl, rfl, rfl, rfl, rfl⟩ ?_ (h.rot.none rfl rfl rfl)
    show rl_Wd 0 9999 _ (upd (g 217) 1 x1)
    refine iv_oth h.1 ((rl_w_dr (o := 0) h.1.1 x1).row fun q hq => pu_up_ne _ _ (by have := (rl_lo q hq).1; omega)) (iv_c_dr h.1.2.1 x1) (fun a h1 h2 => ?_) (fun i h1 h2 => pu_upd_ne _ _ (by omega))
    rw [pu_up_ne _ _ (by omega), pu_up_ne _ _ (by omega)]
theorem sm_fault (x1 : Int32) (f g : Nat → Nat → Int32) (h : rl_Rel f g) : ∃ (v : Int32), x_fault x1 f = v ∧ m_fault x1 g = v ∧ rl_Rel f g := by
  refine ⟨_, rfl, ?_, h⟩
  unfold x_fault m_fault
  rw [h.2.2.2.2.1.1, h.2.2.2.2.1.2]
theorem sm_end (x1 : Int32) (f g : Nat → Nat → Int32) (h : rl_Rel f g) : ∃ (v : Bool) (f1 g1 : Nat → Nat → Int32), x_end x1 f = (v, f1) ∧ m_end x1 g = (v, g1) ∧ rl_Rel f1 g1 := by
  obtain ⟨n, n1, n2, n3, n4⟩ := h.2.2.2.1
  unfold x_end m_end
  rw [n2, n3, pu_isIn]
  rcases pu_within_cases x1 (lo := 0) (hi := nI n) 0 n rfl rfl with ⟨e, k, k1, k2, rfl⟩ | e
  · rw [e]
    refine ⟨true, _, _, rfl, rfl, ?_⟩
    obtain ⟨h1, h2, h3, h4, h5, h6, h7⟩ := h
    refine ⟨h1.congr fun a x y => pu_up_ne _ _ (by omega), ?_, ?_, ⟨k, by omega, rfl, rfl, fun i hi => n4 i (by omega)⟩, h5, h6, h7⟩
    · rcases h2 with h2 | ⟨x, y, z⟩
      · exact Or.inl h2
      · exact Or.inr ⟨x, y, z.congr fun a x y => pu_up_ne _ _ (by omega)⟩
    · exact h3.same rfl rfl rfl (fun a ha => pu_up_ne _ _ (by omega)) rfl (fun i _ _ => rfl)
  · rw [e]
    exact ⟨false, f, g, rfl, rfl, h⟩
theorem sm_near (x1 x2 : Int32) (f g : Nat → Nat → Int32) (h : rl_Rel f g) : ∃ (v : Int32), x_near x1 x2 f = some v ∧ m_near x1 x2 g = some v ∧ rl_Rel f g := by
  unfold x_near m_near
  rcases pu_topic x1 with ⟨a, ha, rfl, b1, b2⟩ | ⟨b1, b2⟩
  · rcases pu_topic x2 with ⟨b, hb, rfl, c1, c2⟩ | ⟨c1, c2⟩
    · refine ⟨g 217 (87 + (16 * a + b)), ?_, ?_, h⟩
      · rw [b1, c1, if_pos rfl, if_pos rfl]
        unfold xn_between_25
        rw [show (16 : Int32) = nI 16 from rfl, pk_mul, nI_add, if_pos (pu_in (by omega) (by omega)), nI_clamp (by omega), rl_f_ne h (by omega)]
        rfl
      · rw [b2, c2, if_pos rfl, if_pos rfl]
        unfold m_nearness
        rw [show (16 : Int32) = nI 16 from rfl, show (87 : Int32) = nI 87 from rfl, pk_mul, nI_add, nI_add, if_pos (pu_in (by omega) (by omega)), nI_clamp (by omega), Nat.add_assoc]
        rfl
    · exact ⟨-1, by rw [b1, c1, if_pos rfl]; rfl, by rw [b2, c2, if_pos rfl]; rfl, h⟩
  · exact ⟨-1, by rw [b1]; rfl, by rw [b2]; rfl, h⟩
theorem sm_book (x1 x2 : Int32) (f g : Nat → Nat → Int32) (h : rl_Rel f g) : ∃ (v : Int32), x_book x1 x2 f = some v ∧ m_book x1 x2 g = some v ∧ rl_Rel f g := by
  obtain ⟨n, m, t, b, z1, z2, z3, z4, z5, z6, z7, z8, z9⟩ := h.1.2.1
  unfold x_book m_book
  rw [rl_f_bn h, z7, pu_isIn, pu_isIn]
  rcases pu_rng x1 (n := b) (by omega) with ⟨i, hi, rfl, e1⟩ | ⟨-, e1⟩
  · rw [e1, if_pos rfl, if_pos rfl]
    rcases pu_within_cases x2 (lo := 0) (hi := 3) 0 3 with ⟨e2, k, k1, k2, rfl⟩ | e2
    · rw [e2, if_pos rfl, if_pos rfl]
      refine ⟨g 217 (524 + (4 * i + k)), ?_, ?_, h⟩
      · unfold xk_cell_12
        rw [show (4 : Int32) = nI 4 from rfl, pk_mul, nI_add, if_pos (pu_in (by omega) (by omega)), nI_clamp (by omega), rl_f_bk h (by omega)]
        rfl
      · rw [show (4 : Int32) = nI 4 from rfl, show (524 : Int32) = nI 524 from rfl, pk_mul, nI_add, nI_add, if_pos (pu_in (by omega) (by omega)), nI_clamp (by omega), Nat.add_assoc]
    · rw [e2]
      exact ⟨-1, rfl, rfl, h⟩
  · rw [e1]
    exact ⟨-1, rfl, rfl, h⟩
