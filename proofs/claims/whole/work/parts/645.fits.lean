/-! SETS THAT FIT -/
theorem ft_all {f g : Nat → Nat → Int32} (h : rl_Rel f g) (s : Int32) : ∃ b, xm_fitsAll_27_25 s f = some b ∧ m_fitsAll s g = some b := by
  obtain ⟨z, hz, e2, hr⟩ := h.1.2.2.2.2.2.1.1
  have e1 : f 27 0 = nI z := by rw [rl_f_r1n h]; exact e2
  unfold xm_fitsAll_27_25 m_fitsAll
  refine lo_two (pu_two (fun j (s : Int32) (t : Int32) => s = nI j ∧ t = nI j) (fun e e' => e = e') z ⟨rfl, rfl⟩ ?_ ?_)
  · rintro j x y hj ⟨rfl, rfl⟩
    obtain ⟨a, b, ha, hb, w1, w2⟩ := hr j hj
    obtain ⟨q, q1, q2, q3⟩ := nr_eq (fun j hj => rl_f_ne h hj) h.1.2.2.2.1 s (t := nI a) (Or.inr ⟨a, ha, rfl⟩)
    have k1 : am_in (nI j) 8 = true := pu_in (by omega) (by omega)
    have k2 : am_in (nI (408 + 2 * j)) 2008 = true := pu_in (by omega) (by omega)
    have k3 : am_in (nI (409 + 2 * j)) 2008 = true := pu_in (by omega) (by omega)
    have z1 : (408 : Int32) + 2 * nI j = nI (408 + 2 * j) := by rw [show (2 : Int32) = nI 2 from rfl, pk_mul, show (408 : Int32) = nI 408 from rfl, nI_add]
    have z2 : (409 : Int32) + 2 * nI j = nI (409 + 2 * j) := by rw [show (2 : Int32) = nI 2 from rfl, pk_mul, show (409 : Int32) = nI 409 from rfl, nI_add]
    have v1 : f 28 j = nI a := by rw [rl_f_r1a h (by omega)]; exact w1
    have v2 : f 29 j = nI b := by rw [rl_f_r1b h (by omega)]; exact w2
    rw [e1, e2, if_pos (nI_lt hj (by omega)), if_pos (nI_lt hj (by omega)), z1, z2]
    simp only [k1, k2, k3, if_true, nI_clamp (show j < 2 ^ 31 by omega), nI_clamp (show 408 + 2 * j < 2 ^ 31 by omega), nI_clamp (show 409 + 2 * j < 2 ^ 31 by omega), v1, v2, w1, w2, q2, q3, pu_bs, pu_letE]
    by_cases c : nI q = nI b
    · simp only [c, if_true]
      first | exact Or.inl ⟨_, _, rfl, rfl, nI_1 j, nI_1 j⟩ | skip
    · simp only [c, if_false]
      first | exact Or.inr ⟨_, _, rfl, rfl, rfl⟩ | skip
  · rintro x y ⟨rfl, rfl⟩
    rw [e1, e2, if_neg (nI_nlt (Nat.le_refl _) (by omega)), if_neg (nI_nlt (Nat.le_refl _) (by omega))]
    exact ⟨_, _, rfl, rfl, rfl⟩
