/-! The checks together: every method's rows are checked. -/
theorem am_law_ckl : am_ckl am_law (am_code 313) = true := by
  have hl : (am_code 313).length = 1055 := by decide +kernel
  unfold am_ckl
  rw [List.all_eq_true]
  intro j hj
  rw [List.mem_range, hl] at hj
  exact am_kl j hj
theorem am_Chk_ok : am_Chk := by
  intro mi M h
  by_cases c : mi = 313
  · subst c
    rw [am_law_mt] at h
    cases h
    exact ⟨⟨am_law_ckl, am_kl2⟩, fun hn => absurd rfl hn⟩
  · have hl : mi < 314 := by
      have := (List.getElem?_eq_some_iff.mp h).1
      rw [am_mt_len] at this
      exact this
    have hk := am_ka mi (by omega)
    unfold am_ckall at hk
    rw [h] at hk
    simp only [Bool.and_eq_true] at hk
    obtain ⟨⟨⟨h1, h2⟩, h3⟩, h4⟩ := hk
    refine ⟨⟨h1, h2⟩, fun _ => ⟨h3, ?_⟩⟩
    split at h4
    · rename_i q hq
      exact ⟨q, hq, by simpa using h4⟩
    · cases h4
