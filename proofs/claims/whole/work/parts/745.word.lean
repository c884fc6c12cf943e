theorem kw_nf {x : Bool} (h : ¬ x = true) : x = false := by simpa using h
def kw_g0 (M : Nat → Bool) : Int32 := (if M 4 = true then 3 else (if M 5 = true then 4 else (if M 6 = true then 5 else (if M 7 = true then 6 else (if M 8 = true then 20 else (if M 9 = true then 21 else (if M 10 = true then 22 else (if M 11 = true then 41 else (if M 12 = true then 42 else (if M 13 = true then 43 else (if M 14 = true then 44 else (if M 15 = true then 45 else (if M 16 = true then 46 else (if M 17 = true then 47 else (if M 18 = true then 48 else (if M 19 = true then 49 else (if M 20 = true then 50 else 1)))))))))))))))))
theorem kw_h0 (M : Nat → Bool) (hu : ∀ w v, 4 ≤ w → w < 21 → 4 ≤ v → v < 21 → M w = true → M v = true → w = v) : (kw_f M (kw_W 0) 0 = -1 ∧ kw_g0 M = 1) ∨ ∃ i, i < (kw_W 0).length ∧ kw_f M (kw_W 0) 0 = nI i ∧ kw_g0 M = nI (kw_c 0 i) := by
  show (kw_f M [8, 9, 10, 4, 5, 6, 7, 11, 12, 13, 14, 15, 16, 17, 18, 19, 20] 0 = -1 ∧ kw_g0 M = 1) ∨ ∃ i, i < 17 ∧ kw_f M [8, 9, 10, 4, 5, 6, 7, 11, 12, 13, 14, 15, 16, 17, 18, 19, 20] 0 = nI i ∧ kw_g0 M = nI (kw_c 0 i)
  unfold kw_g0
  simp only [kw_f]
  by_cases h8 : M 8 = true
  · have h4 : ¬ M 4 = true := fun z => absurd (hu 8 4 (by omega) (by omega) (by omega) (by omega) h8 z) (by omega)
    have h5 : ¬ M 5 = true := fun z => absurd (hu 8 5 (by omega) (by omega) (by omega) (by omega) h8 z) (by omega)
    have h6 : ¬ M 6 = true := fun z => absurd (hu 8 6 (by omega) (by omega) (by omega) (by omega) h8 z) (by omega)
    have h7 : ¬ M 7 = true := fun z => absurd (hu 8 7 (by omega) (by omega) (by omega) (by omega) h8 z) (by omega)
    have h9 : ¬ M 9 = true := fun z => absurd (hu 8 9 (by omega) (by omega) (by omega) (by omega) h8 z) (by omega)
    have h10 : ¬ M 10 = true := fun z => absurd (hu 8 10 (by omega) (by omega) (by omega) (by omega) h8 z) (by omega)
    have h11 : ¬ M 11 = true := fun z => absurd (hu 8 11 (by omega) (by omega) (by omega) (by omega) h8 z) (by omega)
    have h12 : ¬ M 12 = true := fun z => absurd (hu 8 12 (by omega) (by omega) (by omega) (by omega) h8 z) (by omega)
    have h13 : ¬ M 13 = true := fun z => absurd (hu 8 13 (by omega) (by omega) (by omega) (by omega) h8 z) (by omega)
    have h14 : ¬ M 14 = true := fun z => absurd (hu 8 14 (by omega) (by omega) (by omega) (by omega) h8 z) (by omega)
    have h15 : ¬ M 15 = true := fun z => absurd (hu 8 15 (by omega) (by omega) (by omega) (by omega) h8 z) (by omega)
    have h16 : ¬ M 16 = true := fun z => absurd (hu 8 16 (by omega) (by omega) (by omega) (by omega) h8 z) (by omega)
    have h17 : ¬ M 17 = true := fun z => absurd (hu 8 17 (by omega) (by omega) (by omega) (by omega) h8 z) (by omega)
    have h18 : ¬ M 18 = true := fun z => absurd (hu 8 18 (by omega) (by omega) (by omega) (by omega) h8 z) (by omega)
    have h19 : ¬ M 19 = true := fun z => absurd (hu 8 19 (by omega) (by omega) (by omega) (by omega) h8 z) (by omega)
    have h20 : ¬ M 20 = true := fun z => absurd (hu 8 20 (by omega) (by omega) (by omega) (by omega) h8 z) (by omega)
    simp only [if_pos h8, if_neg h4, if_neg h5, if_neg h6, if_neg h7]
    exact Or.inr ⟨0, by omega, rfl, rfl⟩
  by_cases h9 : M 9 = true
  · have h4 : ¬ M 4 = true := fun z => absurd (hu 9 4 (by omega) (by omega) (by omega) (by omega) h9 z) (by omega)
    have h5 : ¬ M 5 = true := fun z => absurd (hu 9 5 (by omega) (by omega) (by omega) (by omega) h9 z) (by omega)
    have h6 : ¬ M 6 = true := fun z => absurd (hu 9 6 (by omega) (by omega) (by omega) (by omega) h9 z) (by omega)
    have h7 : ¬ M 7 = true := fun z => absurd (hu 9 7 (by omega) (by omega) (by omega) (by omega) h9 z) (by omega)
    have h10 : ¬ M 10 = true := fun z => absurd (hu 9 10 (by omega) (by omega) (by omega) (by omega) h9 z) (by omega)
    have h11 : ¬ M 11 = true := fun z => absurd (hu 9 11 (by omega) (by omega) (by omega) (by omega) h9 z) (by omega)
    have h12 : ¬ M 12 = true := fun z => absurd (hu 9 12 (by omega) (by omega) (by omega) (by omega) h9 z) (by omega)
    have h13 : ¬ M 13 = true := fun z => absurd (hu 9 13 (by omega) (by omega) (by omega) (by omega) h9 z) (by omega)
    have h14 : ¬ M 14 = true := fun z => absurd (hu 9 14 (by omega) (by omega) (by omega) (by omega) h9 z) (by omega)
    have h15 : ¬ M 15 = true := fun z => absurd (hu 9 15 (by omega) (by omega) (by omega) (by omega) h9 z) (by omega)
    have h16 : ¬ M 16 = true := fun z => absurd (hu 9 16 (by omega) (by omega) (by omega) (by omega) h9 z) (by omega)
    have h17 : ¬ M 17 = true := fun z => absurd (hu 9 17 (by omega) (by omega) (by omega) (by omega) h9 z) (by omega)
    have h18 : ¬ M 18 = true := fun z => absurd (hu 9 18 (by omega) (by omega) (by omega) (by omega) h9 z) (by omega)
    have h19 : ¬ M 19 = true := fun z => absurd (hu 9 19 (by omega) (by omega) (by omega) (by omega) h9 z) (by omega)
    have h20 : ¬ M 20 = true := fun z => absurd (hu 9 20 (by omega) (by omega) (by omega) (by omega) h9 z) (by omega)
    simp only [if_neg h8, if_pos h9, if_neg h4, if_neg h5, if_neg h6, if_neg h7]
    exact Or.inr ⟨1, by omega, rfl, rfl⟩
  by_cases h10 : M 10 = true
  · have h4 : ¬ M 4 = true := fun z => absurd (hu 10 4 (by omega) (by omega) (by omega) (by omega) h10 z) (by omega)
    have h5 : ¬ M 5 = true := fun z => absurd (hu 10 5 (by omega) (by omega) (by omega) (by omega) h10 z) (by omega)
    have h6 : ¬ M 6 = true := fun z => absurd (hu 10 6 (by omega) (by omega) (by omega) (by omega) h10 z) (by omega)
    have h7 : ¬ M 7 = true := fun z => absurd (hu 10 7 (by omega) (by omega) (by omega) (by omega) h10 z) (by omega)
    have h11 : ¬ M 11 = true := fun z => absurd (hu 10 11 (by omega) (by omega) (by omega) (by omega) h10 z) (by omega)
    have h12 : ¬ M 12 = true := fun z => absurd (hu 10 12 (by omega) (by omega) (by omega) (by omega) h10 z) (by omega)
    have h13 : ¬ M 13 = true := fun z => absurd (hu 10 13 (by omega) (by omega) (by omega) (by omega) h10 z) (by omega)
    have h14 : ¬ M 14 = true := fun z => absurd (hu 10 14 (by omega) (by omega) (by omega) (by omega) h10 z) (by omega)
    have h15 : ¬ M 15 = true := fun z => absurd (hu 10 15 (by omega) (by omega) (by omega) (by omega) h10 z) (by omega)
    have h16 : ¬ M 16 = true := fun z => absurd (hu 10 16 (by omega) (by omega) (by omega) (by omega) h10 z) (by omega)
    have h17 : ¬ M 17 = true := fun z => absurd (hu 10 17 (by omega) (by omega) (by omega) (by omega) h10 z) (by omega)
    have h18 : ¬ M 18 = true := fun z => absurd (hu 10 18 (by omega) (by omega) (by omega) (by omega) h10 z) (by omega)
    have h19 : ¬ M 19 = true := fun z => absurd (hu 10 19 (by omega) (by omega) (by omega) (by omega) h10 z) (by omega)
    have h20 : ¬ M 20 = true := fun z => absurd (hu 10 20 (by omega) (by omega) (by omega) (by omega) h10 z) (by omega)
    simp only [if_neg h8, if_neg h9, if_pos h10, if_neg h4, if_neg h5, if_neg h6, if_neg h7]
    exact Or.inr ⟨2, by omega, rfl, rfl⟩
  by_cases h4 : M 4 = true
  · have h5 : ¬ M 5 = true := fun z => absurd (hu 4 5 (by omega) (by omega) (by omega) (by omega) h4 z) (by omega)
    have h6 : ¬ M 6 = true := fun z => absurd (hu 4 6 (by omega) (by omega) (by omega) (by omega) h4 z) (by omega)
    have h7 : ¬ M 7 = true := fun z => absurd (hu 4 7 (by omega) (by omega) (by omega) (by omega) h4 z) (by omega)
    have h11 : ¬ M 11 = true := fun z => absurd (hu 4 11 (by omega) (by omega) (by omega) (by omega) h4 z) (by omega)
    have h12 : ¬ M 12 = true := fun z => absurd (hu 4 12 (by omega) (by omega) (by omega) (by omega) h4 z) (by omega)
    have h13 : ¬ M 13 = true := fun z => absurd (hu 4 13 (by omega) (by omega) (by omega) (by omega) h4 z) (by omega)
    have h14 : ¬ M 14 = true := fun z => absurd (hu 4 14 (by omega) (by omega) (by omega) (by omega) h4 z) (by omega)
    have h15 : ¬ M 15 = true := fun z => absurd (hu 4 15 (by omega) (by omega) (by omega) (by omega) h4 z) (by omega)
    have h16 : ¬ M 16 = true := fun z => absurd (hu 4 16 (by omega) (by omega) (by omega) (by omega) h4 z) (by omega)
    have h17 : ¬ M 17 = true := fun z => absurd (hu 4 17 (by omega) (by omega) (by omega) (by omega) h4 z) (by omega)
    have h18 : ¬ M 18 = true := fun z => absurd (hu 4 18 (by omega) (by omega) (by omega) (by omega) h4 z) (by omega)
    have h19 : ¬ M 19 = true := fun z => absurd (hu 4 19 (by omega) (by omega) (by omega) (by omega) h4 z) (by omega)
    have h20 : ¬ M 20 = true := fun z => absurd (hu 4 20 (by omega) (by omega) (by omega) (by omega) h4 z) (by omega)
    simp only [if_neg h8, if_neg h9, if_neg h10, if_pos h4]
    exact Or.inr ⟨3, by omega, rfl, rfl⟩
  by_cases h5 : M 5 = true
  · have h6 : ¬ M 6 = true := fun z => absurd (hu 5 6 (by omega) (by omega) (by omega) (by omega) h5 z) (by omega)
    have h7 : ¬ M 7 = true := fun z => absurd (hu 5 7 (by omega) (by omega) (by omega) (by omega) h5 z) (by omega)
    have h11 : ¬ M 11 = true := fun z => absurd (hu 5 11 (by omega) (by omega) (by omega) (by omega) h5 z) (by omega)
    have h12 : ¬ M 12 = true := fun z => absurd (hu 5 12 (by omega) (by omega) (by omega) (by omega) h5 z) (by omega)
    have h13 : ¬ M 13 = true := fun z => absurd (hu 5 13 (by omega) (by omega) (by omega) (by omega) h5 z) (by omega)
    have h14 : ¬ M 14 = true := fun z => absurd (hu 5 14 (by omega) (by omega) (by omega) (by omega) h5 z) (by omega)
    have h15 : ¬ M 15 = true := fun z => absurd (hu 5 15 (by omega) (by omega) (by omega) (by omega) h5 z) (by omega)
    have h16 : ¬ M 16 = true := fun z => absurd (hu 5 16 (by omega) (by omega) (by omega) (by omega) h5 z) (by omega)
    have h17 : ¬ M 17 = true := fun z => absurd (hu 5 17 (by omega) (by omega) (by omega) (by omega) h5 z) (by omega)
    have h18 : ¬ M 18 = true := fun z => absurd (hu 5 18 (by omega) (by omega) (by omega) (by omega) h5 z) (by omega)
    have h19 : ¬ M 19 = true := fun z => absurd (hu 5 19 (by omega) (by omega) (by omega) (by omega) h5 z) (by omega)
    have h20 : ¬ M 20 = true := fun z => absurd (hu 5 20 (by omega) (by omega) (by omega) (by omega) h5 z) (by omega)
    simp only [if_neg h8, if_neg h9, if_neg h10, if_neg h4, if_pos h5]
    exact Or.inr ⟨4, by omega, rfl, rfl⟩
  by_cases h6 : M 6 = true
  · have h7 : ¬ M 7 = true := fun z => absurd (hu 6 7 (by omega) (by omega) (by omega) (by omega) h6 z) (by omega)
    have h11 : ¬ M 11 = true := fun z => absurd (hu 6 11 (by omega) (by omega) (by omega) (by omega) h6 z) (by omega)
    have h12 : ¬ M 12 = true := fun z => absurd (hu 6 12 (by omega) (by omega) (by omega) (by omega) h6 z) (by omega)
    have h13 : ¬ M 13 = true := fun z => absurd (hu 6 13 (by omega) (by omega) (by omega) (by omega) h6 z) (by omega)
    have h14 : ¬ M 14 = true := fun z => absurd (hu 6 14 (by omega) (by omega) (by omega) (by omega) h6 z) (by omega)
    have h15 : ¬ M 15 = true := fun z => absurd (hu 6 15 (by omega) (by omega) (by omega) (by omega) h6 z) (by omega)
    have h16 : ¬ M 16 = true := fun z => absurd (hu 6 16 (by omega) (by omega) (by omega) (by omega) h6 z) (by omega)
    have h17 : ¬ M 17 = true := fun z => absurd (hu 6 17 (by omega) (by omega) (by omega) (by omega) h6 z) (by omega)
    have h18 : ¬ M 18 = true := fun z => absurd (hu 6 18 (by omega) (by omega) (by omega) (by omega) h6 z) (by omega)
    have h19 : ¬ M 19 = true := fun z => absurd (hu 6 19 (by omega) (by omega) (by omega) (by omega) h6 z) (by omega)
    have h20 : ¬ M 20 = true := fun z => absurd (hu 6 20 (by omega) (by omega) (by omega) (by omega) h6 z) (by omega)
    simp only [if_neg h8, if_neg h9, if_neg h10, if_neg h4, if_neg h5, if_pos h6]
    exact Or.inr ⟨5, by omega, rfl, rfl⟩
  by_cases h7 : M 7 = true
  · have h11 : ¬ M 11 = true := fun z => absurd (hu 7 11 (by omega) (by omega) (by omega) (by omega) h7 z) (by omega)
    have h12 : ¬ M 12 = true := fun z => absurd (hu 7 12 (by omega) (by omega) (by omega) (by omega) h7 z) (by omega)
    have h13 : ¬ M 13 = true := fun z => absurd (hu 7 13 (by omega) (by omega) (by omega) (by omega) h7 z) (by omega)
    have h14 : ¬ M 14 = true := fun z => absurd (hu 7 14 (by omega) (by omega) (by omega) (by omega) h7 z) (by omega)
    have h15 : ¬ M 15 = true := fun z => absurd (hu 7 15 (by omega) (by omega) (by omega) (by omega) h7 z) (by omega)
    have h16 : ¬ M 16 = true := fun z => absurd (hu 7 16 (by omega) (by omega) (by omega) (by omega) h7 z) (by omega)
    have h17 : ¬ M 17 = true := fun z => absurd (hu 7 17 (by omega) (by omega) (by omega) (by omega) h7 z) (by omega)
    have h18 : ¬ M 18 = true := fun z => absurd (hu 7 18 (by omega) (by omega) (by omega) (by omega) h7 z) (by omega)
    have h19 : ¬ M 19 = true := fun z => absurd (hu 7 19 (by omega) (by omega) (by omega) (by omega) h7 z) (by omega)
    have h20 : ¬ M 20 = true := fun z => absurd (hu 7 20 (by omega) (by omega) (by omega) (by omega) h7 z) (by omega)
    simp only [if_neg h8, if_neg h9, if_neg h10, if_neg h4, if_neg h5, if_neg h6, if_pos h7]
    exact Or.inr ⟨6, by omega, rfl, rfl⟩
  by_cases h11 : M 11 = true
  · have h12 : ¬ M 12 = true := fun z => absurd (hu 11 12 (by omega) (by omega) (by omega) (by omega) h11 z) (by omega)
    have h13 : ¬ M 13 = true := fun z => absurd (hu 11 13 (by omega) (by omega) (by omega) (by omega) h11 z) (by omega)
    have h14 : ¬ M 14 = true := fun z => absurd (hu 11 14 (by omega) (by omega) (by omega) (by omega) h11 z) (by omega)
    have h15 : ¬ M 15 = true := fun z => absurd (hu 11 15 (by omega) (by omega) (by omega) (by omega) h11 z) (by omega)
    have h16 : ¬ M 16 = true := fun z => absurd (hu 11 16 (by omega) (by omega) (by omega) (by omega) h11 z) (by omega)
    have h17 : ¬ M 17 = true := fun z => absurd (hu 11 17 (by omega) (by omega) (by omega) (by omega) h11 z) (by omega)
    have h18 : ¬ M 18 = true := fun z => absurd (hu 11 18 (by omega) (by omega) (by omega) (by omega) h11 z) (by omega)
    have h19 : ¬ M 19 = true := fun z => absurd (hu 11 19 (by omega) (by omega) (by omega) (by omega) h11 z) (by omega)
    have h20 : ¬ M 20 = true := fun z => absurd (hu 11 20 (by omega) (by omega) (by omega) (by omega) h11 z) (by omega)
    simp only [if_neg h8, if_neg h9, if_neg h10, if_neg h4, if_neg h5, if_neg h6, if_neg h7, if_pos h11]
    exact Or.inr ⟨7, by omega, rfl, rfl⟩
  by_cases h12 : M 12 = true
  · have h13 : ¬ M 13 = true := fun z => absurd (hu 12 13 (by omega) (by omega) (by omega) (by omega) h12 z) (by omega)
    have h14 : ¬ M 14 = true := fun z => absurd (hu 12 14 (by omega) (by omega) (by omega) (by omega) h12 z) (by omega)
    have h15 : ¬ M 15 = true := fun z => absurd (hu 12 15 (by omega) (by omega) (by omega) (by omega) h12 z) (by omega)
    have h16 : ¬ M 16 = true := fun z => absurd (hu 12 16 (by omega) (by omega) (by omega) (by omega) h12 z) (by omega)
    have h17 : ¬ M 17 = true := fun z => absurd (hu 12 17 (by omega) (by omega) (by omega) (by omega) h12 z) (by omega)
    have h18 : ¬ M 18 = true := fun z => absurd (hu 12 18 (by omega) (by omega) (by omega) (by omega) h12 z) (by omega)
    have h19 : ¬ M 19 = true := fun z => absurd (hu 12 19 (by omega) (by omega) (by omega) (by omega) h12 z) (by omega)
    have h20 : ¬ M 20 = true := fun z => absurd (hu 12 20 (by omega) (by omega) (by omega) (by omega) h12 z) (by omega)
    simp only [if_neg h8, if_neg h9, if_neg h10, if_neg h4, if_neg h5, if_neg h6, if_neg h7, if_neg h11, if_pos h12]
    exact Or.inr ⟨8, by omega, rfl, rfl⟩
  by_cases h13 : M 13 = true
  · have h14 : ¬ M 14 = true := fun z => absurd (hu 13 14 (by omega) (by omega) (by omega) (by omega) h13 z) (by omega)
    have h15 : ¬ M 15 = true := fun z => absurd (hu 13 15 (by omega) (by omega) (by omega) (by omega) h13 z) (by omega)
    have h16 : ¬ M 16 = true := fun z => absurd (hu 13 16 (by omega) (by omega) (by omega) (by omega) h13 z) (by omega)
    have h17 : ¬ M 17 = true := fun z => absurd (hu 13 17 (by omega) (by omega) (by omega) (by omega) h13 z) (by omega)
    have h18 : ¬ M 18 = true := fun z => absurd (hu 13 18 (by omega) (by omega) (by omega) (by omega) h13 z) (by omega)
    have h19 : ¬ M 19 = true := fun z => absurd (hu 13 19 (by omega) (by omega) (by omega) (by omega) h13 z) (by omega)
    have h20 : ¬ M 20 = true := fun z => absurd (hu 13 20 (by omega) (by omega) (by omega) (by omega) h13 z) (by omega)
    simp only [if_neg h8, if_neg h9, if_neg h10, if_neg h4, if_neg h5, if_neg h6, if_neg h7, if_neg h11, if_neg h12, if_pos h13]
    exact Or.inr ⟨9, by omega, rfl, rfl⟩
  by_cases h14 : M 14 = true
  · have h15 : ¬ M 15 = true := fun z => absurd (hu 14 15 (by omega) (by omega) (by omega) (by omega) h14 z) (by omega)
    have h16 : ¬ M 16 = true := fun z => absurd (hu 14 16 (by omega) (by omega) (by omega) (by omega) h14 z) (by omega)
    have h17 : ¬ M 17 = true := fun z => absurd (hu 14 17 (by omega) (by omega) (by omega) (by omega) h14 z) (by omega)
    have h18 : ¬ M 18 = true := fun z => absurd (hu 14 18 (by omega) (by omega) (by omega) (by omega) h14 z) (by omega)
    have h19 : ¬ M 19 = true := fun z => absurd (hu 14 19 (by omega) (by omega) (by omega) (by omega) h14 z) (by omega)
    have h20 : ¬ M 20 = true := fun z => absurd (hu 14 20 (by omega) (by omega) (by omega) (by omega) h14 z) (by omega)
    simp only [if_neg h8, if_neg h9, if_neg h10, if_neg h4, if_neg h5, if_neg h6, if_neg h7, if_neg h11, if_neg h12, if_neg h13, if_pos h14]
    exact Or.inr ⟨10, by omega, rfl, rfl⟩
  by_cases h15 : M 15 = true
  · have h16 : ¬ M 16 = true := fun z => absurd (hu 15 16 (by omega) (by omega) (by omega) (by omega) h15 z) (by omega)
    have h17 : ¬ M 17 = true := fun z => absurd (hu 15 17 (by omega) (by omega) (by omega) (by omega) h15 z) (by omega)
    have h18 : ¬ M 18 = true := fun z => absurd (hu 15 18 (by omega) (by omega) (by omega) (by omega) h15 z) (by omega)
    have h19 : ¬ M 19 = true := fun z => absurd (hu 15 19 (by omega) (by omega) (by omega) (by omega) h15 z) (by omega)
    have h20 : ¬ M 20 = true := fun z => absurd (hu 15 20 (by omega) (by omega) (by omega) (by omega) h15 z) (by omega)
    simp only [if_neg h8, if_neg h9, if_neg h10, if_neg h4, if_neg h5, if_neg h6, if_neg h7, if_neg h11, if_neg h12, if_neg h13, if_neg h14, if_pos h15]
    exact Or.inr ⟨11, by omega, rfl, rfl⟩
  by_cases h16 : M 16 = true
  · have h17 : ¬ M 17 = true := fun z => absurd (hu 16 17 (by omega) (by omega) (by omega) (by omega) h16 z) (by omega)
    have h18 : ¬ M 18 = true := fun z => absurd (hu 16 18 (by omega) (by omega) (by omega) (by omega) h16 z) (by omega)
    have h19 : ¬ M 19 = true := fun z => absurd (hu 16 19 (by omega) (by omega) (by omega) (by omega) h16 z) (by omega)
    have h20 : ¬ M 20 = true := fun z => absurd (hu 16 20 (by omega) (by omega) (by omega) (by omega) h16 z) (by omega)
    simp only [if_neg h8, if_neg h9, if_neg h10, if_neg h4, if_neg h5, if_neg h6, if_neg h7, if_neg h11, if_neg h12, if_neg h13, if_neg h14, if_neg h15, if_pos h16]
    exact Or.inr ⟨12, by omega, rfl, rfl⟩
  by_cases h17 : M 17 = true
  · have h18 : ¬ M 18 = true := fun z => absurd (hu 17 18 (by omega) (by omega) (by omega) (by omega) h17 z) (by omega)
    have h19 : ¬ M 19 = true := fun z => absurd (hu 17 19 (by omega) (by omega) (by omega) (by omega) h17 z) (by omega)
    have h20 : ¬ M 20 = true := fun z => absurd (hu 17 20 (by omega) (by omega) (by omega) (by omega) h17 z) (by omega)
    simp only [if_neg h8, if_neg h9, if_neg h10, if_neg h4, if_neg h5, if_neg h6, if_neg h7, if_neg h11, if_neg h12, if_neg h13, if_neg h14, if_neg h15, if_neg h16, if_pos h17]
    exact Or.inr ⟨13, by omega, rfl, rfl⟩
  by_cases h18 : M 18 = true
  · have h19 : ¬ M 19 = true := fun z => absurd (hu 18 19 (by omega) (by omega) (by omega) (by omega) h18 z) (by omega)
    have h20 : ¬ M 20 = true := fun z => absurd (hu 18 20 (by omega) (by omega) (by omega) (by omega) h18 z) (by omega)
    simp only [if_neg h8, if_neg h9, if_neg h10, if_neg h4, if_neg h5, if_neg h6, if_neg h7, if_neg h11, if_neg h12, if_neg h13, if_neg h14, if_neg h15, if_neg h16, if_neg h17, if_pos h18]
    exact Or.inr ⟨14, by omega, rfl, rfl⟩
  by_cases h19 : M 19 = true
  · have h20 : ¬ M 20 = true := fun z => absurd (hu 19 20 (by omega) (by omega) (by omega) (by omega) h19 z) (by omega)
    simp only [if_neg h8, if_neg h9, if_neg h10, if_neg h4, if_neg h5, if_neg h6, if_neg h7, if_neg h11, if_neg h12, if_neg h13, if_neg h14, if_neg h15, if_neg h16, if_neg h17, if_neg h18, if_pos h19]
    exact Or.inr ⟨15, by omega, rfl, rfl⟩
  by_cases h20 : M 20 = true
  · simp only [if_neg h8, if_neg h9, if_neg h10, if_neg h4, if_neg h5, if_neg h6, if_neg h7, if_neg h11, if_neg h12, if_neg h13, if_neg h14, if_neg h15, if_neg h16, if_neg h17, if_neg h18, if_neg h19, if_pos h20]
    exact Or.inr ⟨16, by omega, rfl, rfl⟩
  simp only [if_neg h8, if_neg h9, if_neg h10, if_neg h4, if_neg h5, if_neg h6, if_neg h7, if_neg h11, if_neg h12, if_neg h13, if_neg h14, if_neg h15, if_neg h16, if_neg h17, if_neg h18, if_neg h19, if_neg h20]
  exact Or.inl ⟨trivial, trivial⟩
def kw_g1 (M : Nat → Bool) : Int32 := (if M 21 = true then 7 else (if M 19 = true then 8 else (if M 22 = true then 9 else (if M 23 = true then 10 else (if M 24 = true then 11 else (if M 25 = true then 12 else (if M 26 = true then 13 else (if M 27 = true then 14 else 1))))))))
theorem kw_h1 (M : Nat → Bool) : (kw_f M (kw_W 1) 0 = -1 ∧ kw_g1 M = 1) ∨ ∃ i, i < (kw_W 1).length ∧ kw_f M (kw_W 1) 0 = nI i ∧ kw_g1 M = nI (kw_c 1 i) := by
  show (kw_f M [21, 19, 22, 23, 24, 25, 26, 27] 0 = -1 ∧ kw_g1 M = 1) ∨ ∃ i, i < 8 ∧ kw_f M [21, 19, 22, 23, 24, 25, 26, 27] 0 = nI i ∧ kw_g1 M = nI (kw_c 1 i)
  unfold kw_g1
  simp only [kw_f]
  by_cases h21 : M 21 = true
  · simp only [if_pos h21]
    exact Or.inr ⟨0, by omega, rfl, rfl⟩
  by_cases h19 : M 19 = true
  · simp only [if_neg h21, if_pos h19]
    exact Or.inr ⟨1, by omega, rfl, rfl⟩
  by_cases h22 : M 22 = true
  · simp only [if_neg h21, if_neg h19, if_pos h22]
    exact Or.inr ⟨2, by omega, rfl, rfl⟩
  by_cases h23 : M 23 = true
  · simp only [if_neg h21, if_neg h19, if_neg h22, if_pos h23]
    exact Or.inr ⟨3, by omega, rfl, rfl⟩
  by_cases h24 : M 24 = true
  · simp only [if_neg h21, if_neg h19, if_neg h22, if_neg h23, if_pos h24]
    exact Or.inr ⟨4, by omega, rfl, rfl⟩
  by_cases h25 : M 25 = true
  · simp only [if_neg h21, if_neg h19, if_neg h22, if_neg h23, if_neg h24, if_pos h25]
    exact Or.inr ⟨5, by omega, rfl, rfl⟩
  by_cases h26 : M 26 = true
  · simp only [if_neg h21, if_neg h19, if_neg h22, if_neg h23, if_neg h24, if_neg h25, if_pos h26]
    exact Or.inr ⟨6, by omega, rfl, rfl⟩
  by_cases h27 : M 27 = true
  · simp only [if_neg h21, if_neg h19, if_neg h22, if_neg h23, if_neg h24, if_neg h25, if_neg h26, if_pos h27]
    exact Or.inr ⟨7, by omega, rfl, rfl⟩
  simp only [if_neg h21, if_neg h19, if_neg h22, if_neg h23, if_neg h24, if_neg h25, if_neg h26, if_neg h27]
  exact Or.inl ⟨trivial, trivial⟩
def kw_g2 (M : Nat → Bool) : Int32 := (if M 28 = true then 15 else (if M 11 = true then 16 else 1))
theorem kw_h2 (M : Nat → Bool) : (kw_f M (kw_W 2) 0 = -1 ∧ kw_g2 M = 1) ∨ ∃ i, i < (kw_W 2).length ∧ kw_f M (kw_W 2) 0 = nI i ∧ kw_g2 M = nI (kw_c 2 i) := by
  show (kw_f M [28, 11] 0 = -1 ∧ kw_g2 M = 1) ∨ ∃ i, i < 2 ∧ kw_f M [28, 11] 0 = nI i ∧ kw_g2 M = nI (kw_c 2 i)
  unfold kw_g2
  simp only [kw_f]
  by_cases h28 : M 28 = true
  · simp only [if_pos h28]
    exact Or.inr ⟨0, by omega, rfl, rfl⟩
  by_cases h11 : M 11 = true
  · simp only [if_neg h28, if_pos h11]
    exact Or.inr ⟨1, by omega, rfl, rfl⟩
  simp only [if_neg h28, if_neg h11]
  exact Or.inl ⟨trivial, trivial⟩
def kw_g3 (M : Nat → Bool) : Int32 := (if M 29 = true then 17 else (if M 16 = true then 18 else 1))
theorem kw_h3 (M : Nat → Bool) : (kw_f M (kw_W 3) 0 = -1 ∧ kw_g3 M = 1) ∨ ∃ i, i < (kw_W 3).length ∧ kw_f M (kw_W 3) 0 = nI i ∧ kw_g3 M = nI (kw_c 3 i) := by
  show (kw_f M [29, 16] 0 = -1 ∧ kw_g3 M = 1) ∨ ∃ i, i < 2 ∧ kw_f M [29, 16] 0 = nI i ∧ kw_g3 M = nI (kw_c 3 i)
  unfold kw_g3
  simp only [kw_f]
  by_cases h29 : M 29 = true
  · simp only [if_pos h29]
    exact Or.inr ⟨0, by omega, rfl, rfl⟩
  by_cases h16 : M 16 = true
  · simp only [if_neg h29, if_pos h16]
    exact Or.inr ⟨1, by omega, rfl, rfl⟩
  simp only [if_neg h29, if_neg h16]
  exact Or.inl ⟨trivial, trivial⟩
theorem md_word {n : Nat} {b : Nat → Nat} {G : Nat → Nat → Int32} (T : md_T n b G) {s e k : Nat} (h1 : s ≤ e) (h2 : e ≤ n) (hs : G 216 19 = nI s) (he : G 216 17 = nI e) (hk : k < 4) (h12 : G 216 12 = nI k) : ∃ M, m_wordOf G = some M ∧ ((kw_f (kw_m b s e) (kw_W k) 0 = -1 ∧ M = 1) ∨ ∃ i, i < (kw_W k).length ∧ kw_f (kw_m b s e) (kw_W k) 0 = nI i ∧ M = nI (kw_c k i)) := by
  have i4 := md_is T h1 h2 hs he (w := 4) (by omega)
  have i5 := md_is T h1 h2 hs he (w := 5) (by omega)
  have i6 := md_is T h1 h2 hs he (w := 6) (by omega)
  have i7 := md_is T h1 h2 hs he (w := 7) (by omega)
  have i8 := md_is T h1 h2 hs he (w := 8) (by omega)
  have i9 := md_is T h1 h2 hs he (w := 9) (by omega)
  have i10 := md_is T h1 h2 hs he (w := 10) (by omega)
  have i11 := md_is T h1 h2 hs he (w := 11) (by omega)
  have i12 := md_is T h1 h2 hs he (w := 12) (by omega)
  have i13 := md_is T h1 h2 hs he (w := 13) (by omega)
  have i14 := md_is T h1 h2 hs he (w := 14) (by omega)
  have i15 := md_is T h1 h2 hs he (w := 15) (by omega)
  have i16 := md_is T h1 h2 hs he (w := 16) (by omega)
  have i17 := md_is T h1 h2 hs he (w := 17) (by omega)
  have i18 := md_is T h1 h2 hs he (w := 18) (by omega)
  have i19 := md_is T h1 h2 hs he (w := 19) (by omega)
  have i20 := md_is T h1 h2 hs he (w := 20) (by omega)
  have i21 := md_is T h1 h2 hs he (w := 21) (by omega)
  have i22 := md_is T h1 h2 hs he (w := 22) (by omega)
  have i23 := md_is T h1 h2 hs he (w := 23) (by omega)
  have i24 := md_is T h1 h2 hs he (w := 24) (by omega)
  have i25 := md_is T h1 h2 hs he (w := 25) (by omega)
  have i26 := md_is T h1 h2 hs he (w := 26) (by omega)
  have i27 := md_is T h1 h2 hs he (w := 27) (by omega)
  have i28 := md_is T h1 h2 hs he (w := 28) (by omega)
  have i29 := md_is T h1 h2 hs he (w := 29) (by omega)
  have hk : k = 0 ∨ k = 1 ∨ k = 2 ∨ k = 3 := by omega
  unfold m_wordOf m_lawWord m_walkWord m_asked
  rw [h12]
  rcases hk with rfl | rfl | rfl | rfl
  · refine ⟨kw_g0 (kw_m b s e), ?_, kw_h0 _ (fun w v a1 a2 a3 a4 z1 z2 => kw_uniq z1 z2 a1 a2 a3 a4)⟩
    rw [if_pos (show nI 0 = 0 by decide)]
    unfold kw_g0
    simp only [i4, i5, i6, i7, i8, i9, i10, i11, i12, i13, i14, i15, i16, i17, i18, i19, i20, pu_bs]
    by_cases c4 : kw_m b s e 4 = true
    · simp only [if_pos c4, pu_bs]
    by_cases c5 : kw_m b s e 5 = true
    · simp only [if_neg c4, if_pos c5, pu_bs]
    by_cases c6 : kw_m b s e 6 = true
    · simp only [if_neg c4, if_neg c5, if_pos c6, pu_bs]
    by_cases c7 : kw_m b s e 7 = true
    · simp only [if_neg c4, if_neg c5, if_neg c6, if_pos c7, pu_bs]
    by_cases c8 : kw_m b s e 8 = true
    · simp only [if_neg c4, if_neg c5, if_neg c6, if_neg c7, if_pos c8, pu_bs]
    by_cases c9 : kw_m b s e 9 = true
    · simp only [if_neg c4, if_neg c5, if_neg c6, if_neg c7, if_neg c8, if_pos c9, pu_bs]
    by_cases c10 : kw_m b s e 10 = true
    · simp only [if_neg c4, if_neg c5, if_neg c6, if_neg c7, if_neg c8, if_neg c9, if_pos c10, pu_bs]
    by_cases c11 : kw_m b s e 11 = true
    · simp only [if_neg c4, if_neg c5, if_neg c6, if_neg c7, if_neg c8, if_neg c9, if_neg c10, if_pos c11, pu_bs]
    by_cases c12 : kw_m b s e 12 = true
    · simp only [if_neg c4, if_neg c5, if_neg c6, if_neg c7, if_neg c8, if_neg c9, if_neg c10, if_neg c11, if_pos c12, pu_bs]
    by_cases c13 : kw_m b s e 13 = true
    · simp only [if_neg c4, if_neg c5, if_neg c6, if_neg c7, if_neg c8, if_neg c9, if_neg c10, if_neg c11, if_neg c12, if_pos c13, pu_bs]
    by_cases c14 : kw_m b s e 14 = true
    · simp only [if_neg c4, if_neg c5, if_neg c6, if_neg c7, if_neg c8, if_neg c9, if_neg c10, if_neg c11, if_neg c12, if_neg c13, if_pos c14, pu_bs]
    by_cases c15 : kw_m b s e 15 = true
    · simp only [if_neg c4, if_neg c5, if_neg c6, if_neg c7, if_neg c8, if_neg c9, if_neg c10, if_neg c11, if_neg c12, if_neg c13, if_neg c14, if_pos c15, pu_bs]
    by_cases c16 : kw_m b s e 16 = true
    · simp only [if_neg c4, if_neg c5, if_neg c6, if_neg c7, if_neg c8, if_neg c9, if_neg c10, if_neg c11, if_neg c12, if_neg c13, if_neg c14, if_neg c15, if_pos c16, pu_bs]
    by_cases c17 : kw_m b s e 17 = true
    · simp only [if_neg c4, if_neg c5, if_neg c6, if_neg c7, if_neg c8, if_neg c9, if_neg c10, if_neg c11, if_neg c12, if_neg c13, if_neg c14, if_neg c15, if_neg c16, if_pos c17, pu_bs]
    by_cases c18 : kw_m b s e 18 = true
    · simp only [if_neg c4, if_neg c5, if_neg c6, if_neg c7, if_neg c8, if_neg c9, if_neg c10, if_neg c11, if_neg c12, if_neg c13, if_neg c14, if_neg c15, if_neg c16, if_neg c17, if_pos c18, pu_bs]
    by_cases c19 : kw_m b s e 19 = true
    · simp only [if_neg c4, if_neg c5, if_neg c6, if_neg c7, if_neg c8, if_neg c9, if_neg c10, if_neg c11, if_neg c12, if_neg c13, if_neg c14, if_neg c15, if_neg c16, if_neg c17, if_neg c18, if_pos c19, pu_bs]
    by_cases c20 : kw_m b s e 20 = true
    · simp only [if_neg c4, if_neg c5, if_neg c6, if_neg c7, if_neg c8, if_neg c9, if_neg c10, if_neg c11, if_neg c12, if_neg c13, if_neg c14, if_neg c15, if_neg c16, if_neg c17, if_neg c18, if_neg c19, if_pos c20, pu_bs]
    simp only [if_neg c4, if_neg c5, if_neg c6, if_neg c7, if_neg c8, if_neg c9, if_neg c10, if_neg c11, if_neg c12, if_neg c13, if_neg c14, if_neg c15, if_neg c16, if_neg c17, if_neg c18, if_neg c19, if_neg c20, pu_bs]
  · refine ⟨kw_g1 (kw_m b s e), ?_, kw_h1 _⟩
    rw [if_neg (show ¬ nI 1 = 0 by decide)]
    rw [if_pos (show nI 1 = 1 by decide)]
    unfold kw_g1
    simp only [i21, i19, i22, i23, i24, i25, i26, i27, pu_bs]
    by_cases c21 : kw_m b s e 21 = true
    · simp only [if_pos c21, pu_bs]
    by_cases c19 : kw_m b s e 19 = true
    · simp only [if_neg c21, if_pos c19, pu_bs]
    by_cases c22 : kw_m b s e 22 = true
    · simp only [if_neg c21, if_neg c19, if_pos c22, pu_bs]
    by_cases c23 : kw_m b s e 23 = true
    · simp only [if_neg c21, if_neg c19, if_neg c22, if_pos c23, pu_bs]
    by_cases c24 : kw_m b s e 24 = true
    · simp only [if_neg c21, if_neg c19, if_neg c22, if_neg c23, if_pos c24, pu_bs]
    by_cases c25 : kw_m b s e 25 = true
    · simp only [if_neg c21, if_neg c19, if_neg c22, if_neg c23, if_neg c24, if_pos c25, pu_bs]
    by_cases c26 : kw_m b s e 26 = true
    · simp only [if_neg c21, if_neg c19, if_neg c22, if_neg c23, if_neg c24, if_neg c25, if_pos c26, pu_bs]
    by_cases c27 : kw_m b s e 27 = true
    · simp only [if_neg c21, if_neg c19, if_neg c22, if_neg c23, if_neg c24, if_neg c25, if_neg c26, if_pos c27, pu_bs]
    simp only [if_neg c21, if_neg c19, if_neg c22, if_neg c23, if_neg c24, if_neg c25, if_neg c26, if_neg c27, pu_bs]
  · refine ⟨kw_g2 (kw_m b s e), ?_, kw_h2 _⟩
    rw [if_neg (show ¬ nI 2 = 0 by decide)]
    rw [if_neg (show ¬ nI 2 = 1 by decide)]
    rw [if_pos (show nI 2 = 2 by decide)]
    unfold kw_g2
    simp only [i28, i11, pu_bs]
    by_cases c28 : kw_m b s e 28 = true
    · simp only [if_pos c28, pu_bs]
    by_cases c11 : kw_m b s e 11 = true
    · simp only [if_neg c28, if_pos c11, pu_bs]
    simp only [if_neg c28, if_neg c11, pu_bs]
  · refine ⟨kw_g3 (kw_m b s e), ?_, kw_h3 _⟩
    rw [if_neg (show ¬ nI 3 = 0 by decide)]
    rw [if_neg (show ¬ nI 3 = 1 by decide)]
    rw [if_neg (show ¬ nI 3 = 2 by decide)]
    unfold kw_g3
    simp only [i29, i16, pu_bs]
    by_cases c29 : kw_m b s e 29 = true
    · simp only [if_pos c29, pu_bs]
    by_cases c16 : kw_m b s e 16 = true
    · simp only [if_neg c29, if_pos c16, pu_bs]
    simp only [if_neg c29, if_neg c16, pu_bs]
