theorem fd_s2 : ∀ j, j < 20 → (24 - (8 * (nI j - nI j / 4 * 4))) &&& 31 = nI (24 - 8 * (j % 4)) := by decide
theorem fd_s3 : ∀ j, j < 20 → (nI j < (4 : Int32) ↔ j < 4) ∧ (nI j < (8 : Int32) ↔ j < 8) ∧ (nI j < (12 : Int32) ↔ j < 12) ∧ (nI j < (16 : Int32) ↔ j < 16) := by decide
theorem fd_sel (a0 a1 a2 a3 a4 : Int32) (j : Nat) (hj : j < 20) : (if nI j < 4 then a0 else if nI j < 8 then a1 else if nI j < 12 then a2 else if nI j < 16 then a3 else a4) = fd_w a0 a1 a2 a3 a4 j := by
  obtain ⟨h1, h2, h3, h4⟩ := fd_s3 j hj
  unfold fd_w
  by_cases c1 : j < 4
  · rw [if_pos c1, if_pos (h1.mpr c1)]
  rw [if_neg c1, if_neg (fun z => c1 (h1.mp z))]
  by_cases c2 : j < 8
  · rw [if_pos c2, if_pos (h2.mpr c2)]
  rw [if_neg c2, if_neg (fun z => c2 (h2.mp z))]
  by_cases c3 : j < 12
  · rw [if_pos c3, if_pos (h3.mpr c3)]
  rw [if_neg c3, if_neg (fun z => c3 (h3.mp z))]
  by_cases c4 : j < 16
  · rw [if_pos c4, if_pos (h4.mpr c4)]
  rw [if_neg c4, if_neg (fun z => c4 (h4.mp z))]
theorem fd_m {n0 : Nat} {g : Nat → Nat → Int32} (e : g 216 16 = nI n0) (a0 a1 a2 a3 a4 : Int32) (hn : n0 + 20 ≤ 400) : m_feed a0 a1 a2 a3 a4 g = some (nI (n0 + 20), fd_u 224 216 16 n0 (fd_b a0 a1 a2 a3 a4) g 20) := by
  unfold m_feed
  rw [if_neg (show ¬ (400 : Int32) < g 216 16 + 20 from by rw [e, show (20 : Int32) = nI 20 from rfl, nI_add]; exact nI_nlt (a := 400) (by omega) (by omega))]
  refine pu_for (fun j => (nI j, fd_u 224 216 16 n0 (fd_b a0 a1 a2 a3 a4) g j)) 20 rfl ?_ ?_
  · intro j hj
    dsimp only
    rw [if_pos (show nI j < (20 : Int32) from nI_lt (b := 20) hj (by omega)), pu_letE, fd_sel _ _ _ _ _ j hj, if_pos (show am_in (fd_u 224 216 16 n0 (fd_b a0 a1 a2 a3 a4) g j 216 16) 400 = true from by rw [fd_n e]; exact pu_in (by omega) (by omega)), pu_letE, pu_letE, pu_letE, fd_s2 j hj, fd_byte _ _ (by omega), pu_up_ne _ _ (show (216 : Nat) ≠ 224 by decide), fd_n e, nI_1, nI_1, nI_clamp (by omega)]
    rfl
  · dsimp only
    rw [if_neg (by decide), fd_n e]
