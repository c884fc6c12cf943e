theorem tx_start {n : Nat} {b : Nat → Nat} {k : Nat} {F G : Nat → Nat → Int32} (T : lx_T n b F) (U : md_T n b G) (hk : k < 4) (h12 : G 216 12 = nI k) (h17 : G 216 17 = 0) : ∃ N F' G', xt_split k F = some F' ∧ m_next0 G = some G' ∧ tx_C n b k N 0 F' G' ∧ tx_fx F F' ∧ tx_fm G G' := by
  have hn := T.1
  obtain ⟨G', r1, r2, r3, r4, r5⟩ := md_next U (p := 0) (Nat.zero_le _) h17 hk h12
  have T1 : lx_T n b (am_up F 123 8 0) := ⟨T.1, by rw [pu_up_row, pu_upd_ne _ _ (by omega)]; exact T.2.1, fun i hi => ⟨(T.2.2 i hi).1, by rw [pu_up_ne _ _ (by omega)]; exact (T.2.2 i hi).2⟩⟩
  obtain ⟨F1, N, q1, q2, q3, q4, q5, q6⟩ := tx_sp T1 hk (by rw [pu_up_row, pu_upd_eq])
  obtain ⟨t1, t2, t3⟩ := q3.T T1
  have q30 : F1 123 0 = F 123 0 := by rw [q3.2, pu_up_row, pu_upd_ne _ _ (by omega)]
  have cN : am_in (nI N) 401 = true := pu_in (by omega) (by omega)
  have c0 : am_in (0 : Int32) 401 = true := pu_in (a := 0) (by omega) (by omega)
  have cl : (-1 : Int32) < nI N := pu_m1lt (by omega)
  have ez : (-1 : Int32) + 1 = 0 := by decide
  have et : (0 : Int32).toNatClampNeg = 0 := nI_clamp (n := 0) (by omega)
  unfold xt_split
  rw [pu_letE, q1, pu_bs]
  have hY : ∀ j, j ≤ N → upd (F1 125) N 0 j = nI (tx_V n b k (tx_s n b j)).1 ∧ upd (F1 126) N (-1) j = (tx_V n b k (tx_s n b j)).2 ∧ upd (F1 127) N (nI n) j = nI (tx_s n b j) := by
    intro j hj
    by_cases c : j = N
    · rw [c, pu_upd_eq, pu_upd_eq, pu_upd_eq, q5, tx_VN]
      exact ⟨rfl, rfl, rfl⟩
    · rw [pu_upd_ne _ _ c, pu_upd_ne _ _ c, pu_upd_ne _ _ c]
      exact (q6 j (by omega)).2
  refine ⟨N, am_up (am_up (am_up (am_up (am_up (am_up (am_up (am_up F1 125 N 0) 126 N (-1)) 127 N (nI n)) 123 9 (-1)) 123 9 0) 123 1 (upd (F1 125) N 0 0)) 123 2 (upd (F1 126) N (-1) 0)) 123 3 (upd (F1 127) N (nI n) 0), G', ?_, r1, ⟨?_, r2.T U, ⟨hk, q2, Nat.zero_le _, q5⟩, ?_, ?_, fun j hj => ⟨fun hj2 => (q6 j hj2).1, ?_⟩, ⟨?_, ?_, ?_⟩, ?_, r3, r4, r5⟩, ⟨fun a a1 a2 a3 a4 => ?_, ?_⟩, r2⟩
  · unfold xt_advance
    simp only [q4, t2, cN, c0, cl, ez, et, if_true, pu_letE, pu_bs, nI_clamp (show N < 2 ^ 31 by omega), pu_up_row, pu_upd_eq, pu_upd_ne _ _ (show (8 : Nat) ≠ 9 by omega), pu_upd_ne _ _ (show (9 : Nat) ≠ 1 by omega), pu_upd_ne _ _ (show (9 : Nat) ≠ 2 by omega),
      pu_up_ne _ _ (show (123 : Nat) ≠ 125 by omega), pu_up_ne _ _ (show (123 : Nat) ≠ 126 by omega), pu_up_ne _ _ (show (123 : Nat) ≠ 127 by omega), pu_up_ne _ _ (show (125 : Nat) ≠ 123 by omega), pu_up_ne _ _ (show (125 : Nat) ≠ 126 by omega), pu_up_ne _ _ (show (125 : Nat) ≠ 127 by omega),
      pu_up_ne _ _ (show (126 : Nat) ≠ 123 by omega), pu_up_ne _ _ (show (126 : Nat) ≠ 125 by omega), pu_up_ne _ _ (show (126 : Nat) ≠ 127 by omega), pu_up_ne _ _ (show (127 : Nat) ≠ 123 by omega), pu_up_ne _ _ (show (127 : Nat) ≠ 125 by omega), pu_up_ne _ _ (show (127 : Nat) ≠ 126 by omega)]
  · refine ⟨t1, ?_, fun j hj => ⟨(t3 j hj).1, ?_⟩⟩
    · simp only [pu_up_row, pu_upd_ne _ _ (show (0 : Nat) ≠ 9 by omega), pu_upd_ne _ _ (show (0 : Nat) ≠ 1 by omega), pu_upd_ne _ _ (show (0 : Nat) ≠ 2 by omega), pu_upd_ne _ _ (show (0 : Nat) ≠ 3 by omega), pu_up_ne _ _ (show (123 : Nat) ≠ 125 by omega), pu_up_ne _ _ (show (123 : Nat) ≠ 126 by omega), pu_up_ne _ _ (show (123 : Nat) ≠ 127 by omega)]
      exact t2
    · simp only [pu_up_ne _ _ (show (124 : Nat) ≠ 123 by omega), pu_up_ne _ _ (show (124 : Nat) ≠ 125 by omega), pu_up_ne _ _ (show (124 : Nat) ≠ 126 by omega), pu_up_ne _ _ (show (124 : Nat) ≠ 127 by omega)]
      exact (t3 j hj).2
  · simp only [pu_up_row, pu_upd_ne _ _ (show (8 : Nat) ≠ 9 by omega), pu_upd_ne _ _ (show (8 : Nat) ≠ 1 by omega), pu_upd_ne _ _ (show (8 : Nat) ≠ 2 by omega), pu_upd_ne _ _ (show (8 : Nat) ≠ 3 by omega), pu_up_ne _ _ (show (123 : Nat) ≠ 125 by omega), pu_up_ne _ _ (show (123 : Nat) ≠ 126 by omega), pu_up_ne _ _ (show (123 : Nat) ≠ 127 by omega)]
    exact q4
  · simp only [pu_up_row, pu_upd_ne _ _ (show (9 : Nat) ≠ 1 by omega), pu_upd_ne _ _ (show (9 : Nat) ≠ 2 by omega), pu_upd_ne _ _ (show (9 : Nat) ≠ 3 by omega), pu_upd_eq]
    rfl
  · simp only [pu_up_row, pu_up_ne _ _ (show (125 : Nat) ≠ 123 by omega), pu_up_ne _ _ (show (125 : Nat) ≠ 126 by omega), pu_up_ne _ _ (show (125 : Nat) ≠ 127 by omega),
      pu_up_ne _ _ (show (126 : Nat) ≠ 123 by omega), pu_up_ne _ _ (show (126 : Nat) ≠ 125 by omega), pu_up_ne _ _ (show (126 : Nat) ≠ 127 by omega), pu_up_ne _ _ (show (127 : Nat) ≠ 123 by omega), pu_up_ne _ _ (show (127 : Nat) ≠ 125 by omega), pu_up_ne _ _ (show (127 : Nat) ≠ 126 by omega)]
    exact hY j hj
  · simp only [pu_up_row, pu_upd_ne _ _ (show (1 : Nat) ≠ 2 by omega), pu_upd_ne _ _ (show (1 : Nat) ≠ 3 by omega), pu_upd_eq (am_up (am_up (am_up (am_up (am_up F1 125 N 0) 126 N (-1)) 127 N (nI n)) 123 9 (-1)) 123 9 0 123) 1]
    rw [pu_upd_eq]
    exact (hY 0 (Nat.zero_le _)).1
  · rw [pu_up_row, pu_upd_ne _ _ (show (2 : Nat) ≠ 3 by omega), pu_up_row, pu_upd_eq]
    exact (hY 0 (Nat.zero_le _)).2.1
  · rw [pu_up_row, pu_upd_eq]
    exact (hY 0 (Nat.zero_le _)).2.2
  · rw [r2.2 12 (by omega) (by omega) (by omega) (by omega)]
    exact h12
  · rw [pu_up_ne _ _ a1, pu_up_ne _ _ a1, pu_up_ne _ _ a1, pu_up_ne _ _ a1, pu_up_ne _ _ a1, pu_up_ne _ _ a4, pu_up_ne _ _ a3, pu_up_ne _ _ a2, q3.1 a a1 a2 a3 a4, pu_up_ne _ _ a1]
  · simp only [pu_up_row, pu_upd_ne _ _ (show (0 : Nat) ≠ 9 by omega), pu_upd_ne _ _ (show (0 : Nat) ≠ 1 by omega), pu_upd_ne _ _ (show (0 : Nat) ≠ 2 by omega), pu_upd_ne _ _ (show (0 : Nat) ≠ 3 by omega), pu_up_ne _ _ (show (123 : Nat) ≠ 125 by omega), pu_up_ne _ _ (show (123 : Nat) ≠ 126 by omega), pu_up_ne _ _ (show (123 : Nat) ≠ 127 by omega)]
    exact q30
