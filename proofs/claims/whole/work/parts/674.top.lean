theorem sm_top (x1 : Int32) (f g : Nat → Nat → Int32) (h : rl_Rel f g) : ∃ (v : Int32) (f1 g1 : Nat → Nat → Int32), x_top x1 f = some (v, f1) ∧ m_top x1 g = some (v, g1) ∧ rl_Rel f1 g1 := by
  obtain ⟨n, m, t, b, hn, hm, ht, hb, e1, e2, e3, e4, e5, e6, -⟩ := rl_n h
  unfold x_top m_top
  rcases pu_glass x1 hn e1 e2 with ⟨i, hi, rfl, b1, b2⟩ | ⟨b1, b2⟩
  rotate_left
  · simp only [b1, b2, Bool.false_eq_true, if_false]
    exact ⟨-1, f, g, rfl, rfl, h⟩
  have c6 : am_in (nI i) 6 = true := pu_in (by omega) (by omega)
  have a27 : (27 : Int32) + nI i = nI (27 + i) := nI_add 27 i
  have d27 : am_in (nI (27 + i)) 2008 = true := pu_in (by omega) (by omega)
  have d27' : am_in (nI (27 + i)) 69 = true := pu_in (by omega) (by omega)
  have f7 : ∀ k, k ≤ 60 → th_F f k 7 i = g 217 (27 + i) := fun k hk => by
    rw [(th_all h ht e6 k hk).2.1 7 (by omega) (by decide) (by decide) (fun _ => rfl), th_x, tk_oth (d := 110) (s := 2) f (by omega) (by omega)]
    exact rl_f_of h (by omega)
  have f115 : ∀ k, k ≤ 60 → th_F f k 115 i = th_G g k 217 (27 + i) := fun k hk => rl_g_of (o := 108) (th_all h ht e6 k hk).1.1 (by omega)
  have g220 : ∀ k, k ≤ 60 → th_G g k 220 (27 + i) = g 217 (27 + i) := fun k hk => by
    rw [(th_all h ht e6 k hk).2.2.1 220 (by decide) (by decide) (by decide)]
    unfold th_g
    rw [pu_up_ne _ _ (by decide), row_row, if_pos (by omega)]
  have gle : ∀ k, k ≤ 60 → (g 217 (27 + i)).toInt ≤ (th_G g k 217 (27 + i)).toInt := fun k hk => by
    have := (th_all h ht e6 k hk).2.2.2.2 i (by omega)
    rw [th_g217] at this
    exact this
  have g0 : th_G g 0 217 (27 + i) = g 217 (27 + i) := by
    show th_g g 217 (27 + i) = _
    rw [th_g217]
  simp only [b1, b2, if_true, pu_letE, th_m, pu_bs, c6, a27, d27, d27', nI_clamp (show i < 2 ^ 31 by omega), nI_clamp (show 27 + i < 2 ^ 31 by omega)]
  have XS : ∀ j, j < 60 → th_G g (j + 1) 217 (27 + i) = g 217 (27 + i) → (fun (s3 : Int32 × (Nat → Nat → Int32)) => ((
      if 60 < s3.1 then (
        some (.inr ((-1), s3.2)))
      else (
        (xb_passMinute_110 false s3.2).bind fun p4 =>
        if p4.2 115 i = p4.2 7 i then (
          some (.inl (s3.1 + 1, p4.2)))
        else (
          some (.inr (s3.1, p4.2))))) : Option ((Int32 × (Nat → Nat → Int32)) ⊕ (Int32 × (Nat → Nat → Int32))))) (nI (j + 1), th_F f j) = some (.inl (nI (j + 1 + 1), th_F f (j + 1))) := by
    intro j hj hs
    obtain ⟨v, p1, p2⟩ := th_st h ht e6 (k := j) hj
    have h1 : ¬ 60 < nI (j + 1) := nI_nlt (b := j + 1) (a := 60) (by omega) (by omega)
    dsimp only
    simp only [h1, if_false, p1, pu_bs, f115 (j + 1) (by omega), f7 (j + 1) (by omega), hs, if_true, nI_1]
  have MS : ∀ j, j < 60 → th_G g j 217 (27 + i) = g 217 (27 + i) → (fun (s3 : Int32 × (Nat → Nat → Int32)) => ((
      if s3.1 < 60 then (
        if s3.2 217 (27 + i) = s3.2 220 (27 + i) then (
          (m_goesBy  s3.2).bind fun p4 =>
          some (.inl (s3.1 + 1, p4.2)))
        else (
          some (.inr (s3.1, s3.2))))
      else (
        some (.inr (s3.1, s3.2)))) : Option ((Int32 × (Nat → Nat → Int32)) ⊕ (Int32 × (Nat → Nat → Int32))))) (nI j, th_G g j) = some (.inl (nI (j + 1), th_G g (j + 1))) := by
    intro j hj hs
    obtain ⟨v, p1, p2⟩ := th_st h ht e6 (k := j) hj
    have h1 : nI j < (60 : Int32) := nI_lt (b := 60) hj (by omega)
    dsimp only
    simp only [h1, if_true, hs, g220 j (by omega), p2, pu_bs, nI_1]
  rcases pu_least (fun k => th_G g (k + 1) 217 (27 + i) ≠ g 217 (27 + i)) 60 with hl | ⟨k, k1, k2, k3⟩
  · have hs : ∀ j, j ≤ 60 → th_G g j 217 (27 + i) = g 217 (27 + i) := fun j hj => by
      cases j with
      | zero => exact g0
      | succ j => exact Classical.byContradiction fun hc => hl j (by omega) hc
    obtain ⟨R, F⟩ := th_all h ht e6 60 (by omega)
    obtain ⟨G', z1, z2⟩ := th_end h F
    refine ⟨-1, th_F f 60, G', ?_, ?_, z2⟩
    · refine pu_for (fun j => (nI (j + 1), th_F f j)) 60 rfl (fun j hj => XS j hj (hs (j + 1) (by omega))) ?_
      dsimp only
      rw [if_pos (show (60 : Int32) < nI (60 + 1) by decide)]
    · refine pu_forb (fun j => (nI j, th_G g j)) 60 (e := (nI 60, th_G g 60)) rfl (fun j hj => MS j hj (hs j (by omega))) ?_ ?_
      · dsimp only
        rw [if_neg (show ¬ nI 60 < (60 : Int32) by decide)]
      · have hn2 : ¬ g 217 (27 + i) < g 217 (27 + i) := by
          rw [Int32.lt_iff_toInt_lt]
          omega
        dsimp only
        simp only [g220 60 (by omega), hs 60 (by omega), hn2, if_false, z1, pu_bs, Bool.false_eq_true]
  · have hs : ∀ j, j ≤ k → th_G g j 217 (27 + i) = g 217 (27 + i) := fun j hj => by
      cases j with
      | zero => exact g0
      | succ j => exact Classical.byContradiction fun hc => k3 j (by omega) hc
    obtain ⟨R, F⟩ := th_all h ht e6 (k + 1) (by omega)
    obtain ⟨G', z1, z2⟩ := th_end h F
    obtain ⟨v, p1, p2⟩ := th_st h ht e6 (k := k) k1
    refine ⟨nI (k + 1), th_F f (k + 1), G', ?_, ?_, z2⟩
    · refine pu_for (fun j => (nI (j + 1), th_F f j)) k rfl (fun j hj => XS j (by omega) (hs (j + 1) (by omega))) ?_
      have h1 : ¬ 60 < nI (k + 1) := nI_nlt (b := k + 1) (a := 60) (by omega) (by omega)
      dsimp only
      simp only [h1, if_false, p1, pu_bs, f115 (k + 1) (by omega), f7 (k + 1) (by omega), k2]
    · refine pu_forb (fun j => (nI j, th_G g j)) (k + 1) (e := (nI (k + 1), th_G g (k + 1))) rfl (fun j hj => MS j (by omega) (hs j (by omega))) ?_ ?_
      · dsimp only
        by_cases h60 : nI (k + 1) < (60 : Int32)
        · simp only [h60, if_true, g220 (k + 1) (by omega), k2, if_false]
        · simp only [h60, if_false]
      · have hl2 : g 217 (27 + i) < th_G g (k + 1) 217 (27 + i) := by
          rw [Int32.lt_iff_toInt_lt]
          have := gle (k + 1) (by omega)
          by_cases he : (g 217 (27 + i)).toInt = (th_G g (k + 1) 217 (27 + i)).toInt
          · exact absurd (Int32.toInt_inj.mp he).symm k2
          · omega
        dsimp only
        simp only [g220 (k + 1) (by omega), hl2, if_true, z1, pu_bs]
