def tg_s (u : Nat → Int32) : Nat → Int32
  | 0 => 0
  | k + 1 => tg_s u k + u k
theorem tg_cg {u u' : Nat → Int32} : ∀ N, (∀ i, i < N → u i = u' i) → tg_s u N = tg_s u' N := by
  intro N
  induction N with
  | zero => intro _; rfl
  | succ N ih =>
    intro h
    show tg_s u N + u N = tg_s u' N + u' N
    rw [ih (fun i hi => h i (by omega)), h N (by omega)]
theorem tg_m {G : Nat → Nat → Int32} {p N : Nat} (hp : p + N < 2008) : m_together (nI p) (nI N) G = some (tg_s (fun i => G 217 (p + i)) N) := by
  unfold m_together
  refine pu_for (fun i => (tg_s (fun i => G 217 (p + i)) i, nI i)) N rfl (fun i hi => ?_) ?_
  · have h1 : nI i < nI N := nI_lt hi (by omega)
    have c1 : am_in (nI (p + i)) 2008 = true := pu_in (by omega) (by omega)
    dsimp only
    simp only [h1, nI_add, c1, if_true, pu_letE, nI_clamp (show p + i < 2 ^ 31 by omega), nI_1]
    rfl
  · have hll : ¬ nI N < nI N := nI_nlt (Nat.le_refl _) (by omega)
    dsimp only
    simp only [hll, if_false]
theorem tg_x3 {F : Nat → Nat → Int32} {N : Nat} (hN : N ≤ 12) (e : F 110 1 = nI N) : xc_sumOf_110 (nI 3) F = some (tg_s (F 119) N) := by
  unfold xc_sumOf_110
  rw [if_pos (show nI 3 = 3 from rfl)]
  refine pu_for (fun i => (tg_s (F 119) i, nI i)) N rfl (fun i hi => ?_) ?_
  · have h1 : nI i < nI N := nI_lt hi (by omega)
    have c1 : am_in (nI i) 12 = true := pu_in (by omega) (by omega)
    dsimp only
    simp only [e, h1, c1, if_true, pu_letE, nI_clamp (show i < 2 ^ 31 by omega), nI_1]
    rfl
  · have hll : ¬ nI N < nI N := nI_nlt (Nat.le_refl _) (by omega)
    dsimp only
    simp only [e, hll, if_false]
theorem tg_x0 {F : Nat → Nat → Int32} {N w a : Nat} (hN : N ≤ 6) (e : F 110 0 = nI N) (hw : (w = 0 ∧ a = 112) ∨ (w = 1 ∧ a = 115) ∨ (w = 2 ∧ a = 111)) : xc_sumOf_110 (nI w) F = some (tg_s (F a) N) := by
  unfold xc_sumOf_110
  have h3 : ¬ nI w = 3 := fun z => by
    have := pu_nIinj (a := w) (b := 3) (by omega) (by omega) z
    omega
  rw [if_neg h3]
  refine pu_for (fun i => (tg_s (F a) i, nI i)) N rfl (fun i hi => ?_) ?_
  · have h1 : nI i < nI N := nI_lt hi (by omega)
    have c1 : am_in (nI i) 6 = true := pu_in (by omega) (by omega)
    dsimp only
    rcases hw with ⟨rfl, rfl⟩ | ⟨rfl, rfl⟩ | ⟨rfl, rfl⟩
    · simp only [e, h1, c1, if_true, pu_letE, nI_clamp (show i < 2 ^ 31 by omega), nI_1, show nI 0 = (0 : Int32) from rfl, pu_bs]
      rfl
    · simp only [e, h1, c1, if_true, if_false, pu_letE, nI_clamp (show i < 2 ^ 31 by omega), nI_1, show ¬ nI 1 = (0 : Int32) by decide, show nI 1 = (1 : Int32) from rfl, show ¬ (1 : Int32) = 0 by decide, pu_bs]
      rfl
    · simp only [e, h1, c1, if_true, if_false, pu_letE, nI_clamp (show i < 2 ^ 31 by omega), nI_1, show ¬ nI 2 = (0 : Int32) by decide, show ¬ nI 2 = (1 : Int32) by decide, pu_bs]
      rfl
  · have hll : ¬ nI N < nI N := nI_nlt (Nat.le_refl _) (by omega)
    dsimp only
    simp only [e, hll, if_false]
theorem sm_goes (x1 x2 : Int32) (f g : Nat → Nat → Int32) (h : rl_Rel f g) : ∃ (v : Int32) (f1 g1 : Nat → Nat → Int32), x_goes x1 x2 f = some (v, f1) ∧ m_goes x1 x2 g = some (v, g1) ∧ rl_Rel f1 g1 := by
  obtain ⟨n, m, t, b, hn, hm, ht, hb, e1, e2, e3, e4, e5, e6, -⟩ := rl_n h
  unfold x_goes m_goes
  rw [pu_isIn, pu_isIn]
  rcases pu_within_cases x1 (lo := 1) (hi := 60) 1 60 with ⟨e, k, k1, k2, rfl⟩ | e
  rotate_left
  · simp only [e, Bool.false_eq_true, if_false]
    exact ⟨-1, f, g, rfl, rfl, h⟩
  rcases pu_within_cases x2 (lo := 0) (hi := 3) 0 3 with ⟨e', w, w1, w2, rfl⟩ | e'
  rotate_left
  · simp only [e, e', Bool.false_eq_true, if_false, if_true]
    exact ⟨-1, f, g, rfl, rfl, h⟩
  simp only [e, e', if_true, pu_letE]
  rw [th_m, pu_bs]
  have hll : ¬ nI k < nI k := nI_nlt (Nat.le_refl _) (by omega)
  have X : am_loop (fun (s4 : Int32 × (Nat → Nat → Int32)) => ((
        if s4.1 < nI k then (
          (xb_passMinute_110 false s4.2).bind fun p5 =>
          some (.inl (s4.1 + 1, p5.2)))
        else (
          some (.inr s4.2))) : Option ((Int32 × (Nat → Nat → Int32)) ⊕ ((Nat → Nat → Int32))))) am_F (0, xc_takeFrom_110_2 f) = some (th_F f k) := by
    refine pu_for (fun j => (nI j, th_F f j)) k rfl (fun j hj => ?_) ?_
    · obtain ⟨v, p1, p2⟩ := th_st h ht e6 (k := j) (by omega)
      have h1 : nI j < nI k := nI_lt hj (by omega)
      dsimp only
      simp only [h1, if_true, p1, pu_bs, nI_1]
    · dsimp only
      simp only [hll, if_false]
  have M : am_loop (fun (s4 : Int32 × (Nat → Nat → Int32)) => ((
        if s4.1 < nI k then (
          (m_goesBy s4.2).bind fun p5 =>
          some (.inl (s4.1 + 1, p5.2)))
        else (
          some (.inr s4.2))) : Option ((Int32 × (Nat → Nat → Int32)) ⊕ ((Nat → Nat → Int32))))) am_F (0, th_g g) = some (th_G g k) := by
    refine pu_for (fun j => (nI j, th_G g j)) k rfl (fun j hj => ?_) ?_
    · obtain ⟨v, p1, p2⟩ := th_st h ht e6 (k := j) (by omega)
      have h1 : nI j < nI k := nI_lt hj (by omega)
      dsimp only
      simp only [h1, if_true, p2, pu_bs, nI_1]
    · dsimp only
      simp only [hll, if_false]
  rw [X, M, pu_bs, pu_bs]
  obtain ⟨R, F⟩ := th_all h ht e6 k k2
  obtain ⟨G', z1, z2⟩ := th_end h F
  simp only [z1, pu_bs]
  have en : th_G g k 217 69 = nI n := by rw [F.2.2.1 69 (by decide) (Or.inl (by omega)), th_g217]; exact e2
  have em : th_G g k 217 70 = nI m := by rw [F.2.2.1 70 (by decide) (Or.inl (by omega)), th_g217]; exact e4
  have en1 : th_F f k 110 0 = nI n := (rl_g_gn (o := 108) R.1).trans en
  have em1 : th_F f k 110 1 = nI m := (rl_g_wn (o := 108) R.1).trans em
  have hw : w = 0 ∨ w = 1 ∨ w = 2 ∨ w = 3 := by omega
  rcases hw with rfl | rfl | rfl | rfl
  · rw [tg_x0 (w := 0) (a := 112) hn en1 (Or.inl ⟨rfl, rfl⟩), tg_cg (u' := fun i => th_G g k 217 (9 + i)) n (fun i hi => rl_g_re (o := 108) R.1 (by omega)), ← tg_m (p := 9) (N := n) (by omega), en]
    simp only [show ¬ nI 0 = (3 : Int32) by decide, show nI 0 = (0 : Int32) from rfl, show nI 9 = (9 : Int32) from rfl, if_true, if_false]
    rw [show (9 : Int32) = nI 9 from rfl, tg_m (p := 9) (N := n) (by omega), pu_bs, pu_bs]
    exact ⟨_, _, _, rfl, rfl, z2⟩
  · rw [tg_x0 (w := 1) (a := 115) hn en1 (Or.inr (Or.inl ⟨rfl, rfl⟩)), tg_cg (u' := fun i => th_G g k 217 (27 + i)) n (fun i hi => rl_g_of (o := 108) R.1 (by omega)), ← tg_m (p := 27) (N := n) (by omega), en]
    simp only [show ¬ nI 1 = (3 : Int32) by decide, show ¬ nI 1 = (0 : Int32) by decide, show nI 1 = (1 : Int32) from rfl, show ¬ (1 : Int32) = 0 by decide, show ¬ (1 : Int32) = 3 by decide, show nI 27 = (27 : Int32) from rfl, if_true, if_false]
    rw [show (27 : Int32) = nI 27 from rfl, tg_m (p := 27) (N := n) (by omega), pu_bs, pu_bs]
    exact ⟨_, _, _, rfl, rfl, z2⟩
  · rw [tg_x0 (w := 2) (a := 111) hn en1 (Or.inr (Or.inr ⟨rfl, rfl⟩)), tg_cg (u' := fun i => th_G g k 217 (3 + i)) n (fun i hi => rl_g_le (o := 108) R.1 (by omega)), ← tg_m (p := 3) (N := n) (by omega), en]
    simp only [show ¬ nI 2 = (3 : Int32) by decide, show ¬ nI 2 = (0 : Int32) by decide, show ¬ nI 2 = (1 : Int32) by decide, show nI 3 = (3 : Int32) from rfl, if_false]
    rw [show (3 : Int32) = nI 3 from rfl, tg_m (p := 3) (N := n) (by omega), pu_bs, pu_bs]
    exact ⟨_, _, _, rfl, rfl, z2⟩
  · rw [tg_x3 hm em1, tg_cg (u' := fun i => th_G g k 217 (57 + i)) m (fun i hi => rl_g_gi (o := 108) R.1 (by omega)), ← tg_m (p := 57) (N := m) (by omega), em]
    simp only [show nI 3 = (3 : Int32) from rfl, show nI 57 = (57 : Int32) from rfl, if_true]
    rw [show (57 : Int32) = nI 57 from rfl, tg_m (p := 57) (N := m) (by omega), pu_bs, pu_bs]
    exact ⟨_, _, _, rfl, rfl, z2⟩
