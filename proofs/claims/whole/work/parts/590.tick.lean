/-! THE COURT IN A MINUTE: relation and frame -/
def tk_R (o : Nat) (rl : Bool) (c : Nat → Nat) (T : Nat) (f g : Nat → Nat → Int32) : Prop := rl_T rl_C o f (g 217) ∧ rl_T rl_X 0 f (g 217) ∧ iv_Cc c T (g 217) ∧ iv_K (g 217) ∧ iv_N (g 217) ∧ iv_W f 0 (g 217) ∧ iv_Y f 0 (g 217) ∧ g 216 26 = am_b rl
def tk_F (o : Nat) (rl : Bool) (f f' g g' : Nat → Nat → Int32) : Prop := (∀ a, ¬ (2 + o ≤ a ∧ a ≤ 11 + o) → a ≠ 121 → a ≠ 122 → (a = 13 → rl = false) → f' a = f a) ∧ (∀ a, a ≠ 217 → a ≠ 225 → a ≠ 226 → g' a = g a) ∧ (∀ i, 69 ≤ i → ((i < 524 ∨ 1124 ≤ i) ∨ rl = false) → g' 217 i = g 217 i) ∧ (∀ j, j < 6 → (g 217 (27 + j)).toInt ≤ (g' 217 (27 + j)).toInt)
theorem tk_F.rf {o : Nat} {rl : Bool} {f g : Nat → Nat → Int32} : tk_F o rl f f g g := ⟨fun _ _ _ _ _ => rfl, fun _ _ _ _ => rfl, fun _ _ _ => rfl, fun _ _ => Int.le_refl _⟩
theorem tk_F.trans {o : Nat} {rl : Bool} {f f1 f2 g g1 g2 : Nat → Nat → Int32} (h1 : tk_F o rl f f1 g g1) (h2 : tk_F o rl f1 f2 g1 g2) : tk_F o rl f f2 g g2 :=
  ⟨fun a x1 x2 x3 x4 => (h2.1 a x1 x2 x3 x4).trans (h1.1 a x1 x2 x3 x4), fun a x1 x2 x3 => (h2.2.1 a x1 x2 x3).trans (h1.2.1 a x1 x2 x3), fun i x1 x2 => (h2.2.2.1 i x1 x2).trans (h1.2.2.1 i x1 x2), fun j hj => Int.le_trans (h1.2.2.2 j hj) (h2.2.2.2 j hj)⟩
theorem tk_R.frame {o : Nat} (ho : o = 0 ∨ o = 108) {rl : Bool} {c c' : Nat → Nat} {T T' : Nat} {f f' g g' : Nat → Nat → Int32} (h : tk_R o rl c T f g) (hF : tk_F o rl f f' g g') (h1 : rl_T rl_C o f' (g' 217)) (h2 : rl_T rl_X 0 f' (g' 217)) (h3 : iv_Cc c' T' (g' 217)) : tk_R o rl c' T' f' g' := by
  obtain ⟨-, -, -, h4, h5, h6, h7, h8⟩ := h
  obtain ⟨hf, hg, hw0, -⟩ := hF
  have hw : ∀ i, 69 ≤ i → (i < 524 ∨ 1124 ≤ i) → g' 217 i = g 217 i := fun i x y => hw0 i x (Or.inl y)
  have hr : ∀ a, 14 ≤ a → a ≤ 54 → f' (a + 0) = f (a + 0) := fun a x y => hf a (by omega) (by omega) (by omega) (fun z => by omega)
  refine ⟨h1, h2, h3, fun i hi => ?_, ⟨fun j hj => ?_, fun a b ha hb => ?_⟩, ?_, ?_, by rw [hg 216 (by decide) (by decide) (by decide)]; exact h8⟩
  · obtain ⟨s, s1, s2, s3⟩ := h4 i hi
    refine ⟨s, s1, by rw [hw _ (by omega) (by omega)]; exact s2, fun m hm => ?_⟩
    rw [hw _ (by omega) (by omega)] at hm
    exact s3 m hm
  · rw [hw _ (by omega) (by omega)]; exact h5.1 j hj
  · rw [hw _ (by omega) (by omega), hw _ (by omega) (by omega)]; exact h5.2 a b ha hb
  · obtain ⟨l, l1, l2, l3⟩ := h6
    refine ⟨l, l1, by rw [hw _ (by omega) (by omega)]; exact l2, fun i hi => ?_⟩
    have hl := l3 i hi
    unfold iv_L at hl ⊢
    rw [hr 21 (by decide) (by decide), hr 22 (by decide) (by decide), hr 23 (by decide) (by decide), hr 24 (by decide) (by decide), hw (343 + 4 * i) (by omega) (by omega), hw (344 + 4 * i) (by omega) (by omega), hw (345 + 4 * i) (by omega) (by omega), hw (346 + 4 * i) (by omega) (by omega), hw 69 (by decide) (by decide), hw 70 (by decide) (by decide)]
    exact hl
  · obtain ⟨l, u, l1, l2, l3, l4, l5⟩ := h7
    refine ⟨l, u, l1, l2, by rw [hw _ (by omega) (by omega)]; exact l3, by rw [hr 14 (by decide) (by decide)]; exact l4, fun i hi => ?_⟩
    have hl := l5 i hi
    unfold lw_Ln lw_cX at hl ⊢
    rw [hr 15 (by decide) (by decide), hr 16 (by decide) (by decide), hr 17 (by decide) (by decide), hr 18 (by decide) (by decide), hr 19 (by decide) (by decide), hw (1172 + i) (by omega) (by omega), hw (1124 + i) (by omega) (by omega), hw (1140 + i) (by omega) (by omega), hw (1156 + i) (by omega) (by omega)]
    obtain ⟨k, a, a', P, Q, y1, y2, y3, y4, y5, y6, y7, y8, y9, y10, y11, y12, y13, y14, y15, y16, y17⟩ := hl
    refine ⟨k, a, a', P, Q, y1, y2, y3, y4, y5, y6, y7, y8, y9, y10, y11, y12, y13, fun t s e => ?_, fun t s e => ?_, y16, y17⟩
    · rw [hw _ (by omega) (by omega), hw _ (by omega) (by omega)]; exact y14 t s e
    · rw [hw _ (by omega) (by omega), hw _ (by omega) (by omega)]; exact y15 t s e
/-- a cell of the court and its place are written -/
theorem tk_cell {o : Nat} (ho : o = 0 ∨ o = 108) {rl : Bool} {c c' : Nat → Nat} {T T' : Nat} {f g : Nat → Nat → Int32} (h : tk_R o rl c T f g) {a j i : Nat} {v : Int32} (ha : 2 ≤ a) (ha2 : a ≤ 11) (hi : i < 69) (hT : rl_T rl_C o (am_up f (a + o) j v) (upd (g 217) i v)) (hC : iv_Cc c' T' (upd (g 217) i v)) (hv : ∀ k, k < 6 → i = 27 + k → (g 217 i).toInt ≤ v.toInt := by intro k h1 h2; omega) : tk_R o rl c' T' (am_up f (a + o) j v) (am_up g 217 i v) ∧ tk_F o rl f (am_up f (a + o) j v) g (am_up g 217 i v) := by
  have F : tk_F o rl f (am_up f (a + o) j v) g (am_up g 217 i v) := ⟨fun x x1 x2 x3 x4 => pu_up_ne _ _ (by omega), fun x x1 x2 x3 => pu_up_ne _ _ x1, fun x x1 x2 => by rw [pu_up_row, pu_upd_ne _ _ (by omega)], fun k hk => by
    rw [pu_up_row]
    by_cases e : i = 27 + k
    · subst e
      rw [pu_upd_eq]
      exact hv k hk rfl
    · rw [pu_upd_ne _ _ (Ne.symm e)]
      exact Int.le_refl _⟩
  refine ⟨h.frame ho F (by rw [pu_up_row]; exact hT) ?_ (by rw [pu_up_row]; exact hC), F⟩
  rw [pu_up_row]
  refine h.2.1.congr (fun q hq t ht => ?_) (fun q hq t ht => ?_)
  · have := rl_Xlo q hq
    rw [pu_up_ne _ _ (by omega)]
  · have := rl_Xix hq t
    rw [pu_upd_ne _ _ (by omega)]
/-- cells that neither the court nor what it asks is made of -/
theorem tk_R.scr {o : Nat} (ho : o = 0 ∨ o = 108) {rl : Bool} {c : Nat → Nat} {T : Nat} {f f' g g' : Nat → Nat → Int32} (h : tk_R o rl c T f g) (hf : ∀ a, a ≠ 121 → a ≠ 122 → f' a = f a) (hg : ∀ a, a ≠ 225 → a ≠ 226 → g' a = g a) : tk_R o rl c T f' g' ∧ tk_F o rl f f' g g' := by
  have F : tk_F o rl f f' g g' := ⟨fun x x1 x2 x3 x4 => hf x x2 x3, fun x x1 x2 x3 => hg x x2 x3, fun x x1 x2 => by rw [hg 217 (by decide) (by decide)], fun k hk => by rw [hg 217 (by decide) (by decide)]; exact Int.le_refl _⟩
  refine ⟨h.frame ho F ?_ ?_ ?_, F⟩
  · rw [hg 217 (by decide) (by decide)]
    refine h.1.row fun q hq => ?_
    have := rl_loC q hq
    exact hf _ (by omega) (by omega)
  · rw [hg 217 (by decide) (by decide)]
    refine h.2.1.row fun q hq => ?_
    have := rl_Xlo q hq
    exact hf _ (by omega) (by omega)
  · rw [hg 217 (by decide) (by decide)]
    exact h.2.2.1
theorem pu_forb {S E A : Type} {f : S → Option (S ⊕ E)} {k : E → Option A} {r : Option A} (st : Nat → S) (n : Nat) {e : E} {s0 : S} (h0 : s0 = st 0) (hs : ∀ i, i < n → f (st i) = some (.inl (st (i + 1)))) (he : f (st n) = some (.inr e)) (hk : k e = r) (hn : n < 1000000 := by omega) : (am_loop f am_F s0).bind k = r := by
  rw [pu_for st n h0 hs he hn]
  exact hk
theorem pu_least (P : Nat → Prop) [DecidablePred P] : ∀ n, (∀ j, j < n → ¬ P j) ∨ ∃ i, i < n ∧ P i ∧ ∀ j, j < i → ¬ P j := by
  intro n
  induction n with
  | zero => exact Or.inl fun j hj => absurd hj (Nat.not_lt_zero _)
  | succ n ih =>
    rcases ih with h | ⟨i, h1, h2, h3⟩
    · by_cases hp : P n
      · exact Or.inr ⟨n, by omega, hp, h⟩
      · refine Or.inl fun j hj => ?_
        by_cases e : j = n
        · subst e; exact hp
        · exact h j (by omega)
    · exact Or.inr ⟨i, by omega, h2, h3⟩
theorem mgo {g : Nat → Nat → Int32} {n : Nat} (hn : n ≤ 6) (e2 : g 217 69 = nI n) (a : Int32) : (m_glassOf a g = some (-1) ∧ ∀ i, i < n → g 217 (15 + i) ≠ a) ∨ ∃ i, i < n ∧ m_glassOf a g = some (nI i) ∧ g 217 (15 + i) = a ∧ ∀ j, j < i → g 217 (15 + j) ≠ a := by
  unfold m_glassOf
  rw [e2]
  have stp : ∀ i, i < n → g 217 (15 + i) ≠ a → (fun (s1 : Int32) => ((
    if s1 < nI n then (
      if am_in (15 + s1) 2008 = true then (
      if g 217 (15 + s1).toNatClampNeg = a then (
        some (.inr s1))
      else (
        am_let (s1 + 1 : Int32) fun t2 =>
        some (.inl t2))) else none)
    else (
      some (.inr s1))) : Option ((Int32) ⊕ (Int32)))) (nI i) = some (.inl (nI (i + 1))) := by
    intro i hi hne
    dsimp only
    rw [show (15 : Int32) = nI 15 from rfl, nI_add, if_pos (nI_lt hi (by omega)), if_pos (pu_in (by omega) (by omega)), nI_clamp (by omega), if_neg hne, pu_let, nI_1]
  rcases pu_least (fun i => g 217 (15 + i) = a) n with h | ⟨i, h1, h2, h3⟩
  · refine Or.inl ⟨?_, h⟩
    refine pu_forb (fun i => nI i) n (e := nI n) rfl (fun i hi => stp i hi (h i hi)) ?_ ?_
    · show (if _ then _ else _) = _
      rw [if_neg (nI_nlt (Nat.le_refl _) (by omega))]
    · rw [if_neg (nI_nlt (Nat.le_refl _) (by omega))]
  · refine Or.inr ⟨i, h1, ?_, h2, h3⟩
    refine pu_forb (fun i => nI i) i (e := nI i) rfl (fun j hj => stp j (by omega) (h3 j hj)) ?_ ?_
    · show (if _ then _ else _) = _
      rw [show (15 : Int32) = nI 15 from rfl, nI_add, if_pos (nI_lt h1 (by omega)), if_pos (pu_in (by omega) (by omega)), nI_clamp (by omega), if_pos h2]
    · rw [if_pos (nI_lt h1 (by omega))]
theorem xgo_2 {f : Nat → Nat → Int32} {n : Nat} (hn : n ≤ 6) (e1 : f 2 0 = nI n) (a : Int32) : (xc_glassOf_2 a f = some (-1) ∧ ∀ i, i < n → f 5 i ≠ a) ∨ ∃ i, i < n ∧ xc_glassOf_2 a f = some (nI i) ∧ f 5 i = a ∧ ∀ j, j < i → f 5 j ≠ a := by
  unfold xc_glassOf_2
  rw [e1]
  have stp : ∀ i, i < n → f 5 i ≠ a → (fun (s1 : Int32) => ((
    if s1 < nI n then (
      if am_in s1 6 = true then (
      if f 5 s1.toNatClampNeg = a then (
        some (.inr s1))
      else (
        am_let (s1 + 1 : Int32) fun t2 =>
        some (.inl t2))) else none)
    else (
      some (.inr (-1)))) : Option ((Int32) ⊕ (Int32)))) (nI i) = some (.inl (nI (i + 1))) := by
    intro i hi hne
    dsimp only
    rw [if_pos (nI_lt hi (by omega)), if_pos (pu_in (by omega) (by omega)), nI_clamp (by omega), if_neg hne, pu_let, nI_1]
  rcases pu_least (fun i => f 5 i = a) n with h | ⟨i, h1, h2, h3⟩
  · refine Or.inl ⟨?_, h⟩
    refine pu_for (fun i => nI i) n (e := -1) rfl (fun i hi => stp i hi (h i hi)) ?_
    show (if _ then _ else _) = _
    rw [if_neg (nI_nlt (Nat.le_refl _) (by omega))]
  · refine Or.inr ⟨i, h1, ?_, h2, h3⟩
    refine pu_for (fun i => nI i) i (e := nI i) rfl (fun j hj => stp j (by omega) (h3 j hj)) ?_
    show (if _ then _ else _) = _
    rw [if_pos (nI_lt h1 (by omega)), if_pos (pu_in (by omega) (by omega)), nI_clamp (by omega), if_pos h2]
theorem go_2 {f g : Nat → Nat → Int32} {n : Nat} (hn : n ≤ 6) (e1 : f 2 0 = nI n) (e2 : g 217 69 = nI n) (hu : ∀ i, i < n → f 5 i = g 217 (15 + i)) (a : Int32) : (xc_glassOf_2 a f = some (-1) ∧ m_glassOf a g = some (-1)) ∨ ∃ i, i < n ∧ xc_glassOf_2 a f = some (nI i) ∧ m_glassOf a g = some (nI i) := by
  rcases xgo_2 hn e1 a with ⟨x1, x2⟩ | ⟨i, i1, i2, i3, i4⟩
  · rcases mgo hn e2 a with ⟨y1, y2⟩ | ⟨j, j1, j2, j3, j4⟩
    · exact Or.inl ⟨x1, y1⟩
    · exact absurd ((hu j j1).trans j3) (x2 j j1)
  · rcases mgo hn e2 a with ⟨y1, y2⟩ | ⟨j, j1, j2, j3, j4⟩
    · exact absurd ((hu i i1).symm.trans i3) (y2 i i1)
    · refine Or.inr ⟨i, i1, i2, ?_⟩
      have : i = j := by
        rcases Nat.lt_trichotomy i j with h | h | h
        · exact absurd ((hu i i1).symm.trans i3) (j4 i h)
        · exact h
        · exact absurd ((hu j j1).trans j3) (i4 j h)
      rw [j2, this]
theorem cg_2 {f g : Nat → Nat → Int32} {n m : Nat} (hn : n ≤ 6) (hm : m ≤ 12) (e1 : f 2 0 = nI n) (e2 : g 217 69 = nI n) (e3 : f 2 1 = nI m) (hu : ∀ i, i < n → f 5 i = g 217 (15 + i)) {i p : Nat} (hi : i < n) (hp : p < m) : ∃ b : Bool, xc_canGoUnder_2 (nI i) (nI p) f = some b ∧ m_canBeUnder (nI i) (nI p) g = some b := by
  unfold xc_canGoUnder_2 m_canBeUnder
  have hw : xc_hasWitness_2 (nI p) f = true := by
    unfold xc_hasWitness_2
    rw [e3, if_neg (nI_pos (by omega)), if_pos (nI_lt hp (by omega))]
  rw [if_pos hw, if_pos (pu_in (by omega) (by omega)), nI_clamp (by omega), show (15 : Int32) = nI 15 from rfl, nI_add, if_pos (pu_in (by omega) (by omega)), nI_clamp (by omega), hu i hi]
  by_cases hz : g 217 (15 + i) = -1
  · rw [if_pos hz, if_pos hz]
    rcases go_2 hn e1 e2 hu (nI p) with ⟨x, y⟩ | ⟨j, j1, x, y⟩
    · rw [x, y]
      exact ⟨true, rfl, rfl⟩
    · rw [x, y, pu_bs, if_neg (pu_neg1 (by omega))]
      exact ⟨false, rfl, rfl⟩
  · rw [if_neg hz, if_neg hz]
    exact ⟨false, rfl, rfl⟩
theorem xgo_110 {f : Nat → Nat → Int32} {n : Nat} (hn : n ≤ 6) (e1 : f 110 0 = nI n) (a : Int32) : (xc_glassOf_110 a f = some (-1) ∧ ∀ i, i < n → f 113 i ≠ a) ∨ ∃ i, i < n ∧ xc_glassOf_110 a f = some (nI i) ∧ f 113 i = a ∧ ∀ j, j < i → f 113 j ≠ a := by
  unfold xc_glassOf_110
  rw [e1]
  have stp : ∀ i, i < n → f 113 i ≠ a → (fun (s1 : Int32) => ((
    if s1 < nI n then (
      if am_in s1 6 = true then (
      if f 113 s1.toNatClampNeg = a then (
        some (.inr s1))
      else (
        am_let (s1 + 1 : Int32) fun t2 =>
        some (.inl t2))) else none)
    else (
      some (.inr (-1)))) : Option ((Int32) ⊕ (Int32)))) (nI i) = some (.inl (nI (i + 1))) := by
    intro i hi hne
    dsimp only
    rw [if_pos (nI_lt hi (by omega)), if_pos (pu_in (by omega) (by omega)), nI_clamp (by omega), if_neg hne, pu_let, nI_1]
  rcases pu_least (fun i => f 113 i = a) n with h | ⟨i, h1, h2, h3⟩
  · refine Or.inl ⟨?_, h⟩
    refine pu_for (fun i => nI i) n (e := -1) rfl (fun i hi => stp i hi (h i hi)) ?_
    show (if _ then _ else _) = _
    rw [if_neg (nI_nlt (Nat.le_refl _) (by omega))]
  · refine Or.inr ⟨i, h1, ?_, h2, h3⟩
    refine pu_for (fun i => nI i) i (e := nI i) rfl (fun j hj => stp j (by omega) (h3 j hj)) ?_
    show (if _ then _ else _) = _
    rw [if_pos (nI_lt h1 (by omega)), if_pos (pu_in (by omega) (by omega)), nI_clamp (by omega), if_pos h2]
theorem go_110 {f g : Nat → Nat → Int32} {n : Nat} (hn : n ≤ 6) (e1 : f 110 0 = nI n) (e2 : g 217 69 = nI n) (hu : ∀ i, i < n → f 113 i = g 217 (15 + i)) (a : Int32) : (xc_glassOf_110 a f = some (-1) ∧ m_glassOf a g = some (-1)) ∨ ∃ i, i < n ∧ xc_glassOf_110 a f = some (nI i) ∧ m_glassOf a g = some (nI i) := by
  rcases xgo_110 hn e1 a with ⟨x1, x2⟩ | ⟨i, i1, i2, i3, i4⟩
  · rcases mgo hn e2 a with ⟨y1, y2⟩ | ⟨j, j1, j2, j3, j4⟩
    · exact Or.inl ⟨x1, y1⟩
    · exact absurd ((hu j j1).trans j3) (x2 j j1)
  · rcases mgo hn e2 a with ⟨y1, y2⟩ | ⟨j, j1, j2, j3, j4⟩
    · exact absurd ((hu i i1).symm.trans i3) (y2 i i1)
    · refine Or.inr ⟨i, i1, i2, ?_⟩
      have : i = j := by
        rcases Nat.lt_trichotomy i j with h | h | h
        · exact absurd ((hu i i1).symm.trans i3) (j4 i h)
        · exact h
        · exact absurd ((hu j j1).trans j3) (i4 j h)
      rw [j2, this]
theorem cg_110 {f g : Nat → Nat → Int32} {n m : Nat} (hn : n ≤ 6) (hm : m ≤ 12) (e1 : f 110 0 = nI n) (e2 : g 217 69 = nI n) (e3 : f 110 1 = nI m) (hu : ∀ i, i < n → f 113 i = g 217 (15 + i)) {i p : Nat} (hi : i < n) (hp : p < m) : ∃ b : Bool, xc_canGoUnder_110 (nI i) (nI p) f = some b ∧ m_canBeUnder (nI i) (nI p) g = some b := by
  unfold xc_canGoUnder_110 m_canBeUnder
  have hw : xc_hasWitness_110 (nI p) f = true := by
    unfold xc_hasWitness_110
    rw [e3, if_neg (nI_pos (by omega)), if_pos (nI_lt hp (by omega))]
  rw [if_pos hw, if_pos (pu_in (by omega) (by omega)), nI_clamp (by omega), show (15 : Int32) = nI 15 from rfl, nI_add, if_pos (pu_in (by omega) (by omega)), nI_clamp (by omega), hu i hi]
  by_cases hz : g 217 (15 + i) = -1
  · rw [if_pos hz, if_pos hz]
    rcases go_110 hn e1 e2 hu (nI p) with ⟨x, y⟩ | ⟨j, j1, x, y⟩
    · rw [x, y]
      exact ⟨true, rfl, rfl⟩
    · rw [x, y, pu_bs, if_neg (pu_neg1 (by omega))]
      exact ⟨false, rfl, rfl⟩
  · rw [if_neg hz, if_neg hz]
    exact ⟨false, rfl, rfl⟩
