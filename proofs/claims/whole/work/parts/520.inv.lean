/-! THE RELATION: what is kept between calls -/
/-- the court: numbers in their bounds; T bounds the time; c: how often more than the time a glass may have gone off the top -/
def iv_Cc (c : Nat → Nat) (T : Nat) (w : Nat → Int32) : Prop := ∃ n m t b : Nat, w 69 = nI n ∧ n ≤ 6 ∧ w 70 = nI m ∧ m ≤ 12 ∧ w 0 = nI t ∧ t ≤ T ∧ w 2 = nI b ∧ b ≤ 150 ∧
  (∀ i, i < 6 → ∃ l, l ≤ 99 ∧ w (3 + i) = nI l) ∧
  (∀ i, i < n → w (15 + i) = -1 ∨ ∃ p, p < m ∧ w (15 + i) = nI p) ∧
  (∀ i, i < n → w (21 + i) = -1 ∨ ∃ q, q < 16 ∧ w (21 + i) = nI q) ∧
  (∀ i, i < 6 → ∃ z, w (27 + i) = nI z ∧ z ≤ t + c i ∧ (n ≤ i → z = 0)) ∧
  (∀ i, i < 12 → (∃ z, z ≤ 9 ∧ w (33 + i) = nI z) ∧ (m ≤ i → w (45 + i) = 0 ∧ w (57 + i) = 0))
abbrev iv_C (T : Nat) (w : Nat → Int32) : Prop := iv_Cc (fun _ => 0) T w
/-- what is kept back -/
def iv_K (w : Nat → Int32) : Prop := ∀ i, i < 12 → ∃ s, s < 65536 ∧ w (75 + i) = nI s ∧ ∀ m, w 70 = nI m → m ≤ 12 → m ≤ i → s = 0
/-- NEAR: a table that is alike across, of small numbers -/
def iv_N (w : Nat → Int32) : Prop := (∀ j, j < 256 → ∃ z, z ≤ 9 ∧ w (87 + j) = nI z) ∧ ∀ a b, a < 16 → b < 16 → w (87 + (16 * a + b)) = w (87 + (16 * b + a))
/-- WALK, a line: minute, glass, deed, value -/
def iv_L (F : Nat → Nat → Int32) (o : Nat) (w : Nat → Int32) (i : Nat) : Prop := ∃ a g d : Nat, F (21 + o) i = nI a ∧ w (343 + 4 * i) = nI a ∧ a ≤ 999 ∧ F (22 + o) i = nI g ∧ w (344 + 4 * i) = nI g ∧ (∃ n, w 69 = nI n ∧ n ≤ 6 ∧ g < n) ∧
  F (23 + o) i = nI d ∧ w (345 + 4 * i) = nI (d + 7) ∧ 2 ≤ d ∧ d ≤ 7 ∧ (d = 2 → ∃ v, v < 16 ∧ F (24 + o) i = nI v ∧ w (346 + 4 * i) = nI v) ∧ (d = 6 → ∃ v, F (24 + o) i = nI v ∧ w (346 + 4 * i) = nI v ∧ ∃ m, w 70 = nI m ∧ m ≤ 12 ∧ v < m)
def iv_W (F : Nat → Nat → Int32) (o : Nat) (w : Nat → Int32) : Prop := ∃ l, l ≤ 16 ∧ w 72 = nI l ∧ ∀ i, i < l → iv_L F o w i
/-- the rows told for thought: how many, of what -/
def iv_R (w : Nat → Int32) (p most : Nat) (P : Nat → Prop) : Prop := ∃ n, n ≤ most ∧ w p = nI n ∧ ∀ i, i < n → P i
def iv_T (w : Nat → Int32) : Prop :=
  iv_R w 407 8 (fun i => ∃ a b, a < 16 ∧ b ≤ 10 ∧ w (408 + 2 * i) = nI a ∧ w (409 + 2 * i) = nI b) ∧
  iv_R w 424 6 (fun i => ∃ a b, 1 ≤ a ∧ a ≤ 9 ∧ b < 256 ∧ w (425 + 2 * i) = nI a ∧ w (426 + 2 * i) = nI b) ∧
  iv_R w 437 4 (fun i => ∃ a, a ≤ 9 ∧ w (438 + 2 * i) = nI a) ∧
  iv_R w 446 6 (fun i => ∃ a, a ≤ 3 ∧ w (447 + 2 * i) = nI a) ∧
  iv_R w 459 4 (fun i => ∃ a, 1 ≤ a ∧ a ≤ 40 ∧ w (460 + i) = nI a) ∧
  iv_R w 464 8 (fun i => ∃ a, a < 65536 ∧ w (465 + i) = nI a) ∧
  iv_R w 481 24 (fun i => ∃ a, a ≤ 99 ∧ w (482 + i) = nI a) ∧
  iv_R w 506 8 (fun i => ∃ a, 1 ≤ a ∧ a ≤ 9999 ∧ w (507 + i) = nI a) ∧
  iv_R w 515 8 (fun i => ∃ a, 1 ≤ a ∧ a ≤ 20 ∧ w (516 + i) = nI a) ∧
  ∀ i, i < 8 → ∃ a, a ≤ 99 ∧ w (473 + i) = nI a
/-! THE LAW: a told row of steps, on both sides; steps are (what, how much) -/
abbrev lw_S : Type := Nat × Nat
/-- the class's code for a step -/
def lw_e (s : lw_S) : List Nat :=
  if s.1 = 0 then [s.2] else if s.1 ≤ 10 then [10006 + s.1] else if s.1 = 23 then [20043] else if s.1 = 24 then [20045] else if s.1 = 25 then [20042] else if s.1 = 26 then [s.2, 20047]
  else if s.1 = 27 then [20060] else if s.1 = 28 then [20061] else if s.1 = 29 then [20062] else if s.1 = 30 then [20033] else if s.1 = 31 then [20038] else [20124]
def lw_es (P : List lw_S) : List Nat := P.flatMap lw_e
/-- a step's kinds on the stack (true: 0 or 1) -/
def lw_k (s : lw_S) (st : List Bool) : Option (List Bool) :=
  if s.1 = 0 then (if s.2 ≤ 9999 then some (false :: st) else none)
  else if s.1 ≤ 10 then some (false :: st)
  else if s.1 = 23 ∨ s.1 = 24 ∨ s.1 = 25 then (match st with | false :: false :: st => some (false :: st) | _ => none)
  else if s.1 = 26 then (match st with | false :: st => if 1 ≤ s.2 ∧ s.2 ≤ 9999 then some (false :: st) else none | _ => none)
  else if s.1 = 27 ∨ s.1 = 28 ∨ s.1 = 29 then (match st with | false :: false :: st => some (true :: st) | _ => none)
  else if s.1 = 30 then (match st with | true :: st => some (true :: st) | _ => none)
  else if s.1 = 31 ∨ s.1 = 32 then (match st with | true :: true :: st => some (true :: st) | _ => none)
  else none
def lw_ks : List lw_S → List Bool → Option (List Bool)
  | [], st => some st
  | s :: P, st => if st.length ≤ 60 then (lw_k s st).bind (lw_ks P) else none
/-- a part of the class's code is those steps, and of the model's -/
def lw_cX (F : Nat → Nat → Int32) (o a : Nat) (P : List lw_S) : Prop := ∀ t x, (lw_es P)[t]? = some x → F (15 + o) (a + t) = nI x
def lw_cM (w : Nat → Int32) (a : Nat) (P : List lw_S) : Prop := ∀ t s, P[t]? = some s → w (1188 + 2 * (a + t)) = nI s.1 ∧ ((s.1 = 0 ∨ s.1 = 26) → w (1189 + 2 * (a + t)) = nI s.2)
def lw_Ln (F : Nat → Nat → Int32) (o : Nat) (w : Nat → Int32) (u i : Nat) : Prop := ∃ (k a a' : Nat) (P Q : List lw_S), k < 3 ∧ F (16 + o) i = nI k ∧ w (1172 + i) = nI (20 + k) ∧
  F (17 + o) i = nI a ∧ F (18 + o) i = nI (a + (lw_es P).length) ∧ F (19 + o) i = nI (a + (lw_es P).length + (lw_es Q).length) ∧ a + (lw_es P).length + (lw_es Q).length ≤ u ∧
  w (1124 + i) = nI a' ∧ w (1140 + i) = nI (a' + P.length) ∧ w (1156 + i) = nI (a' + P.length + Q.length) ∧ a' + P.length + Q.length ≤ 405 ∧
  lw_cX F o a P ∧ lw_cX F o (a + (lw_es P).length) Q ∧ lw_cM w a' P ∧ lw_cM w (a' + P.length) Q ∧ lw_ks P [] = some [false] ∧ (Q = [] ∨ lw_ks Q [] = some [true])
def iv_Y (F : Nat → Nat → Int32) (o : Nat) (w : Nat → Int32) : Prop := ∃ l u, l ≤ 16 ∧ u ≤ 400 ∧ w 71 = nI l ∧ F (14 + o) 1 = nI u ∧ ∀ i, i < l → lw_Ln F o w u i
theorem rl_lo : ∀ q ∈ rl_W, 2 ≤ q.1 ∧ q.1 ≤ 54 := by decide +kernel
/-- a world of the class (its cells o further on) and the model's row -/
def rl_Wd (o T : Nat) (F : Nat → Nat → Int32) (w : Nat → Int32) : Prop := rl_T rl_W o F w ∧ iv_C T w ∧ iv_K w ∧ iv_N w ∧ iv_W F o w ∧ iv_T w ∧ iv_Y F o w
/-- a past: the first 69 places are its own, the others those of now -/
def rl_pw (g : Nat → Nat → Int32) (p : Nat) : Nat → Int32 := fun i => if i < 69 then g 219 (69 * p + i) else g 217 i
def rl_Ps (f g : Nat → Nat → Int32) : Prop := ∃ k n : Nat, k < 6 ∧ n ≤ 6 ∧ (∀ j, j < 6 → f 109 j = nI (x_pl j k + 1)) ∧ f 0 4 = nI n ∧ g 216 4 = nI n ∧ ∀ p, p < n → rl_T rl_C (x_pl p k - 2) f (rl_pw g p) ∧ iv_C 9999 (rl_pw g p)
/-- nimbers and prices that are known -/
def rl_nim : List Nat := [0, 0, 0, 1, 0, 2, 1, 0, 2, 1, 0, 2, 1, 3, 2, 1, 3, 2, 4, 3, 0, 4, 3, 0, 4, 3, 0, 4, 1, 2, 3, 1, 2, 4, 1, 2, 4, 1, 2, 4, 1]
def rl_Ni (f : Nat → Nat → Int32) : Prop := ∃ k, k ≤ 40 ∧ f 143 7 = nI k ∧ ∀ i, i ≤ k → f 150 i = nI (rl_nim.getD i 0)
/-- the least that is enough from lo to hi (k: the numbers between, or more) -/
def dr_D : Nat → Nat → Nat → Nat
  | 0, _, _ => 0
  | k + 1, lo, hi => if hi ≤ lo then 0 else ((List.range (hi + 1 - lo)).map fun i => lo + i + max (dr_D k lo (lo + i - 1)) (dr_D k (lo + i + 1) hi)).foldl min 1000000
def rl_Pr (f : Nat → Nat → Int32) : Prop := f 144 0 = 0 ∧ ∃ k, 1 ≤ k ∧ k ≤ 40 ∧ f 143 11 = nI k ∧ ∀ lo hi, 1 ≤ lo → lo < hi → hi ≤ k → f 153 (41 * lo + hi) = nI (dr_D (hi - lo) lo hi)
def rl_Tp (f g : Nat → Nat → Int32) : Prop := ∃ n, n ≤ 400 ∧ f 123 0 = nI n ∧ g 216 16 = nI n ∧ ∀ i, i < n → ∃ z, z < 256 ∧ f 124 i = nI z ∧ g 224 i = nI z
def rl_Im (f g : Nat → Nat → Int32) : Prop := (f 0 2 = 0 ∧ g 216 5 = 0) ∨ (f 0 2 = 1 ∧ g 216 5 = 1 ∧ rl_Wd 54 9999 f (g 218))
def rl_Rel (f g : Nat → Nat → Int32) : Prop := rl_Wd 0 9999 f (g 217) ∧ rl_Im f g ∧ rl_Ps f g ∧ rl_Tp f g ∧ (f 128 4 = g 216 23 ∧ f 128 5 = g 216 25) ∧ rl_Ni f ∧ rl_Pr f
/-! cells that the relation doesn't see -/
theorem rl_Wd.congr {o T : Nat} {F F' : Nat → Nat → Int32} {w : Nat → Int32} (h : rl_Wd o T F w) (hr : ∀ a, 2 ≤ a → a ≤ 54 → F' (a + o) = F (a + o)) : rl_Wd o T F' w := by
  obtain ⟨h1, h2, h3, h4, h5, h6, h7⟩ := h
  refine ⟨h1.row fun q hq => hr q.1 (rl_lo q hq).1 (rl_lo q hq).2, h2, h3, h4, ?_, h6, ?_⟩
  · unfold iv_W iv_L at h5 ⊢
    rw [hr 21 (by decide) (by decide), hr 22 (by decide) (by decide), hr 23 (by decide) (by decide), hr 24 (by decide) (by decide)]
    exact h5
  · unfold iv_Y lw_Ln lw_cX at h7 ⊢
    rw [hr 14 (by decide) (by decide), hr 15 (by decide) (by decide), hr 16 (by decide) (by decide), hr 17 (by decide) (by decide), hr 18 (by decide) (by decide), hr 19 (by decide) (by decide)]
    exact h7
/-- the class's cells that the relation sees are the same -/
def rl_sx (f f' : Nat → Nat → Int32) : Prop := (∀ a, 2 ≤ a → a ≤ 109 → f' a = f a) ∧ (∀ a, 156 ≤ a → f' a = f a) ∧ f' 0 2 = f 0 2 ∧ f' 0 4 = f 0 4 ∧ f' 123 0 = f 123 0 ∧ f' 124 = f 124 ∧ f' 128 4 = f 128 4 ∧ f' 128 5 = f 128 5 ∧ f' 143 7 = f 143 7 ∧ f' 143 11 = f 143 11 ∧ f' 150 = f 150 ∧ f' 153 = f 153 ∧ f' 144 0 = f 144 0
/-- the model's -/
def rl_sm (g g' : Nat → Nat → Int32) : Prop := g' 217 = g 217 ∧ g' 218 = g 218 ∧ g' 219 = g 219 ∧ g' 224 = g 224 ∧ g' 216 4 = g 216 4 ∧ g' 216 5 = g 216 5 ∧ g' 216 16 = g 216 16 ∧ g' 216 23 = g 216 23 ∧ g' 216 25 = g 216 25
theorem rl_sx.rf {f : Nat → Nat → Int32} : rl_sx f f := ⟨fun _ _ _ => rfl, fun _ _ => rfl, rfl, rfl, rfl, rfl, rfl, rfl, rfl, rfl, rfl, rfl, rfl⟩
theorem rl_sm.rf {g : Nat → Nat → Int32} : rl_sm g g := ⟨rfl, rfl, rfl, rfl, rfl, rfl, rfl, rfl, rfl⟩
theorem rl_pl_ge (j k : Nat) : 156 ≤ x_pl j k ∧ x_pl j k ≤ 206 := by
  unfold x_pl
  have : (j + k) % 6 < 6 := Nat.mod_lt _ (by decide)
  omega
theorem rl_loC : ∀ q ∈ rl_C, 2 ≤ q.1 ∧ q.1 ≤ 11 := by decide +kernel
theorem rl_Rel.congr {f f' g g' : Nat → Nat → Int32} (h : rl_Rel f g) (hf : rl_sx f f') (hg : rl_sm g g') : rl_Rel f' g' := by
  obtain ⟨h1, h2, h3, h4, ⟨h5, h5'⟩, h6, h7⟩ := h
  obtain ⟨a1, a2, a3, a4, a5, a6, a7, a8, a9, a10, a11, a12, a13⟩ := hf
  obtain ⟨b1, b2, b3, b4, b5, b6, b7, b8, b9⟩ := hg
  refine ⟨?_, ?_, ?_, ?_, ⟨?_, ?_⟩, ?_, ?_⟩
  · rw [b1]
    exact h1.congr fun a x y => a1 a x (by omega)
  · unfold rl_Im at h2 ⊢
    rw [a3, b6, b2]
    rcases h2 with h2 | ⟨x, y, z⟩
    · exact Or.inl h2
    · exact Or.inr ⟨x, y, z.congr fun a x y => a1 (a + 54) (by omega) (by omega)⟩
  · obtain ⟨k, n, c1, c2, c3, c4, c5, c6⟩ := h3
    refine ⟨k, n, c1, c2, ?_, by rw [a4]; exact c4, by rw [b5]; exact c5, fun p hp => ?_⟩
    · rw [a1 109 (by decide) (by decide)]
      exact c3
    · obtain ⟨d1, d2⟩ := c6 p hp
      have e : rl_pw g' p = rl_pw g p := by
        funext i
        unfold rl_pw
        rw [b1, b3]
      rw [e]
      refine ⟨d1.row fun q hq => a2 _ ?_, d2⟩
      have := (rl_pl_ge p k).1
      have := (rl_loC q hq).1
      omega
  · unfold rl_Tp at h4 ⊢
    rw [a5, a6, b4, b7]
    exact h4
  · rw [a7, b8]; exact h5
  · rw [a8, b9]; exact h5'
  · unfold rl_Ni at h6 ⊢
    rw [a9, a11]
    exact h6
  · unfold rl_Pr at h7 ⊢
    rw [a10, a12, a13]
    exact h7
