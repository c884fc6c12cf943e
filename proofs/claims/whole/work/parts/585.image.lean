/-! THE IMAGE: a world is copied -/
abbrev im_O : Type := (Nat × Nat) ⊕ (Nat × Nat)
def im_o0 : List im_O := [.inl (2, 0), .inl (2, 1), .inl (2, 2), .inl (2, 3), .inl (2, 4), .inl (2, 5), .inr (3, 6), .inr (4, 6), .inr (5, 6), .inr (6, 6), .inr (7, 6), .inr (8, 12), .inr (9, 12), .inr (10, 12), .inr (11, 12)]
def im_o1 : List im_O := [.inr (13, 600)]
def im_o2 : List im_O := [.inl (14, 0), .inl (14, 1), .inr (15, 400), .inr (16, 16), .inr (17, 16), .inr (18, 16), .inr (19, 16)]
def im_o3 : List im_O := [.inl (20, 0), .inr (21, 16), .inr (22, 16), .inr (23, 16), .inr (24, 16)]
def im_o4 : List im_O := [.inl (25, 0), .inr (26, 256)]
def im_o5 : List im_O := [.inl (27, 0), .inr (28, 8), .inr (29, 8)]
def im_o6 : List im_O := [.inl (30, 0), .inr (31, 6), .inr (32, 6)]
def im_o7 : List im_O := [.inl (33, 0), .inr (34, 4), .inr (35, 4)]
def im_o8 : List im_O := [.inl (36, 0), .inr (37, 6), .inr (38, 6)]
def im_o9 : List im_O := [.inl (39, 0), .inr (40, 4), .inr (41, 4)]
def im_o10 : List im_O := [.inl (42, 0), .inr (43, 8), .inr (44, 8)]
def im_o11 : List im_O := [.inl (45, 0), .inr (46, 24), .inr (47, 24)]
def im_o12 : List im_O := [.inl (48, 0), .inr (49, 8), .inr (50, 8)]
def im_o13 : List im_O := [.inl (51, 0), .inr (52, 8), .inr (53, 8)]
def im_o14 : List im_O := [.inr (54, 8)]
def im_ops : List im_O := im_o0 ++ (im_o1 ++ (im_o2 ++ (im_o3 ++ (im_o4 ++ (im_o5 ++ (im_o6 ++ (im_o7 ++ (im_o8 ++ (im_o9 ++ (im_o10 ++ (im_o11 ++ (im_o12 ++ (im_o13 ++ (im_o14))))))))))))))
def im_step (d s : Nat) (f : Nat → Nat → Int32) : im_O → Nat → Nat → Int32
  | .inl (a, j) => am_up f (a + d) j (f (a + s) j)
  | .inr (a, n) => am_cp f (a + s) 0 (a + d) 0 n
def im_cp (d s : Nat) : List im_O → (Nat → Nat → Int32) → Nat → Nat → Int32
  | [], f => f
  | op :: l, f => am_let (im_step d s f op) fun f1 => im_cp d s l f1
def im_row : im_O → Nat
  | .inl (a, _) => a
  | .inr (a, _) => a
def im_cov : im_O → Nat → Nat → Bool
  | .inl (a', j'), a, j => decide (a = a') && decide (j = j')
  | .inr (a', n), a, j => decide (a = a') && decide (j < n)
theorem im_app (d s : Nat) : ∀ (l m : List im_O) (f : Nat → Nat → Int32), im_cp d s (l ++ m) f = im_cp d s m (im_cp d s l f) := by
  intro l
  induction l with
  | nil => intro m f; rfl
  | cons op l ih => intro m f; exact ih m _
theorem im_e0 (f : Nat → Nat → Int32) : xc_takeFrom_56_2 f = im_cp 54 0 im_o0 f := rfl
theorem im_d0 (f : Nat → Nat → Int32) : xc_takeFrom_2_56 f = im_cp 0 54 im_o0 f := rfl
theorem im_e1 (f : Nat → Nat → Int32) : xk_takeFrom_66_12 f = im_cp 54 0 im_o1 f := rfl
theorem im_d1 (f : Nat → Nat → Int32) : xk_takeFrom_12_66 f = im_cp 0 54 im_o1 f := rfl
theorem im_e2 (f : Nat → Nat → Int32) : xl_takeFrom_68_14 f = im_cp 54 0 im_o2 f := rfl
theorem im_d2 (f : Nat → Nat → Int32) : xl_takeFrom_14_68 f = im_cp 0 54 im_o2 f := rfl
theorem im_e3 (f : Nat → Nat → Int32) : xw_takeFrom_74_20 f = im_cp 54 0 im_o3 f := rfl
theorem im_d3 (f : Nat → Nat → Int32) : xw_takeFrom_20_74 f = im_cp 0 54 im_o3 f := rfl
theorem im_e4 (f : Nat → Nat → Int32) : xn_takeFrom_79_25 f = im_cp 54 0 im_o4 f := rfl
theorem im_d4 (f : Nat → Nat → Int32) : xn_takeFrom_25_79 f = im_cp 0 54 im_o4 f := rfl
theorem im_e5 (f : Nat → Nat → Int32) : xr_takeFrom_81_27 f = im_cp 54 0 im_o5 f := rfl
theorem im_d5 (f : Nat → Nat → Int32) : xr_takeFrom_27_81 f = im_cp 0 54 im_o5 f := rfl
theorem im_e6 (f : Nat → Nat → Int32) : xr_takeFrom_84_30 f = im_cp 54 0 im_o6 f := rfl
theorem im_d6 (f : Nat → Nat → Int32) : xr_takeFrom_30_84 f = im_cp 0 54 im_o6 f := rfl
theorem im_e7 (f : Nat → Nat → Int32) : xr_takeFrom_87_33 f = im_cp 54 0 im_o7 f := rfl
theorem im_d7 (f : Nat → Nat → Int32) : xr_takeFrom_33_87 f = im_cp 0 54 im_o7 f := rfl
theorem im_e8 (f : Nat → Nat → Int32) : xr_takeFrom_90_36 f = im_cp 54 0 im_o8 f := rfl
theorem im_d8 (f : Nat → Nat → Int32) : xr_takeFrom_36_90 f = im_cp 0 54 im_o8 f := rfl
theorem im_e9 (f : Nat → Nat → Int32) : xr_takeFrom_93_39 f = im_cp 54 0 im_o9 f := rfl
theorem im_d9 (f : Nat → Nat → Int32) : xr_takeFrom_39_93 f = im_cp 0 54 im_o9 f := rfl
theorem im_e10 (f : Nat → Nat → Int32) : xr_takeFrom_96_42 f = im_cp 54 0 im_o10 f := rfl
theorem im_d10 (f : Nat → Nat → Int32) : xr_takeFrom_42_96 f = im_cp 0 54 im_o10 f := rfl
theorem im_e11 (f : Nat → Nat → Int32) : xr_takeFrom_99_45 f = im_cp 54 0 im_o11 f := rfl
theorem im_d11 (f : Nat → Nat → Int32) : xr_takeFrom_45_99 f = im_cp 0 54 im_o11 f := rfl
theorem im_e12 (f : Nat → Nat → Int32) : xr_takeFrom_102_48 f = im_cp 54 0 im_o12 f := rfl
theorem im_d12 (f : Nat → Nat → Int32) : xr_takeFrom_48_102 f = im_cp 0 54 im_o12 f := rfl
theorem im_e13 (f : Nat → Nat → Int32) : xr_takeFrom_105_51 f = im_cp 54 0 im_o13 f := rfl
theorem im_d13 (f : Nat → Nat → Int32) : xr_takeFrom_51_105 f = im_cp 0 54 im_o13 f := rfl
theorem im_55_1 (f : Nat → Nat → Int32) : xo_takeFrom_55_1 f = im_cp 54 0 im_ops f := by
  unfold xo_takeFrom_55_1 im_ops
  simp only [am_let, im_app, im_e0, im_e1, im_e2, im_e3, im_e4, im_e5, im_e6, im_e7, im_e8, im_e9, im_e10, im_e11, im_e12, im_e13]
  rfl
theorem im_1_55 (f : Nat → Nat → Int32) : xo_takeFrom_1_55 f = im_cp 0 54 im_ops f := by
  unfold xo_takeFrom_1_55 im_ops
  simp only [am_let, im_app, im_d0, im_d1, im_d2, im_d3, im_d4, im_d5, im_d6, im_d7, im_d8, im_d9, im_d10, im_d11, im_d12, im_d13]
  rfl
theorem im_rows : ∀ op ∈ im_ops, 2 ≤ im_row op ∧ im_row op ≤ 54 := by decide
theorem im_step_ne {d s : Nat} (f : Nat → Nat → Int32) (op : im_O) {b : Nat} (h : b ≠ im_row op + d) : im_step d s f op b = f b := by
  obtain ⟨a, j⟩ | ⟨a, n⟩ := op
  · exact pu_up_ne _ _ h
  · exact pu_cp_ne _ h
theorem im_oth {d s : Nat} : ∀ (l : List im_O), (∀ op ∈ l, 2 ≤ im_row op ∧ im_row op ≤ 54) → ∀ (f : Nat → Nat → Int32) (b : Nat), (b < 2 + d ∨ 54 + d < b) → im_cp d s l f b = f b := by
  intro l
  induction l with
  | nil => intro _ f b _; rfl
  | cons op l ih =>
    intro hl f b hb
    have h1 := hl op List.mem_cons_self
    show im_cp d s l (im_step d s f op) b = f b
    rw [ih (fun x hx => hl x (List.mem_cons_of_mem _ hx)) _ b hb, im_step_ne _ _ (by omega)]
theorem im_step_at {d s : Nat} (f : Nat → Nat → Int32) (op : im_O) (a j : Nat) : im_step d s f op (a + d) j = if im_cov op a j = true then f (a + s) j else f (a + d) j := by
  obtain ⟨a', j'⟩ | ⟨a', n⟩ := op
  · show am_up f (a' + d) j' (f (a' + s) j') (a + d) j = if (decide (a = a') && decide (j = j')) = true then f (a + s) j else f (a + d) j
    by_cases e : a = a'
    · subst e
      rw [pu_up_row]
      by_cases e2 : j = j'
      · subst e2
        rw [pu_upd_eq, if_pos (by simp)]
      · rw [pu_upd_ne _ _ e2, if_neg (by simp [e2])]
    · rw [pu_up_ne _ _ (by omega), if_neg (by simp [e])]
  · show am_cp f (a' + s) 0 (a' + d) 0 n (a + d) j = if (decide (a = a') && decide (j < n)) = true then f (a + s) j else f (a + d) j
    by_cases e : a = a'
    · subst e
      rw [pu_cp_row]
      by_cases e2 : j < n
      · rw [pu_cpy_in e2, if_pos (by simp [e2])]
      · rw [if_neg (by simp [e2])]
        unfold va_cpy
        rw [if_neg (by omega)]
    · rw [pu_cp_ne _ (by omega), if_neg (by simp [e])]
theorem im_at {d s : Nat} (hd : 2 + d > 54 + s ∨ 2 + s > 54 + d) : ∀ (l : List im_O), (∀ op ∈ l, 2 ≤ im_row op ∧ im_row op ≤ 54) → ∀ (f : Nat → Nat → Int32) (a j : Nat), 2 ≤ a → a ≤ 54 → im_cp d s l f (a + d) j = if (l.any fun op => im_cov op a j) = true then f (a + s) j else f (a + d) j := by
  intro l
  induction l with
  | nil => intro _ f a j _ _; rfl
  | cons op l ih =>
    intro hl f a j h1 h2
    have ho := hl op List.mem_cons_self
    show im_cp d s l (im_step d s f op) (a + d) j = _
    rw [ih (fun x hx => hl x (List.mem_cons_of_mem _ hx)) _ a j h1 h2, im_step_at, im_step_ne f op (b := a + s) (by omega), List.any_cons]
    by_cases e1 : (l.any fun op => im_cov op a j) = true
    · rw [if_pos e1, if_pos (by rw [e1, Bool.or_true])]
    · have e1' : (l.any fun op => im_cov op a j) = false := by
        cases h : (l.any fun op => im_cov op a j) with
        | false => rfl
        | true => exact absurd h e1
      rw [if_neg e1, e1', Bool.or_false]
def im_cv (a j : Nat) : Bool := im_ops.any fun op => im_cov op a j
theorem im_cvW : ∀ q ∈ rl_W, ∀ t, t < q.2.2.2.1 → im_cv q.1 (q.2.1 + t) = true := by decide +kernel
theorem im_cvr : ∀ a, a < 55 → (a = 21 ∨ a = 22 ∨ a = 23 ∨ a = 24 ∨ a = 16 ∨ a = 17 ∨ a = 18 ∨ a = 19) → ∀ j, j < 16 → im_cv a j = true := by decide +kernel
theorem im_cv15 : ∀ j, j < 400 → im_cv 15 j = true := by decide +kernel
theorem rl_ixW : ∀ q ∈ rl_W, q.2.2.1 + q.2.2.2.2 * q.2.2.2.1 ≤ 2008 := by decide +kernel
/-- a world's cells and its row, elsewhere -/
theorem rl_Wd.move {o o' T : Nat} {F F' : Nat → Nat → Int32} {w w' : Nat → Int32} (h : rl_Wd o T F w) (hF : ∀ a j, im_cv a j = true → 2 ≤ a → a ≤ 54 → F' (a + o') j = F (a + o) j) (hw : ∀ i, i < 2008 → w' i = w i) : rl_Wd o' T F' w' := by
  obtain ⟨h1, h2, h3, h4, h5, h6, h7⟩ := h
  have r16 : ∀ a, a < 55 → (a = 21 ∨ a = 22 ∨ a = 23 ∨ a = 24 ∨ a = 16 ∨ a = 17 ∨ a = 18 ∨ a = 19) → ∀ j, j < 16 → F' (a + o') j = F (a + o) j := fun a ha hb j hj => hF a j (im_cvr a ha hb j hj) (by omega) (by omega)
  have ix : ∀ q ∈ rl_W, ∀ t, t < q.2.2.2.1 → rl_ix q t < 2008 := by
    intro q hq t ht
    have := rl_ixW q hq
    unfold rl_ix
    rcases rl_str q hq with s | s <;> rw [s] at this ⊢ <;> omega
  refine ⟨?_, ?_, fun i hi => ?_, ⟨fun j hj => ?_, fun a b ha hb => ?_⟩, ?_, ?_, ?_⟩
  · intro q hq t ht
    have := rl_lo q hq
    rw [hF q.1 _ (im_cvW q hq t ht) this.1 this.2, hw _ (ix q hq t ht)]
    exact h1 q hq t ht
  · obtain ⟨n, m, t, b, x1, x2, x3, x4, x5, x6, x7, x8, x9, x10, x11, x12, x13⟩ := h2
    refine ⟨n, m, t, b, by rw [hw _ (by omega)]; exact x1, x2, by rw [hw _ (by omega)]; exact x3, x4, by rw [hw _ (by omega)]; exact x5, x6, by rw [hw _ (by omega)]; exact x7, x8, fun i hi => ?_, fun i hi => ?_, fun i hi => ?_, fun i hi => ?_, fun i hi => ?_⟩
    · rw [hw _ (by omega)]; exact x9 i hi
    · rw [hw _ (by omega)]; exact x10 i hi
    · rw [hw _ (by omega)]; exact x11 i hi
    · rw [hw _ (by omega)]; exact x12 i hi
    · exact ⟨by rw [hw _ (by omega)]; exact (x13 i hi).1, fun hm => by rw [hw _ (by omega), hw _ (by omega)]; exact (x13 i hi).2 hm⟩
  · obtain ⟨s, s1, s2, s3⟩ := h3 i hi
    refine ⟨s, s1, by rw [hw _ (by omega)]; exact s2, fun m hm => ?_⟩
    rw [hw _ (by omega)] at hm
    exact s3 m hm
  · rw [hw _ (by omega)]; exact h4.1 j hj
  · rw [hw _ (by omega), hw _ (by omega)]; exact h4.2 a b ha hb
  · obtain ⟨l, l1, l2, l3⟩ := h5
    refine ⟨l, l1, by rw [hw _ (by omega)]; exact l2, fun i hi => ?_⟩
    have hl := l3 i hi
    unfold iv_L at hl ⊢
    rw [r16 21 (by decide) (by decide) i (by omega), r16 22 (by decide) (by decide) i (by omega), r16 23 (by decide) (by decide) i (by omega), r16 24 (by decide) (by decide) i (by omega), hw (343 + 4 * i) (by omega), hw (344 + 4 * i) (by omega), hw (345 + 4 * i) (by omega), hw (346 + 4 * i) (by omega), hw 69 (by decide), hw 70 (by decide)]
    exact hl
  · unfold iv_T at h6 ⊢
    obtain ⟨t1, t2, t3, t4, t5, t6, t7, t8, t9, t0⟩ := h6
    have two : ∀ {p q most : Nat} {P : Int32 → Int32 → Prop}, p < 524 → q + 2 * most + 2 < 524 → iv_R w p most (fun i => P (w (q + 2 * i)) (w (q + 1 + 2 * i))) → iv_R w' p most (fun i => P (w' (q + 2 * i)) (w' (q + 1 + 2 * i))) := by
      intro p q most P h1 h2 ⟨n, n1, n2, n3⟩
      refine ⟨n, n1, by rw [hw _ (by omega)]; exact n2, fun i hi => ?_⟩
      show P (w' (q + 2 * i)) (w' (q + 1 + 2 * i))
      rw [hw _ (by omega), hw _ (by omega)]
      exact n3 i hi
    have one : ∀ {p q most : Nat} {P : Int32 → Prop}, p < 524 → q + most < 525 → iv_R w p most (fun i => P (w (q + i))) → iv_R w' p most (fun i => P (w' (q + i))) := by
      intro p q most P h1 h2 ⟨n, n1, n2, n3⟩
      refine ⟨n, n1, by rw [hw _ (by omega)]; exact n2, fun i hi => ?_⟩
      show P (w' (q + i))
      rw [hw _ (by omega)]
      exact n3 i hi
    refine ⟨?_, ?_, ?_, ?_, ?_, ?_, ?_, ?_, ?_, fun i hi => ?_⟩
    · exact two (q := 408) (P := fun x y => ∃ a b, a < 16 ∧ b ≤ 10 ∧ x = nI a ∧ y = nI b) (by decide) (by decide) t1
    · exact two (q := 425) (P := fun x y => ∃ a b, 1 ≤ a ∧ a ≤ 9 ∧ b < 256 ∧ x = nI a ∧ y = nI b) (by decide) (by decide) t2
    · exact two (q := 438) (P := fun x _ => ∃ a, a ≤ 9 ∧ x = nI a) (by decide) (by decide) t3
    · exact two (q := 447) (P := fun x _ => ∃ a, a ≤ 3 ∧ x = nI a) (by decide) (by decide) t4
    · exact one (q := 460) (P := fun x => ∃ a, 1 ≤ a ∧ a ≤ 40 ∧ x = nI a) (by decide) (by decide) t5
    · exact one (q := 465) (P := fun x => ∃ a, a < 65536 ∧ x = nI a) (by decide) (by decide) t6
    · exact one (q := 482) (P := fun x => ∃ a, a ≤ 99 ∧ x = nI a) (by decide) (by decide) t7
    · exact one (q := 507) (P := fun x => ∃ a, 1 ≤ a ∧ a ≤ 9999 ∧ x = nI a) (by decide) (by decide) t8
    · exact one (q := 516) (P := fun x => ∃ a, 1 ≤ a ∧ a ≤ 20 ∧ x = nI a) (by decide) (by decide) t9
    · rw [hw _ (by omega)]; exact t0 i hi
  · obtain ⟨l, u, l1, l2, l3, l4, l5⟩ := h7
    refine ⟨l, u, l1, l2, by rw [hw _ (by omega)]; exact l3, by rw [hF 14 1 (by decide +kernel) (by decide) (by decide)]; exact l4, fun i hi => ?_⟩
    have hl := l5 i hi
    unfold lw_Ln lw_cX at hl ⊢
    rw [r16 16 (by decide) (by decide) i (by omega), r16 17 (by decide) (by decide) i (by omega), r16 18 (by decide) (by decide) i (by omega), r16 19 (by decide) (by decide) i (by omega), hw (1172 + i) (by omega), hw (1124 + i) (by omega), hw (1140 + i) (by omega), hw (1156 + i) (by omega)]
    obtain ⟨k, a, a', P, Q, y1, y2, y3, y4, y5, y6, y7, y8, y9, y10, y11, y12, y13, y14, y15, y16, y17⟩ := hl
    refine ⟨k, a, a', P, Q, y1, y2, y3, y4, y5, y6, y7, y8, y9, y10, y11, fun t x e => ?_, fun t x e => ?_, fun t s e => ?_, fun t s e => ?_, y16, y17⟩
    · have := (List.getElem?_eq_some_iff.mp e).1
      rw [hF 15 _ (im_cv15 _ (by omega)) (by decide) (by decide)]
      exact y12 t x e
    · have := (List.getElem?_eq_some_iff.mp e).1
      rw [hF 15 _ (im_cv15 _ (by omega)) (by decide) (by decide)]
      exact y13 t x e
    · have := (List.getElem?_eq_some_iff.mp e).1
      rw [hw _ (by omega), hw _ (by omega)]; exact y14 t s e
    · have := (List.getElem?_eq_some_iff.mp e).1
      rw [hw _ (by omega), hw _ (by omega)]; exact y15 t s e
/-- the model's copy -/
theorem mi_copy (b : Bool) (g : Nat → Nat → Int32) : am_loop (fun (s1 : Int32 × (Nat → Nat → Int32)) => ((
      if s1.1 < (nI 2008) then (
        ((if b = true then (
            if am_in s1.1 2008 = true then (
            if am_in s1.1 2008 = true then (
            am_let (am_up s1.2 218 s1.1.toNatClampNeg (s1.2 217 s1.1.toNatClampNeg) : Nat → Nat → Int32) fun f2 =>
            some f2) else none) else none)
          else (
            if am_in s1.1 2008 = true then (
            if am_in s1.1 2008 = true then (
            am_let (am_up s1.2 217 s1.1.toNatClampNeg (s1.2 218 s1.1.toNatClampNeg) : Nat → Nat → Int32) fun f3 =>
            some f3) else none) else none)) : Option ((Nat → Nat → Int32))).bind fun t4 =>
        am_let (s1.1 + 1 : Int32) fun t5 =>
        some (.inl (t5, t4)))
      else (
        some (.inr s1.2))) : Option ((Int32 × (Nat → Nat → Int32)) ⊕ ((Nat → Nat → Int32))))) am_F (0, g) = some (if b = true then am_row g 218 (fun x => if x < 2008 then g 217 x else g 218 x) else am_row g 217 (fun x => if x < 2008 then g 218 x else g 217 x)) := by
  cases b with
  | true =>
    refine pu_for (fun i => (nI i, am_row g 218 (fun x => if x < i then g 217 x else g 218 x))) 2008 ?_ (fun i hi => ?_) ?_
    · refine Prod.ext rfl ?_
      show g = am_row g 218 _
      conv => lhs; rw [← row_self g 218]
      congr 1
    · simp only [row_ne g _ (show (217 : Nat) ≠ 218 by decide), am_let]
      rw [if_pos (nI_lt hi (by omega))]
      simp only [pu_in hi (show 2008 ≤ 2 ^ 31 by omega), if_true, nI_clamp (show i < 2 ^ 31 by omega), row_up, pu_bs, nI_1]
      congr 4
      funext x
      unfold upd
      by_cases hx : x = i
      · subst hx
        rw [if_pos rfl, if_pos (by omega)]
      · rw [if_neg hx]
        dsimp only
        by_cases hy : x < i
        · rw [if_pos hy, if_pos (by omega)]
        · rw [if_neg hy, if_neg (by omega)]
    · show (if nI 2008 < nI 2008 then _ else _) = _
      rw [if_neg (by decide)]
      rfl
  | false =>
    refine pu_for (fun i => (nI i, am_row g 217 (fun x => if x < i then g 218 x else g 217 x))) 2008 ?_ (fun i hi => ?_) ?_
    · refine Prod.ext rfl ?_
      show g = am_row g 217 _
      conv => lhs; rw [← row_self g 217]
      congr 1
    · simp only [row_ne g _ (show (218 : Nat) ≠ 217 by decide), am_let]
      rw [if_pos (nI_lt hi (by omega))]
      simp only [pu_in hi (show 2008 ≤ 2 ^ 31 by omega), Bool.false_eq_true, if_false, if_true, nI_clamp (show i < 2 ^ 31 by omega), row_up, pu_bs, nI_1]
      congr 4
      funext x
      unfold upd
      by_cases hx : x = i
      · subst hx
        rw [if_pos rfl, if_pos (by omega)]
      · rw [if_neg hx]
        dsimp only
        by_cases hy : x < i
        · rw [if_pos hy, if_pos (by omega)]
        · rw [if_neg hy, if_neg (by omega)]
    · show (if nI 2008 < nI 2008 then _ else _) = _
      rw [if_neg (by decide)]
      rfl
theorem im_fp (q : Nat → Nat → Int32) : x_forgetPasts q 0 = upd (q 0) 4 0 := pu_up_row q 0 4 0
theorem sm_image (x1 : Bool) (f g : Nat → Nat → Int32) (h : rl_Rel f g) : ∃ (v : Bool) (f1 g1 : Nat → Nat → Int32), x_image x1 f = (v, f1) ∧ m_image x1 g = some (v, g1) ∧ rl_Rel f1 g1 := by
  unfold x_image m_image
  cases x1 with
  | true =>
    rw [if_pos rfl, if_pos rfl, mi_copy, pu_bs, if_pos rfl, im_55_1]
    refine ⟨true, _, _, rfl, rfl, ?_⟩
    have A : ∀ a j, im_cv a j = true → 2 ≤ a → a ≤ 54 → im_cp 54 0 im_ops f (a + 54) j = f (a + 0) j := fun a j h1 h2 h3 => by
      rw [im_at (by decide) im_ops im_rows f a j h2 h3]
      exact if_pos h1
    have O : ∀ b, (b < 56 ∨ 108 < b) → im_cp 54 0 im_ops f b = f b := fun b hb => im_oth im_ops im_rows f b (by omega)
    have N : ∀ b, b ≠ 0 → am_up (im_cp 54 0 im_ops f) 0 2 1 b = im_cp 54 0 im_ops f b := fun b hb => pu_up_ne _ _ hb
    obtain ⟨h1, h2, h3, h4, h5, h6, h7⟩ := h
    refine ⟨?_, Or.inr ⟨rfl, rfl, ?_⟩, ?_, ?_, ?_, ?_, ?_⟩
    · exact h1.congr fun a x y => by rw [N _ (by omega), O _ (by omega)]
    · refine h1.move (fun a j c c1 c2 => by rw [N _ (by omega)]; exact A a j c c1 c2) (fun i hi => ?_)
      show (if i < 2008 then g 217 i else g 218 i) = g 217 i
      rw [if_pos hi]
    · refine h3.same (by rw [N _ (by decide), O _ (by decide)]) ?_ rfl (fun a ha => by rw [N _ (by omega), O _ (by omega)]) rfl (fun i _ _ => rfl)
      rw [pu_up_row, pu_upd_ne _ _ (by decide), O 0 (by decide)]
    · unfold rl_Tp at h4 ⊢
      rw [N 123 (by decide), N 124 (by decide), O 123 (by decide), O 124 (by decide)]
      exact h4
    · rw [N 128 (by decide), O 128 (by decide)]
      exact h5
    · unfold rl_Ni at h6 ⊢
      rw [N 143 (by decide), N 150 (by decide), O 143 (by decide), O 150 (by decide)]
      exact h6
    · unfold rl_Pr at h7 ⊢
      rw [N 143 (by decide), N 153 (by decide), N 144 (by decide), O 143 (by decide), O 153 (by decide), O 144 (by decide)]
      exact h7
  | false =>
    rw [if_neg (show ¬ false = true by decide), if_neg (show ¬ false = true by decide)]
    obtain ⟨h1, h2, h3, h4, h5, h6, h7⟩ := h
    rcases h2 with ⟨i1, i2⟩ | ⟨i1, i2, i3⟩
    · rw [i1, i2, if_pos rfl, if_pos rfl]
      exact ⟨false, f, g, rfl, rfl, h1, Or.inl ⟨i1, i2⟩, h3, h4, h5, h6, h7⟩
    · rw [i1, i2, if_neg (show ¬ (1 : Int32) = 0 by decide), if_neg (show ¬ (1 : Int32) = 0 by decide), mi_copy, pu_bs, if_neg (show ¬ false = true by decide), im_1_55]
      refine ⟨true, _, _, rfl, rfl, ?_⟩
      have A : ∀ a j, im_cv a j = true → 2 ≤ a → a ≤ 54 → im_cp 0 54 im_ops f (a + 0) j = f (a + 54) j := fun a j h1 h2 h3 => by
        rw [im_at (by decide) im_ops im_rows f a j h2 h3]
        exact if_pos h1
      have O : ∀ b, (b < 2 ∨ 54 < b) → im_cp 0 54 im_ops f b = f b := fun b hb => im_oth im_ops im_rows f b (by omega)
      have N : ∀ b, b ≠ 0 → x_forgetPasts (im_cp 0 54 im_ops f) b = im_cp 0 54 im_ops f b := fun b hb => pu_up_ne _ _ hb
      refine ⟨?_, Or.inr ⟨?_, rfl, ?_⟩, ?_, ?_, ?_, ?_, ?_⟩
      · refine i3.move (fun a j c c1 c2 => by rw [N _ (by omega)]; exact A a j c c1 c2) (fun i hi => ?_)
        show (if i < 2008 then g 218 i else g 217 i) = g 218 i
        rw [if_pos hi]
      · rw [im_fp, pu_upd_ne _ _ (by decide), O 0 (by decide)]
        exact i1
      · refine i3.congr fun a x y => ?_
        rw [N _ (by omega), O _ (by omega)]
      · exact h3.none (by rw [N _ (by decide), O _ (by decide)]) (by rw [im_fp, pu_upd_eq]) rfl
      · unfold rl_Tp at h4 ⊢
        rw [N 123 (by decide), N 124 (by decide), O 123 (by decide), O 124 (by decide)]
        exact h4
      · rw [N 128 (by decide), O 128 (by decide)]
        exact h5
      · unfold rl_Ni at h6 ⊢
        rw [N 143 (by decide), N 150 (by decide), O 143 (by decide), O 150 (by decide)]
        exact h6
      · unfold rl_Pr at h7 ⊢
        rw [N 143 (by decide), N 153 (by decide), N 144 (by decide), O 143 (by decide), O 153 (by decide), O 144 (by decide)]
        exact h7
