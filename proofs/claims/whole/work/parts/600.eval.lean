/-! THE LAW IS ASKED: a row of steps on both sides -/
/-- not by rfl: the kernel would compare a name with a branch, and unfold the branch -/
theorem pu_letE {α β : Type} (a : α) (k : α → β) : am_let a k = k a := Eq.trans (b := k a) rfl rfl
def pu_st {S E : Type} (F : S → Option (S ⊕ E)) : Nat → S → S → Prop
  | 0, s, s' => s = s'
  | k + 1, s, s' => ∃ s1, F s = some (.inl s1) ∧ pu_st F k s1 s'
theorem pu_st_trans {S E : Type} {F : S → Option (S ⊕ E)} : ∀ (k l : Nat) {s s1 s2 : S}, pu_st F k s s1 → pu_st F l s1 s2 → pu_st F (k + l) s s2 := by
  intro k
  induction k with
  | zero =>
    intro l s s1 s2 h1 h2
    cases h1
    rw [Nat.zero_add]
    exact h2
  | succ k ih =>
    intro l s s1 s2 h1 h2
    obtain ⟨q, q1, q2⟩ := h1
    rw [show k + 1 + l = (k + l) + 1 by omega]
    exact ⟨q, q1, ih l q2 h2⟩
theorem pu_st_loop {S E : Type} {F : S → Option (S ⊕ E)} : ∀ (k n : Nat) {s s' : S}, pu_st F k s s' → am_loop F (n + k) s = am_loop F n s' := by
  intro k
  induction k with
  | zero => intro n s s' h; cases h; rfl
  | succ k ih =>
    intro n s s' h
    obtain ⟨q, q1, q2⟩ := h
    rw [show n + (k + 1) = (n + k) + 1 by omega, pu_loop_inl q1]
    exact ih n q2
theorem pu_st_end {S E : Type} {F : S → Option (S ⊕ E)} {k : Nat} {s s' : S} {e : E} (h : pu_st F k s s') (he : F s' = some (.inr e)) (hk : k < 1000000 := by omega) : am_loop F am_F s = some e := by
  have : am_F = (am_F - k - 1 + 1) + k := by
    unfold am_F
    omega
  rw [this, pu_st_loop k _ h]
  exact pu_loop_inr he
theorem pu_st1 {S E : Type} {F : S → Option (S ⊕ E)} {s s' : S} (h : F s = some (.inl s')) : pu_st F 1 s s' := ⟨s', h, rfl⟩
/-- a stack as it lies in a row -/
def lw_u (u : Nat → Int32) : List Int32 → Prop
  | [] => True
  | x :: t => u t.length = x ∧ lw_u u t
theorem lw_u_upd {u : Nat → Int32} {k : Nat} (v : Int32) : ∀ {t : List Int32}, lw_u u t → t.length ≤ k → lw_u (upd u k v) t := by
  intro t
  induction t with
  | nil => intro _ _; trivial
  | cons x t ih =>
    intro h hk
    have hk' : t.length + 1 ≤ k := hk
    exact ⟨by rw [pu_upd_ne _ _ (by omega)]; exact h.1, ih h.2 (by omega)⟩
theorem lw_u_push {u : Nat → Int32} {t : List Int32} (h : lw_u u t) (v : Int32) : lw_u (upd u t.length v) (v :: t) := ⟨pu_upd_eq _ _ _, lw_u_upd v h (Nat.le_refl _)⟩
/-- what a step makes of a stack -/
def lw_v (nm : Nat → Int32) (s : lw_S) (st : List Int32) : List Int32 :=
  if s.1 = 0 then nI s.2 :: st else if s.1 ≤ 10 then nm s.1 :: st
  else if s.1 = 26 then (match st with | y :: t => y / nI s.2 :: t | [] => [])
  else if s.1 = 30 then (match st with | y :: t => (1 - y) :: t | [] => [])
  else (match st with | y :: x :: t => m_both (nI s.1) x y :: t | _ => [])
def lw_vs (nm : Nat → Int32) : List lw_S → List Int32 → List Int32
  | [], st => st
  | s :: P, st => lw_vs nm P (lw_v nm s st)
/-- kinds: true is 0 or 1 -/
def lw_ty : List Bool → List Int32 → Prop
  | [], [] => True
  | b :: l, x :: t => (b = true → x = 0 ∨ x = 1) ∧ lw_ty l t
  | _, _ => False
theorem lw_ty.len : ∀ {l : List Bool} {st : List Int32}, lw_ty l st → st.length = l.length
  | [], [], _ => rfl
  | [], _ :: _, h => by cases h
  | _ :: _, [], h => by cases h
  | _ :: l, _ :: t, h => by
    show t.length + 1 = l.length + 1
    rw [h.2.len]
def lw_Xs (h t2 : Int32) (f : Nat → Nat → Int32) : Option (Int32 × (Nat → Nat → Int32)) :=
  if t2 < 10000 then (if am_in h 64 = true then some (h + 1, am_up f 122 h.toNatClampNeg t2) else none)
  else if t2 < 20000 then (if am_in (t2 - 10000) 17 = true then (if am_in h 64 = true then some (h + 1, am_up f 122 h.toNatClampNeg (f 121 (t2 - 10000).toNatClampNeg)) else none) else none)
  else if t2 = 20033 then (if 0 < h then (if am_in (h - 1) 64 = true then (if am_in (h - 1) 64 = true then some (h, am_up f 122 (h - 1).toNatClampNeg (1 - (f 122 (h - 1).toNatClampNeg))) else none) else none)
    else if 1 < h then (if am_in (h + (-1) - 1) 64 = true then (if am_in (h + (-1)) 64 = true then ((xb_joined (t2 - 20000) (f 122 (h + (-1) - 1).toNatClampNeg) (f 122 (h + (-1)).toNatClampNeg)).bind fun p9 => if am_in (h + (-1) - 1) 64 = true then some (h + (-1), am_up f 122 (h + (-1) - 1).toNatClampNeg p9) else none) else none) else none) else some (h, f))
  else if 1 < h then (if am_in (h + (-1) - 1) 64 = true then (if am_in (h + (-1)) 64 = true then ((xb_joined (t2 - 20000) (f 122 (h + (-1) - 1).toNatClampNeg) (f 122 (h + (-1)).toNatClampNeg)).bind fun p9 => if am_in (h + (-1) - 1) 64 = true then some (h + (-1), am_up f 122 (h + (-1) - 1).toNatClampNeg p9) else none) else none) else none) else some (h, f)
def lw_X (a1 : Int32) (s1 : Int32 × Int32 × (Nat → Nat → Int32)) : Option ((Int32 × Int32 × (Nat → Nat → Int32)) ⊕ (Int32 × (Nat → Nat → Int32))) :=
  if s1.2.1 < a1 then (if s1.2.1 < s1.2.2 14 1 then (if s1.1 < (nI 64) then (if am_in s1.2.1 400 = true then ((lw_Xs s1.1 (s1.2.2 15 s1.2.1.toNatClampNeg) s1.2.2).bind fun t14 => some (.inl (t14.1, s1.2.1 + 1, t14.2))) else none) else some (.inr (s1.1, s1.2.2))) else some (.inr (s1.1, s1.2.2))) else some (.inr (s1.1, s1.2.2))
set_option maxRecDepth 100000 in
theorem lw_X_def (a0 a1 : Int32) (f : Nat → Nat → Int32) : xb_valueOf a0 a1 f = (am_loop (lw_X a1) am_F (0, a0, f)).bind fun e16 => if 0 < e16.1 then some (e16.2 122 0, e16.2) else some (0, e16.2) := by
  unfold xb_valueOf
  refine congrArg (fun o => Option.bind o _) ?_
  refine congrArg (fun F => am_loop F am_F (0, a0, f)) ?_
  funext s1
  obtain ⟨h, i, f'⟩ := s1
  unfold lw_X lw_Xs
  simp only [pu_letE]
def lw_Ms (h t2 t3 : Int32) (f : Nat → Nat → Int32) : Option (Int32 × (Nat → Nat → Int32)) :=
  if t2 < 23 then ((if t2 = 0 then some t3 else (if am_in t2 11 = true then some (f 226 t2.toNatClampNeg) else none)).bind fun t4 => if am_in h 420 = true then some (h + 1, am_up f 225 h.toNatClampNeg t4) else none)
  else if t2 = 26 then (if am_in (h - 1) 420 = true then (if t3 = 0 then none else if am_in (h - 1) 420 = true then some (h, am_up f 225 (h - 1).toNatClampNeg ((f 225 (h - 1).toNatClampNeg) / t3)) else none) else none)
  else if t2 = 30 then (if am_in (h - 1) 420 = true then (if am_in (h - 1) 420 = true then some (h, am_up f 225 (h - 1).toNatClampNeg (1 - (f 225 (h - 1).toNatClampNeg))) else none) else none)
  else (if am_in (h + (-1) - 1) 420 = true then (if am_in (h + (-1)) 420 = true then (if am_in (h + (-1) - 1) 420 = true then some (h + (-1), am_up f 225 (h + (-1) - 1).toNatClampNeg (m_both t2 (f 225 (h + (-1) - 1).toNatClampNeg) (f 225 (h + (-1)).toNatClampNeg))) else none) else none) else none)
def lw_M (a1 : Int32) (s1 : Int32 × Int32 × (Nat → Nat → Int32)) : Option ((Int32 × Int32 × (Nat → Nat → Int32)) ⊕ (Nat → Nat → Int32)) :=
  if s1.2.1 < a1 then (if am_in (1188 + (2 * s1.2.1)) 2008 = true then (if am_in ((1188 + (2 * s1.2.1)) + 1) 2008 = true then ((lw_Ms s1.1 (s1.2.2 217 (1188 + (2 * s1.2.1)).toNatClampNeg) (s1.2.2 217 ((1188 + (2 * s1.2.1)) + 1).toNatClampNeg) s1.2.2).bind fun t12 => some (.inl (t12.1, s1.2.1 + 1, t12.2))) else none) else none) else some (.inr s1.2.2)
set_option maxRecDepth 100000 in
theorem lw_M_def (a0 a1 : Int32) (f : Nat → Nat → Int32) : m_comesTo a0 a1 f = (am_loop (lw_M a1) am_F (0, a0, f)).bind fun e14 => some (e14 225 0, e14) := by
  unfold m_comesTo
  refine congrArg (fun o => Option.bind o _) ?_
  refine congrArg (fun F => am_loop F am_F (0, a0, f)) ?_
  funext s1
  obtain ⟨h, i, f'⟩ := s1
  unfold lw_M lw_Ms
  simp only [pu_letE]
section LX
variable {f : Nat → Nat → Int32} {u : Nat → Int32} {h k e w : Nat}
theorem lw_X_st (he : k < e) (hw : f 14 1 = nI w) (hkw : k < w) (hw4 : w ≤ 400) (hh : h < 64) (he4 : e ≤ 400) {v : Nat} (hv : f 15 k = nI v) {h' : Nat} {u' : Nat → Int32} (hs : lw_Xs (nI h) (nI v) (am_row f 122 u) = some (nI h', am_row f 122 u')) : lw_X (nI e) (nI h, nI k, am_row f 122 u) = some (.inl (nI h', nI (k + 1), am_row f 122 u')) := by
  unfold lw_X
  dsimp only
  have q1 : am_row f 122 u 14 1 = nI w := by rw [row_ne f u (show (14 : Nat) ≠ 122 by decide)]; exact hw
  have q2 : am_row f 122 u 15 k = nI v := by rw [row_ne f u (show (15 : Nat) ≠ 122 by decide)]; exact hv
  simp only [q1, nI_clamp (show k < 2 ^ 31 by omega), q2]
  rw [hs, if_pos (nI_lt he (by omega)), if_pos (nI_lt hkw (by omega)), if_pos (nI_lt hh (by omega)), if_pos (pu_in (by omega) (by omega)), pu_bs, nI_1]
theorem lw_Xs_num (hh : h < 64) {v : Nat} (h1 : v < 10000) : lw_Xs (nI h) (nI v) (am_row f 122 u) = some (nI (h + 1), am_row f 122 (upd u h (nI v))) := by
  unfold lw_Xs
  rw [if_pos (show nI v < (10000 : Int32) from nI_lt (b := 10000) h1 (by omega)), if_pos (pu_in hh (by omega)), nI_clamp (by omega), row_up, nI_1]
theorem lw_Xs_nam (hh : h < 64) {v : Nat} (h1 : v < 17) : lw_Xs (nI h) (nI (10000 + v)) (am_row f 122 u) = some (nI (h + 1), am_row f 122 (upd u h (f 121 v))) := by
  have e1 : nI (10000 + v) - 10000 = nI v := by
    have := pk_sub (a := 10000 + v) (b := 10000) (by omega)
    rw [show 10000 + v - 10000 = v by omega] at this
    exact this
  have n1 : ¬ nI (10000 + v) < (10000 : Int32) := nI_nlt (b := 10000) (by omega) (by omega)
  have n2 : nI (10000 + v) < (20000 : Int32) := nI_lt (b := 20000) (by omega) (by omega)
  unfold lw_Xs
  rw [if_neg n1, if_pos n2, e1]
  generalize 10000 + v = q
  rw [if_pos (pu_in h1 (by omega)), if_pos (pu_in hh (by omega)), nI_clamp (show h < 2 ^ 31 by omega), nI_clamp (show v < 2 ^ 31 by omega), row_ne f u (show (121 : Nat) ≠ 122 by decide), row_up, nI_1]
theorem lw_Xs_not (hh : h + 1 < 64) : lw_Xs (nI (h + 1)) (nI 20033) (am_row f 122 u) = some (nI (h + 1), am_row f 122 (upd u h (1 - u h))) := by
  have n1 : ¬ nI 20033 < (10000 : Int32) := nI_nlt (a := 20033) (b := 10000) (by omega) (by omega)
  have n2 : ¬ nI 20033 < (20000 : Int32) := nI_nlt (a := 20033) (b := 20000) (by omega) (by omega)
  have n3 : nI 20033 = (20033 : Int32) := rfl
  have n4 : (0 : Int32) < nI (h + 1) := nI_lt (a := 0) (by omega) (by omega)
  have n5 : am_in (nI h) 64 = true := pu_in (by omega) (by omega)
  unfold lw_Xs
  rw [if_neg n1, if_neg n2, if_pos n3, if_pos n4, nI_pred, if_pos n5, if_pos n5, nI_clamp (show h < 2 ^ 31 by omega), row_row, row_up]
theorem lw_Xs_bin (hh : h + 2 < 64) {g : Nat} (hg : g < 1000) (hg33 : g ≠ 33) {r : Int32} (hj : xb_joined (nI g) (u h) (u (h + 1)) = some r) : lw_Xs (nI (h + 2)) (nI (20000 + g)) (am_row f 122 u) = some (nI (h + 1), am_row f 122 (upd u h r)) := by
  have e1 : nI (20000 + g) - 20000 = nI g := by
    have := pk_sub (a := 20000 + g) (b := 20000) (by omega)
    rw [show 20000 + g - 20000 = g by omega] at this
    exact this
  have e2 : nI (h + 2) + (-1) = nI (h + 1) := pk_m1 (h + 1)
  have n1 : ¬ nI (20000 + g) < (10000 : Int32) := nI_nlt (b := 10000) (by omega) (by omega)
  have n2 : ¬ nI (20000 + g) < (20000 : Int32) := nI_nlt (b := 20000) (by omega) (by omega)
  have n3 : ¬ nI (20000 + g) = (20033 : Int32) := fun z => by
    have := pu_nIinj (a := 20000 + g) (b := 20033) (by omega) (by omega) z
    omega
  have n4 : (1 : Int32) < nI (h + 2) := nI_lt (a := 1) (by omega) (by omega)
  have n5 : am_in (nI h) 64 = true := pu_in (by omega) (by omega)
  have n6 : am_in (nI (h + 1)) 64 = true := pu_in (by omega) (by omega)
  unfold lw_Xs
  rw [if_neg n1, if_neg n2, if_neg n3, if_pos n4, e1, e2, nI_pred, if_pos n5, if_pos n6, nI_clamp (show h < 2 ^ 31 by omega), nI_clamp (show h + 1 < 2 ^ 31 by omega), row_row, hj, pu_bs, if_pos n5, row_up]
end LX
section LM
variable {g : Nat → Nat → Int32} {u : Nat → Int32} {h k e : Nat}
theorem lw_M_st (he : k < e) (he4 : e ≤ 405) {t2 t3 : Int32} (h2 : g 217 (1188 + 2 * k) = t2) (h3 : g 217 (1189 + 2 * k) = t3) {h' : Nat} {u' : Nat → Int32} (hs : lw_Ms (nI h) t2 t3 (am_row g 225 u) = some (nI h', am_row g 225 u')) : lw_M (nI e) (nI h, nI k, am_row g 225 u) = some (.inl (nI h', nI (k + 1), am_row g 225 u')) := by
  have e1 : (1188 : Int32) + 2 * nI k = nI (1188 + 2 * k) := by rw [show (1188 : Int32) = nI 1188 from rfl, show (2 : Int32) = nI 2 from rfl, pk_mul, nI_add]
  have e2 : nI (1188 + 2 * k) + 1 = nI (1189 + 2 * k) := by rw [nI_1, show 1188 + 2 * k + 1 = 1189 + 2 * k by omega]
  unfold lw_M
  dsimp only
  have q1 : am_row g 225 u 217 (1188 + 2 * k) = t2 := by rw [row_ne g u (show (217 : Nat) ≠ 225 by decide)]; exact h2
  have q2 : am_row g 225 u 217 (1189 + 2 * k) = t3 := by rw [row_ne g u (show (217 : Nat) ≠ 225 by decide)]; exact h3
  rw [e1, e2, nI_clamp (show 1188 + 2 * k < 2 ^ 31 by omega), nI_clamp (show 1189 + 2 * k < 2 ^ 31 by omega), q1, q2, hs, if_pos (nI_lt he (by omega)), if_pos (pu_in (by omega) (by omega)), if_pos (pu_in (by omega) (by omega)), pu_bs, nI_1]
theorem lw_Ms_num (hh : h < 420) (v : Int32) : lw_Ms (nI h) (nI 0) v (am_row g 225 u) = some (nI (h + 1), am_row g 225 (upd u h v)) := by
  have n1 : nI 0 < (23 : Int32) := nI_lt (a := 0) (b := 23) (by omega) (by omega)
  unfold lw_Ms
  rw [if_pos n1, if_pos (show nI 0 = (0 : Int32) from rfl), pu_bs, if_pos (pu_in hh (by omega)), nI_clamp (show h < 2 ^ 31 by omega), row_up, nI_1]
theorem lw_Ms_nam (hh : h < 420) {s : Nat} (h0 : 0 < s) (h1 : s ≤ 10) (v : Int32) : lw_Ms (nI h) (nI s) v (am_row g 225 u) = some (nI (h + 1), am_row g 225 (upd u h (g 226 s))) := by
  have n1 : nI s < (23 : Int32) := nI_lt (b := 23) (by omega) (by omega)
  have n2 : am_in (nI s) 11 = true := pu_in (by omega) (by omega)
  unfold lw_Ms
  rw [if_pos n1, if_neg (nI_ne0 h0 (by omega)), if_pos n2, pu_bs, if_pos (pu_in hh (by omega)), nI_clamp (show h < 2 ^ 31 by omega), nI_clamp (show s < 2 ^ 31 by omega), row_ne g u (show (226 : Nat) ≠ 225 by decide), row_up, nI_1]
theorem lw_Ms_part (hh : h + 1 < 420) {v : Nat} (h1 : 1 ≤ v) (h2 : v ≤ 9999) : lw_Ms (nI (h + 1)) (nI 26) (nI v) (am_row g 225 u) = some (nI (h + 1), am_row g 225 (upd u h (u h / nI v))) := by
  have n1 : ¬ nI 26 < (23 : Int32) := nI_nlt (a := 26) (b := 23) (by omega) (by omega)
  have n5 : am_in (nI h) 420 = true := pu_in (by omega) (by omega)
  unfold lw_Ms
  rw [if_neg n1, if_pos (show nI 26 = (26 : Int32) from rfl), nI_pred, if_pos n5, if_neg (nI_ne0 (by omega) (by omega)), if_pos n5, nI_clamp (show h < 2 ^ 31 by omega), row_row, row_up]
theorem lw_Ms_not (hh : h + 1 < 420) (v : Int32) : lw_Ms (nI (h + 1)) (nI 30) v (am_row g 225 u) = some (nI (h + 1), am_row g 225 (upd u h (1 - u h))) := by
  have n1 : ¬ nI 30 < (23 : Int32) := nI_nlt (a := 30) (b := 23) (by omega) (by omega)
  have n2 : ¬ nI 30 = (26 : Int32) := by decide
  have n5 : am_in (nI h) 420 = true := pu_in (by omega) (by omega)
  unfold lw_Ms
  rw [if_neg n1, if_neg n2, if_pos (show nI 30 = (30 : Int32) from rfl), nI_pred, if_pos n5, if_pos n5, nI_clamp (show h < 2 ^ 31 by omega), row_row, row_up]
theorem lw_Ms_bin (hh : h + 2 < 420) {s : Nat} (h1 : 23 ≤ s) (h2 : s < 100) (h3 : s ≠ 26) (h4 : s ≠ 30) (v : Int32) : lw_Ms (nI (h + 2)) (nI s) v (am_row g 225 u) = some (nI (h + 1), am_row g 225 (upd u h (m_both (nI s) (u h) (u (h + 1))))) := by
  have e3 : nI (h + 2) + (-1) = nI (h + 1) := pk_m1 (h + 1)
  have n1 : ¬ nI s < (23 : Int32) := nI_nlt (b := 23) (by omega) (by omega)
  have n2 : ¬ nI s = (26 : Int32) := fun z => by
    have := pu_nIinj (a := s) (b := 26) (by omega) (by omega) z
    omega
  have n3 : ¬ nI s = (30 : Int32) := fun z => by
    have := pu_nIinj (a := s) (b := 30) (by omega) (by omega) z
    omega
  have n5 : am_in (nI h) 420 = true := pu_in (by omega) (by omega)
  have n6 : am_in (nI (h + 1)) 420 = true := pu_in (by omega) (by omega)
  unfold lw_Ms
  rw [if_neg n1, if_neg n2, if_neg n3, e3, nI_pred, if_pos n5, if_pos n6, if_pos n5, nI_clamp (show h < 2 ^ 31 by omega), nI_clamp (show h + 1 < 2 ^ 31 by omega), row_row, row_up]
end LM
