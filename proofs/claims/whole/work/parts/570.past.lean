/-! THE PASTS -/
section TK
variable {d s : Nat} (f : Nat → Nat → Int32)
theorem tk_oth (h : d + 9 < s ∨ s + 9 < d) {b : Nat} (hb : b < d ∨ d + 9 < b) : x_tk d s f b = f b := by
  unfold x_tk
  simp only [am_let]
  rw [pu_cp_ne _ (by omega), pu_cp_ne _ (by omega), pu_cp_ne _ (by omega), pu_cp_ne _ (by omega), pu_cp_ne _ (by omega), pu_cp_ne _ (by omega), pu_cp_ne _ (by omega), pu_cp_ne _ (by omega), pu_cp_ne _ (by omega), pu_up_ne _ _ (by omega), pu_up_ne _ _ (by omega), pu_up_ne _ _ (by omega), pu_up_ne _ _ (by omega), pu_up_ne _ _ (by omega), pu_up_ne _ _ (by omega)]
theorem tk_obj (h : d + 9 < s ∨ s + 9 < d) {j : Nat} (hj : j < 6) : x_tk d s f d j = f s j := by
  unfold x_tk
  simp only [am_let]
  rw [pu_cp_ne _ (by omega), pu_cp_ne _ (by omega), pu_cp_ne _ (by omega), pu_cp_ne _ (by omega), pu_cp_ne _ (by omega), pu_cp_ne _ (by omega), pu_cp_ne _ (by omega), pu_cp_ne _ (by omega), pu_cp_ne _ (by omega)]
  have e : s ≠ d := by omega
  simp only [pu_up_ne _ _ e, pu_up_row]
  rcases (show j = 0 ∨ j = 1 ∨ j = 2 ∨ j = 3 ∨ j = 4 ∨ j = 5 by omega) with rfl | rfl | rfl | rfl | rfl | rfl <;> rfl
theorem tk_a1 (h : d + 9 < s ∨ s + 9 < d) {j : Nat} (hj : j < 6) : x_tk d s f (d + 1) j = f (s + 1) j := by
  unfold x_tk
  simp only [am_let]
  rw [pu_cp_ne _ (by omega), pu_cp_ne _ (by omega), pu_cp_ne _ (by omega), pu_cp_ne _ (by omega), pu_cp_ne _ (by omega), pu_cp_ne _ (by omega), pu_cp_ne _ (by omega), pu_cp_ne _ (by omega), pu_cp_row, pu_cpy_in hj, pu_up_ne _ _ (by omega), pu_up_ne _ _ (by omega), pu_up_ne _ _ (by omega), pu_up_ne _ _ (by omega), pu_up_ne _ _ (by omega), pu_up_ne _ _ (by omega)]
theorem tk_a2 (h : d + 9 < s ∨ s + 9 < d) {j : Nat} (hj : j < 6) : x_tk d s f (d + 2) j = f (s + 2) j := by
  unfold x_tk
  simp only [am_let]
  rw [pu_cp_ne _ (by omega), pu_cp_ne _ (by omega), pu_cp_ne _ (by omega), pu_cp_ne _ (by omega), pu_cp_ne _ (by omega), pu_cp_ne _ (by omega), pu_cp_ne _ (by omega), pu_cp_row, pu_cpy_in hj, pu_cp_ne _ (by omega), pu_up_ne _ _ (by omega), pu_up_ne _ _ (by omega), pu_up_ne _ _ (by omega), pu_up_ne _ _ (by omega), pu_up_ne _ _ (by omega), pu_up_ne _ _ (by omega)]
theorem tk_a3 (h : d + 9 < s ∨ s + 9 < d) {j : Nat} (hj : j < 6) : x_tk d s f (d + 3) j = f (s + 3) j := by
  unfold x_tk
  simp only [am_let]
  rw [pu_cp_ne _ (by omega), pu_cp_ne _ (by omega), pu_cp_ne _ (by omega), pu_cp_ne _ (by omega), pu_cp_ne _ (by omega), pu_cp_ne _ (by omega), pu_cp_row, pu_cpy_in hj, pu_cp_ne _ (by omega), pu_cp_ne _ (by omega), pu_up_ne _ _ (by omega), pu_up_ne _ _ (by omega), pu_up_ne _ _ (by omega), pu_up_ne _ _ (by omega), pu_up_ne _ _ (by omega), pu_up_ne _ _ (by omega)]
theorem tk_a4 (h : d + 9 < s ∨ s + 9 < d) {j : Nat} (hj : j < 6) : x_tk d s f (d + 4) j = f (s + 4) j := by
  unfold x_tk
  simp only [am_let]
  rw [pu_cp_ne _ (by omega), pu_cp_ne _ (by omega), pu_cp_ne _ (by omega), pu_cp_ne _ (by omega), pu_cp_ne _ (by omega), pu_cp_row, pu_cpy_in hj, pu_cp_ne _ (by omega), pu_cp_ne _ (by omega), pu_cp_ne _ (by omega), pu_up_ne _ _ (by omega), pu_up_ne _ _ (by omega), pu_up_ne _ _ (by omega), pu_up_ne _ _ (by omega), pu_up_ne _ _ (by omega), pu_up_ne _ _ (by omega)]
theorem tk_a5 (h : d + 9 < s ∨ s + 9 < d) {j : Nat} (hj : j < 6) : x_tk d s f (d + 5) j = f (s + 5) j := by
  unfold x_tk
  simp only [am_let]
  rw [pu_cp_ne _ (by omega), pu_cp_ne _ (by omega), pu_cp_ne _ (by omega), pu_cp_ne _ (by omega), pu_cp_row, pu_cpy_in hj, pu_cp_ne _ (by omega), pu_cp_ne _ (by omega), pu_cp_ne _ (by omega), pu_cp_ne _ (by omega), pu_up_ne _ _ (by omega), pu_up_ne _ _ (by omega), pu_up_ne _ _ (by omega), pu_up_ne _ _ (by omega), pu_up_ne _ _ (by omega), pu_up_ne _ _ (by omega)]
theorem tk_a6 (h : d + 9 < s ∨ s + 9 < d) {j : Nat} (hj : j < 12) : x_tk d s f (d + 6) j = f (s + 6) j := by
  unfold x_tk
  simp only [am_let]
  rw [pu_cp_ne _ (by omega), pu_cp_ne _ (by omega), pu_cp_ne _ (by omega), pu_cp_row, pu_cpy_in hj, pu_cp_ne _ (by omega), pu_cp_ne _ (by omega), pu_cp_ne _ (by omega), pu_cp_ne _ (by omega), pu_cp_ne _ (by omega), pu_up_ne _ _ (by omega), pu_up_ne _ _ (by omega), pu_up_ne _ _ (by omega), pu_up_ne _ _ (by omega), pu_up_ne _ _ (by omega), pu_up_ne _ _ (by omega)]
theorem tk_a7 (h : d + 9 < s ∨ s + 9 < d) {j : Nat} (hj : j < 12) : x_tk d s f (d + 7) j = f (s + 7) j := by
  unfold x_tk
  simp only [am_let]
  rw [pu_cp_ne _ (by omega), pu_cp_ne _ (by omega), pu_cp_row, pu_cpy_in hj, pu_cp_ne _ (by omega), pu_cp_ne _ (by omega), pu_cp_ne _ (by omega), pu_cp_ne _ (by omega), pu_cp_ne _ (by omega), pu_cp_ne _ (by omega), pu_up_ne _ _ (by omega), pu_up_ne _ _ (by omega), pu_up_ne _ _ (by omega), pu_up_ne _ _ (by omega), pu_up_ne _ _ (by omega), pu_up_ne _ _ (by omega)]
theorem tk_a8 (h : d + 9 < s ∨ s + 9 < d) {j : Nat} (hj : j < 12) : x_tk d s f (d + 8) j = f (s + 8) j := by
  unfold x_tk
  simp only [am_let]
  rw [pu_cp_ne _ (by omega), pu_cp_row, pu_cpy_in hj, pu_cp_ne _ (by omega), pu_cp_ne _ (by omega), pu_cp_ne _ (by omega), pu_cp_ne _ (by omega), pu_cp_ne _ (by omega), pu_cp_ne _ (by omega), pu_cp_ne _ (by omega), pu_up_ne _ _ (by omega), pu_up_ne _ _ (by omega), pu_up_ne _ _ (by omega), pu_up_ne _ _ (by omega), pu_up_ne _ _ (by omega), pu_up_ne _ _ (by omega)]
theorem tk_a9 (h : d + 9 < s ∨ s + 9 < d) {j : Nat} (hj : j < 12) : x_tk d s f (d + 9) j = f (s + 9) j := by
  unfold x_tk
  simp only [am_let]
  rw [pu_cp_row, pu_cpy_in hj, pu_cp_ne _ (by omega), pu_cp_ne _ (by omega), pu_cp_ne _ (by omega), pu_cp_ne _ (by omega), pu_cp_ne _ (by omega), pu_cp_ne _ (by omega), pu_cp_ne _ (by omega), pu_cp_ne _ (by omega), pu_up_ne _ _ (by omega), pu_up_ne _ _ (by omega), pu_up_ne _ _ (by omega), pu_up_ne _ _ (by omega), pu_up_ne _ _ (by omega), pu_up_ne _ _ (by omega)]
end TK
/-- a court is copied: it is as the other was -/
theorem tk_T {d s : Nat} {f : Nat → Nat → Int32} (h : d + 9 < s ∨ s + 9 < d) (hd : 2 ≤ d) (hs : 2 ≤ s) {w : Nat → Int32} (hT : rl_T rl_C (s - 2) f w) : rl_T rl_C (d - 2) (x_tk d s f) w := by
  have key : ∀ q ∈ rl_C, ∀ t, t < q.2.2.2.1 → (q.1 = 2 ∧ q.2.1 + t < 6) ∨ (3 ≤ q.1 ∧ q.1 ≤ 7 ∧ q.2.1 + t < 6) ∨ (8 ≤ q.1 ∧ q.1 ≤ 11 ∧ q.2.1 + t < 12) := by decide +kernel
  intro q hq t ht
  rw [← hT q hq t ht]
  rcases key q hq t ht with ⟨e, e2⟩ | ⟨e1, e2, e3⟩ | ⟨e1, e2, e3⟩
  · rw [e, show 2 + (d - 2) = d by omega, show 2 + (s - 2) = s by omega]
    exact tk_obj f h e2
  · rcases (show q.1 = 3 ∨ q.1 = 4 ∨ q.1 = 5 ∨ q.1 = 6 ∨ q.1 = 7 by omega) with e | e | e | e | e
    · rw [e, show 3 + (d - 2) = d + 1 by omega, show 3 + (s - 2) = s + 1 by omega]; exact tk_a1 f h e3
    · rw [e, show 4 + (d - 2) = d + 2 by omega, show 4 + (s - 2) = s + 2 by omega]; exact tk_a2 f h e3
    · rw [e, show 5 + (d - 2) = d + 3 by omega, show 5 + (s - 2) = s + 3 by omega]; exact tk_a3 f h e3
    · rw [e, show 6 + (d - 2) = d + 4 by omega, show 6 + (s - 2) = s + 4 by omega]; exact tk_a4 f h e3
    · rw [e, show 7 + (d - 2) = d + 5 by omega, show 7 + (s - 2) = s + 5 by omega]; exact tk_a5 f h e3
  · rcases (show q.1 = 8 ∨ q.1 = 9 ∨ q.1 = 10 ∨ q.1 = 11 by omega) with e | e | e | e
    · rw [e, show 8 + (d - 2) = d + 6 by omega, show 8 + (s - 2) = s + 6 by omega]; exact tk_a6 f h e3
    · rw [e, show 9 + (d - 2) = d + 7 by omega, show 9 + (s - 2) = s + 7 by omega]; exact tk_a7 f h e3
    · rw [e, show 10 + (d - 2) = d + 8 by omega, show 10 + (s - 2) = s + 8 by omega]; exact tk_a8 f h e3
    · rw [e, show 11 + (d - 2) = d + 9 by omega, show 11 + (s - 2) = s + 9 by omega]; exact tk_a9 f h e3
theorem pl_ne {i j k : Nat} (hi : i < 6) (hj : j < 6) (h : i ≠ j) : x_pl i k + 9 < x_pl j k ∨ x_pl j k + 9 < x_pl i k := by
  unfold x_pl
  have h1 : (i + k) % 6 < 6 := Nat.mod_lt _ (by decide)
  have h2 : (j + k) % 6 < 6 := Nat.mod_lt _ (by decide)
  have : (i + k) % 6 ≠ (j + k) % 6 := by omega
  omega
theorem pl_succ (j k : Nat) : x_pl j (k + 1) = x_pl (j + 1) k := by
  unfold x_pl
  rw [show j + (k + 1) = j + 1 + k by omega]
theorem pl_mod (j k : Nat) : x_pl j (k % 6) = x_pl j k := by
  unfold x_pl
  rw [Nat.add_mod_mod]
theorem rk_of {f : Nat → Nat → Int32} {k : Nat} (hk : k < 6) (h : ∀ j, j < 6 → f 109 j = nI (x_pl j k + 1)) : x_rk f = some k := by
  have hr : ∀ i, i < 6 → x_ro f i = decide (i = k) := by
    intro i hi
    by_cases e : i = k
    · subst e
      rw [decide_eq_true rfl]
      unfold x_ro
      exact List.all_eq_true.mpr fun j hj => decide_eq_true (h j (List.mem_range.mp hj))
    · rw [decide_eq_false e]
      cases hx : x_ro f i with
      | false => rfl
      | true =>
        unfold x_ro at hx
        have h1 := of_decide_eq_true (List.all_eq_true.mp hx 0 (List.mem_range.mpr (by decide)))
        rw [h 0 (by decide)] at h1
        have h2 := rl_pl_ge 0 k
        have h3 := rl_pl_ge 0 i
        have h4 := pu_nIinj (by omega) (by omega) h1
        unfold x_pl at h4
        omega
  unfold x_rk
  rw [show List.range 6 = [0, 1, 2, 3, 4, 5] from rfl]
  simp only [List.find?, hr 0 (by decide), hr 1 (by decide), hr 2 (by decide), hr 3 (by decide), hr 4 (by decide), hr 5 (by decide)]
  rcases (show k = 0 ∨ k = 1 ∨ k = 2 ∨ k = 3 ∨ k = 4 ∨ k = 5 by omega) with rfl | rfl | rfl | rfl | rfl | rfl <;> rfl
theorem cnt_of {f : Nat → Nat → Int32} {n : Nat} (hn : n < 7) (h : f 0 4 = nI n) : x_cnt f = some n := by
  have hr : ∀ i, i < 7 → decide (f 0 4 = nI i) = decide (i = n) := by
    intro i hi
    rw [h]
    by_cases e : i = n
    · subst e
      rw [decide_eq_true rfl, decide_eq_true rfl]
    · rw [decide_eq_false e, decide_eq_false]
      intro z
      exact e (pu_nIinj (by omega) (by omega) z).symm
  unfold x_cnt
  rw [show List.range 7 = [0, 1, 2, 3, 4, 5, 6] from rfl]
  simp only [List.find?, hr 0 (by decide), hr 1 (by decide), hr 2 (by decide), hr 3 (by decide), hr 4 (by decide), hr 5 (by decide), hr 6 (by decide)]
  rcases (show n = 0 ∨ n = 1 ∨ n = 2 ∨ n = 3 ∨ n = 4 ∨ n = 5 ∨ n = 6 by omega) with rfl | rfl | rfl | rfl | rfl | rfl | rfl <;> rfl
/-! rows as functions -/
theorem row_row (f : Nat → Nat → Int32) (a : Nat) (u : Nat → Int32) : am_row f a u a = u := by
  unfold am_row
  rw [if_pos rfl]
theorem row_ne (f : Nat → Nat → Int32) {a b : Nat} (u : Nat → Int32) (h : b ≠ a) : am_row f a u b = f b := by
  unfold am_row
  rw [if_neg h]
theorem row_up (f : Nat → Nat → Int32) (a j : Nat) (u : Nat → Int32) (v : Int32) : am_up (am_row f a u) a j v = am_row f a (upd u j v) := by
  funext b
  unfold am_up am_row
  by_cases h : b = a
  · rw [if_pos h, if_pos h, if_pos rfl]
  · rw [if_neg h, if_neg h, if_neg h]
theorem row_self (f : Nat → Nat → Int32) (a : Nat) : am_row f a (f a) = f := by
  funext b
  unfold am_row
  by_cases h : b = a
  · rw [if_pos h, h]
  · rw [if_neg h]
/-- the model's shift and copy -/
def mk_sh (g : Nat → Nat → Int32) : Nat → Nat → Int32 := am_row g 219 (fun x => if x < 345 then g 219 (x + 69) else g 219 x)
def mk_cp (c : Nat) (g : Nat → Nat → Int32) : Nat → Nat → Int32 := am_row g 219 (fun x => if 69 * c ≤ x ∧ x < 69 * c + 69 then g 217 (x - 69 * c) else g 219 x)
theorem mk_keeps {g : Nat → Nat → Int32} {n : Nat} (hn : n ≤ 6) (h : g 216 4 = nI n) : m_keeps g = some (if n < 6 then am_up (am_up (mk_cp n g) 216 4 (nI (n + 1))) 216 26 1 else am_up (am_up (mk_cp 5 (am_up (mk_sh g) 216 4 5)) 216 4 6) 216 26 1) := by
  have copy : ∀ (c : Nat) (g' : Nat → Nat → Int32), c < 6 → g' 216 4 = nI c → am_loop (fun (s7 : Int32 × (Nat → Nat → Int32)) => ((
    if s7.1 < 69 then (
      if am_in s7.1 2008 = true then (
      if am_in ((69 * (s7.2 216 4)) + s7.1) 414 = true then (
      am_let (am_up s7.2 219 ((69 * (s7.2 216 4)) + s7.1).toNatClampNeg (s7.2 217 s7.1.toNatClampNeg) : Nat → Nat → Int32) fun f8 =>
      am_let (s7.1 + 1 : Int32) fun t9 =>
      some (.inl (t9, f8))) else none) else none)
    else (
      some (.inr s7.2))) : Option ((Int32 × (Nat → Nat → Int32)) ⊕ ((Nat → Nat → Int32))))) am_F (0, g') = some (mk_cp c g') := by
    intro c g' hc he
    refine pu_for (fun i => (nI i, am_row g' 219 (fun x => if 69 * c ≤ x ∧ x < 69 * c + i then g' 217 (x - 69 * c) else g' 219 x))) 69 ?_ (fun i hi => ?_) ?_
    · refine Prod.ext rfl ?_
      show g' = am_row g' 219 _
      conv => lhs; rw [← row_self g' 219]
      congr 1
      funext x
      rw [if_neg (by omega)]
    · have e1 : (69 : Int32) * nI c + nI i = nI (69 * c + i) := by rw [show (69 : Int32) = nI 69 from rfl, pk_mul, nI_add]
      simp only [row_ne g' _ (show (216 : Nat) ≠ 219 by decide), row_ne g' _ (show (217 : Nat) ≠ 219 by decide), he, e1, am_let]
      rw [if_pos (show nI i < (69 : Int32) from nI_lt (b := 69) hi (by omega)), if_pos (pu_in (by omega) (by omega)), if_pos (pu_in (by omega) (by omega)), nI_clamp (by omega), nI_clamp (by omega), row_up, nI_1]
      congr 4
      funext x
      unfold upd
      by_cases hx : x = 69 * c + i
      · subst hx
        rw [if_pos rfl, if_pos ⟨by omega, by omega⟩]
        congr 1
        omega
      · rw [if_neg hx]
        dsimp only
        by_cases hy : 69 * c ≤ x ∧ x < 69 * c + i
        · rw [if_pos hy, if_pos ⟨hy.1, by omega⟩]
        · rw [if_neg hy, if_neg (by omega)]
    · show (if nI 69 < (69 : Int32) then _ else _) = _
      rw [if_neg (by decide)]
      rfl
  unfold m_keeps
  by_cases h6 : n < 6
  · rw [h, if_neg (fun z : nI n = (6 : Int32) => by have := pu_nIinj (a := n) (b := 6) (by omega) (by omega) z; omega), if_pos h6, pu_bs, copy n g h6 h, pu_bs]
    simp only [am_let]
    have e : mk_cp n g 216 4 = nI n := h
    rw [e, nI_1]
  · have e6 : n = 6 := by omega
    subst e6
    rw [h, if_pos (show nI 6 = (6 : Int32) from rfl), if_neg h6]
    have shift : am_loop (fun (s1 : Int32 × (Nat → Nat → Int32)) => ((
        if s1.1 < 345 then (
          if am_in (s1.1 + 69) 414 = true then (
          if am_in s1.1 414 = true then (
          am_let (am_up s1.2 219 s1.1.toNatClampNeg (s1.2 219 (s1.1 + 69).toNatClampNeg) : Nat → Nat → Int32) fun f2 =>
          am_let (s1.1 + 1 : Int32) fun t3 =>
          some (.inl (t3, f2))) else none) else none)
        else (
          some (.inr s1.2))) : Option ((Int32 × (Nat → Nat → Int32)) ⊕ ((Nat → Nat → Int32))))) am_F (0, g) = some (mk_sh g) := by
      refine pu_for (fun i => (nI i, am_row g 219 (fun x => if x < i then g 219 (x + 69) else g 219 x))) 345 ?_ (fun i hi => ?_) ?_
      · refine Prod.ext rfl ?_
        show g = am_row g 219 _
        conv => lhs; rw [← row_self g 219]
        congr 1
      · have e1 : nI i + 69 = nI (i + 69) := nI_add i 69
        simp only [row_row, e1, am_let]
        rw [if_pos (show nI i < (345 : Int32) from nI_lt (b := 345) hi (by omega)), if_pos (pu_in (by omega) (by omega)), if_pos (pu_in (by omega) (by omega)), nI_clamp (by omega), nI_clamp (by omega), row_up, nI_1, if_neg (by omega)]
        congr 4
        funext x
        unfold upd
        by_cases hx : x = i
        · subst hx
          rw [if_pos rfl, if_pos (by omega)]
        · rw [if_neg hx]
          dsimp only
          by_cases hy : x < i
          · rw [if_pos hy, if_pos (by omega)]
          · rw [if_neg hy, if_neg (by omega)]
      · show (if nI 345 < (345 : Int32) then _ else _) = _
        rw [if_neg (by decide)]
        rfl
    rw [shift, pu_bs]
    have e1 : mk_sh g 216 4 = nI 6 := h
    rw [pu_let, e1, show nI 6 - 1 = (5 : Int32) from by decide, pu_bs, copy 5 (am_up (mk_sh g) 216 4 5) (by decide) rfl, pu_bs]
    rfl
