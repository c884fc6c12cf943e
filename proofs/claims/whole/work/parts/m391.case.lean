/-! THE LAW'S CASES: a call of each, over the pure texts -/
theorem am_SHsc : am_SH[am_SC]? = none := by decide +kernel
theorem lw_ial {sc : Nat × (Nat → Int32)} {cd : List am_E} {j : Nat} {p : Nat × Nat × Nat} {a b c : Nat} {v : Int32} {ls : List (Nat × Value)} {st : List Value} {x : Int32} {h : am_H} (hr : cd[j]? = some ((.iaload, a, b, c, v), p)) :
    am_one sc cd (j, ls, .int x :: .ref am_SC :: st, am_SH, h) = if am_in x sc.1 = true then some (j + 1, ls, .int (sc.2 x.toNatClampNeg) :: st, am_SH, h) else none := by
  simp only [am_one, hr]
  show am_ex sc .iaload a b c v j ls (.int x :: .ref am_SC :: st) am_SH h = _
  unfold am_ex
  simp only [am_SHsc]
  by_cases hx : am_in x sc.1 = true
  · rw [if_pos ⟨trivial, hx⟩, if_pos hx]
  · rw [if_neg (fun z => hx z.2), if_neg hx]
theorem lw_inx {L i k : Nat} (h : i + k < L) (hL : L ≤ 3072) : am_in (nI i + nI k) L = true := by
  rw [nI_add]
  unfold am_in
  rw [nI_clamp (by omega)]
  simp only [Bool.and_eq_true, decide_eq_true_eq]
  exact ⟨nI_pos (by omega), h⟩
