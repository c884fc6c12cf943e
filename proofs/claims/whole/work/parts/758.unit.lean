/-! a unit of a sum -/
def lq_u (s : lw_S) : Prop := (s.1 = 0 ∧ s.2 ≤ 9999) ∨ (1 ≤ s.1 ∧ s.1 ≤ 10)
theorem lq_uk {s : lw_S} (h : lq_u s) (st : List Bool) : lw_k s st = some (false :: st) := by
  unfold lw_k
  rcases h with ⟨h1, h2⟩ | ⟨h1, h2⟩
  · rw [if_pos h1, if_pos h2]
  · rw [if_neg (by omega), if_pos h2]
section
variable {n : Nat} {b : Nat → Nat} {N i e : Nat} {W : List lw_S} {F G : Nat → Nat → Int32}
theorem tx_emA {s : lw_S} {x : Nat} (h : tx_S n b 0 N i e W F G) (hi : i < N) (hx : lw_e s = [x]) (v : Int32) (hv : (s.1 = 0 ∨ s.1 = 26) → v = nI s.2) : ∃ F1 G1 F' G', xl_emit_129 (nI x) F = some F1 ∧ m_lay (nI s.1) v G = some G1 ∧ xt_advance F1 = some F' ∧ m_next0 G1 = some G' ∧ tx_S n b 0 N (i + 1) e (W ++ [s]) F' G' ∧ tx_P F G F' G' ∧ G' 216 24 = G 216 24 := by
  obtain ⟨l1, l2⟩ := h.lt
  have h3 := h.2.2
  obtain ⟨F1, G1, r1, r2, r3, r4, r5, r6, r7, _⟩ := tx_emit0 h.1 h.2.1 (by omega) hx v hv
  obtain ⟨F', G', q1, q2, q3, q4, q5⟩ := tx_adv r3 hi
  obtain ⟨e1, e2, e3, e4⟩ := r4
  refine ⟨F1, G1, F', G', r1, r2, q1, q2, ⟨q3, ⟨by rw [q4 129 (by omega)]; exact e1, by rw [q4 130 (by omega)]; exact e2, by rw [q5.2 14 (by omega) (by omega) (by omega) (by omega)]; exact e3, by rw [q5.1 222 (by omega)]; exact e4⟩, ?_, h3.2.to ((q4 128 (by omega)).trans r7)⟩, r5.tr (tx_P.adv q4 q5), (q5.2 24 (by omega) (by omega) (by omega) (by omega)).trans r6⟩
  rw [lw_esa, lw_es1, hx, List.length_append]
  show _ + 1 + e ≤ i + 1
  omega
theorem tx_unit (h : tx_S n b 0 N i e W F G) : ∃ ok F' G', xs_readUnit F = some (ok, F') ∧ m_unit G = some (ok, G') ∧ tx_P F G F' G' ∧ ((ok = false ∧ tx_Z F' G') ∨ (ok = true ∧ ∃ s, lq_u s ∧ tx_S n b 0 N (i + 1) e (W ++ [s]) F' G' ∧ G' 216 24 = G 216 24)) := by
  have hz : ∀ (x : Bool) (a c d : Int32), (if x = true then a else d) = d ∨ x = true := fun x a c d => by cases x <;> simp
  unfold xs_readUnit m_unit
  by_cases c : F 123 1 = 2
  · obtain ⟨hi, v, hv, v1, v2⟩ := h.1.numV c
    have cm := h.1.num.mp c
    obtain ⟨F1, G1, F', G', r1, r2, r3, r4, r5, r6, r7⟩ := tx_emA (s := (0, v)) (x := v) h hi rfl (nI v) (fun _ => rfl)
    have f2 : m_isIn 2 41 50 = false := by decide
    rw [if_pos c, v1, r1, pu_bs, r3, pu_bs, pu_letE, cm, if_pos rfl, pu_letE, f2, v2]
    rw [show (if false = true then (2 : Int32) - 40 else 0) = nI (0, v).1 from rfl, r2, pu_bs, r4]
    exact ⟨true, F', G', rfl, rfl, r6, Or.inr ⟨rfl, (0, v), Or.inl ⟨rfl, hv⟩, r5, r7⟩⟩
  · have cm : ¬ G 216 18 = 2 := fun z => c (h.1.num.mpr z)
    rw [if_neg c]
    simp only [pu_letE]
    rw [if_neg cm]
    rcases h.1.wrd with ⟨hi, w1, x, w2, w3, w4, w5, w6⟩ | ⟨w1, y, w2, w3, w4⟩
    · rw [if_pos w1, w3]
      have hx : x < 17 := w2
      by_cases c7 : x < 7
      · have f2 : m_isIn (nI (kw_c 0 x)) 41 50 = false := by
          have : ∀ x, x < 7 → m_isIn (nI (kw_c 0 x)) 41 50 = false := by decide
          exact this x c7
        obtain ⟨F', G', r1, r2, r3, r4⟩ := h.bad 1
        rw [if_pos (show nI x < (7 : Int32) from nI_lt (b := 7) c7 (by omega)), r1, w4, f2, if_neg (by decide), r2]
        exact ⟨false, F', G', rfl, rfl, r3, Or.inl ⟨rfl, r4⟩⟩
      · have f2 : m_isIn (nI (kw_c 0 x)) 41 50 = true := by
          have : ∀ x, x < 17 → ¬ x < 7 → m_isIn (nI (kw_c 0 x)) 41 50 = true := by decide
          exact this x hx c7
        have e40 : nI (kw_c 0 x) - 40 = nI (x - 6) := by
          have : ∀ x, x < 17 → ¬ x < 7 → nI (kw_c 0 x) - 40 = nI (x - 6) := by decide
          exact this x hx c7
        have ex : lw_e (x - 6, 0) = [10000 + x] := by
          have : ∀ x, x < 17 → ¬ x < 7 → lw_e (x - 6, 0) = [10000 + x] := by decide
          exact this x hx c7
        obtain ⟨F1, G1, F', G', r1, r2, r3, r4, r5, r6, r7⟩ := tx_emA (s := (x - 6, 0)) (x := 10000 + x) h hi ex (G 216 20) (fun z => by dsimp only at z; omega)
        rw [if_neg (show ¬ nI x < (7 : Int32) from nI_nlt (b := 7) (by omega) (by omega)), show (10000 : Int32) + nI x = nI (10000 + x) from nI_add 10000 x, r1, pu_bs, r3, w4, f2, if_pos rfl, if_pos rfl, e40, r2, pu_bs, pu_bs, r4]
        exact ⟨true, F', G', rfl, rfl, r6, Or.inr ⟨rfl, (x - 6, 0), Or.inr ⟨by show 1 ≤ x - 6; omega, by show x - 6 ≤ 10; omega⟩, r5, r7⟩⟩
    · have f2 : ¬ m_isIn (nI y) 41 50 = true := by
        rw [pu_isIn]
        intro z
        obtain ⟨m, m1, m2, m3⟩ := pu_within (a := 41) (b := 50) (by omega) z (by omega)
        have := pu_nIinj (by omega) (by omega) m3
        omega
      obtain ⟨F', G', r1, r2, r3, r4⟩ := h.bad 1
      rw [if_neg w1, r1, w4, if_neg f2, r2]
      exact ⟨false, F', G', rfl, rfl, r3, Or.inl ⟨rfl, r4⟩⟩
end
