/-! WHAT THE LAW TELLS, on both sides -/
theorem lw_mx (z : Int32) : am_max 0 z = m_greater 0 z := by
  unfold am_max m_greater
  by_cases h1 : (0 : Int32) < z
  · rw [if_pos h1, if_neg (fun h2 : z < 0 => by rw [Int32.lt_iff_toInt_lt] at h1 h2; omega)]
  · rw [if_neg h1]
    by_cases h2 : z < 0
    · rw [if_pos h2]
    · rw [if_neg h2]
      rw [Int32.lt_iff_toInt_lt] at h1 h2
      exact Int32.toInt_inj.mp (by omega)
theorem lw_mn (m z : Int32) : am_min m z = m_lesser m z := by
  unfold am_min m_lesser
  by_cases h1 : z < m
  · rw [if_pos h1, if_neg (fun h2 : m < z => by rw [Int32.lt_iff_toInt_lt] at h1 h2; omega)]
  · rw [if_neg h1]
    by_cases h2 : m < z
    · rw [if_pos h2]
    · rw [if_neg h2]
      rw [Int32.lt_iff_toInt_lt] at h1 h2
      exact Int32.toInt_inj.mp (by omega)
section LV
variable {f g : Nat → Nat → Int32} {w : Nat} {nm : Nat → Int32}
theorem lw_val (hw : f 14 1 = nI w) (hw4 : w ≤ 400) (hnx : ∀ q, 1 ≤ q → q ≤ 10 → f 121 (q + 6) = nm q) (hnm : ∀ q, 1 ≤ q → q ≤ 10 → g 226 q = nm q) {P : List lw_S} {b : Bool} {a a' : Nat} (hk : lw_ks P [] = some [b]) (hc : lw_cX f 0 a P) (hm : lw_cM (g 217) a' P) (ha : a + (lw_es P).length ≤ w) (ha' : a' + P.length ≤ 405) (u u' : Nat → Int32) :
    ∃ u1 u1' v, xb_valueOf (nI a) (nI (a + (lw_es P).length)) (am_row f 122 u) = some (v, am_row f 122 u1) ∧ m_comesTo (nI a') (nI (a' + P.length)) (am_row g 225 u') = some (v, am_row g 225 u1') ∧ v = (lw_vs nm P []).headD 0 ∧ (b = true → v = 0 ∨ v = 1) := by
  obtain ⟨u1, u1', p1, p2, p3, p4, p5⟩ := lw_eval (e := a + (lw_es P).length) (e' := a' + P.length) hw hw4 ha ha' hnx hnm P [] [b] [] a a' u u' hk trivial trivial trivial hc hm (Nat.le_refl _) (Nat.le_refl _)
  match hv : lw_vs nm P [], p5 with
  | [], p5 => cases p5
  | v :: x :: r, p5 => exact absurd p5.2 (fun z => z)
  | [v], p5 =>
    rw [hv] at p1 p2 p3 p4
    refine ⟨u1, u1', v, ?_, ?_, rfl, p5.1⟩
    · rw [lw_X_def, show ((0 : Int32), nI a, am_row f 122 u) = (nI ([] : List Int32).length, nI a, am_row f 122 u) from rfl, pu_st_end p1 (e := (nI 1, am_row f 122 u1)) (by
        show (if nI _ < nI _ then _ else _) = _
        rw [if_neg (nI_nlt (Nat.le_refl _) (by omega))]
        rfl) (by omega), pu_bs, if_pos (show (0 : Int32) < nI 1 by decide)]
      show some (am_row f 122 u1 122 0, am_row f 122 u1) = some (v, am_row f 122 u1)
      rw [row_row, show u1 0 = v from p3.1]
    · rw [lw_M_def, show ((0 : Int32), nI a', am_row g 225 u') = (nI ([] : List Int32).length, nI a', am_row g 225 u') from rfl, pu_st_end p2 (e := am_row g 225 u1') (by
        show (if nI _ < nI _ then _ else _) = _
        rw [if_neg (nI_nlt (Nat.le_refl _) (by omega))]) (by omega), pu_bs, row_row, p4.1.symm]
      rfl
end LV
def lw_T (a0 M : Int32) (s : Int32 × (Nat → Nat → Int32)) : Option ((Int32 × (Nat → Nat → Int32)) ⊕ ((Int32 × (Nat → Nat → Int32)) ⊕ (Nat → Nat → Int32))) :=
  if s.1 < s.2 14 0 then (if am_in s.1 16 = true then (
    if (if s.2 16 s.1.toNatClampNeg = a0 then true else false) = true then (if am_in s.1 16 = true then (if am_in s.1 16 = true then (
      if s.2 18 s.1.toNatClampNeg = s.2 19 s.1.toNatClampNeg then (if am_in s.1 16 = true then (if am_in s.1 16 = true then ((xb_valueOf (s.2 17 s.1.toNatClampNeg) (s.2 18 s.1.toNatClampNeg) s.2).bind fun p4 => some (.inr (.inl ((am_max 0 (am_min M p4.1)), p4.2)))) else none) else none)
      else (if am_in s.1 16 = true then (if am_in s.1 16 = true then ((xb_valueOf (s.2 18 s.1.toNatClampNeg) (s.2 19 s.1.toNatClampNeg) s.2).bind fun p5 => if p5.1 = 0 then some (.inl (s.1 + 1, p5.2)) else (if am_in s.1 16 = true then (if am_in s.1 16 = true then ((xb_valueOf (p5.2 17 s.1.toNatClampNeg) (p5.2 18 s.1.toNatClampNeg) p5.2).bind fun p7 => some (.inr (.inl ((am_max 0 (am_min M p7.1)), p7.2)))) else none) else none)) else none) else none)) else none) else none)
    else some (.inl (s.1 + 1, s.2))) else none)
  else some (.inr (.inr s.2))
theorem lw_T_def (a0 : Int32) (f : Nat → Nat → Int32) : xb_told a0 f = (am_loop (lw_T a0 (if a0 = 1 then 1000 else 99)) am_F (0, f)).bind fun e9 => e9.elim (fun v => some v) fun e10 => if a0 = 0 then some ((am_max 0 ((3 * (e10 121 7)) - (2 * (e10 121 8)))), e10) else if a0 = 1 then some (0, e10) else some (5, e10) := by
  unfold xb_told
  rw [pu_letE]
  refine congrArg (fun o => Option.bind o _) ?_
  refine congrArg (fun F => am_loop F am_F (0, f)) ?_
  funext s
  obtain ⟨i, f'⟩ := s
  unfold lw_T
  simp only [pu_letE]
def lw_L (a0 : Int32) (s : Int32 × (Nat → Nat → Int32)) : Option ((Int32 × (Nat → Nat → Int32)) ⊕ (Int32 × (Nat → Nat → Int32))) :=
  if s.1 < s.2 217 71 then (if am_in (1172 + s.1) 2008 = true then (
    if s.2 217 (1172 + s.1).toNatClampNeg = a0 then ((m_isSo s.1 s.2).bind fun p2 => if p2.1 = true then some (.inr (s.1, p2.2)) else some (.inl (s.1 + 1, p2.2)))
    else some (.inl (s.1 + 1, s.2))) else none)
  else some (.inr (s.1, s.2))
theorem lw_L_def (a0 a1 a2 : Int32) (f : Nat → Nat → Int32) : m_lawSays a0 a1 a2 f = (am_loop (lw_L a0) am_F (0, f)).bind fun e5 => ((if e5.1 < e5.2 217 71 then (if am_in (1124 + e5.1) 2008 = true then (if am_in (1140 + e5.1) 2008 = true then ((m_comesTo (e5.2 217 (1124 + e5.1).toNatClampNeg) (e5.2 217 (1140 + e5.1).toNatClampNeg) e5.2).bind fun p6 => some (p6.1, p6.2)) else none) else none) else some (a1, e5.2) : Option (Int32 × (Nat → Nat → Int32))).bind fun t7 => some ((m_greater 0 (m_lesser a2 t7.1)), t7.2)) := by
  unfold m_lawSays
  refine congrArg (fun o => Option.bind o _) ?_
  refine congrArg (fun F => am_loop F am_F (0, f)) ?_
  funext s
  obtain ⟨i, f'⟩ := s
  unfold lw_L
  simp only [pu_letE]
theorem lw_bind1 {α : Type} (o : Option (Int32 × α)) : (o.bind fun p => some (p.1, p.2)) = o := by cases o <;> rfl
theorem lw_e_pos (s : lw_S) : 0 < (lw_e s).length := by
  unfold lw_e
  repeat' split
  all_goals exact Nat.succ_pos _
theorem lw_es_pos {Q : List lw_S} (h : Q ≠ []) : 0 < (lw_es Q).length := by
  cases Q with
  | nil => exact absurd rfl h
  | cons s P =>
    rw [lw_es_cons, List.length_append]
    have := lw_e_pos s
    omega
section LT
variable {f g : Nat → Nat → Int32} {nm : Nat → Int32}
/-- what is told of a line: its own word, what it comes to -/
def lw_lv (f g : Nat → Nat → Int32) (nm : Nat → Int32) (i : Nat) (v : Int32) : Prop := ∀ u', ∃ u1', (if am_in (1124 + nI i) 2008 = true then (if am_in (1140 + nI i) 2008 = true then ((m_comesTo ((am_row g 225 u') 217 (1124 + nI i).toNatClampNeg) ((am_row g 225 u') 217 (1140 + nI i).toNatClampNeg) (am_row g 225 u')).bind fun p6 => some (p6.1, p6.2)) else none) else none) = some (v, am_row g 225 u1')
theorem lw_told0 (hy : iv_Y f 0 (g 217)) (hl : f 14 0 = g 217 71) (hnx : ∀ q, 1 ≤ q → q ≤ 10 → f 121 (q + 6) = nm q) (hnm : ∀ q, 1 ≤ q → q ≤ 10 → g 226 q = nm q) {k : Nat} (hk : k < 3) (M : Int32) (u u' : Nat → Int32) :
    ∃ e e', am_loop (lw_T (nI k) M) am_F (0, am_row f 122 u) = some e ∧ am_loop (lw_L (nI (20 + k))) am_F (0, am_row g 225 u') = some e' ∧
      ((∃ i l v u1 u1', i < l ∧ l ≤ 16 ∧ g 217 71 = nI l ∧ e = .inl (am_max 0 (am_min M v), am_row f 122 u1) ∧ e' = (nI i, am_row g 225 u1') ∧ lw_lv f g nm i v) ∨ (∃ l u1 u1', l ≤ 16 ∧ g 217 71 = nI l ∧ e = .inr (am_row f 122 u1) ∧ e' = (nI l, am_row g 225 u1'))) := by
  obtain ⟨l, w, hl16, hw4, hl71, hw, hlines⟩ := hy
  have hw : f 14 1 = nI w := hw
  have hfl : f 14 0 = nI l := hl.trans hl71
  refine pu_two (fun i (s : Int32 × (Nat → Nat → Int32)) (t : Int32 × (Nat → Nat → Int32)) => ∃ u u', s = (nI i, am_row f 122 u) ∧ t = (nI i, am_row g 225 u')) _ l ⟨u, u', rfl, rfl⟩ ?_ ?_
  · rintro i s t hi ⟨u, u', rfl, rfl⟩
    obtain ⟨kk, a, a', P, Q, y1, y2, y3, y4, y5, y6, y7, y8, y9, y10, y11, y12, y13, y14, y15, y16, y17⟩ := hlines i hi
    have y2 : f 16 i = nI kk := y2
    have y4 : f 17 i = nI a := y4
    have y5 : f 18 i = nI (a + (lw_es P).length) := y5
    have y6 : f 19 i = nI (a + (lw_es P).length + (lw_es Q).length) := y6
    have c16 : am_in (nI i) 16 = true := pu_in (by omega) (by omega)
    have d1 : am_in (nI (1172 + i)) 2008 = true := pu_in (by omega) (by omega)
    have d2 : am_in (nI (1124 + i)) 2008 = true := pu_in (by omega) (by omega)
    have d3 : am_in (nI (1140 + i)) 2008 = true := pu_in (by omega) (by omega)
    have d4 : am_in (nI (1156 + i)) 2008 = true := pu_in (by omega) (by omega)
    have a1 : (1172 : Int32) + nI i = nI (1172 + i) := nI_add 1172 i
    have a2 : (1124 : Int32) + nI i = nI (1124 + i) := nI_add 1124 i
    have a3 : (1140 : Int32) + nI i = nI (1140 + i) := nI_add 1140 i
    have a4 : (1156 : Int32) + nI i = nI (1156 + i) := nI_add 1156 i
    have lv : lw_lv f g nm i ((lw_vs nm P []).headD 0) := by
      intro u'
      obtain ⟨u1, u1', v, q1, q2, q3, -⟩ := lw_val (g := g) hw hw4 hnx hnm y16 y12 y14 (by omega) (by omega) u u'
      refine ⟨u1', ?_⟩
      rw [a2, a3, if_pos d2, if_pos d3, nI_clamp (by omega), nI_clamp (by omega), row_ne g u' (show (217 : Nat) ≠ 225 by decide), y8, y9, q2, pu_bs, q3]
    have XA : lw_T (nI k) M (nI i, am_row f 122 u) = (if (if nI kk = nI k then true else false) = true then (if nI (a + (lw_es P).length) = nI (a + (lw_es P).length + (lw_es Q).length) then ((xb_valueOf (nI a) (nI (a + (lw_es P).length)) (am_row f 122 u)).bind fun p4 => some (.inr (.inl ((am_max 0 (am_min M p4.1)), p4.2)))) else ((xb_valueOf (nI (a + (lw_es P).length)) (nI (a + (lw_es P).length + (lw_es Q).length)) (am_row f 122 u)).bind fun p5 => if p5.1 = 0 then some (.inl (nI i + 1, p5.2)) else ((xb_valueOf (p5.2 17 (nI i).toNatClampNeg) (p5.2 18 (nI i).toNatClampNeg) p5.2).bind fun p7 => some (.inr (.inl ((am_max 0 (am_min M p7.1)), p7.2))))) ) else some (.inl (nI i + 1, am_row f 122 u))) := by
      unfold lw_T
      simp only [row_ne f u (show (14 : Nat) ≠ 122 by decide), row_ne f u (show (16 : Nat) ≠ 122 by decide), row_ne f u (show (17 : Nat) ≠ 122 by decide), row_ne f u (show (18 : Nat) ≠ 122 by decide), row_ne f u (show (19 : Nat) ≠ 122 by decide), hfl, nI_clamp (show i < 2 ^ 31 by omega), y2, y4, y5, y6, c16, if_true]
      rw [if_pos (nI_lt hi (by omega))]
    have MA : lw_L (nI (20 + k)) (nI i, am_row g 225 u') = (if nI (20 + kk) = nI (20 + k) then ((m_isSo (nI i) (am_row g 225 u')).bind fun p2 => if p2.1 = true then some (.inr (nI i, p2.2)) else some (.inl (nI i + 1, p2.2))) else some (.inl (nI i + 1, am_row g 225 u'))) := by
      unfold lw_L
      simp only [row_ne g u' (show (217 : Nat) ≠ 225 by decide), hl71, a1, nI_clamp (show 1172 + i < 2 ^ 31 by omega), y3, d1, if_true]
      rw [if_pos (nI_lt hi (by omega))]
    rw [XA, MA]
    by_cases hkk : kk = k
    · subst hkk
      rw [if_pos (show (if nI kk = nI kk then true else false) = true by rw [if_pos rfl]), if_pos rfl]
      have SA : m_isSo (nI i) (am_row g 225 u') = (if nI (a' + P.length + Q.length) = nI (a' + P.length) then some (true, am_row g 225 u') else ((m_comesTo (nI (a' + P.length)) (nI (a' + P.length + Q.length)) (am_row g 225 u')).bind fun p1 => if p1.1 = 1 then some (true, p1.2) else some (false, p1.2))) := by
        unfold m_isSo
        simp only [a3, a4, d3, d4, if_true, nI_clamp (show 1140 + i < 2 ^ 31 by omega), nI_clamp (show 1156 + i < 2 ^ 31 by omega), row_ne g u' (show (217 : Nat) ≠ 225 by decide), y9, y10]
      rw [SA]
      by_cases hQ : Q = []
      · subst hQ
        rw [if_pos (show nI (a + (lw_es P).length) = nI (a + (lw_es P).length + (lw_es []).length) from rfl), if_pos (show nI (a' + P.length + ([] : List lw_S).length) = nI (a' + P.length) from rfl)]
        obtain ⟨u1, u1', v, q1, q2, q3, -⟩ := lw_val (g := g) hw hw4 hnx hnm y16 y12 y14 (by omega) (by omega) u u'
        rw [q1, pu_bs, pu_bs, if_pos rfl]
        exact Or.inr ⟨_, _, rfl, rfl, Or.inl ⟨i, l, v, u1, u', hi, hl16, hl71, rfl, rfl, by rw [q3]; exact lv⟩⟩
      · have hk2 := y17.resolve_left hQ
        have hlen : 0 < Q.length := List.length_pos_iff.mpr hQ
        have hlen2 : 0 < (lw_es Q).length := lw_es_pos hQ
        rw [if_neg (fun z => by have := pu_nIinj (by omega) (by omega) z; omega), if_neg (fun z => by have := pu_nIinj (by omega) (by omega) z; omega)]
        obtain ⟨u1, u1', v, q1, q2, q3, q4⟩ := lw_val (g := g) hw hw4 hnx hnm hk2 y13 y15 (by omega) (by omega) u u'
        rw [q1, q2, pu_bs, pu_bs]
        rcases q4 rfl with hv | hv
        · rw [hv]
          dsimp only
          rw [if_pos rfl, if_neg (show ¬ (0 : Int32) = 1 by decide), pu_bs]
          dsimp only
          rw [if_neg (show ¬ false = true by decide), nI_1]
          exact Or.inl ⟨_, _, rfl, rfl, u1, u1', rfl, rfl⟩
        · obtain ⟨u2, u2', v2, r1, r2, r3, -⟩ := lw_val (g := g) hw hw4 hnx hnm y16 y12 y14 (by omega) (by omega) u1 u1'
          rw [hv]
          dsimp only
          rw [if_neg (show ¬ (1 : Int32) = 0 by decide), if_pos rfl, pu_bs]
          dsimp only
          rw [if_pos rfl, nI_clamp (by omega), row_ne f u1 (show (17 : Nat) ≠ 122 by decide), row_ne f u1 (show (18 : Nat) ≠ 122 by decide), y4, y5, r1, pu_bs]
          exact Or.inr ⟨_, _, rfl, rfl, Or.inl ⟨i, l, v2, u2, u1', hi, hl16, hl71, rfl, rfl, by rw [r3]; exact lv⟩⟩
    · have n1 : ¬ nI kk = nI k := fun z => hkk (pu_nIinj (by omega) (by omega) z)
      have n2 : ¬ nI (20 + kk) = nI (20 + k) := fun z => by
        have := pu_nIinj (by omega) (by omega) z
        omega
      rw [if_neg n1, if_neg (by decide), if_neg n2, nI_1]
      exact Or.inl ⟨_, _, rfl, rfl, u, u', rfl, rfl⟩
  · rintro s t ⟨u, u', rfl, rfl⟩
    refine ⟨.inr (am_row f 122 u), (nI l, am_row g 225 u'), ?_, ?_, Or.inr ⟨l, u, u', hl16, hl71, rfl, rfl⟩⟩
    · unfold lw_T
      dsimp only
      simp only [row_ne f u (show (14 : Nat) ≠ 122 by decide), hfl]
      rw [if_neg (nI_nlt (Nat.le_refl _) (by omega))]
    · unfold lw_L
      dsimp only
      simp only [row_ne g u' (show (217 : Nat) ≠ 225 by decide), hl71]
      rw [if_neg (nI_nlt (Nat.le_refl _) (by omega))]
end LT
