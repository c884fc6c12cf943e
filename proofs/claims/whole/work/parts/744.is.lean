/-! THE MODEL: what it sees, whether it is a word -/
theorem md_up {G : Nat → Nat → Int32} {j : Nat} (v : Int32) : (∀ a, a ≠ 216 → am_up G 216 j v a = G a) ∧ (∀ i, i ≠ j → am_up G 216 j v 216 i = G 216 i) ∧ am_up G 216 j v 216 j = v :=
  ⟨fun _ ha => pu_up_ne _ _ ha, fun _ hi => by rw [pu_up_row, pu_upd_ne _ _ hi], by rw [pu_up_row, pu_upd_eq]⟩
def md_T (n : Nat) (b : Nat → Nat) (G : Nat → Nat → Int32) : Prop := n ≤ 400 ∧ G 216 16 = nI n ∧ ∀ i, i < n → b i < 256 ∧ G 224 i = nI (b i)
theorem md_T.to {n : Nat} {b : Nat → Nat} {G G' : Nat → Nat → Int32} (h : md_T n b G) (h1 : G' 216 16 = G 216 16) (h2 : G' 224 = G 224) : md_T n b G' :=
  ⟨h.1, by rw [h1]; exact h.2.1, fun i hi => ⟨(h.2.2 i hi).1, by rw [h2]; exact (h.2.2 i hi).2⟩⟩
def md_c (n : Nat) (b : Nat → Nat) (q : Nat) : Int32 := if q < n then nI (b q) else -1
theorem md_see {n : Nat} {b : Nat → Nat} {G : Nat → Nat → Int32} (T : md_T n b G) {q : Nat} (hq : q ≤ n) : m_see (nI q) G = some (md_c n b q) := by
  obtain ⟨t1, t2, t3⟩ := T
  unfold m_see md_c
  rw [t2]
  by_cases c : q < n
  · rw [if_pos (nI_lt c (by omega)), if_pos c, if_pos (pu_in (by omega) (by omega)), nI_clamp (by omega), (t3 q c).2]
  · rw [if_neg (nI_nlt (by omega) (by omega)), if_neg c]
theorem md_L {n : Nat} {b : Nat → Nat} (hb : ∀ i, i < n → b i < 256) (q : Nat) : m_isLetter (md_c n b q) = true ↔ q < n ∧ lx_L (b q) = true := by
  unfold md_c
  by_cases c : q < n
  · rw [if_pos c, (lx_Lx (hb q c)).2]
    exact ⟨fun h => ⟨c, h⟩, fun h => h.2⟩
  · rw [if_neg c, lx_m1.1]
    exact ⟨(fun h => by cases h), fun h => absurd h.1 c⟩
theorem md_D {n : Nat} {b : Nat → Nat} (hb : ∀ i, i < n → b i < 256) (q : Nat) : m_isDigit (md_c n b q) = true ↔ q < n ∧ lx_D (b q) = true := by
  unfold md_c
  by_cases c : q < n
  · rw [if_pos c, (lx_Dx (hb q c)).2]
    exact ⟨fun h => ⟨c, h⟩, fun h => h.2⟩
  · rw [if_neg c, lx_m1.2]
    exact ⟨(fun h => by cases h), fun h => absurd h.1 c⟩
theorem md_eq {n : Nat} {b : Nat → Nat} (hb : ∀ i, i < n → b i < 256) (q c : Nat) (hc : c < 256) : md_c n b q = nI c ↔ q < n ∧ b q = c := by
  unfold md_c
  by_cases h : q < n
  · rw [if_pos h]
    have := hb q h
    exact ⟨fun z => ⟨h, pu_nIinj (by omega) (by omega) z⟩, fun z => by rw [z.2]⟩
  · rw [if_neg h]
    exact ⟨fun z => absurd z (pu_neg1' (by omega)), fun z => absurd z.1 h⟩
def kw_p (b : Nat → Nat) (s e w i : Nat) : Bool := decide (e - s = am_tl w) && (List.range i).all fun j => decide (nI (b (s + j)) = am_tc w j)
theorem kw_pI {b : Nat → Nat} {s e w i : Nat} : kw_p b s e w i = true ↔ e - s = am_tl w ∧ ∀ j, j < i → nI (b (s + j)) = am_tc w j := by
  unfold kw_p
  rw [Bool.and_eq_true, decide_eq_true_eq, List.all_eq_true]
  constructor
  · rintro ⟨h1, h2⟩
    exact ⟨h1, fun j hj => of_decide_eq_true (h2 j (List.mem_range.mpr hj))⟩
  · rintro ⟨h1, h2⟩
    exact ⟨h1, fun j hj => decide_eq_true (h2 j (List.mem_range.mp hj))⟩
theorem kw_pF {b : Nat → Nat} {s e w i : Nat} (h : ¬ (e - s = am_tl w ∧ ∀ j, j < i → nI (b (s + j)) = am_tc w j)) : kw_p b s e w i = false := by
  rw [Bool.eq_false_iff]
  exact fun z => h (kw_pI.mp z)
theorem md_is {n : Nat} {b : Nat → Nat} {G : Nat → Nat → Int32} (T : md_T n b G) {s e : Nat} (h1 : s ≤ e) (h2 : e ≤ n) (hs : G 216 19 = nI s) (he : G 216 17 = nI e) {w : Nat} (hw : w < 30) : m_is w G = some (kw_m b s e w) := by
  obtain ⟨t1, t2, t3⟩ := T
  obtain ⟨l1, l2⟩ := kw_tl' hw
  unfold m_is
  rw [if_pos l2, pu_letE, he, hs, pk_sub h1]
  have e0 : (if nI (e - s) = nI (am_tl w) then true else false) = kw_p b s e w 0 := by
    by_cases c : e - s = am_tl w
    · rw [if_pos (by rw [c]), kw_pI.mpr ⟨c, fun x hx => absurd hx (Nat.not_lt_zero _)⟩]
    · rw [if_neg (fun z => c (pu_nIinj (by omega) (by omega) z)), kw_pF (fun z => c z.1)]
  rw [e0]
  obtain ⟨v, r1, rfl⟩ := pu_one (f := fun (s2 : Bool × Int32) => ((
    if w < am_strs.length then (
    if s2.2 < (nI (am_tl w)) then (
      if s2.1 = true then (
        if am_in (nI s + s2.2) 400 = true then (
        if w < am_strs.length ∧ am_in s2.2 (am_tl w) = true then (
        am_let ((if G 224 (nI s + s2.2).toNatClampNeg = (am_tc w s2.2.toNatClampNeg) then (
            true)
          else (
            false)) : Bool) fun t3 =>
        am_let (s2.2 + 1 : Int32) fun t4 =>
        some (.inl (t3, t4))) else none) else none)
      else (
        some (.inr s2.1)))
    else (
      some (.inr s2.1))) else none) : Option ((Bool × Int32) ⊕ (Bool)))) (fun i st => st = (kw_p b s e w i, nI i)) (fun v => v = kw_m b s e w) (am_tl w) (s := (kw_p b s e w 0, 0)) rfl (by
    rintro i st hi rfl
    dsimp only
    rw [if_pos l2, if_pos (nI_lt hi (by omega))]
    by_cases c : e - s = am_tl w ∧ ∀ x, x < i → nI (b (s + x)) = am_tc w x
    · rw [if_pos (kw_pI.mpr c), nI_add, if_pos (pu_in (by omega) (by omega)), if_pos ⟨l2, pu_in hi (by omega)⟩, nI_clamp (by omega), nI_clamp (by omega), (t3 (s + i) (by omega)).2, pu_letE, pu_letE, nI_1]
      refine Or.inl ⟨_, rfl, ?_⟩
      congr 1
      by_cases d : nI (b (s + i)) = am_tc w i
      · rw [if_pos d]
        symm
        refine kw_pI.mpr ⟨c.1, fun x hx => ?_⟩
        by_cases hx2 : x = i
        · rw [hx2]; exact d
        · exact c.2 x (by omega)
      · rw [if_neg d, kw_pF]
        exact fun z => d (z.2 i (by omega))
    · rw [if_neg (fun z => c (kw_pI.mp z)), kw_pF c]
      refine Or.inr ⟨_, rfl, ?_⟩
      symm
      rw [Bool.eq_false_iff]
      intro z
      obtain ⟨z1, z2⟩ := kw_mI.mp z
      exact c ⟨z1, fun x hx => z2 x (by omega)⟩) (by
    rintro st rfl
    dsimp only
    rw [if_pos l2, if_neg (nI_nlt (Nat.le_refl _) (by omega))]
    refine ⟨_, rfl, ?_⟩
    rw [Bool.eq_iff_iff, kw_pI, kw_mI]) (by omega)
  exact r1
/-- the words' codes -/
def kw_c (k i : Nat) : Nat := if k = 0 then (if i < 3 then 20 + i else if i < 7 then i else 34 + i) else if k = 1 then 7 + i else if k = 2 then 15 + i else 17 + i
theorem kw_uq : (List.range 21).all (fun w => (List.range 21).all fun v => decide (w < 4) || decide (v < 4) || decide (w = v) || !(decide (am_tl w = am_tl v) && (List.range (am_tl w)).all fun j => decide (am_tc w j = am_tc v j))) = true := by decide +kernel
theorem kw_uniq {b : Nat → Nat} {s e w v : Nat} (h1 : kw_m b s e w = true) (h2 : kw_m b s e v = true) (a1 : 4 ≤ w) (a2 : w < 21) (a3 : 4 ≤ v) (a4 : v < 21) : w = v := by
  have h := List.all_eq_true.mp (List.all_eq_true.mp kw_uq w (List.mem_range.mpr a2)) v (List.mem_range.mpr a4)
  obtain ⟨p1, p2⟩ := kw_mI.mp h1
  obtain ⟨q1, q2⟩ := kw_mI.mp h2
  have e1 : am_tl w = am_tl v := by omega
  have e2 : ((List.range (am_tl w)).all fun j => decide (am_tc w j = am_tc v j)) = true := by
    rw [List.all_eq_true]
    intro j hj
    have hj := List.mem_range.mp hj
    exact decide_eq_true ((p2 j hj).symm.trans (q2 j (by omega)))
  rw [e2, decide_eq_true e1] at h
  rw [decide_eq_false (show ¬ w < 4 by omega), decide_eq_false (show ¬ v < 4 by omega)] at h
  simpa using h
