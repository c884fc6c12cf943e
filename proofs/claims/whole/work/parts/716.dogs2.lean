theorem dg_be {x n : Nat} (hx : x < 2 ^ 31) (hn : n < 2 ^ 31) : xm_beginning (nI x) (nI n) = some (nI (dg_b x n)) := by
  unfold xm_beginning
  rw [pu_letE, dg_lc hx]
  exact dg_cut hx hn
theorem dg_ble (x n : Nat) : dg_b x n ≤ x := dg_dle x _
theorem dg_sh {x y : Nat} (x1 : x ≤ 9999) (y1 : y ≤ 9999) : ∃ s, dg_S x y s ∧ xm_sharedLetters (nI x) (nI y) = some (nI s) := by
  unfold xm_sharedLetters
  have lx := dg_lr x
  have ly := dg_lr y
  rw [pu_letE, dg_lc (by omega), dg_lc (by omega), dr_mnI (by omega) (by omega)]
  obtain ⟨e, r1, s, r2, rfl⟩ := pu_one (f := fun (s4 : Int32) => ((
    if nI (min (dg_l x) (dg_l y)) < s4 then (
      some (.inr (nI (min (dg_l x) (dg_l y)))))
    else (
      (xm_beginning (nI x) s4).bind fun p5 =>
      (xm_beginning (nI y) s4).bind fun p6 =>
      if p5 = p6 then (
        am_let (s4 + 1 : Int32) fun t7 =>
        some (.inl t7))
      else (
        some (.inr (s4 - 1))))) : Option ((Int32) ⊕ (Int32)))) (fun k s => s = nI (k + 1) ∧ ∀ n, 1 ≤ n → n ≤ k → dg_b x n = dg_b y n) (fun e => ∃ s, dg_S x y s ∧ e = nI s) (min (dg_l x) (dg_l y)) (s := 1) ⟨rfl, fun n h1 h2 => by omega⟩ (by
    rintro k s hk ⟨rfl, K⟩
    have bx := dg_ble x (k + 1)
    have by' := dg_ble y (k + 1)
    rw [if_neg (nI_nlt (by omega) (by omega)), dg_be (by omega) (by omega), pu_bs, dg_be (by omega) (by omega), pu_bs]
    by_cases c : dg_b x (k + 1) = dg_b y (k + 1)
    · rw [c, if_pos rfl, pu_letE, nI_1]
      refine Or.inl ⟨_, rfl, rfl, fun n h1 h2 => ?_⟩
      by_cases he : n = k + 1
      · rw [he]; exact c
      · exact K n h1 (by omega)
    · rw [if_neg (fun z => c (pu_nIinj (by omega) (by omega) z)), nI_pred]
      exact Or.inr ⟨_, rfl, k, ⟨by omega, by omega, K, fun _ _ => c⟩, rfl⟩) (by
    rintro s ⟨rfl, K⟩
    rw [if_pos (nI_lt (by omega) (by omega))]
    exact ⟨_, rfl, _, ⟨by omega, by omega, K, fun h1 h2 => by omega⟩, rfl⟩) (by omega)
  exact ⟨s, r2, r1⟩
def dg_T (i j i' k : Nat) : Prop := k < i' ∧ (i' < i ∨ (i' = i ∧ k < j))
def dg_I (A : Nat → Nat) (i j M : Nat) : Prop := (∀ i' k, dg_T i j i' k → ¬ A i' = A k) ∧ (∀ m, 1 ≤ m → M ≤ m → ∀ i' k, dg_T i j i' k → ¬ dg_f (A i') m = dg_f (A k) m) ∧ (∀ m, 1 ≤ m → m < M → ∃ i' k, dg_T i j i' k ∧ dg_f (A i') m = dg_f (A k) m) ∧ M ≤ 5 ∧ (1 ≤ M → ∃ i' k, dg_T i j i' k) ∧ (∀ i' k, dg_T i j i' k → 1 ≤ M)
theorem dg_Is {A : Nat → Nat} {i j M s : Nat} (I : dg_I A i j M) (hj : j < i) (hA : ∀ n, n ≤ i → 1 ≤ A n ∧ A n ≤ 9999) (hne : ¬ A i = A j) (S : dg_S (A i) (A j) s) : dg_I A i (j + 1) (max M (1 + s)) := by
  obtain ⟨i1, i2, i3, i4, i5, i6⟩ := I
  have hf := fun m (hm : 1 ≤ m) => dg_fS (hA i (Nat.le_refl _)).1 (hA i (Nat.le_refl _)).2 (hA j (by omega)).1 (hA j (by omega)).2 hne S hm
  have hs := (dg_lr (A i)).2
  have hs2 := S.1
  have T : ∀ i' k, dg_T i (j + 1) i' k → dg_T i j i' k ∨ (i' = i ∧ k = j) := fun i' k h => by
    obtain ⟨h1, h2 | ⟨h2, h3⟩⟩ := h
    · exact Or.inl ⟨h1, Or.inl h2⟩
    · by_cases he : k = j
      · exact Or.inr ⟨h2, he⟩
      · exact Or.inl ⟨h1, Or.inr ⟨h2, by omega⟩⟩
  have T0 : dg_T i (j + 1) i j := ⟨hj, Or.inr ⟨rfl, by omega⟩⟩
  have T1 : ∀ i' k, dg_T i j i' k → dg_T i (j + 1) i' k := fun i' k h => ⟨h.1, h.2.elim Or.inl (fun z => Or.inr ⟨z.1, by omega⟩)⟩
  refine ⟨fun i' k h => ?_, fun m h1 h2 i' k h => ?_, fun m h1 h2 => ?_, by omega, fun _ => ⟨i, j, T0⟩, fun _ _ _ => by omega⟩
  · rcases T i' k h with h | ⟨rfl, rfl⟩
    · exact i1 i' k h
    · exact hne
  · rcases T i' k h with h | ⟨rfl, rfl⟩
    · exact i2 m h1 (by omega) i' k h
    · intro e
      have := (hf m h1).mp e
      omega
  · by_cases hm : m < M
    · obtain ⟨i', k, z1, z2⟩ := i3 m h1 hm
      exact ⟨i', k, T1 i' k z1, z2⟩
    · exact ⟨i, j, T0, (hf m h1).mpr (by omega)⟩
theorem dg_In {A : Nat → Nat} {i M : Nat} (I : dg_I A i i M) : dg_I A (i + 1) 0 M := by
  have e : ∀ i' k, dg_T i i i' k ↔ dg_T (i + 1) 0 i' k := fun i' k => by
    unfold dg_T
    constructor
    · rintro ⟨h1, h2 | ⟨h2, h3⟩⟩
      · exact ⟨h1, Or.inl (by omega)⟩
      · exact ⟨h1, Or.inl (by omega)⟩
    · rintro ⟨h1, h2 | ⟨h2, h3⟩⟩
      · by_cases he : i' = i
        · exact ⟨h1, Or.inr ⟨he, by omega⟩⟩
        · exact ⟨h1, Or.inl (by omega)⟩
      · omega
  unfold dg_I at I ⊢
  simp only [e] at I
  exact I
theorem dg_x0 {f : Nat → Nat → Int32} {A : Nat → Nat} {z : Nat} (hz : z ≤ 8) (e1 : f 48 0 = nI z) (hA : ∀ i, i < z → 1 ≤ A i ∧ A i ≤ 9999 ∧ f 49 i = nI (A i)) : ∃ e, xm_lettersNeeded_48 f = some e ∧ ((e = -1 ∧ ∃ i' k, dg_T z 0 i' k ∧ A i' = A k) ∨ ∃ M, e = nI M ∧ dg_I A z 0 M) := by
  unfold xm_lettersNeeded_48
  refine pu_one (fun i s => ∃ M, s = (nI M, nI i) ∧ dg_I A i 0 M) _ z ⟨0, rfl, fun i' k h => by have := h.1; have := h.2; omega, fun m _ _ i' k h => by have := h.1; have := h.2; omega, fun m h1 h2 => by omega, by omega, fun h => by omega, fun i' k h => by have := h.1; have := h.2; omega⟩ ?_ ?_
  · rintro i s hi ⟨M, rfl, I⟩
    have hi8 : am_in (nI i) 8 = true := pu_in (by omega) (by omega)
    have X := pu_one (f := fun (s2 : Int32 × Int32) => ((
        if s2.2 < nI i then (
          if am_in (nI i) 8 = true then (
          if am_in s2.2 8 = true then (
          if f 49 (nI i).toNatClampNeg = f 49 s2.2.toNatClampNeg then (
            some (.inr (.inl (-1))))
          else (
            if am_in (nI i) 8 = true then (
            if am_in s2.2 8 = true then (
            (xm_sharedLetters (f 49 (nI i).toNatClampNeg) (f 49 s2.2.toNatClampNeg)).bind fun p3 =>
            am_let ((am_max s2.1 (1 + p3)) : Int32) fun t4 =>
            am_let (s2.2 + 1 : Int32) fun t5 =>
            some (.inl (t4, t5))) else none) else none)) else none) else none)
        else (
          some (.inr (.inr s2.1)))) : Option ((Int32 × Int32) ⊕ ((Int32) ⊕ (Int32)))))
      (fun j s => ∃ M, s = (nI M, nI j) ∧ dg_I A i j M) (fun (e : Int32 ⊕ Int32) => (e = Sum.inl (-1) ∧ ∃ k, k < i ∧ A i = A k) ∨ ∃ M, e = Sum.inr (nI M) ∧ dg_I A i i M) i (s := (nI M, 0)) ⟨M, rfl, I⟩ (by
      rintro j s hj ⟨M, rfl, I⟩
      have hj8 : am_in (nI j) 8 = true := pu_in (by omega) (by omega)
      obtain ⟨a1, a2, a3⟩ := hA i hi
      obtain ⟨b1, b2, b3⟩ := hA j (by omega)
      have hM := I.2.2.2.1
      dsimp only
      simp only [show nI j < nI i from nI_lt hj (by omega), hi8, hj8, if_true, nI_clamp (show i < 2 ^ 31 by omega), nI_clamp (show j < 2 ^ 31 by omega), a3, b3]
      by_cases c : A i = A j
      · rw [if_pos (by rw [c])]
        exact Or.inr ⟨_, rfl, Or.inl ⟨rfl, j, hj, c⟩⟩
      · obtain ⟨s, s1, s2⟩ := dg_sh (x := A i) (y := A j) a2 b2
        have hs := (dg_lr (A i)).2
        have hs2 := s1.1
        rw [if_neg (fun z => c (pu_nIinj (by omega) (by omega) z)), s2, pu_bs, pu_letE, pu_letE, nI_1, show (1 : Int32) = nI 1 from rfl, nI_add, am_mx, dr_mxI (by omega) (by omega)]
        exact Or.inl ⟨_, rfl, _, rfl, dg_Is I hj (fun n hn => ⟨(hA n (by omega)).1, (hA n (by omega)).2.1⟩) c s1⟩) (by
      rintro s ⟨M, rfl, I⟩
      dsimp only
      rw [if_neg (nI_nlt (Nat.le_refl _) (by omega))]
      exact ⟨_, rfl, Or.inr ⟨M, rfl, I⟩⟩) (by omega)
    obtain ⟨e, r1, r2⟩ := X
    dsimp only
    rw [e1, if_pos (nI_lt hi (by omega)), r1, pu_bs]
    rcases r2 with ⟨rfl, k, hk, hA2⟩ | ⟨M', rfl, I'⟩
    · exact Or.inr ⟨_, rfl, Or.inl ⟨rfl, i, k, ⟨hk, Or.inl hi⟩, hA2⟩⟩
    · refine Or.inl ⟨(nI M', nI (i + 1)), by rw [← nI_1]; rfl, M', rfl, dg_In I'⟩
  · rintro s ⟨M, rfl, I⟩
    dsimp only
    rw [e1, if_neg (nI_nlt (Nat.le_refl _) (by omega))]
    exact ⟨_, rfl, Or.inr ⟨M, rfl, I⟩⟩
theorem dg_fl {x m : Nat} (h : x ≤ 9999) : dg_f x m ≤ 109999 := by
  unfold dg_f
  by_cases c : dg_l x < m
  · rw [if_pos c]; omega
  · rw [if_neg c]
    have := dg_ble x m
    omega
theorem dg_fo {g : Nat → Nat → Int32} {A : Nat → Nat} {i m : Nat} (hi : i < 8) (hA : A i ≤ 9999 ∧ g 217 (507 + i) = nI (A i)) (hm : m < 2 ^ 31) : m_firstOf (nI i) (nI m) g = some (nI (dg_f (A i) m)) := by
  unfold m_firstOf
  have a1 : (507 : Int32) + nI i = nI (507 + i) := nI_add 507 i
  have c1 : am_in (nI (507 + i)) 2008 = true := pu_in (by omega) (by omega)
  have hl := dg_lr (A i)
  rw [a1, if_pos c1, pu_letE, pu_letE, nI_clamp (by omega), hA.2, dg_lm, dg_lc (by omega)]
  unfold dg_f
  by_cases c : dg_l (A i) < m
  · rw [if_pos c, if_pos (nI_lt c hm), show (100000 : Int32) = nI 100000 from rfl, nI_add]
  · rw [if_neg c, if_neg (nI_nlt (by omega) (by omega))]
    exact dg_cut (by omega) hm
theorem dg_ap {g : Nat → Nat → Int32} {A : Nat → Nat} {z m : Nat} (hz : z ≤ 8) (e1 : g 217 506 = nI z) (hA : ∀ i, i < z → A i ≤ 9999 ∧ g 217 (507 + i) = nI (A i)) (hm : m < 2 ^ 31) : ∃ b, m_areApartBy (nI m) g = some b ∧ (b = true ↔ ∀ i' k, dg_T z 0 i' k → ¬ dg_f (A i') m = dg_f (A k) m) := by
  unfold m_areApartBy
  refine pu_one (fun i s => s = nI i ∧ ∀ i' k, dg_T i 0 i' k → ¬ dg_f (A i') m = dg_f (A k) m) (fun b => b = true ↔ ∀ i' k, dg_T z 0 i' k → ¬ dg_f (A i') m = dg_f (A k) m) z ⟨rfl, fun i' k h => by have := h.1; have := h.2; omega⟩ ?_ ?_
  · rintro i s hi ⟨rfl, K⟩
    have X := pu_one (f := fun (s2 : Int32) => ((
        if s2 < nI i then (
          (m_firstOf (nI i) (nI m) g).bind fun p3 =>
          (m_firstOf s2 (nI m) g).bind fun p4 =>
          if p3 = p4 then (
            some (.inr (.inl false)))
          else (
            am_let (s2 + 1 : Int32) fun t5 =>
            some (.inl t5)))
        else (
          some (.inr (.inr ())))) : Option ((Int32) ⊕ ((Bool) ⊕ (Unit)))))
      (fun j s => s = nI j ∧ ∀ k, k < j → ¬ dg_f (A i) m = dg_f (A k) m) (fun (e : Bool ⊕ Unit) => (e = Sum.inl false ∧ ∃ k, k < i ∧ dg_f (A i) m = dg_f (A k) m) ∨ (e = Sum.inr () ∧ ∀ k, k < i → ¬ dg_f (A i) m = dg_f (A k) m)) i (s := 0) ⟨rfl, fun k hk => absurd hk (Nat.not_lt_zero _)⟩ (by
      rintro j s hj ⟨rfl, M⟩
      have l1 := dg_fl (x := A i) (m := m) (hA i hi).1
      have l2 := dg_fl (x := A j) (m := m) (hA j (by omega)).1
      rw [if_pos (nI_lt hj (by omega)), dg_fo (by omega) (hA i hi) hm, pu_bs, dg_fo (by omega) (hA j (by omega)) hm, pu_bs]
      by_cases c : dg_f (A i) m = dg_f (A j) m
      · rw [if_pos (by rw [c])]
        exact Or.inr ⟨_, rfl, Or.inl ⟨rfl, j, hj, c⟩⟩
      · rw [if_neg (fun z => c (pu_nIinj (by omega) (by omega) z)), pu_letE, nI_1]
        refine Or.inl ⟨_, rfl, rfl, fun k hk => ?_⟩
        by_cases he : k = j
        · rw [he]; exact c
        · exact M k (by omega)) (by
      rintro s ⟨rfl, M⟩
      rw [if_neg (nI_nlt (Nat.le_refl _) (by omega))]
      exact ⟨_, rfl, Or.inr ⟨rfl, M⟩⟩) (by omega)
    obtain ⟨e, r1, r2⟩ := X
    rw [e1, if_pos (nI_lt hi (by omega)), r1, pu_bs]
    rcases r2 with ⟨rfl, k, hk, q⟩ | ⟨rfl, q⟩
    · refine Or.inr ⟨false, rfl, ?_⟩
      constructor
      · intro e; cases e
      · intro e
        exact absurd q (e i k ⟨hk, Or.inl hi⟩)
    · refine Or.inl ⟨nI (i + 1), by rw [← nI_1]; rfl, rfl, fun i' k h => ?_⟩
      obtain ⟨h1, h2 | ⟨h2, h3⟩⟩ := h
      · by_cases he : i' = i
        · subst he
          exact q k h1
        · exact K i' k ⟨h1, Or.inl (by omega)⟩
      · omega
  · rintro s ⟨rfl, K⟩
    rw [e1, if_neg (nI_nlt (Nat.le_refl _) (by omega))]
    exact ⟨_, rfl, fun _ => K, fun _ => rfl⟩
