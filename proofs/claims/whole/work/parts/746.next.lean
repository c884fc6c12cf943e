/-! TOKENS: where they start and end, what they are, on both sides -/
def tx_e (n : Nat) (b : Nat → Nat) (st : Nat) : Nat := if n ≤ st then st else if lx_L (b st) = true then lx_e n b lx_L st else if lx_D (b st) = true then lx_e n b lx_D st else st + 1
def tx_V (n : Nat) (b : Nat → Nat) (k st : Nat) : Nat × Int32 :=
  if n ≤ st then (0, -1) else if lx_L (b st) = true then (if kw_f (kw_m b st (lx_e n b lx_L st)) (kw_W k) 0 = -1 then 4 else 1, kw_f (kw_m b st (lx_e n b lx_L st)) (kw_W k) 0)
  else if lx_D (b st) = true then (if lx_e n b lx_D st - st ≤ 4 then (2, nI (lx_v b st (lx_e n b lx_D st - st))) else (4, -1))
  else (if lx_S (b st) = true then 3 else 4, nI (b st))
def tx_R (k : Nat) (V : Nat × Int32) (G : Nat → Nat → Int32) : Prop :=
  (V.1 = 0 ∧ G 216 18 = 0) ∨ (V.1 = 1 ∧ ∃ i, i < (kw_W k).length ∧ V.2 = nI i ∧ G 216 18 = nI (kw_c k i)) ∨ (V.1 = 2 ∧ ∃ v, v ≤ 9999 ∧ V.2 = nI v ∧ G 216 18 = 2 ∧ G 216 20 = nI v) ∨
  (V.1 = 3 ∧ ∃ c, c < 256 ∧ lx_S c = true ∧ V.2 = nI c ∧ G 216 18 = nI (100 + c)) ∨ (V.1 = 4 ∧ G 216 18 = 1)
def tx_fm (G G' : Nat → Nat → Int32) : Prop := (∀ a, a ≠ 216 → G' a = G a) ∧ ∀ j, j ≠ 17 → j ≠ 18 → j ≠ 19 → j ≠ 20 → G' 216 j = G 216 j
theorem tx_fm.tr {G G' G'' : Nat → Nat → Int32} (h : tx_fm G G') (h' : tx_fm G' G'') : tx_fm G G'' :=
  ⟨fun a ha => (h'.1 a ha).trans (h.1 a ha), fun j a1 a2 a3 a4 => (h'.2 j a1 a2 a3 a4).trans (h.2 j a1 a2 a3 a4)⟩
theorem tx_fm.rf {G : Nat → Nat → Int32} : tx_fm G G := ⟨fun _ _ => rfl, fun _ _ _ _ _ => rfl⟩
theorem tx_fm.up {G G' : Nat → Nat → Int32} (h : tx_fm G G') {j : Nat} (hj : 17 ≤ j ∧ j ≤ 20) (v : Int32) : tx_fm G (am_up G' 216 j v) :=
  ⟨fun a ha => by rw [pu_up_ne _ _ ha]; exact h.1 a ha, fun i a1 a2 a3 a4 => by rw [pu_up_row, pu_upd_ne _ _ (by omega)]; exact h.2 i a1 a2 a3 a4⟩
theorem tx_fm.T {n : Nat} {b : Nat → Nat} {G G' : Nat → Nat → Int32} (h : tx_fm G G') (T : md_T n b G) : md_T n b G' := T.to (h.2 16 (by omega) (by omega) (by omega) (by omega)) (h.1 224 (by omega))
theorem tx_Bc {n : Nat} {b : Nat → Nat} (hb : ∀ i, i < n → b i < 256) (q : Nat) : (md_c n b q = 32 ∨ md_c n b q = 10) ↔ q < n ∧ lx_B (b q) = true := by
  have e1 := md_eq hb q 32 (by omega)
  have e2 := md_eq hb q 10 (by omega)
  unfold lx_B
  rw [Bool.or_eq_true, decide_eq_true_eq, decide_eq_true_eq]
  constructor
  · rintro (h | h)
    · exact ⟨(e1.mp h).1, Or.inl (e1.mp h).2⟩
    · exact ⟨(e2.mp h).1, Or.inr (e2.mp h).2⟩
  · rintro ⟨h, (h' | h')⟩
    · exact Or.inl (e1.mpr ⟨h, h'⟩)
    · exact Or.inr (e2.mpr ⟨h, h'⟩)
theorem tx_blank {n : Nat} {b : Nat → Nat} {G : Nat → Nat → Int32} (T : md_T n b G) {p : Nat} (hp : p ≤ n) (h17 : G 216 17 = nI p) : ∃ G', am_loop (fun (s1 : (Nat → Nat → Int32)) => ((
    (m_see (s1 216 17) s1).bind fun p2 =>
    if p2 = 32 then (
      am_let (am_up s1 216 17 ((s1 216 17) + 1) : Nat → Nat → Int32) fun f3 =>
      some (.inl f3))
    else (
      (m_see (s1 216 17) s1).bind fun p4 =>
      if p4 = 10 then (
        am_let (am_up s1 216 17 ((s1 216 17) + 1) : Nat → Nat → Int32) fun f5 =>
        some (.inl f5))
      else (
        some (.inr s1)))) : Option (((Nat → Nat → Int32)) ⊕ ((Nat → Nat → Int32))))) am_F G = some G' ∧ tx_fm G G' ∧ G' 216 17 = nI (lx_e n b lx_B p) := by
  have hn := T.1
  have hb : ∀ i, i < n → b i < 256 := fun i hi => (T.2.2 i hi).1
  obtain ⟨i1, i2, i3, i4⟩ := lx_eF (b := b) lx_B hp
  refine pu_one (fun i s => tx_fm G s ∧ s 216 17 = nI (p + i)) _ (lx_e n b lx_B p - p) ⟨tx_fm.rf, h17⟩ ?_ ?_
  · rintro i s hi ⟨K1, K2⟩
    left
    have hs := (tx_Bc hb (p + i)).mpr ⟨by omega, i3 _ (by omega) (by omega)⟩
    simp only [K2, md_see (K1.T T) (show p + i ≤ n by omega), pu_bs, pu_letE, nI_1]
    rcases hs with h | h
    · exact ⟨_, by rw [if_pos h], K1.up (by omega) _, by rw [pu_up_row, pu_upd_eq]; rfl⟩
    · by_cases h' : md_c n b (p + i) = 32
      · exact ⟨_, by rw [if_pos h'], K1.up (by omega) _, by rw [pu_up_row, pu_upd_eq]; rfl⟩
      · exact ⟨_, by rw [if_neg h', if_pos h], K1.up (by omega) _, by rw [pu_up_row, pu_upd_eq]; rfl⟩
  · rintro s ⟨K1, K2⟩
    rw [show p + (lx_e n b lx_B p - p) = lx_e n b lx_B p by omega] at K2
    have hs : ¬ _ := fun z => i4 ((tx_Bc hb (lx_e n b lx_B p)).mp z)
    simp only [K2, md_see (K1.T T) i2, pu_bs]
    exact ⟨s, by rw [if_neg (fun z => hs (Or.inl z)), if_neg (fun z => hs (Or.inr z))], K1, K2⟩
theorem tx_letters {n : Nat} {b : Nat → Nat} {G : Nat → Nat → Int32} (T : md_T n b G) {p : Nat} (hp : p ≤ n) (h17 : G 216 17 = nI p) : ∃ G', am_loop (fun (s11 : (Nat → Nat → Int32)) => ((
        (m_see (s11 216 17) s11).bind fun p12 =>
        if (m_isLetter p12) = true then (
          am_let (am_up s11 216 17 ((s11 216 17) + 1) : Nat → Nat → Int32) fun f14 =>
          some (.inl f14))
        else (
          some (.inr s11))) : Option (((Nat → Nat → Int32)) ⊕ ((Nat → Nat → Int32))))) am_F G = some G' ∧ tx_fm G G' ∧ G' 216 17 = nI (lx_e n b lx_L p) ∧ G' 216 19 = G 216 19 := by
  have hn := T.1
  have hb : ∀ i, i < n → b i < 256 := fun i hi => (T.2.2 i hi).1
  obtain ⟨i1, i2, i3, i4⟩ := lx_eF (b := b) lx_L hp
  refine pu_one (fun i s => tx_fm G s ∧ s 216 17 = nI (p + i) ∧ s 216 19 = G 216 19) _ (lx_e n b lx_L p - p) ⟨tx_fm.rf, h17, rfl⟩ ?_ ?_
  · rintro i s hi ⟨K1, K2, K3⟩
    left
    have hs := (md_L hb (p + i)).mpr ⟨by omega, i3 _ (by omega) (by omega)⟩
    simp only [K2, md_see (K1.T T) (show p + i ≤ n by omega), pu_bs, pu_letE, nI_1]
    exact ⟨_, by rw [if_pos hs], K1.up (by omega) _, by rw [pu_up_row, pu_upd_eq]; rfl, by rw [pu_up_row, pu_upd_ne _ _ (by omega)]; exact K3⟩
  · rintro s ⟨K1, K2, K3⟩
    rw [show p + (lx_e n b lx_L p - p) = lx_e n b lx_L p by omega] at K2
    simp only [K2, md_see (K1.T T) i2, pu_bs]
    exact ⟨s, by rw [if_neg (fun z => i4 ((md_L hb _).mp z))], K1, K2, K3⟩
theorem tx_digits {n : Nat} {b : Nat → Nat} {G : Nat → Nat → Int32} (T : md_T n b G) {p : Nat} (hp : p ≤ n) (h17 : G 216 17 = nI p) (h19 : G 216 19 = nI p) (h20 : G 216 20 = 0) : ∃ G', am_loop (fun (s20 : (Nat → Nat → Int32)) => ((
          (m_see (s20 216 17) s20).bind fun p21 =>
          if (m_isDigit p21) = true then (
            ((if s20 216 17 < ((s20 216 19) + 4) then (
                (m_see (s20 216 17) s20).bind fun p23 =>
                am_let (am_up s20 216 20 (((10 * (s20 216 20)) + p23) - 48) : Nat → Nat → Int32) fun f24 =>
                some f24)
              else (
                some s20)) : Option ((Nat → Nat → Int32))).bind fun t25 =>
            am_let (am_up t25 216 17 ((t25 216 17) + 1) : Nat → Nat → Int32) fun f26 =>
            some (.inl f26))
          else (
            some (.inr s20))) : Option (((Nat → Nat → Int32)) ⊕ ((Nat → Nat → Int32))))) am_F G = some G' ∧ tx_fm G G' ∧ G' 216 17 = nI (lx_e n b lx_D p) ∧ G' 216 19 = nI p ∧ (lx_e n b lx_D p - p ≤ 4 → G' 216 20 = nI (lx_v b p (lx_e n b lx_D p - p))) := by
  have hn := T.1
  have hb : ∀ i, i < n → b i < 256 := fun i hi => (T.2.2 i hi).1
  obtain ⟨i1, i2, i3, i4⟩ := lx_eF (b := b) lx_D hp
  refine pu_one (fun i s => tx_fm G s ∧ s 216 17 = nI (p + i) ∧ s 216 19 = nI p ∧ (i ≤ 4 → s 216 20 = nI (lx_v b p i))) _ (lx_e n b lx_D p - p) ⟨tx_fm.rf, h17, h19, fun _ => h20⟩ ?_ ?_
  · rintro i s hi ⟨K1, K2, K3, K4⟩
    left
    have hd := i3 (p + i) (by omega) (by omega)
    have hs := (md_D hb (p + i)).mpr ⟨by omega, hd⟩
    have e4 : nI p + 4 = nI (p + 4) := nI_add p 4
    have ec : md_c n b (p + i) = nI (b (p + i)) := by
      unfold md_c
      rw [if_pos (by omega)]
    simp only [K2, K3, md_see (K1.T T) (show p + i ≤ n by omega), pu_bs, pu_letE, if_pos hs, e4]
    by_cases c : i < 4
    · have l4 : nI (p + i) < nI (p + 4) := nI_lt (by omega) (by omega)
      simp only [if_pos l4, pu_bs, K4 (by omega), ec, lx_vs hd]
      refine ⟨_, rfl, (K1.up (by omega) _).up (by omega) _, ?_, ?_, fun _ => ?_⟩
      · rw [pu_up_row, pu_upd_eq, pu_up_row, pu_upd_ne _ _ (by omega), K2, nI_1]
        rfl
      · rw [pu_up_row, pu_upd_ne _ _ (by omega), pu_up_row, pu_upd_ne _ _ (by omega)]
        exact K3
      · rw [pu_up_row, pu_upd_ne _ _ (by omega), pu_up_row, pu_upd_eq]
    · have l4 : ¬ nI (p + i) < nI (p + 4) := nI_nlt (by omega) (by omega)
      simp only [if_neg l4, pu_bs]
      refine ⟨_, rfl, K1.up (by omega) _, ?_, ?_, fun _ => by omega⟩
      · rw [pu_up_row, pu_upd_eq, K2, nI_1]
        rfl
      · rw [pu_up_row, pu_upd_ne _ _ (by omega)]
        exact K3
  · rintro s ⟨K1, K2, K3, K4⟩
    rw [show p + (lx_e n b lx_D p - p) = lx_e n b lx_D p by omega] at K2
    simp only [K2, md_see (K1.T T) i2, pu_bs]
    exact ⟨s, by rw [if_neg (fun z => i4 ((md_D hb _).mp z))], K1, K2, K3, K4⟩
