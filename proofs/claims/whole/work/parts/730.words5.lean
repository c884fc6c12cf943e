theorem wo_fe {F : Nat → Nat → Int32} {PP : Nat → Nat → Nat} {T : Nat → Nat} {L : Nat} (h1 : 1 ≤ L) (hL : L < 256) (hP : ∀ t n, t < 16 → n < 11 → F 146 (t * 11 + n) = nI (PP t n)) (hT : ∀ s, s < L → T s ≤ s ∧ F 144 s = nI (T s)) :
    xm_fewestFor (nI L) F = some (nI (if L &&& (L - 1) = 0 then 0 else dr_m (fun t => wo_A (PP t) T L) 0 16)) := by
  unfold xm_fewestFor
  have e1 : nI L &&& (nI L - 1) = nI (L &&& (L - 1)) := by rw [show (1 : Int32) = nI 1 from rfl, pk_sub h1, bt_and]
  have hle : L &&& (L - 1) ≤ L := Nat.and_le_left
  rw [e1]
  by_cases c : L &&& (L - 1) = 0
  · rw [if_pos c, c, if_pos (show nI 0 = 0 from rfl)]
    rfl
  · rw [if_neg c, if_neg (nI_ne0 (by omega) (by omega))]
    refine pu_for (fun t => (nI (dr_m (fun t => wo_A (PP t) T L) 0 t), nI t)) 16 rfl (fun t ht => ?_) ?_
    · have l1 := dr_m_le (fun t => wo_A (PP t) T L) 0 t
      have l2 := wo_Al (P := PP t) (T := T) h1 (fun s hs => (hT s hs).1)
      have em : dr_m (fun t => wo_A (PP t) T L) 0 (t + 1) = min (dr_m (fun t => wo_A (PP t) T L) 0 t) (wo_A (PP (0 + t)) T L) := rfl
      rw [Nat.zero_add] at em
      dsimp only
      rw [if_pos (show nI t < (16 : Int32) from nI_lt (b := 16) ht (by omega)), wo_wa ht h1 hL (fun n hn => hP t n ht hn) hT, pu_bs, pu_letE, pu_letE, nI_1, dr_mnI (by omega) (by omega), em]
    · dsimp only
      rw [if_neg (show ¬ nI 16 < (16 : Int32) by decide)]
theorem wo_Mcg {P T T' : Nat → Nat} {L : Nat} (h : ∀ s, s < L → T' s = T s) : ∀ n, ¬ wo_E P L n = true → wo_M P T' L n = wo_M P T L n := by
  intro n
  induction n with
  | zero => intro _; rfl
  | succ n ih =>
    intro hE
    have hE : ¬ (wo_E P L n || decide (L &&& P n = L)) = true := hE
    have h1 : ¬ wo_E P L n = true := fun z => hE (by rw [z]; rfl)
    have h2 : ¬ L &&& P n = L := fun z => hE (by rw [decide_eq_true z, Bool.or_true])
    have hle : L &&& P n ≤ L := Nat.and_le_left
    show max (wo_M P T' L n) (T' (L &&& P n)) = max (wo_M P T L n) (T (L &&& P n))
    rw [ih h1, h _ (by omega)]
theorem wo_Acg {P T T' : Nat → Nat} {L : Nat} (h : ∀ s, s < L → T' s = T s) : wo_A P T' L = wo_A P T L := by
  unfold wo_A
  by_cases c : wo_E P L 11 = true
  · rw [if_pos c, if_pos c]
  · rw [if_neg c, if_neg c, wo_Mcg h 11 c]
def wo_w (PP : Nat → Nat → Nat) (T : Nat → Nat) (L : Nat) : Nat := if L &&& (L - 1) = 0 then 0 else dr_m (fun t => wo_A (PP t) T L) 0 16
theorem wo_wcg {PP : Nat → Nat → Nat} {T T' : Nat → Nat} {L : Nat} (h : ∀ s, s < L → T' s = T s) : wo_w PP T' L = wo_w PP T L := by
  unfold wo_w
  rw [show (fun t => wo_A (PP t) T' L) = (fun t => wo_A (PP t) T L) from funext fun t => wo_Acg h]
theorem wo_one0 : (List.range 256).all (fun L => decide (L = 0) || (decide (bt_n 16 L = 1) == decide (L &&& (L - 1) = 0))) = true := by decide +kernel
theorem wo_one {L : Nat} (h1 : 1 ≤ L) (hL : L < 256) : bt_n 16 L = 1 ↔ L &&& (L - 1) = 0 := by
  have := List.all_eq_true.mp wo_one0 L (List.mem_range.mpr hL)
  rw [decide_eq_false (show ¬ L = 0 by omega), Bool.false_or, beq_iff_eq] at this
  constructor
  · intro e
    rw [decide_eq_true e] at this
    exact of_decide_eq_true this.symm
  · intro e
    rw [decide_eq_true e] at this
    exact of_decide_eq_true this
theorem wo_all : ∀ m, m < 9 → 2 ≤ m → ¬ (2 ^ m - 1) &&& (2 ^ m - 1 - 1) = 0 := by decide
/-- the least, and where -/
theorem wo_min {NN : Nat → Nat → Nat} {C T : Nat → Nat} {m L : Nat} (h1 : 1 ≤ L) (hL : L < 2 ^ m) (hL2 : L < 256) (hC : ∀ i, i < m → C i < 16) (hD : ∀ i j, i < m → j < m → i ≠ j → C i ≠ C j) (hN : ∀ c t, c < 16 → t < 16 → (c = t → NN c t = 10) ∧ (c ≠ t → NN c t ≤ 9)) (h : ¬ L &&& (L - 1) = 0) (hT : ∀ s, s < L → T s ≤ s) :
    wo_w (fun t n => wo_P (wo_Q NN C t) n m) T L = wo_A (fun n => wo_P (wo_Q NN C (dr_b (fun t => wo_A (fun n => wo_P (wo_Q NN C t) n m) T L) 0 15)) n m) T L ∧ wo_w (fun t n => wo_P (wo_Q NN C t) n m) T L ≤ L := by
  obtain ⟨t, t1, t2⟩ := wo_fin hL hL2 hC hD hN h
  have hb := (dr_bp (fun t => wo_A (fun n => wo_P (wo_Q NN C t) n m) T L) 0 15).2.2.1 t (Nat.zero_le _) (by omega)
  have hm := dr_mb (fun t => wo_A (fun n => wo_P (wo_Q NN C t) n m) T L) 0 15
  have ht : wo_A (fun n => wo_P (wo_Q NN C t) n m) T L ≤ L := by
    rcases wo_Al (P := fun n => wo_P (wo_Q NN C t) n m) (T := T) h1 hT with z | z
    · unfold wo_A at z
      rw [if_neg t2] at z
      have := wo_Ml h1 hT 11 t2
      omega
    · exact z.1
  have hb2 : wo_A (fun n => wo_P (wo_Q NN C (dr_b (fun t => wo_A (fun n => wo_P (wo_Q NN C t) n m) T L) 0 15)) n m) T L ≤ wo_A (fun n => wo_P (wo_Q NN C t) n m) T L := hb
  unfold wo_w
  rw [if_neg h]
  have hm2 : dr_m (fun t => wo_A (fun n => wo_P (wo_Q NN C t) n m) T L) 0 16 = min 1000000 (wo_A (fun n => wo_P (wo_Q NN C (dr_b (fun t => wo_A (fun n => wo_P (wo_Q NN C t) n m) T L) 0 15)) n m) T L) := hm
  rw [hm2]
  constructor
  · exact Nat.min_eq_right (by omega)
  · omega
def wo_I (NN : Nat → Nat → Nat) (C : Nat → Nat) (m : Nat) (F2 G1 : Nat → Nat → Int32) (j : Nat) (T : Nat → Nat) (F G : Nat → Nat → Int32) : Prop := T 0 = 0 ∧ (∀ s, s < j + 1 → T s ≤ s ∧ F 144 s = nI (T s) ∧ (1 ≤ s → G 228 s = nI (T s))) ∧ (∀ L, 1 ≤ L → L < j + 1 → T L = wo_w (fun t n => wo_P (wo_Q NN C t) n m) T L) ∧ (∀ a, a ≠ 144 → F a = F2 a) ∧ (∀ a, a ≠ 228 → a ≠ 229 → G a = G1 a)
theorem wo_st {g F2 G1 F G : Nat → Nat → Int32} {NN : Nat → Nat → Nat} {C T : Nat → Nat} {m j : Nat} (hm : m ≤ 8) (hj : j + 1 < 2 ^ m) (hp : 2 ^ m ≤ 256) (hC : ∀ i, i < m → C i < 16 ∧ G1 227 i = nI (C i)) (hD : ∀ i j, i < m → j < m → i ≠ j → C i ≠ C j) (hg : G1 217 = g 217)
    (hN : ∀ c t, c < 16 → t < 16 → NN c t ≤ 10 ∧ ∀ F : Nat → Nat → Int32, F 217 = g 217 → m_nearnessOf (nI (2 ^ c)) (nI t) F = some (nI (NN c t))) (hN2 : ∀ c t, c < 16 → t < 16 → (c = t → NN c t = 10) ∧ (c ≠ t → NN c t ≤ 9))
    (hP : ∀ t n, t < 16 → n < 11 → F2 146 (t * 11 + n) = nI (wo_P (wo_Q NN C t) n m)) (I : wo_I NN C m F2 G1 j T F G) :
    ∃ w G', xm_fewestFor (nI (j + 1)) F = some (nI w) ∧ ((if nI (bt_n 16 (j + 1)) = 1 then (
                  some (0, G))
                else (
                  (m_bestWord (nI (j + 1)) (nI m) G).bind fun p12 =>
                  (m_wordsBy (nI (j + 1)) (nI m) p12.1 p12.2).bind fun p13 =>
                  some (p13.1, p13.2))) : Option (Int32 × (Nat → Nat → Int32))) = some (nI w, G') ∧ wo_I NN C m F2 G1 (j + 1) (fun s => if s = j + 1 then w else T s) (am_up F 144 (j + 1) (nI w)) (am_up G' 228 (j + 1) (nI w)) := by
  obtain ⟨i1, i2, i3, i4, i5⟩ := I
  have X := wo_fe (F := F) (PP := fun t n => wo_P (wo_Q NN C t) n m) (T := T) (L := j + 1) (by omega) (by omega) (fun t n ht hn => by rw [i4 146 (by decide)]; exact hP t n ht hn) (fun s hs => ⟨(i2 s hs).1, (i2 s hs).2.1⟩)
  have X : xm_fewestFor (nI (j + 1)) F = some (nI (wo_w (fun t n => wo_P (wo_Q NN C t) n m) T (j + 1))) := X
  have h1 := wo_one (L := j + 1) (by omega) (by omega)
  have hl := bt_le 16 (j + 1)
  have W : wo_w (fun t n => wo_P (wo_Q NN C t) n m) T (j + 1) ≤ j + 1 ∧ ∃ G', ((if nI (bt_n 16 (j + 1)) = 1 then (
                  some (0, G))
                else (
                  (m_bestWord (nI (j + 1)) (nI m) G).bind fun p12 =>
                  (m_wordsBy (nI (j + 1)) (nI m) p12.1 p12.2).bind fun p13 =>
                  some (p13.1, p13.2))) : Option (Int32 × (Nat → Nat → Int32))) = some (nI (wo_w (fun t n => wo_P (wo_Q NN C t) n m) T (j + 1)), G') ∧ ∀ a, a ≠ 229 → G' a = G a := by
    by_cases c : (j + 1) &&& (j + 1 - 1) = 0
    · have e0 : wo_w (fun t n => wo_P (wo_Q NN C t) n m) T (j + 1) = 0 := by
        unfold wo_w
        rw [if_pos c]
      rw [e0, h1.mpr c, if_pos (show nI 1 = 1 from rfl)]
      exact ⟨Nat.zero_le _, G, rfl, fun _ _ => rfl⟩
    · obtain ⟨w1, w2⟩ := wo_min (NN := NN) (C := C) (T := T) (m := m) (L := j + 1) (by omega) hj (by omega) (fun i hi => (hC i hi).1) hD hN2 c (fun s hs => (i2 s hs).1)
      refine ⟨w2, ?_⟩
      rw [if_neg (show ¬ nI (bt_n 16 (j + 1)) = (1 : Int32) from fun z => c (h1.mp (pu_nIinj (b := 1) (by omega) (by omega) z)))]
      obtain ⟨Ga, b1, b2⟩ := wo_be (g := g) (G := G) (NN := NN) (C := C) (T := T) (m := m) (L := j + 1) hm (by omega) hj (by omega) (fun i hi => by rw [i5 227 (by decide) (by decide)]; exact hC i hi) (by rw [i5 217 (by decide) (by decide)]; exact hg) hN i1 (fun s hs => ⟨(i2 s hs).1, (i2 s hs).2.2⟩)
      have hb := (dr_bp (fun t => wo_A (fun n => wo_P (wo_Q NN C t) n m) T (j + 1)) 0 15).2.1
      obtain ⟨Gb, c1, c2⟩ := wo_wb (g := g) (G := Ga) (NN := NN) (C := C) (T := T) (m := m) (t := dr_b (fun t => wo_A (fun n => wo_P (wo_Q NN C t) n m) T (j + 1)) 0 15) (L := j + 1) hm (by omega) (by omega) hj (by omega) (fun i hi => by rw [b2 227 (by decide), i5 227 (by decide) (by decide)]; exact hC i hi) (by rw [b2 217 (by decide), i5 217 (by decide) (by decide)]; exact hg) hN i1 (fun s hs => ⟨(i2 s hs).1, fun z => by rw [b2 228 (by decide)]; exact (i2 s hs).2.2 z⟩)
      rw [b1, pu_bs]
      dsimp only
      rw [c1, pu_bs, wo_AB (by omega) (by omega) (fun s hs => (i2 s hs).1), ← w1, if_neg (by omega)]
      exact ⟨Gb, rfl, fun a ha => by rw [c2 a ha, b2 a ha]⟩
  obtain ⟨W1, G', W2, W3⟩ := W
  refine ⟨_, G', X, W2, ?_, fun s hs => ?_, fun L h1 h2 => ?_, fun a ha => by rw [pu_up_ne _ _ ha]; exact i4 a ha, fun a ha hb => by rw [pu_up_ne _ _ ha, W3 a hb]; exact i5 a ha hb⟩
  · show (if 0 = j + 1 then _ else T 0) = 0
    rw [if_neg (by omega)]
    exact i1
  · show (if s = j + 1 then _ else T s) ≤ s ∧ am_up F 144 (j + 1) _ 144 s = nI (if s = j + 1 then _ else T s) ∧ (1 ≤ s → am_up G' 228 (j + 1) _ 228 s = nI (if s = j + 1 then _ else T s))
    rw [pu_up_row, pu_up_row]
    by_cases he : s = j + 1
    · subst he
      rw [if_pos rfl, pu_upd_eq, pu_upd_eq]
      exact ⟨W1, rfl, fun _ => rfl⟩
    · rw [if_neg he, pu_upd_ne _ _ he, pu_upd_ne _ _ he, W3 228 (by decide)]
      exact i2 s (by omega)
  · show (if L = j + 1 then _ else T L) = _
    have hcg : wo_w (fun t n => wo_P (wo_Q NN C t) n m) (fun s => if s = j + 1 then wo_w (fun t n => wo_P (wo_Q NN C t) n m) T (j + 1) else T s) L = wo_w (fun t n => wo_P (wo_Q NN C t) n m) T L := wo_wcg fun s hs => by
      rw [if_neg (by omega)]
    rw [hcg]
    by_cases he : L = j + 1
    · subst he
      rw [if_pos rfl]
    · rw [if_neg he]
      exact i3 L h1 (by omega)
