/-! BITS COUNTED -/
def bt_n : Nat → Nat → Nat
  | 0, _ => 0
  | k + 1, n => n % 2 + bt_n k (n / 2)
theorem bt_st : ∀ (k n : Nat), n < 2 ^ k → bt_n (k + 1) n = bt_n k n := by
  intro k
  induction k with
  | zero =>
    intro n h
    have : n = 0 := by omega
    subst this
    rfl
  | succ k ih =>
    intro n h
    show n % 2 + bt_n (k + 1) (n / 2) = n % 2 + bt_n k (n / 2)
    rw [ih (n / 2) (by rw [Nat.pow_succ] at h; omega)]
theorem bt_le : ∀ (k n : Nat), bt_n k n ≤ k := by
  intro k
  induction k with
  | zero => intro n; exact Nat.le_refl _
  | succ k ih =>
    intro n
    have := ih (n / 2)
    show n % 2 + bt_n k (n / 2) ≤ k + 1
    omega
theorem bt_and (a b : Nat) : nI a &&& nI b = nI (a &&& b) := by
  apply Int32.toBitVec_inj.mp
  rw [Int32.toBitVec_and]
  show BitVec.ofNat 32 a &&& BitVec.ofNat 32 b = BitVec.ofNat 32 (a &&& b)
  exact BitVec.ofNat_and.symm
def bt_j (S : Nat) : Nat :=
  let t1 := S - (S / 2 &&& 1431655765)
  let t2 := (t1 &&& 858993459) + (t1 / 4 &&& 858993459)
  let t3 := (t2 + t2 / 16) &&& 252645135
  let t4 := t3 + t3 / 256
  let t5 := t4 + t4 / 65536
  t5 &&& 63
theorem bt_ji {S : Nat} (h : S < 65536) : ji_bitCount (nI S) = nI (bt_j S) := by
  unfold ji_bitCount bt_j
  simp only [pu_letE]
  have i1 : S / 2 &&& 1431655765 ≤ S / 2 := Nat.and_le_left
  rw [pk_ushrN (by omega) 1 1 (by decide), show (1431655765 : Int32) = nI 1431655765 from rfl, bt_and, show S / 2 ^ 1 = S / 2 from rfl, pk_sub (by omega)]
  generalize h1 : S - (S / 2 &&& 1431655765) = t1
  have l1 : t1 < 65536 := by omega
  have i2 : t1 &&& 858993459 ≤ t1 := Nat.and_le_left
  have i3 : t1 / 4 &&& 858993459 ≤ t1 / 4 := Nat.and_le_left
  rw [pk_ushrN (show t1 < 2 ^ 32 by omega) 2 2 (by decide), show (858993459 : Int32) = nI 858993459 from rfl, bt_and, bt_and, show t1 / 2 ^ 2 = t1 / 4 from rfl, nI_add]
  generalize h2 : (t1 &&& 858993459) + (t1 / 4 &&& 858993459) = t2
  have l2 : t2 < 131072 := by omega
  have i4 : t2 + t2 / 16 &&& 252645135 ≤ t2 + t2 / 16 := Nat.and_le_left
  rw [pk_ushrN (show t2 < 2 ^ 32 by omega) 4 4 (by decide), show (252645135 : Int32) = nI 252645135 from rfl, show t2 / 2 ^ 4 = t2 / 16 from rfl, nI_add, bt_and]
  generalize h3 : t2 + t2 / 16 &&& 252645135 = t3
  have l3 : t3 < 262144 := by omega
  rw [pk_ushrN (show t3 < 2 ^ 32 by omega) 8 8 (by decide), show t3 / 2 ^ 8 = t3 / 256 from rfl, nI_add]
  generalize h4 : t3 + t3 / 256 = t4
  have l4 : t4 < 524288 := by omega
  rw [pk_ushrN (show t4 < 2 ^ 32 by omega) 16 16 (by decide), show t4 / 2 ^ 16 = t4 / 65536 from rfl, nI_add, show (63 : Int32) = nI 63 from rfl, bt_and]
theorem bt_loop {S : Nat} (h : S < 65536) : m_bitsOf (nI S) = some (nI (bt_n 16 S)) := by
  unfold m_bitsOf
  obtain ⟨e, p1, p2⟩ := pu_inv (f := fun (s1 : Int32 × Int32) => ((
    if 0 < s1.2 then (
      am_let ((s1.1 + (s1.2 &&& 1)) : Int32) fun t2 =>
      am_let ((s1.2 >>> (1 &&& 31)) : Int32) fun t3 =>
      some (.inl (t2, t3)))
    else (
      some (.inr s1.1))) : Option ((Int32 × Int32) ⊕ (Int32)))) (fun s => ∃ a l, s = (nI a, nI l) ∧ l < 65536 ∧ a + bt_n 16 l = bt_n 16 S) (fun e => e = nI (bt_n 16 S)) (fun s => s.2.toNatClampNeg) (by
      rintro s ⟨a, l, rfl, hl, hs⟩
      dsimp only
      by_cases h0 : l = 0
      · subst h0
        rw [if_neg (by decide)]
        refine Or.inr ⟨_, rfl, ?_⟩
        have : bt_n 16 0 = 0 := rfl
        rw [this] at hs
        rw [← hs]
        rfl
      · rw [if_pos (show (0 : Int32) < nI l from nI_lt (a := 0) (by omega) (by omega)), pu_letE, pu_letE, pk_andN (by omega) (m := 1) 1 (by decide), pk_shrN (by omega) (1 &&& 31) 1 (by decide), nI_add]
        refine Or.inl ⟨_, rfl, ⟨_, _, rfl, ?_, ?_⟩, ?_⟩
        · show l / 2 < 65536
          omega
        · have e1 : bt_n 16 l = l % 2 + bt_n 15 (l / 2) := rfl
          have e2 : bt_n 16 (l / 2) = bt_n 15 (l / 2) := bt_st 15 (l / 2) (by show l / 2 < 32768; omega)
          show a + l % 2 + bt_n 16 (l / 2) = _
          omega
        · show (nI (l / 2 ^ 1)).toNatClampNeg < (nI l).toNatClampNeg
          rw [nI_clamp (show l / 2 ^ 1 < 2 ^ 31 by omega), nI_clamp (by omega)]
          omega) am_F (0, nI S) ⟨0, S, rfl, h, by omega⟩ (by
      show (nI S).toNatClampNeg < 1000000
      rw [nI_clamp (by omega)]
      omega)
  rw [p2] at p1
  exact p1
