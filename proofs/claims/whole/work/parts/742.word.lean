/-! KEYWORDS -/
def kw_w : List (List Nat) := [[8, 9, 10, 4, 5, 6, 7, 11, 12, 13, 14, 15, 16, 17, 18, 19, 20], [21, 19, 22, 23, 24, 25, 26, 27], [28, 11], [29, 16]]
def kw_W (k : Nat) : List Nat := kw_w.getD k []
def kw_at (k i : Nat) : Nat := (kw_W k).getD i 0
def kw_o (k : Nat) : Nat → Nat
  | 0 => 0
  | i + 1 => kw_o k i + am_tl (kw_at k i) + 1
theorem kw_chk : (List.range 4).all (fun k => decide (kw_o k (kw_W k).length = am_tl k + 1) && (List.range (kw_W k).length).all fun i => decide (1 ≤ am_tl (kw_at k i)) && decide (kw_o k i + am_tl (kw_at k i) ≤ am_tl k) && decide (kw_at k i < 30) && decide (4 ≤ kw_at k i) &&
    ((List.range (am_tl (kw_at k i))).all fun j => decide (am_tc k (kw_o k i + j) = am_tc (kw_at k i) j) && decide (¬ am_tc (kw_at k i) j = 32)) && (decide (kw_o k i + am_tl (kw_at k i) = am_tl k) || decide (am_tc k (kw_o k i + am_tl (kw_at k i)) = 32))) = true := by decide +kernel
theorem kw_tl : (List.range 30).all (fun k => decide (am_tl k ≤ 91) && decide (k < am_strs.length)) = true := by decide +kernel
theorem kw_tl' {k : Nat} (h : k < 30) : am_tl k ≤ 91 ∧ k < am_strs.length := by
  have := List.all_eq_true.mp kw_tl k (List.mem_range.mpr h)
  rw [Bool.and_eq_true, decide_eq_true_eq, decide_eq_true_eq] at this
  exact this
theorem kw_fact {k : Nat} (hk : k < 4) : kw_o k (kw_W k).length = am_tl k + 1 ∧ ∀ i, i < (kw_W k).length → 1 ≤ am_tl (kw_at k i) ∧ kw_o k i + am_tl (kw_at k i) ≤ am_tl k ∧ kw_at k i < 30 ∧ 4 ≤ kw_at k i ∧ (∀ j, j < am_tl (kw_at k i) → am_tc k (kw_o k i + j) = am_tc (kw_at k i) j ∧ ¬ am_tc (kw_at k i) j = 32) ∧ (kw_o k i + am_tl (kw_at k i) = am_tl k ∨ am_tc k (kw_o k i + am_tl (kw_at k i)) = 32) := by
  have h := List.all_eq_true.mp kw_chk k (List.mem_range.mpr hk)
  rw [Bool.and_eq_true, decide_eq_true_eq] at h
  refine ⟨h.1, fun i hi => ?_⟩
  have h2 := List.all_eq_true.mp h.2 i (List.mem_range.mpr hi)
  simp only [Bool.and_eq_true, decide_eq_true_eq, Bool.or_eq_true] at h2
  obtain ⟨⟨⟨⟨⟨a, b⟩, c⟩, c4⟩, d⟩, e⟩ := h2
  refine ⟨a, b, c, c4, fun j hj => ?_, e⟩
  have := List.all_eq_true.mp d j (List.mem_range.mpr hj)
  simp only [Bool.and_eq_true, decide_eq_true_eq] at this
  exact this
/-- the signs from s to e are that word -/
def kw_m (b : Nat → Nat) (s e w : Nat) : Bool := decide (e - s = am_tl w) && (List.range (am_tl w)).all fun j => decide (nI (b (s + j)) = am_tc w j)
theorem kw_mI {b : Nat → Nat} {s e w : Nat} : kw_m b s e w = true ↔ e - s = am_tl w ∧ ∀ j, j < am_tl w → nI (b (s + j)) = am_tc w j := by
  unfold kw_m
  rw [Bool.and_eq_true, decide_eq_true_eq, List.all_eq_true]
  constructor
  · rintro ⟨h1, h2⟩
    exact ⟨h1, fun j hj => of_decide_eq_true (h2 j (List.mem_range.mpr hj))⟩
  · rintro ⟨h1, h2⟩
    exact ⟨h1, fun j hj => decide_eq_true (h2 j (List.mem_range.mp hj))⟩
def kw_f (M : Nat → Bool) : List Nat → Nat → Int32
  | [], _ => -1
  | w :: r, i => if M w = true then nI i else kw_f M r (i + 1)
theorem kw_skip {k i c : Nat} (hk : k < 4) (hi : i < (kw_W k).length) (hc : c ≤ am_tl (kw_at k i)) : am_loop (fun (s6 : Int32) => ((
              if k < am_strs.length then (
              if s6 < (nI (am_tl k)) then (
                if k < am_strs.length ∧ am_in s6 (am_tl k) = true then (
                if (am_tc k s6.toNatClampNeg) = 32 then (
                  some (.inr s6))
                else (
                  am_let (s6 + 1 : Int32) fun t7 =>
                  some (.inl t7))) else none)
              else (
                some (.inr s6))) else none) : Option ((Int32) ⊕ (Int32)))) am_F (nI (kw_o k i + c)) = some (nI (kw_o k i + am_tl (kw_at k i))) := by
  obtain ⟨a1, a2, a3, a4, a5, a6⟩ := (kw_fact hk).2 i hi
  obtain ⟨l1, l2⟩ := kw_tl' (show k < 30 by omega)
  refine pu_for (fun t => nI (kw_o k i + c + t)) (am_tl (kw_at k i) - c) rfl (fun t ht => ?_) ?_
  · obtain ⟨h1, h2⟩ := a5 (c + t) (by omega)
    rw [← Nat.add_assoc] at h1
    rw [if_pos l2, if_pos (nI_lt (by omega) (by omega)), if_pos ⟨l2, pu_in (by omega) (by omega)⟩, nI_clamp (by omega), h1, if_neg h2, pu_letE, nI_1]
    rfl
  · rw [show kw_o k i + c + (am_tl (kw_at k i) - c) = kw_o k i + am_tl (kw_at k i) by omega, if_pos l2]
    by_cases h : kw_o k i + am_tl (kw_at k i) < am_tl k
    · rw [if_pos (nI_lt h (by omega)), if_pos ⟨l2, pu_in h (by omega)⟩, nI_clamp (by omega), if_pos (a6.resolve_left (by omega))]
    · rw [if_neg (nI_nlt (by omega) (by omega))]
theorem kw_in {n : Nat} {b : Nat → Nat} {F : Nat → Nat → Int32} (T : lx_T n b F) {s e k i : Nat} (h1 : s ≤ e) (h2 : e ≤ n) (hL : ∀ j, s ≤ j → j < e → lx_L (b j) = true) (hk : k < 4) (hi : i < (kw_W k).length) : ∃ c, am_loop (fun (s2 : Int32 × Int32) => ((
        if s2.2 < nI e then (
          if k < am_strs.length then (
          if s2.1 < (nI (am_tl k)) then (
            if k < am_strs.length ∧ am_in s2.1 (am_tl k) = true then (
            if am_in s2.2 400 = true then (
            if (am_tc k s2.1.toNatClampNeg) = F 124 s2.2.toNatClampNeg then (
              am_let (s2.1 + 1 : Int32) fun t3 =>
              am_let (s2.2 + 1 : Int32) fun t4 =>
              some (.inl (t3, t4)))
            else (
              some (.inr (s2.1, s2.2)))) else none) else none)
          else (
            some (.inr (s2.1, s2.2)))) else none)
        else (
          some (.inr (s2.1, s2.2)))) : Option ((Int32 × Int32) ⊕ (Int32 × Int32)))) am_F (nI (kw_o k i), nI s) = some (nI (kw_o k i + c), nI (s + c)) ∧ c ≤ am_tl (kw_at k i) ∧ s + c ≤ e ∧ (∀ j, j < c → nI (b (s + j)) = am_tc (kw_at k i) j) ∧ (s + c = e ∨ c = am_tl (kw_at k i) ∨ (c < am_tl (kw_at k i) ∧ ¬ nI (b (s + c)) = am_tc (kw_at k i) c)) := by
  obtain ⟨t1, t2, t3⟩ := T
  obtain ⟨a1, a2, a3, a4, a5, a6⟩ := (kw_fact hk).2 i hi
  obtain ⟨l1, l2⟩ := kw_tl' (show k < 30 by omega)
  obtain ⟨v, r1, c, rfl, r2⟩ := pu_one (f := fun (s2 : Int32 × Int32) => ((
        if s2.2 < nI e then (
          if k < am_strs.length then (
          if s2.1 < (nI (am_tl k)) then (
            if k < am_strs.length ∧ am_in s2.1 (am_tl k) = true then (
            if am_in s2.2 400 = true then (
            if (am_tc k s2.1.toNatClampNeg) = F 124 s2.2.toNatClampNeg then (
              am_let (s2.1 + 1 : Int32) fun t3 =>
              am_let (s2.2 + 1 : Int32) fun t4 =>
              some (.inl (t3, t4)))
            else (
              some (.inr (s2.1, s2.2)))) else none) else none)
          else (
            some (.inr (s2.1, s2.2)))) else none)
        else (
          some (.inr (s2.1, s2.2)))) : Option ((Int32 × Int32) ⊕ (Int32 × Int32)))) (fun c st => st = (nI (kw_o k i + c), nI (s + c)) ∧ c ≤ am_tl (kw_at k i) ∧ s + c ≤ e ∧ ∀ j, j < c → nI (b (s + j)) = am_tc (kw_at k i) j)
    (fun v => ∃ c, v = (nI (kw_o k i + c), nI (s + c)) ∧ c ≤ am_tl (kw_at k i) ∧ s + c ≤ e ∧ (∀ j, j < c → nI (b (s + j)) = am_tc (kw_at k i) j) ∧ (s + c = e ∨ c = am_tl (kw_at k i) ∨ (c < am_tl (kw_at k i) ∧ ¬ nI (b (s + c)) = am_tc (kw_at k i) c))) (e - s) (s := (nI (kw_o k i), nI s)) ⟨rfl, Nat.zero_le _, h1, fun j hj => absurd hj (Nat.not_lt_zero _)⟩ (by
    rintro c st hc ⟨rfl, K1, K2, K3⟩
    obtain ⟨s1, s2⟩ := t3 (s + c) (by omega)
    dsimp only
    rw [if_pos (nI_lt (by omega) (by omega)), if_pos l2]
    by_cases hl : kw_o k i + c < am_tl k
    · rw [if_pos (nI_lt hl (by omega)), if_pos ⟨l2, pu_in hl (by omega)⟩, if_pos (pu_in (by omega) (by omega)), nI_clamp (by omega), nI_clamp (by omega), s2]
      by_cases hw : c < am_tl (kw_at k i)
      · obtain ⟨g1, g2⟩ := a5 c hw
        rw [g1]
        by_cases he : nI (b (s + c)) = am_tc (kw_at k i) c
        · rw [if_pos he.symm, pu_letE, pu_letE, nI_1, nI_1]
          refine Or.inl ⟨_, rfl, rfl, by omega, by omega, fun j hj => ?_⟩
          by_cases hj2 : j = c
          · rw [hj2]; exact he
          · exact K3 j (by omega)
        · rw [if_neg (fun z => he z.symm)]
          exact Or.inr ⟨_, rfl, c, rfl, K1, K2, K3, Or.inr (Or.inr ⟨hw, he⟩)⟩
      · have hcl : c = am_tl (kw_at k i) := by omega
        have h32 : am_tc k (kw_o k i + c) = 32 := by
          rw [hcl]
          exact a6.resolve_left (by omega)
        have hlet := hL (s + c) (by omega) (by omega)
        have hne : ¬ (32 : Int32) = nI (b (s + c)) := fun z => by
          have := pu_nIinj (a := 32) (by omega) (by omega) z
          rw [← this] at hlet
          cases hlet
        rw [h32, if_neg hne]
        exact Or.inr ⟨_, rfl, c, rfl, K1, K2, K3, Or.inr (Or.inl hcl)⟩
    · rw [if_neg (nI_nlt (by omega) (by omega))]
      exact Or.inr ⟨_, rfl, c, rfl, K1, K2, K3, Or.inr (Or.inl (by omega))⟩) (by
    rintro st ⟨rfl, K1, K2, K3⟩
    dsimp only
    rw [if_neg (nI_nlt (by omega) (by omega))]
    exact ⟨_, rfl, e - s, rfl, K1, K2, K3, Or.inl (by omega)⟩) (by omega)
  exact ⟨c, r1, r2⟩
theorem kw_x {n : Nat} {b : Nat → Nat} {F : Nat → Nat → Int32} (T : lx_T n b F) {s e k : Nat} (h1 : s ≤ e) (h2 : e ≤ n) (hL : ∀ j, s ≤ j → j < e → lx_L (b j) = true) (hk : k < 4) : xt_keyword k (nI s) (nI e) F = some (kw_f (kw_m b s e) (kw_W k) 0) := by
  have hT := T.1
  have hlen : ∀ k, k < 4 → (kw_W k).length ≤ 17 := by decide
  have hlen := hlen k hk
  obtain ⟨o1, o2⟩ := kw_fact hk
  obtain ⟨l1, l2⟩ := kw_tl' (show k < 30 by omega)
  unfold xt_keyword
  obtain ⟨v, r1, rfl⟩ := pu_one (f := fun (s1 : Int32 × Int32) => ((
    if k < am_strs.length then (
    if s1.2 < (nI (am_tl k)) then (
      (am_loop (fun (s2 : Int32 × Int32) => ((
        if s2.2 < nI e then (
          if k < am_strs.length then (
          if s2.1 < (nI (am_tl k)) then (
            if k < am_strs.length ∧ am_in s2.1 (am_tl k) = true then (
            if am_in s2.2 400 = true then (
            if (am_tc k s2.1.toNatClampNeg) = F 124 s2.2.toNatClampNeg then (
              am_let (s2.1 + 1 : Int32) fun t3 =>
              am_let (s2.2 + 1 : Int32) fun t4 =>
              some (.inl (t3, t4)))
            else (
              some (.inr (s2.1, s2.2)))) else none) else none)
          else (
            some (.inr (s2.1, s2.2)))) else none)
        else (
          some (.inr (s2.1, s2.2)))) : Option ((Int32 × Int32) ⊕ (Int32 × Int32)))) am_F (s1.2, nI s)).bind fun e5 =>
      if e5.2 = nI e then (
        if k < am_strs.length then (
        if e5.1 < (nI (am_tl k)) then (
          if k < am_strs.length ∧ am_in e5.1 (am_tl k) = true then (
          if (am_tc k e5.1.toNatClampNeg) = 32 then (
            some (.inr s1.1))
          else (
            (am_loop (fun (s6 : Int32) => ((
              if k < am_strs.length then (
              if s6 < (nI (am_tl k)) then (
                if k < am_strs.length ∧ am_in s6 (am_tl k) = true then (
                if (am_tc k s6.toNatClampNeg) = 32 then (
                  some (.inr s6))
                else (
                  am_let (s6 + 1 : Int32) fun t7 =>
                  some (.inl t7))) else none)
              else (
                some (.inr s6))) else none) : Option ((Int32) ⊕ (Int32)))) am_F e5.1).bind fun e8 =>
            am_let (e8 + 1 : Int32) fun t9 =>
            am_let (s1.1 + 1 : Int32) fun t10 =>
            some (.inl (t10, t9)))) else none)
        else (
          some (.inr s1.1))) else none)
      else (
        (am_loop (fun (s11 : Int32) => ((
          if k < am_strs.length then (
          if s11 < (nI (am_tl k)) then (
            if k < am_strs.length ∧ am_in s11 (am_tl k) = true then (
            if (am_tc k s11.toNatClampNeg) = 32 then (
              some (.inr s11))
            else (
              am_let (s11 + 1 : Int32) fun t12 =>
              some (.inl t12))) else none)
          else (
            some (.inr s11))) else none) : Option ((Int32) ⊕ (Int32)))) am_F e5.1).bind fun e13 =>
        am_let (e13 + 1 : Int32) fun t14 =>
        am_let (s1.1 + 1 : Int32) fun t15 =>
        some (.inl (t15, t14))))
    else (
      some (.inr (-1)))) else none) : Option ((Int32 × Int32) ⊕ (Int32)))) (fun i st => st = (nI i, nI (kw_o k i)) ∧ kw_f (kw_m b s e) (kw_W k) 0 = kw_f (kw_m b s e) ((kw_W k).drop i) i) (fun v => v = kw_f (kw_m b s e) (kw_W k) 0) (kw_W k).length (s := (0, 0)) ⟨rfl, rfl⟩ (by
    rintro i st hi ⟨rfl, K⟩
    obtain ⟨a1, a2, a3, a4, a5, a6⟩ := o2 i hi
    obtain ⟨c, q1, q2, q3, q4, q5⟩ := kw_in (F := F) T h1 h2 hL hk hi
    have hd : (kw_W k).drop i = kw_at k i :: (kw_W k).drop (i + 1) := by
      rw [List.drop_eq_getElem_cons hi]
      congr 1
      unfold kw_at
      rw [List.getD_eq_getElem?_getD, List.getElem?_eq_getElem hi]
      rfl
    have ef : kw_f (kw_m b s e) (kw_at k i :: (kw_W k).drop (i + 1)) i = if kw_m b s e (kw_at k i) = true then nI i else kw_f (kw_m b s e) ((kw_W k).drop (i + 1)) (i + 1) := rfl
    rw [hd, ef] at K
    have sk := kw_skip (k := k) (i := i) (c := c) hk hi q2
    have eo : nI (kw_o k i + am_tl (kw_at k i)) + 1 = nI (kw_o k (i + 1)) := by rw [nI_1]; rfl
    dsimp only
    rw [if_pos l2, if_pos (nI_lt (by omega) (by omega)), q1, pu_bs]
    dsimp only
    by_cases he : s + c = e
    · rw [if_pos (by rw [he]), if_pos l2]
      by_cases hl : kw_o k i + c < am_tl k
      · rw [if_pos (nI_lt hl (by omega)), if_pos ⟨l2, pu_in hl (by omega)⟩, nI_clamp (by omega)]
        by_cases hc : c = am_tl (kw_at k i)
        · have h32 : am_tc k (kw_o k i + c) = 32 := by
            rw [hc]
            exact a6.resolve_left (by omega)
          rw [h32, if_pos rfl]
          refine Or.inr ⟨_, rfl, ?_⟩
          rw [K, if_pos (kw_mI.mpr ⟨by omega, fun j hj => q4 j (by omega)⟩)]
        · obtain ⟨g1, g2⟩ := a5 c (by omega)
          rw [g1, if_neg g2, sk, pu_bs, pu_letE, pu_letE, nI_1, eo]
          refine Or.inl ⟨_, rfl, rfl, ?_⟩
          rw [K, if_neg (fun z => by have := (kw_mI.mp z).1; omega)]
      · rw [if_neg (nI_nlt (by omega) (by omega))]
        refine Or.inr ⟨_, rfl, ?_⟩
        rw [K, if_pos (kw_mI.mpr ⟨by omega, fun j hj => q4 j (by omega)⟩)]
    · rw [if_neg (fun z => he (pu_nIinj (by omega) (by omega) z)), sk, pu_bs, pu_letE, pu_letE, nI_1, eo]
      refine Or.inl ⟨_, rfl, rfl, ?_⟩
      rw [K, if_neg]
      intro z
      obtain ⟨z1, z2⟩ := kw_mI.mp z
      rcases q5 with q | q | ⟨q, q'⟩
      · exact he q
      · omega
      · exact q' (z2 c q)) (by
    rintro st ⟨rfl, K⟩
    dsimp only
    rw [if_pos l2, o1, if_neg (nI_nlt (by omega) (by omega))]
    refine ⟨_, rfl, ?_⟩
    rw [K, List.drop_length]
    rfl) (by omega)
  exact r1
