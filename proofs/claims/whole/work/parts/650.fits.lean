theorem ft_pc : ∀ (n s : Nat), s < 2 ^ n → bt_n (n + 1) (2 ^ n + s) = bt_n n s + 1 := by
  intro n
  induction n with
  | zero =>
    intro s h
    have : s = 0 := by omega
    subst this
    rfl
  | succ n ih =>
    intro s h
    have e2 : 2 ^ (n + 1) = 2 * 2 ^ n := by rw [Nat.pow_succ]; omega
    show (2 ^ (n + 1) + s) % 2 + bt_n (n + 1) ((2 ^ (n + 1) + s) / 2) = s % 2 + bt_n n (s / 2) + 1
    have e : (2 ^ (n + 1) + s) / 2 = 2 ^ n + s / 2 := by omega
    rw [e, ih (s / 2) (by omega)]
    omega
def ft_L : Nat → Nat → List Nat
  | 0, k => if k = 0 then [0] else []
  | n + 1, 0 => ft_L n 0
  | n + 1, k + 1 => ft_L n (k + 1) ++ (ft_L n k).map (fun s => 2 ^ n + s)
theorem ft_fil : ∀ (n k : Nat), (List.range (2 ^ n)).filter (fun S => bt_n n S == k) = ft_L n k := by
  intro n
  induction n with
  | zero =>
    intro k
    cases k with
    | zero => rfl
    | succ k => rfl
  | succ n ih =>
    intro k
    have e2 : 2 ^ (n + 1) = 2 ^ n + 2 ^ n := by rw [Nat.pow_succ]; omega
    rw [e2, List.range_add, List.filter_append, List.filter_map]
    have a1 : (List.range (2 ^ n)).filter (fun S => bt_n (n + 1) S == k) = (List.range (2 ^ n)).filter (fun S => bt_n n S == k) :=
      List.filter_congr fun S hS => by rw [bt_st n S (List.mem_range.mp hS)]
    rw [a1, ih k]
    cases k with
    | zero =>
      have a2 : (List.range (2 ^ n)).filter ((fun S => bt_n (n + 1) S == 0) ∘ fun x => 2 ^ n + x) = [] :=
        List.filter_eq_nil_iff.mpr fun S hS => by
          show ¬ (bt_n (n + 1) (2 ^ n + S) == 0) = true
          rw [ft_pc n S (List.mem_range.mp hS)]
          simp
      rw [a2]
      show ft_L n 0 ++ [] = ft_L n 0
      rw [List.append_nil]
    | succ k =>
      have a2 : (List.range (2 ^ n)).filter ((fun S => bt_n (n + 1) S == k + 1) ∘ fun x => 2 ^ n + x) = (List.range (2 ^ n)).filter (fun S => bt_n n S == k) :=
        List.filter_congr fun S hS => by
          show (bt_n (n + 1) (2 ^ n + S) == k + 1) = _
          rw [ft_pc n S (List.mem_range.mp hS)]
          by_cases c : bt_n n S = k
          · rw [c]; simp
          · have : ¬ bt_n n S + 1 = k + 1 := by omega
            simp [c]
      rw [a2, ih k]
      rfl
def ft_ch : List Nat → Bool
  | [] => true
  | [a] => decide (¬ xm_nextSet (nI a) < 65536)
  | a :: b :: r => decide (xm_nextSet (nI a) = nI b) && ft_ch (b :: r)
theorem ft_ch1 : ft_ch (ft_L 16 1) = true := by decide +kernel
theorem ft_ch2 : ft_ch (ft_L 16 2) = true := by decide +kernel
theorem ft_ch3 : ft_ch (ft_L 16 3) = true := by decide +kernel
theorem ft_ln : (ft_L 16 1).length ≤ 560 ∧ (ft_L 16 2).length ≤ 560 ∧ (ft_L 16 3).length ≤ 560 := by decide +kernel
theorem ft_hd : (ft_L 16 1).head? = some 1 ∧ (ft_L 16 2).head? = some 3 ∧ (ft_L 16 3).head? = some 7 := by decide +kernel
theorem ft_lt {k S : Nat} (h : S ∈ ft_L 16 k) : S < 65536 := by
  rw [← ft_fil] at h
  exact List.mem_range.mp (List.mem_filter.mp h).1
def ft_h (l : Int32) : List Nat → Int32
  | [] => l
  | a :: _ => nI a
theorem ft_h_app (l : Int32) (A : List Nat) (n : Nat) : ft_h l (A ++ [n]) = ft_h (nI n) A := by
  cases A with
  | nil => rfl
  | cons a A => rfl
section FTC
variable {B : Int32 × Int32 × Int32 × Int32 → Option ((Int32 × Int32 × Int32 × Int32) ⊕ (Int32 × Int32))} {P : Nat → Bool}
theorem ft_cls (hs : ∀ c l S i, S < 65536 → i < 560 → B (c, l, nI S, nI i) = some (.inl (if P S = true then c + 1 else c, if P S = true then (if l = -1 then nI S else l) else l, xm_nextSet (nI S), nI (i + 1))))
    (he : ∀ c l x i, (¬ x < 65536 ∨ i = 560) → B (c, l, x, nI i) = some (.inr (c, l))) :
    ∀ (L : List Nat) (a : Nat) (F i c : Nat) (l : Int32), ft_ch (a :: L) = true → (∀ S ∈ a :: L, S < 65536) → i + (a :: L).length ≤ 560 → (a :: L).length < F →
      am_loop B F (nI c, l, nI a, nI i) = some (nI (c + ((a :: L).filter P).length), if l = -1 then ft_h (-1) ((a :: L).filter P) else l) := by
  intro L
  induction L with
  | nil =>
    intro a F i c l hc hm hi hF
    obtain ⟨F1, rfl⟩ : ∃ F', F = F' + 1 := ⟨F - 1, by simp at hF; omega⟩
    obtain ⟨F2, rfl⟩ : ∃ F', F1 = F' + 1 := ⟨F1 - 1, by simp at hF; omega⟩
    have ha : a < 65536 := hm a (by simp)
    simp only [List.length_cons, List.length_nil] at hi
    rw [pu_loop_inl (hs (nI c) l a i ha (by omega))]
    rw [pu_loop_inr (he _ _ _ _ (Or.inl (of_decide_eq_true hc)))]
    cases hp : P a with
    | false =>
      simp only [List.filter_cons, hp, List.filter_nil, Bool.false_eq_true, if_false, List.length_nil, Nat.add_zero, ft_h]
      by_cases hl : l = -1
      · rw [if_pos hl, hl]
      · rw [if_neg hl]
    | true =>
      simp only [List.filter_cons, hp, List.filter_nil, if_true, List.length_cons, List.length_nil, Nat.zero_add, ft_h, nI_1]
  | cons b L ih =>
    intro a F i c l hc hm hi hF
    obtain ⟨F1, rfl⟩ : ∃ F', F = F' + 1 := ⟨F - 1, by simp at hF; omega⟩
    have ha : a < 65536 := hm a (by simp)
    have hc2 : decide (xm_nextSet (nI a) = nI b) = true ∧ ft_ch (b :: L) = true := by
      have : (decide (xm_nextSet (nI a) = nI b) && ft_ch (b :: L)) = true := hc
      exact (Bool.and_eq_true _ _).mp this
    simp only [List.length_cons] at hi hF
    rw [pu_loop_inl (hs (nI c) l a i ha (by omega)), of_decide_eq_true hc2.1]
    have hm2 : ∀ S ∈ b :: L, S < 65536 := fun S hS => hm S (List.mem_cons_of_mem _ hS)
    cases hp : P a with
    | false =>
      simp only [Bool.false_eq_true, if_false]
      rw [ih b F1 (i + 1) c l hc2.2 hm2 (by simp only [List.length_cons]; omega) (by simp only [List.length_cons]; omega)]
      rw [List.filter_cons (x := a), hp, if_neg (show ¬ (false = true) by decide)]
    | true =>
      simp only [if_true]
      rw [nI_1, ih b F1 (i + 1) (c + 1) _ hc2.2 hm2 (by simp only [List.length_cons]; omega) (by simp only [List.length_cons]; omega)]
      rw [List.filter_cons (x := a), hp, if_pos rfl]
      have e1 : c + 1 + ((b :: L).filter P).length = c + (a :: (b :: L).filter P).length := by rw [List.length_cons]; omega
      rw [e1]
      congr 2
      by_cases hl : l = -1
      · rw [if_pos hl, if_pos hl, if_neg (pu_neg1 (by omega))]
        rfl
      · rw [if_neg hl, if_neg hl, if_neg hl]
end FTC
section FTM
variable {B : Int32 × Int32 × Int32 → Option ((Int32 × Int32 × Int32) ⊕ (Int32 × Int32))} {Q : Nat → Bool}
theorem ft_mdl (hs : ∀ c l S, 0 < S → S < 65536 → B (c, l, nI S) = some (.inl (if Q S = true then c + 1 else c, if Q S = true then nI S else l, nI (S - 1))))
    (he : ∀ c l, B (c, l, nI 0) = some (.inr (c, l))) (h0 : Q 0 = false) :
    ∀ (n F c : Nat) (l : Int32), n < 65536 → n < F → am_loop B F (nI c, l, nI n) = some (nI (c + ((List.range (n + 1)).filter Q).length), ft_h l ((List.range (n + 1)).filter Q)) := by
  intro n
  induction n with
  | zero =>
    intro F c l _ hF
    obtain ⟨F1, rfl⟩ : ∃ F', F = F' + 1 := ⟨F - 1, by omega⟩
    rw [pu_loop_inr (he _ _)]
    have : (List.range (0 + 1)).filter Q = [] := by
      show ([0] : List Nat).filter Q = []
      rw [List.filter_cons, h0]
      rfl
    rw [this]
    rfl
  | succ n ih =>
    intro F c l hn hF
    obtain ⟨F1, rfl⟩ : ∃ F', F = F' + 1 := ⟨F - 1, by omega⟩
    rw [pu_loop_inl (hs (nI c) l (n + 1) (by omega) hn), List.range_succ, List.filter_append]
    show am_loop B F1 (_, _, nI n) = _
    cases hq : Q (n + 1) with
    | false =>
      have e : [n + 1].filter Q = [] := by rw [List.filter_cons, hq]; rfl
      simp only [Bool.false_eq_true, if_false]
      rw [ih F1 c l (by omega) (by omega), e, List.append_nil]
    | true =>
      have e : [n + 1].filter Q = [n + 1] := by rw [List.filter_cons, hq]; rfl
      simp only [if_true]
      rw [nI_1, ih F1 (c + 1) (nI (n + 1)) (by omega) (by omega), e, ft_h_app, List.length_append]
      congr 3
      show c + 1 + _ = c + (_ + 1)
      omega
end FTM
theorem ft_P {f g : Nat → Nat → Int32} (h : rl_Rel f g) : ∃ P : Nat → Bool, ∀ S, xm_fitsAll_27_25 (nI S) f = some (P S) ∧ m_fitsAll (nI S) g = some (P S) :=
  ⟨fun S => Classical.choose (ft_all h (nI S)), fun S => Classical.choose_spec (ft_all h (nI S))⟩
theorem sm_fits (x1 x2 : Int32) (f g : Nat → Nat → Int32) (h : rl_Rel f g) : ∃ (v : Int32), x_fits x1 x2 f = some v ∧ m_fits x1 x2 g = some v ∧ rl_Rel f g := by
  obtain ⟨P, hP⟩ := ft_P h
  unfold x_fits m_fits
  rw [pu_isIn, pu_isIn]
  rcases pu_within_cases x1 (lo := 1) (hi := 3) 1 3 with ⟨e1, k, k1, k2, rfl⟩ | e1
  · rcases pu_within_cases x2 (lo := 0) (hi := 1) 0 1 with ⟨e2, w, w1, w2, rfl⟩ | e2
    · rw [e1, e2, if_pos rfl, if_pos rfl, if_pos rfl, if_pos rfl]
      unfold xm_fitting_27_25
      rw [pu_letE]
      have hk : ft_ch (ft_L 16 k) = true ∧ (ft_L 16 k).length ≤ 560 ∧ ∃ a L, ft_L 16 k = a :: L ∧ ((1 <<< (nI k &&& 31)) - 1 : Int32) = nI a := by
        have hk3 : k = 1 ∨ k = 2 ∨ k = 3 := by omega
        have hh : ∀ (A : List Nat) b, A.head? = some b → ∃ L, A = b :: L := fun A b e => by
          cases A with
          | nil => cases e
          | cons a L => cases e; exact ⟨L, rfl⟩
        rcases hk3 with rfl | rfl | rfl
        · obtain ⟨L, eL⟩ := hh _ _ ft_hd.1
          exact ⟨ft_ch1, ft_ln.1, 1, L, eL, by decide⟩
        · obtain ⟨L, eL⟩ := hh _ _ ft_hd.2.1
          exact ⟨ft_ch2, ft_ln.2.1, 3, L, eL, by decide⟩
        · obtain ⟨L, eL⟩ := hh _ _ ft_hd.2.2
          exact ⟨ft_ch3, ft_ln.2.2, 7, L, eL, by decide⟩
      obtain ⟨hc, hl, a, L, eL, ea⟩ := hk
      rw [ea]
      have X := ft_cls (P := P) (B := fun (s2 : Int32 × Int32 × Int32 × Int32) => ((
    if s2.2.2.2 < 560 then (
      if s2.2.2.1 < 65536 then (
        (xm_fitsAll_27_25 s2.2.2.1 f).bind fun p3 =>
        am_let ((if p3 = true then (
            am_let (s2.1 + 1 : Int32) fun t4 =>
            if s2.2.1 = (-1) then (
              (t4, s2.2.2.1))
            else (
              (t4, s2.2.1)))
          else (
            (s2.1, s2.2.1))) : Int32 × Int32) fun t5 =>
        am_let ((xm_nextSet s2.2.2.1) : Int32) fun t7 =>
        am_let (s2.2.2.2 + 1 : Int32) fun t8 =>
        some (.inl (t5.1, t5.2, t7, t8)))
      else (
        some (.inr (s2.1, s2.2.1))))
    else (
      some (.inr (s2.1, s2.2.1)))) : Option ((Int32 × Int32 × Int32 × Int32) ⊕ (Int32 × Int32)))) (by
          intro c l S i hS hi
          dsimp only
          rw [if_pos (show nI i < (560 : Int32) from nI_lt (b := 560) hi (by omega)), if_pos (show nI S < (65536 : Int32) from nI_lt (b := 65536) hS (by omega)), (hP S).1, pu_bs]
          simp only [pu_letE, nI_1]
          cases P S with
          | false => simp
          | true =>
            by_cases hl : l = -1
            · simp [hl]
            · simp [hl]) (by
          intro c l x i hx
          dsimp only
          rcases hx with hx | rfl
          · rw [if_neg hx]
            by_cases hi : nI i < 560
            · rw [if_pos hi]
            · rw [if_neg hi]
          · rw [if_neg (show ¬ nI 560 < (560 : Int32) from nI_nlt (a := 560) (Nat.le_refl _) (by omega))]) L a am_F 0 0 (-1) (by rw [← eL]; exact hc) (fun S hS => ft_lt (k := k) (by rw [eL]; exact hS)) (by rw [← eL]; omega) (by rw [← eL]; show _ < 1000000; omega)
      rw [show nI 0 = (0 : Int32) from rfl, Nat.zero_add, ← eL] at X
      rw [X]
      have M := ft_mdl (Q := fun S => (bt_n 16 S == k) && P S) (B := fun (s3 : Int32 × Int32 × Int32) => ((
        if 0 < s3.2.2 then (
          (m_bitsOf s3.2.2).bind fun p4 =>
          ((if p4 = nI k then (
              (m_fitsAll s3.2.2 g).bind fun p5 =>
              if p5 = true then (
                am_let (s3.1 + 1 : Int32) fun t6 =>
                some (t6, s3.2.2))
              else (
                some (s3.1, s3.2.1)))
            else (
              some (s3.1, s3.2.1))) : Option (Int32 × Int32)).bind fun t7 =>
          am_let (s3.2.2 + (-1) : Int32) fun t8 =>
          some (.inl (t7.1, t7.2, t8)))
        else (
          some (.inr (s3.1, s3.2.1)))) : Option ((Int32 × Int32 × Int32) ⊕ (Int32 × Int32)))) (by
          intro c l S h0 hS
          dsimp only
          rw [if_pos (show (0 : Int32) < nI S from nI_lt (a := 0) h0 (by omega)), bt_loop hS, pu_bs, (hP S).2]
          obtain ⟨S', rfl⟩ : ∃ S', S = S' + 1 := ⟨S - 1, by omega⟩
          rw [pk_m1]
          have hb := bt_le 16 (S' + 1)
          by_cases c1 : bt_n 16 (S' + 1) = k
          · simp only [c1, if_true, pu_bs, pu_letE, beq_self_eq_true, Bool.true_and]
            cases P (S' + 1) with
            | false => rfl
            | true => rfl
          · have c2 : ¬ nI (bt_n 16 (S' + 1)) = nI k := fun z => c1 (pu_nIinj (by omega) (by omega) z)
            have c3 : (bt_n 16 (S' + 1) == k) = false := by simp [c1]
            simp only [c2, if_false, pu_bs, pu_letE, c3, Bool.false_and, Bool.false_eq_true]
            rfl) (by
          intro c l
          dsimp only
          rw [if_neg (by decide)]) (by
          have : (bt_n 16 0 == k) = false := by
            have : bt_n 16 0 = 0 := rfl
            rw [this]
            simp
            omega
          simp only [this, Bool.false_and]) 65535 am_F 0 (-1) (by omega) (by decide)
      rw [show nI 65535 = (65535 : Int32) from rfl, show nI 0 = (0 : Int32) from rfl, Nat.zero_add] at M
      rw [M]
      have eq : (List.range (65535 + 1)).filter (fun S => (bt_n 16 S == k) && P S) = (ft_L 16 k).filter P := by
        rw [← ft_fil, List.filter_filter]
        exact List.filter_congr fun S _ => Bool.and_comm _ _
      rw [eq, pu_bs, pu_bs]
      by_cases hw : nI w = 0
      · rw [if_pos hw, if_pos hw]
        exact ⟨_, rfl, rfl, h⟩
      · rw [if_neg hw, if_neg hw, if_pos rfl]
        exact ⟨_, rfl, rfl, h⟩
    · rw [e1, e2, if_pos rfl, if_pos rfl, if_neg (by decide), if_neg (by decide)]
      exact ⟨_, rfl, rfl, h⟩
  · rw [e1, if_neg (by decide), if_neg (by decide)]
    exact ⟨_, rfl, rfl, h⟩
