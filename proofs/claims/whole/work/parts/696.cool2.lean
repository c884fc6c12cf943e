def cl_X (a1 : Int32) : Int32 × Int32 × (Nat → Nat → Int32) → Option ((Int32 × Int32 × (Nat → Nat → Int32)) ⊕ (Nat → Nat → Int32)) := fun (s7 : Int32 × Int32 × (Nat → Nat → Int32)) => ((
    if s7.2.1 < s7.1 then (
      if am_in a1 100 = true then (
      if s7.2.2 148 a1.toNatClampNeg = (-1) then (
        if am_in s7.2.1 100 = true then (
        am_let (s7.2.2 149 s7.2.1.toNatClampNeg : Int32) fun t8 =>
        (am_loop (cl_x t8) am_F (s7.1, 0, s7.2.2)).bind fun e17 =>
        am_let (s7.2.1 + 1 : Int32) fun t18 =>
        some (.inl (e17.1, t18, e17.2))) else none)
      else (
        some (.inr s7.2.2))) else none)
    else (
      some (.inr s7.2.2))) : Option ((Int32 × Int32 × (Nat → Nat → Int32)) ⊕ ((Nat → Nat → Int32))))
def cl_M : Int32 × Int32 × (Nat → Nat → Int32) → Option ((Int32 × Int32 × (Nat → Nat → Int32)) ⊕ (Nat → Nat → Int32)) := fun (s9 : Int32 × Int32 × (Nat → Nat → Int32)) => ((
        if s9.2.1 < s9.1 then (
          (am_loop (cl_m s9.2.1) am_F (s9.1, 0, s9.2.2)).bind fun e18 =>
          am_let (s9.2.1 + 1 : Int32) fun t19 =>
          some (.inl (e18.1, t19, e18.2)))
        else (
          some (.inr s9.2.2))) : Option ((Int32 × Int32 × (Nat → Nat → Int32)) ⊕ ((Nat → Nat → Int32))))
def cl_fr (f g F G : Nat → Nat → Int32) : Prop := (∀ a, a ≠ 148 → a ≠ 149 → F a = f a) ∧ (∀ a, a ≠ 230 → a ≠ 231 → G a = g a)
theorem cl_Mend {f g : Nat → Nat → Int32} (h : rl_Rel f g) {goal : Nat} (hg : goal < 100) : ∀ (r i c fuel : Nat) (F G : Nat → Nat → Int32), 100 - i ≤ r → r < fuel → i ≤ c → cl_I f g c F G → ¬ G 230 goal = -1 → ∃ e, am_loop cl_M fuel (nI c, nI i, G) = some e ∧ e 230 goal = G 230 goal ∧ ∀ a, a ≠ 230 → a ≠ 231 → e a = g a := by
  intro r
  induction r with
  | zero =>
    intro i c fuel F G h1 h2 h3 I hv
    obtain ⟨fu, rfl⟩ : ∃ fu, fuel = fu + 1 := ⟨fuel - 1, by omega⟩
    have hc := I.1
    refine ⟨G, pu_loop_inr ?_, rfl, I.2.2.2.2.2⟩
    unfold cl_M
    dsimp only
    rw [if_neg (nI_nlt (by omega) (by omega))]
  | succ r ih =>
    intro i c fuel F G h1 h2 h3 I hv
    obtain ⟨fu, rfl⟩ : ∃ fu, fuel = fu + 1 := ⟨fuel - 1, by omega⟩
    have hc := I.1
    by_cases hi : i < c
    · obtain ⟨c', F', G', k1, k2, k3, k4, k5⟩ := cl_in h I hi
      have st : cl_M (nI c, nI i, G) = some (.inl (nI c', nI (i + 1), G')) := by
        unfold cl_M
        dsimp only
        rw [if_pos (nI_lt hi (by omega)), k2, pu_bs, pu_letE, nI_1]
      rw [pu_loop_inl st]
      obtain ⟨e, e1, e2, e3⟩ := ih (i + 1) c' fu F' G' (by omega) (by omega) (by omega) k4 (by rw [k5 goal hg hv]; exact hv)
      exact ⟨e, e1, e2.trans (k5 goal hg hv), e3⟩
    · refine ⟨G, pu_loop_inr ?_, rfl, I.2.2.2.2.2⟩
      unfold cl_M
      dsimp only
      rw [if_neg (nI_nlt (by omega) (by omega))]
theorem cl_end {f g : Nat → Nat → Int32} (h : rl_Rel f g) {goal : Nat} (hg : goal < 100) : ∀ (r i c fuel : Nat) (F G : Nat → Nat → Int32), 100 - i ≤ r → r < fuel → i ≤ c → cl_I f g c F G → ∃ e e', am_loop (cl_X (nI goal)) fuel (nI c, nI i, F) = some e ∧ am_loop cl_M fuel (nI c, nI i, G) = some e' ∧ e 148 goal = e' 230 goal ∧ cl_fr f g e e' := by
  intro r
  induction r with
  | zero =>
    intro i c fuel F G h1 h2 h3 I
    obtain ⟨fu, rfl⟩ : ∃ fu, fuel = fu + 1 := ⟨fuel - 1, by omega⟩
    have hc := I.1
    refine ⟨F, G, pu_loop_inr ?_, pu_loop_inr ?_, (I.2.2.1 goal hg).1, I.2.2.2.2⟩
    · unfold cl_X
      dsimp only
      rw [if_neg (nI_nlt (by omega) (by omega))]
    · unfold cl_M
      dsimp only
      rw [if_neg (nI_nlt (by omega) (by omega))]
  | succ r ih =>
    intro i c fuel F G h1 h2 h3 I
    have cg : am_in (nI goal) 100 = true := pu_in (by omega) (by omega)
    have hc := I.1
    by_cases hi : i < c
    · by_cases hv : G 230 goal = -1
      · obtain ⟨fu, rfl⟩ : ∃ fu, fuel = fu + 1 := ⟨fuel - 1, by omega⟩
        obtain ⟨c', F', G', k1, k2, k3, k4, k5⟩ := cl_in h I hi
        have ci : am_in (nI i) 100 = true := pu_in (by omega) (by omega)
        have sx : cl_X (nI goal) (nI c, nI i, F) = some (.inl (nI c', nI (i + 1), F')) := by
          unfold cl_X
          dsimp only
          rw [if_pos (nI_lt hi (by omega)), if_pos cg, nI_clamp (show goal < 2 ^ 31 by omega), if_pos ((I.2.2.1 goal hg).1.trans hv), if_pos ci, pu_letE, nI_clamp (show i < 2 ^ 31 by omega), k1, pu_bs, pu_letE, nI_1]
        have st : cl_M (nI c, nI i, G) = some (.inl (nI c', nI (i + 1), G')) := by
          unfold cl_M
          dsimp only
          rw [if_pos (nI_lt hi (by omega)), k2, pu_bs, pu_letE, nI_1]
        rw [pu_loop_inl st, pu_loop_inl sx]
        exact ih (i + 1) c' fu F' G' (by omega) (by omega) (by omega) k4
      · obtain ⟨e', e1, e2, e3⟩ := cl_Mend h hg (r + 1) i c fuel F G h1 h2 h3 I hv
        obtain ⟨fu, rfl⟩ : ∃ fu, fuel = fu + 1 := ⟨fuel - 1, by omega⟩
        refine ⟨F, e', pu_loop_inr ?_, e1, ?_, I.2.2.2.2.1, e3⟩
        · unfold cl_X
          dsimp only
          rw [if_pos (nI_lt hi (by omega)), if_pos cg, nI_clamp (show goal < 2 ^ 31 by omega), if_neg (fun z => hv ((I.2.2.1 goal hg).1.symm.trans z))]
        · rw [e2]
          exact (I.2.2.1 goal hg).1
    · obtain ⟨fu, rfl⟩ : ∃ fu, fuel = fu + 1 := ⟨fuel - 1, by omega⟩
      refine ⟨F, G, pu_loop_inr ?_, pu_loop_inr ?_, (I.2.2.1 goal hg).1, I.2.2.2.2⟩
      · unfold cl_X
        dsimp only
        rw [if_neg (nI_nlt (by omega) (by omega))]
      · unfold cl_M
        dsimp only
        rw [if_neg (nI_nlt (by omega) (by omega))]
theorem cl_x0 (f : Nat → Nat → Int32) : ∃ F, am_loop (fun (s1 : Int32 × (Nat → Nat → Int32)) => ((
    if s1.1 < (nI 100) then (
      if am_in s1.1 100 = true then (
      am_let (am_up s1.2 148 s1.1.toNatClampNeg (-1) : Nat → Nat → Int32) fun f2 =>
      am_let (s1.1 + 1 : Int32) fun t3 =>
      some (.inl (t3, f2))) else none)
    else (
      some (.inr s1.2))) : Option ((Int32 × (Nat → Nat → Int32)) ⊕ ((Nat → Nat → Int32))))) am_F (0, f) = some F ∧ (∀ j, j < 100 → F 148 j = -1) ∧ ∀ a, a ≠ 148 → F a = f a := by
  refine pu_one (fun i s => ∃ G, s = (nI i, G) ∧ (∀ j, j < i → G 148 j = -1) ∧ ∀ a, a ≠ 148 → G a = f a) _ 100 ⟨f, rfl, fun j hj => absurd hj (Nat.not_lt_zero _), fun _ _ => rfl⟩ ?_ ?_
  · rintro i s hi ⟨G, rfl, K1, K2⟩
    have l1 : nI i < nI 100 := nI_lt hi (by omega)
    have c1 : am_in (nI i) 100 = true := pu_in (by omega) (by omega)
    left
    dsimp only
    simp only [l1, c1, if_true, pu_letE, nI_clamp (show i < 2 ^ 31 by omega), nI_1]
    refine ⟨_, rfl, _, rfl, fun j hj => ?_, fun a ha => by rw [pu_up_ne _ _ ha]; exact K2 a ha⟩
    rw [pu_up_row]
    by_cases he : j = i
    · rw [he, pu_upd_eq]
    · rw [pu_upd_ne _ _ he]
      exact K1 j (by omega)
  · rintro s ⟨G, rfl, K1, K2⟩
    dsimp only
    rw [if_neg (by decide)]
    exact ⟨_, rfl, K1, K2⟩
theorem cl_m0 (f : Nat → Nat → Int32) : ∃ F, am_loop (fun (s1 : Int32 × (Nat → Nat → Int32)) => ((
    if s1.1 < 100 then (
      if am_in s1.1 100 = true then (
      am_let (am_up s1.2 230 s1.1.toNatClampNeg (-1) : Nat → Nat → Int32) fun f2 =>
      am_let (s1.1 + 1 : Int32) fun t3 =>
      some (.inl (t3, f2))) else none)
    else (
      some (.inr s1.2))) : Option ((Int32 × (Nat → Nat → Int32)) ⊕ ((Nat → Nat → Int32))))) am_F (0, f) = some F ∧ (∀ j, j < 100 → F 230 j = -1) ∧ ∀ a, a ≠ 230 → F a = f a := by
  refine pu_one (fun i s => ∃ G, s = (nI i, G) ∧ (∀ j, j < i → G 230 j = -1) ∧ ∀ a, a ≠ 230 → G a = f a) _ 100 ⟨f, rfl, fun j hj => absurd hj (Nat.not_lt_zero _), fun _ _ => rfl⟩ ?_ ?_
  · rintro i s hi ⟨G, rfl, K1, K2⟩
    have l1 : nI i < (100 : Int32) := nI_lt (b := 100) hi (by omega)
    have c1 : am_in (nI i) 100 = true := pu_in (by omega) (by omega)
    left
    dsimp only
    simp only [l1, c1, if_true, pu_letE, nI_clamp (show i < 2 ^ 31 by omega), nI_1]
    refine ⟨_, rfl, _, rfl, fun j hj => ?_, fun a ha => by rw [pu_up_ne _ _ ha]; exact K2 a ha⟩
    rw [pu_up_row]
    by_cases he : j = i
    · rw [he, pu_upd_eq]
    · rw [pu_upd_ne _ _ he]
      exact K1 j (by omega)
  · rintro s ⟨G, rfl, K1, K2⟩
    dsimp only
    rw [if_neg (by decide)]
    exact ⟨_, rfl, K1, K2⟩
theorem sm_cool (x1 x2 : Int32) (f g : Nat → Nat → Int32) (h : rl_Rel f g) : ∃ (v : Int32) (f1 g1 : Nat → Nat → Int32), x_cool x1 x2 f = some (v, f1) ∧ m_cool x1 x2 g = some (v, g1) ∧ rl_Rel f1 g1 := by
  unfold x_cool m_cool
  rw [pu_isIn, pu_isIn]
  rcases pu_within_cases x1 (lo := 0) (hi := 99) 0 99 with ⟨e, n, n1, n2, rfl⟩ | e
  rotate_left
  · simp only [e, Bool.false_eq_true, if_false]
    exact ⟨-1, f, g, rfl, rfl, h⟩
  rcases pu_within_cases x2 (lo := 0) (hi := 99) 0 99 with ⟨e', w, w1, w2, rfl⟩ | e'
  rotate_left
  · simp only [e, e', Bool.false_eq_true, if_false, if_true]
    exact ⟨-1, f, g, rfl, rfl, h⟩
  obtain ⟨F0, a1, a2, a3⟩ := cl_x0 f
  obtain ⟨G0, b1, b2, b3⟩ := cl_m0 g
  have cn : am_in (nI n) 100 = true := pu_in (by omega) (by omega)
  have cw : am_in (nI w) 100 = true := pu_in (by omega) (by omega)
  have e48 : am_up (am_up F0 148 n 0) 149 0 (nI n) 148 = upd (F0 148) n 0 := by rw [pu_up_ne _ _ (by decide), pu_up_row]
  have e30 : am_up (am_up G0 230 n 0) 231 0 (nI n) 230 = upd (G0 230) n 0 := by rw [pu_up_ne _ _ (by decide), pu_up_row]
  have I : cl_I f g 1 (am_up (am_up F0 148 n 0) 149 0 (nI n)) (am_up (am_up G0 230 n 0) 231 0 (nI n)) := by
    refine ⟨by omega, ?_, fun h hh => ?_, fun j hj => ?_, fun a h1 h2 => ?_, fun a h1 h2 => ?_⟩
    · rw [e30, cl_vup (b2 n (by omega)) (by decide) 100 (by omega), cl_v0 100 b2]
    · rw [e48, e30]
      by_cases he : h = n
      · subst he
        rw [pu_upd_eq, pu_upd_eq]
        exact ⟨rfl, Or.inr ⟨0, by omega, rfl⟩⟩
      · rw [pu_upd_ne _ _ he, pu_upd_ne _ _ he, a2 h hh, b2 h hh]
        exact ⟨rfl, Or.inl rfl⟩
    · have : j = 0 := by omega
      subst this
      rw [e30, pu_up_row, pu_up_row, pu_upd_eq, pu_upd_eq]
      exact ⟨rfl, n, by omega, rfl, by rw [pu_upd_eq]; decide⟩
    · rw [pu_up_ne _ _ h2, pu_up_ne _ _ h1]
      exact a3 a h1
    · rw [pu_up_ne _ _ h2, pu_up_ne _ _ h1]
      exact b3 a h1
  obtain ⟨E, E', k1, k2, k3, k4, k5⟩ := cl_end h (goal := w) (by omega) 100 0 1 am_F _ _ (by omega) (by decide) (by omega) I
  have k1' : am_loop (cl_X (nI w)) am_F (1, 0, am_up (am_up F0 148 n 0) 149 0 (nI n)) = some E := k1
  have k2' : am_loop cl_M am_F (1, 0, am_up (am_up G0 230 n 0) 231 0 (nI n)) = some E' := k2
  unfold cl_X cl_x at k1'
  unfold cl_M cl_m at k2'
  unfold xm_fewestSayings_36
  simp only [e, e', if_true]
  rw [a1, b1, pu_bs, pu_bs]
  simp only [pu_letE, cn, cw, if_true, nI_clamp (show n < 2 ^ 31 by omega), nI_clamp (show w < 2 ^ 31 by omega)] at k1' k2' ⊢
  rw [k1', k2', pu_bs, pu_bs, pu_bs, k3]
  have g216 := k5 216 (by decide) (by decide)
  refine ⟨_, E, E', rfl, rfl, ?_⟩
  exact h.congr ⟨fun a h1 h2 => k4 a (by omega) (by omega), fun a h1 => k4 a (by omega) (by omega), by rw [k4 0 (by omega) (by omega)], by rw [k4 0 (by omega) (by omega)], by rw [k4 123 (by omega) (by omega)], k4 124 (by omega) (by omega), by rw [k4 128 (by omega) (by omega)], by rw [k4 128 (by omega) (by omega)], by rw [k4 143 (by omega) (by omega)], by rw [k4 143 (by omega) (by omega)], k4 150 (by omega) (by omega), k4 153 (by omega) (by omega), by rw [k4 144 (by omega) (by omega)]⟩
    ⟨k5 217 (by decide) (by decide), k5 218 (by decide) (by decide), k5 219 (by decide) (by decide), k5 224 (by decide) (by decide), by rw [g216], by rw [g216], by rw [g216], by rw [g216], by rw [g216]⟩
