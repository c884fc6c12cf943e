/-! COOL -/
def cl_v (u : Nat → Int32) : Nat → Nat
  | 0 => 0
  | k + 1 => cl_v u k + (if u k = -1 then 0 else 1)
theorem cl_v0 {u : Nat → Int32} : ∀ n, (∀ k, k < n → u k = -1) → cl_v u n = 0 := by
  intro n
  induction n with
  | zero => intro _; rfl
  | succ n ih =>
    intro h
    show cl_v u n + (if u n = -1 then 0 else 1) = 0
    rw [ih (fun k hk => h k (by omega)), if_pos (h n (by omega))]
theorem cl_vcg {u u' : Nat → Int32} : ∀ n, (∀ k, k < n → u k = u' k) → cl_v u n = cl_v u' n := by
  intro n
  induction n with
  | zero => intro _; rfl
  | succ n ih =>
    intro h
    show cl_v u n + (if u n = -1 then 0 else 1) = cl_v u' n + (if u' n = -1 then 0 else 1)
    rw [ih (fun k hk => h k (by omega)), h n (by omega)]
theorem cl_vle (u : Nat → Int32) : ∀ n, cl_v u n ≤ n := by
  intro n
  induction n with
  | zero => exact Nat.le_refl _
  | succ n ih =>
    show cl_v u n + (if u n = -1 then 0 else 1) ≤ n + 1
    by_cases c : u n = -1
    · rw [if_pos c]; omega
    · rw [if_neg c]; omega
theorem cl_vlt {u : Nat → Int32} {h : Nat} (e : u h = -1) : ∀ n, h < n → cl_v u n < n := by
  intro n
  induction n with
  | zero => intro z; omega
  | succ n ih =>
    intro z
    show cl_v u n + (if u n = -1 then 0 else 1) < n + 1
    by_cases c : h = n
    · subst c
      have := cl_vle u h
      rw [if_pos e]; omega
    · have := ih (by omega)
      by_cases c : u n = -1
      · rw [if_pos c]; omega
      · rw [if_neg c]; omega
theorem cl_vup {u : Nat → Int32} {h : Nat} {v : Int32} (e : u h = -1) (hv : ¬ v = -1) : ∀ n, h < n → cl_v (upd u h v) n = cl_v u n + 1 := by
  intro n
  induction n with
  | zero => intro z; omega
  | succ n ih =>
    intro z
    show cl_v (upd u h v) n + (if upd u h v n = -1 then 0 else 1) = cl_v u n + (if u n = -1 then 0 else 1) + 1
    by_cases c : h = n
    · subst c
      rw [pu_upd_eq, if_neg hv, if_pos e, cl_vcg (u' := u) h (fun k hk => pu_upd_ne _ _ (by omega))]
    · rw [pu_upd_ne _ _ (by omega), ih (by omega)]
      omega
def cl_I (f g : Nat → Nat → Int32) (c : Nat) (F G : Nat → Nat → Int32) : Prop := c ≤ 100 ∧ cl_v (G 230) 100 = c ∧ (∀ h, h < 100 → F 148 h = G 230 h ∧ (G 230 h = -1 ∨ ∃ s, s < c ∧ G 230 h = nI s)) ∧ (∀ j, j < c → F 149 j = G 231 j ∧ ∃ q, q < 100 ∧ G 231 j = nI q ∧ ¬ G 230 q = -1) ∧ (∀ a, a ≠ 148 → a ≠ 149 → F a = f a) ∧ (∀ a, a ≠ 230 → a ≠ 231 → G a = g a)
theorem cl_st {f g F G : Nat → Nat → Int32} {c q k : Nat} (I : cl_I f g c F G) (hq : q < 100) (hq2 : ¬ G 230 q = -1) (hk : k < 100) (hk2 : G 230 k = -1) : c < 100 ∧ cl_I f g (c + 1) (am_up (am_up F 148 k (G 230 q + 1)) 149 c (nI k)) (am_up (am_up G 230 k (G 230 q + 1)) 231 c (nI k)) := by
  obtain ⟨i1, i2, i3, i4, i5, i6⟩ := I
  have hc := cl_vlt hk2 100 hk
  rw [i2] at hc
  obtain ⟨s, s1, s2⟩ := (i3 q hq).2.resolve_left hq2
  have hv : ¬ G 230 q + 1 = -1 := by
    rw [s2, nI_1]
    exact pu_neg1 (by omega)
  have eF : am_up (am_up F 148 k (G 230 q + 1)) 149 c (nI k) 148 = upd (F 148) k (G 230 q + 1) := by rw [pu_up_ne _ _ (by decide), pu_up_row]
  have eG : am_up (am_up G 230 k (G 230 q + 1)) 231 c (nI k) 230 = upd (G 230) k (G 230 q + 1) := by rw [pu_up_ne _ _ (by decide), pu_up_row]
  have eF9 : am_up (am_up F 148 k (G 230 q + 1)) 149 c (nI k) 149 = upd (F 149) c (nI k) := by rw [pu_up_row, pu_up_ne _ _ (by decide)]
  have eG1 : am_up (am_up G 230 k (G 230 q + 1)) 231 c (nI k) 231 = upd (G 231) c (nI k) := by rw [pu_up_row, pu_up_ne _ _ (by decide)]
  refine ⟨hc, by omega, ?_, fun h hh => ?_, fun j hj => ?_, fun a h1 h2 => ?_, fun a h1 h2 => ?_⟩
  · rw [eG, cl_vup hk2 hv 100 hk, i2]
  · rw [eF, eG]
    by_cases he : h = k
    · subst he
      rw [pu_upd_eq, pu_upd_eq]
      refine ⟨rfl, Or.inr ⟨s + 1, by omega, ?_⟩⟩
      rw [s2, nI_1]
    · rw [pu_upd_ne _ _ he, pu_upd_ne _ _ he]
      refine ⟨(i3 h hh).1, ?_⟩
      rcases (i3 h hh).2 with e | ⟨s', z1, z2⟩
      · exact Or.inl e
      · exact Or.inr ⟨s', by omega, z2⟩
  · rw [eF9, eG1, eG]
    by_cases he : j = c
    · subst he
      rw [pu_upd_eq, pu_upd_eq]
      refine ⟨rfl, k, hk, rfl, ?_⟩
      rw [pu_upd_eq]
      exact hv
    · rw [pu_upd_ne _ _ he, pu_upd_ne _ _ he]
      obtain ⟨z1, q', z2, z3, z4⟩ := i4 j (by omega)
      refine ⟨z1, q', z2, z3, ?_⟩
      rw [pu_upd_ne _ _ (fun z => z4 (by rw [z]; exact hk2))]
      exact z4
  · rw [pu_up_ne _ _ h2, pu_up_ne _ _ h1]
    exact i5 a h1 h2
  · rw [pu_up_ne _ _ h2, pu_up_ne _ _ h1]
    exact i6 a h1 h2
theorem cl_heat {f g G : Nat → Nat → Int32} (h : rl_Rel f g) (hG : G 217 = g 217) {s : Nat} (hs : s < 6) (x : Int32) : m_heatBy (nI s) x G = some (xm_afterSaying x (f 37 s) (f 38 s)) := by
  unfold m_heatBy xm_afterSaying
  have a7 : (447 : Int32) + 2 * nI s = nI (447 + 2 * s) := by rw [show (2 : Int32) = nI 2 from rfl, pk_mul, show (447 : Int32) = nI 447 from rfl, nI_add]
  have a8 : (448 : Int32) + 2 * nI s = nI (448 + 2 * s) := by rw [show (2 : Int32) = nI 2 from rfl, pk_mul, show (448 : Int32) = nI 448 from rfl, nI_add]
  have d7 : am_in (nI (447 + 2 * s)) 2008 = true := pu_in (by omega) (by omega)
  have d8 : am_in (nI (448 + 2 * s)) 2008 = true := pu_in (by omega) (by omega)
  simp only [a7, a8, d7, d8, if_true, pu_letE, nI_clamp (show 447 + 2 * s < 2 ^ 31 by omega), nI_clamp (show 448 + 2 * s < 2 ^ 31 by omega), hG, rl_f_r4a h hs, rl_f_r4b h hs]
  by_cases h0 : g 217 (447 + 2 * s) = 0
  · simp only [h0, if_true]
  by_cases h1 : g 217 (447 + 2 * s) = 1
  · simp only [h0, h1, if_true, if_false, show ¬ (1 : Int32) = 0 by decide]
  by_cases h2 : g 217 (447 + 2 * s) = 2
  · simp only [h0, h1, h2, if_true, if_false, show ¬ (2 : Int32) = 0 by decide, show ¬ (2 : Int32) = 1 by decide]
  · simp only [h0, h1, h2, if_false]
def cl_x (t8 : Int32) : Int32 × Int32 × (Nat → Nat → Int32) → Option ((Int32 × Int32 × (Nat → Nat → Int32)) ⊕ (Int32 × (Nat → Nat → Int32))) := fun (s9 : Int32 × Int32 × (Nat → Nat → Int32)) => ((
          if s9.2.1 < s9.2.2 36 0 then (
            if am_in s9.2.1 6 = true then (
            if am_in s9.2.1 6 = true then (
            am_let ((xm_afterSaying t8 (s9.2.2 37 s9.2.1.toNatClampNeg) (s9.2.2 38 s9.2.1.toNatClampNeg)) : Int32) fun t11 =>
            ((if t11 < 0 then (
                some (s9.1, s9.2.2))
              else (
                if t11 < (nI 100) then (
                  if s9.1 < (nI 100) then (
                    if am_in t11 100 = true then (
                    if s9.2.2 148 t11.toNatClampNeg = (-1) then (
                      if am_in t8 100 = true then (
                      if am_in t11 100 = true then (
                      am_let (am_up s9.2.2 148 t11.toNatClampNeg ((s9.2.2 148 t8.toNatClampNeg) + 1) : Nat → Nat → Int32) fun f12 =>
                      if am_in s9.1 100 = true then (
                      am_let (am_up f12 149 s9.1.toNatClampNeg t11 : Nat → Nat → Int32) fun f13 =>
                      am_let (s9.1 + 1 : Int32) fun t14 =>
                      some (t14, f13)) else none) else none) else none)
                    else (
                      some (s9.1, s9.2.2))) else none)
                  else (
                    some (s9.1, s9.2.2)))
                else (
                  some (s9.1, s9.2.2)))) : Option (Int32 × (Nat → Nat → Int32))).bind fun t15 =>
            am_let (s9.2.1 + 1 : Int32) fun t16 =>
            some (.inl (t15.1, t16, t15.2))) else none) else none)
          else (
            some (.inr (s9.1, s9.2.2)))) : Option ((Int32 × Int32 × (Nat → Nat → Int32)) ⊕ (Int32 × (Nat → Nat → Int32))))
def cl_m (i : Int32) : Int32 × Int32 × (Nat → Nat → Int32) → Option ((Int32 × Int32 × (Nat → Nat → Int32)) ⊕ (Int32 × (Nat → Nat → Int32))) := fun (s10 : Int32 × Int32 × (Nat → Nat → Int32)) => ((
            if s10.2.1 < s10.2.2 217 446 then (
              if am_in i 100 = true then (
              (m_heatBy s10.2.1 (s10.2.2 231 i.toNatClampNeg) s10.2.2).bind fun p11 =>
              ((if (m_isIn p11 0 99) = true then (
                  if am_in p11 100 = true then (
                  if s10.2.2 230 p11.toNatClampNeg = (-1) then (
                    if am_in i 100 = true then (
                    if am_in (s10.2.2 231 i.toNatClampNeg) 100 = true then (
                    if am_in p11 100 = true then (
                    am_let (am_up s10.2.2 230 p11.toNatClampNeg ((s10.2.2 230 (s10.2.2 231 i.toNatClampNeg).toNatClampNeg) + 1) : Nat → Nat → Int32) fun f13 =>
                    if am_in s10.1 100 = true then (
                    am_let (am_up f13 231 s10.1.toNatClampNeg p11 : Nat → Nat → Int32) fun f14 =>
                    am_let (s10.1 + 1 : Int32) fun t15 =>
                    some (t15, f14)) else none) else none) else none) else none)
                  else (
                    some (s10.1, s10.2.2))) else none)
                else (
                  some (s10.1, s10.2.2))) : Option (Int32 × (Nat → Nat → Int32))).bind fun t16 =>
              am_let (s10.2.1 + 1 : Int32) fun t17 =>
              some (.inl (t16.1, t17, t16.2))) else none)
            else (
              some (.inr (s10.1, s10.2.2)))) : Option ((Int32 × Int32 × (Nat → Nat → Int32)) ⊕ (Int32 × (Nat → Nat → Int32))))
theorem cl_in {f g F G : Nat → Nat → Int32} (h : rl_Rel f g) {c i : Nat} (I : cl_I f g c F G) (hi : i < c) : ∃ c' F' G', am_loop (cl_x (F 149 i)) am_F (nI c, 0, F) = some (nI c', F') ∧ am_loop (cl_m (nI i)) am_F (nI c, 0, G) = some (nI c', G') ∧ c ≤ c' ∧ cl_I f g c' F' G' ∧ ∀ h, h < 100 → ¬ G 230 h = -1 → G' 230 h = G 230 h := by
  obtain ⟨n, hn, en, -⟩ := h.1.2.2.2.2.2.1.2.2.2.1
  obtain ⟨q1, q, q2, q3, q4⟩ := I.2.2.2.1 i hi
  rw [q1, q3]
  have K := pu_two (f := cl_x (nI q)) (g := cl_m (nI i)) (s := (nI c, 0, F)) (t := (nI c, 0, G))
    (fun j s t => ∃ c' F' G', s = (nI c', nI j, F') ∧ t = (nI c', nI j, G') ∧ c ≤ c' ∧ cl_I f g c' F' G' ∧ (∀ h, h < 100 → ¬ G 230 h = -1 → G' 230 h = G 230 h) ∧ G' 231 i = nI q)
    (fun e e' => ∃ c' F' G', e = (nI c', F') ∧ e' = (nI c', G') ∧ c ≤ c' ∧ cl_I f g c' F' G' ∧ (∀ h, h < 100 → ¬ G 230 h = -1 → G' 230 h = G 230 h)) n
    ⟨c, F, G, rfl, rfl, Nat.le_refl _, I, fun _ _ _ => rfl, q3⟩ (by
    rintro j s t hj ⟨c', F', G', rfl, rfl, hc, J, M, Q⟩
    obtain ⟨i1, i2, i3, i4, i5, i6⟩ := id J
    refine Or.inl ?_
    have e36 : F' 36 0 = nI n := by rw [i5 36 (by decide) (by decide), rl_f_r4n h]; exact en
    have e446 : G' 217 446 = nI n := by rw [i6 217 (by decide) (by decide)]; exact en
    have hjl : nI j < nI n := nI_lt hj (by omega)
    have c6 : am_in (nI j) 6 = true := pu_in (by omega) (by omega)
    have ci : am_in (nI i) 100 = true := pu_in (by omega) (by omega)
    have cq : am_in (nI q) 100 = true := pu_in (by omega) (by omega)
    have hq' : ¬ G' 230 q = -1 := by rw [M q q2 q4]; exact q4
    unfold cl_x cl_m
    dsimp only
    simp only [e36, e446, hjl, c6, ci, if_true, nI_clamp (show j < 2 ^ 31 by omega), nI_clamp (show i < 2 ^ 31 by omega), nI_clamp (show q < 2 ^ 31 by omega), i5 37 (by decide) (by decide), i5 38 (by decide) (by decide), Q, cl_heat h (i6 217 (by decide) (by decide)) (show j < 6 by omega), pu_bs, pu_letE, nI_1, cq, (i3 q q2).1, pu_isIn]
    generalize xm_afterSaying (nI q) (f 37 j) (f 38 j) = t
    rcases pu_within_cases t (lo := 0) (hi := 99) 0 99 with ⟨e1, k, k1, k2, rfl⟩ | e1
    · have l0 : ¬ nI k < 0 := nI_pos (by omega)
      have l1 : nI k < nI 100 := nI_lt (by omega) (by omega)
      have ck : am_in (nI k) 100 = true := pu_in (by omega) (by omega)
      simp only [e1, l0, l1, ck, if_true, if_false, nI_clamp (show k < 2 ^ 31 by omega), (i3 k (by omega)).1]
      by_cases hk : G' 230 k = -1
      · obtain ⟨hc1, J2⟩ := cl_st J q2 hq' (by omega) hk
        have l2 : nI c' < nI 100 := nI_lt hc1 (by omega)
        have cc : am_in (nI c') 100 = true := pu_in hc1 (by omega)
        simp only [hk, l2, cc, if_true, nI_clamp (show c' < 2 ^ 31 by omega), pu_bs, nI_1]
        refine ⟨_, _, rfl, rfl, _, _, _, rfl, rfl, by omega, J2, fun h' z1 z2 => ?_, ?_⟩
        · rw [pu_up_ne _ _ (by decide), pu_up_row, pu_upd_ne _ _ (fun z => by
            have := M h' z1 z2
            rw [z, hk] at this
            rw [z] at z2
            exact z2 this.symm)]
          exact M h' z1 z2
        · rw [pu_up_row, pu_upd_ne _ _ (by omega), pu_up_ne _ _ (by decide)]
          exact Q
      · simp only [hk, if_false]
        refine ⟨_, _, ?_, rfl, _, _, _, rfl, rfl, hc, J, M, Q⟩
        by_cases l2 : nI c' < nI 100
        · simp only [l2, if_true, pu_bs]
        · simp only [l2, if_false, pu_bs]
    · simp only [e1, Bool.false_eq_true, if_false]
      refine ⟨_, _, ?_, rfl, _, _, _, rfl, rfl, hc, J, M, Q⟩
      by_cases l0 : t < 0
      · simp only [l0, if_true, pu_bs]
      · have l1 : ¬ t < nI 100 := fun z => by
          rcases pu_cases t with z0 | ⟨a, ha, rfl⟩
          · exact l0 z0
          · have := (nI_ltI ha (by omega)).mp z
            have e2 : x_within (nI a) 0 99 = true := pu_within_t (n := a) (a := 0) (b := 99) (by omega) (by omega) (by omega)
            rw [e2] at e1
            cases e1
        simp only [l0, l1, if_false, pu_bs]) (by
    rintro s t ⟨c', F', G', rfl, rfl, hc, J, M, Q⟩
    obtain ⟨i1, i2, i3, i4, i5, i6⟩ := id J
    have e36 : F' 36 0 = nI n := by rw [i5 36 (by decide) (by decide), rl_f_r4n h]; exact en
    have e446 : G' 217 446 = nI n := by rw [i6 217 (by decide) (by decide)]; exact en
    have hll : ¬ nI n < nI n := nI_nlt (Nat.le_refl _) (by omega)
    unfold cl_x cl_m
    dsimp only
    simp only [e36, e446, hll, if_false]
    exact ⟨_, _, rfl, rfl, c', F', G', rfl, rfl, hc, J, M⟩) (by omega)
  obtain ⟨e, e', k1, k2, c', F', G', rfl, rfl, k3, k4, k5⟩ := K
  exact ⟨c', F', G', k1, k2, k3, k4, k5⟩
