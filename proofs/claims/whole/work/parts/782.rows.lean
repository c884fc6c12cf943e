/-! ROWS: the lines -/
def tx_gR (t6 : Int32) : Bool × (Nat → Nat → Int32) → Option ((Bool × (Nat → Nat → Int32)) ⊕ ((Bool × (Nat → Nat → Int32)) ⊕ (Bool × (Nat → Nat → Int32)))) := fun (s7 : Bool × (Nat → Nat → Int32)) => ((
    if s7.1 = true then (
      if s7.2 216 18 = 0 then (
        some (.inr (.inr (s7.1, s7.2))))
      else (
        if s7.2 216 18 = t6 then (
          if s7.2 216 15 = 16 then (
            am_let (m_bad 3 s7.2) fun p8 =>
            some (.inr (.inl (p8.1, p8.2))))
          else (
            (m_aRow  s7.2).bind fun p9 =>
            am_let ((if p9.1 = true then (
                true)
              else (
                false)) : Bool) fun t10 =>
            am_let (am_up p9.2 216 15 ((p9.2 216 15) + (am_b t10)) : Nat → Nat → Int32) fun f11 =>
            some (.inl (p9.1, f11))))
        else (
          am_let (m_bad 1 s7.2) fun p12 =>
          some (.inr (.inl (p12.1, p12.2))))))
    else (
      some (.inr (.inr (s7.1, s7.2))))) : Option ((Bool × (Nat → Nat → Int32)) ⊕ ((Bool × (Nat → Nat → Int32)) ⊕ (Bool × (Nat → Nat → Int32)))))
def tx_gE (e : (Bool × (Nat → Nat → Int32)) ⊕ (Bool × (Nat → Nat → Int32))) : Option (Bool × (Nat → Nat → Int32)) := e.elim (fun v => some v) fun e14 => some (e14.1, e14.2)
def tx_yl (a0 l : Int32) (F : (Nat → Nat → Int32)) : Option (Bool × (Nat → Nat → Int32)) := (xs_takeHead a0 l F).bind fun p15 => if p15.1 = true then (xs_readLine a0 l p15.2).bind fun p16 => if p16.1 = true then xs_takeSign 59 p16.2 else some (false, p16.2) else some (false, p15.2)
theorem tx_t1 (a0 l : Int32) (F : (Nat → Nat → Int32)) (ha : ¬ a0 = 0) (h16 : ¬ 16 < l) (h0 : ¬ F 123 1 = 0) : tx_tL a0 (l, F) = (tx_yl a0 l F).bind fun p => if p.1 = true then some (.inl (l + 1, p.2)) else some (.inr (.inl (-1, p.2))) := by
  unfold tx_tL tx_yl
  dsimp only
  rw [if_neg h16, if_neg h0, pu_letE]
  cases xs_takeHead a0 l F with
  | none => rfl
  | some p15 =>
    rw [pu_bs, pu_bs]
    by_cases c : p15.1 = true
    · rw [if_pos c, if_pos c, if_neg ha]
      cases xs_readLine a0 l p15.2 with
      | none => rfl
      | some p16 =>
        rw [pu_bs, pu_bs]
        by_cases d : p16.1 = true
        · rw [if_pos d, if_pos d]
          cases xs_takeSign 59 p16.2 with
          | none => rfl
          | some p17 =>
            rw [pu_bs, pu_bs]
            rfl
        · rw [if_neg d, if_neg d, pu_bs, if_neg Bool.false_ne_true]
    · rw [if_neg c, if_neg c, pu_bs, if_neg Bool.false_ne_true]
def tx_en (ng nw : Nat) (F G : (Nat → Nat → Int32)) : Prop := ng ≤ 6 ∧ nw ≤ 12 ∧ F 128 8 = nI ng ∧ F 128 9 = nI nw ∧ G 217 69 = nI ng ∧ G 217 70 = nI nw
theorem tx_en.to {ng nw : Nat} {F G F' G' : (Nat → Nat → Int32)} (h : tx_en ng nw F G) (w : tx_W F G F' G') : tx_en ng nw F' G' := by
  unfold tx_en
  rw [w.2.1.1, w.2.1.2, w.2.2.1 217 (by omega) (by omega) (by omega) (by omega)]
  exact h
/-- a line of a kind of text, past its head -/
def tx_RL (n : Nat) (b : Nat → Nat) (k N ng nw : Nat) (Inv : Nat → (Nat → Nat → Int32) → (Nat → Nat → Int32) → Prop) : Prop := ∀ (i l : Nat) (F G G1 : (Nat → Nat → Int32)), tx_T n b k N i F G1 → m_need (nI (kw_c k 0)) G = some (true, G1) → l < 16 → G 216 15 = nI l → G1 216 15 = nI l → tx_en ng nw F G1 → G 217 = G1 217 → G 216 12 = nI k → Inv l F G1 →
  ∃ ok F' G', xs_readLine (nI k) (nI l) F = some (ok, F') ∧ m_aRow G = (if ok = true then (m_need 159 G').bind fun p2 => some p2 else some (false, G')) ∧ tx_W F G1 F' G' ∧ G' 216 15 = G1 216 15 ∧ ((ok = false ∧ tx_Z F' G') ∨ (ok = true ∧ ∃ i', i ≤ i' ∧ tx_T n b k N i' F' G' ∧ Inv (l + 1) F' G'))
section
variable {n : Nat} {b : Nat → Nat} {k N ng nw : Nat} {Inv : Nat → (Nat → Nat → Int32) → (Nat → Nat → Int32) → Prop}
theorem tx_row (hk0 : 1 ≤ k) (HL : tx_RL n b k N ng nw Inv) (HS : ∀ l F G F' G', Inv l F G → (∀ a, 131 ≤ a → a ≤ 142 → F' a = F a) → G' 223 = G 223 → Inv l F' G') {i l : Nat} {F G : (Nat → Nat → Int32)} (hT : tx_T n b k N i F G) (hl : l ≤ 16) (h15 : G 216 15 = nI l) (hE : tx_en ng nw F G) (hI : Inv l F G) (e2 : ¬ G 216 18 = 0) :
    (∃ F' G', tx_yl (nI k) (nI l) F = some (false, F') ∧ tx_gR (nI (kw_c k 0)) (true, G) = some (.inr (.inl (false, G'))) ∧ tx_W F G F' G' ∧ tx_Z F' G') ∨
    (∃ F' G', tx_yl (nI k) (nI l) F = some (false, F') ∧ tx_gR (nI (kw_c k 0)) (true, G) = some (.inl (false, G')) ∧ tx_W F G F' G' ∧ tx_Z F' G') ∨
    ∃ F' G' i', l < 16 ∧ i < i' ∧ tx_yl (nI k) (nI l) F = some (true, F') ∧ tx_gR (nI (kw_c k 0)) (true, G) = some (.inl (true, G')) ∧ tx_W F G F' G' ∧ tx_T n b k N i' F' G' ∧ G' 216 15 = nI (l + 1) ∧ Inv (l + 1) F' G' := by
  have hk4 := hT.1.2.2.1.1
  have hlen : 0 < (kw_W k).length := by
    have : ∀ k, k < 4 → 0 < (kw_W k).length := by decide
    exact this k hk4
  have hcb := kw_cB hk4 hlen
  have W0 := hT.1.word hlen
  have hk0' : ¬ nI k = 0 := nI_ne (b := 0) (by omega)
  by_cases c0 : G 216 18 = nI (kw_c k 0)
  · obtain ⟨x1, x2⟩ := xt_wordI.mp (W0.mpr c0)
    have hi := hT.1.signN (by omega) c0 (by omega)
    have hh : xs_takeHead (nI k) (nI l) F = if nI l < 16 then (xt_advance F).bind fun p3 => some (true, p3) else some ((xs_refuse 3 F).1, (xs_refuse 3 F).2) := by
      unfold xs_takeHead
      rw [if_pos x1, pu_letE, if_neg hk0', x2, if_neg (show ¬ (0 : Int32) < nI 0 by decide)]
      rfl
    by_cases c16 : l < 16
    · right
      rw [if_pos (show nI l < (16 : Int32) from nI_lt (b := 16) c16 (by omega))] at hh
      obtain ⟨F1, G1, r1, r2, r3, r4, r5, r6⟩ := hT.adv hi
      rw [r1, pu_bs] at hh
      have hN : m_need (nI (kw_c k 0)) G = some (true, G1) := by
        unfold m_need
        rw [if_pos c0, r2, pu_bs]
      obtain ⟨ok, F2, G2, u1, u2, u3, u4, u5⟩ := HL i.succ l F1 G G1 r3 hN c16 h15 ((r4.2.2.2 15 (by omega)).trans h15) (hE.to r4.W) (r4.2.2.1 217 (by omega) (by omega)).symm hT.1.2.2.2.2.2.2.2.1 (HS l F G F1 G1 hI (fun a h1 h2 => r4.1 a (by omega) (by omega)) r6)
      have q15 : G2 216 15 = nI l := u4.trans ((r4.2.2.2 15 (by omega)).trans h15)
      have eg : ∀ okk G', m_aRow G = some (okk, G') → tx_gR (nI (kw_c k 0)) (true, G) = some (.inl (okk, am_up G' 216 15 (G' 216 15 + am_b okk))) := by
        intro okk G' e
        unfold tx_gR
        dsimp only
        rw [if_pos rfl, if_neg e2, if_pos c0, if_neg (show ¬ G 216 15 = 16 by rw [h15]; exact nI_ne (b := 16) (by omega)), e, pu_bs]
        cases okk <;> rfl
      unfold tx_yl
      rw [hh, pu_bs, if_pos rfl, u1, pu_bs]
      rcases u5 with ⟨rfl, uz⟩ | ⟨rfl, i2, ui, uT, uI⟩
      · left
        rw [if_neg Bool.false_ne_true] at u2
        refine ⟨F2, _, rfl, eg false G2 u2, (r4.W.tr u3).tr (tx_W.g13 (Or.inr (Or.inr rfl)) _), ?_⟩
        unfold tx_Z
        rw [pu_up_row, pu_upd_ne _ _ (by omega), pu_upd_ne _ _ (by omega)]
        exact uz
      · rw [if_pos rfl] at u2
        rw [if_pos rfl]
        dsimp only
        obtain ⟨ok, F3, G3, v1, v2, v3, v4⟩ := uT.sign (c := 59) (by omega) (by omega)
        rw [show m_need 159 G2 = some (ok, G3) from v2, pu_bs] at u2
        rw [show xs_takeSign 59 F2 = some (ok, F3) from v1]
        have q315 : G3 216 15 = nI l := (v3.2.2.2 15 (by omega)).trans q15
        rcases v4 with ⟨rfl, vz⟩ | ⟨rfl, vT, v128, vG⟩
        · left
          refine ⟨F3, _, rfl, eg false G3 u2, ((r4.W.tr u3).tr v3.W).tr (tx_W.g13 (Or.inr (Or.inr rfl)) _), ?_⟩
          unfold tx_Z
          rw [pu_up_row, pu_upd_ne _ _ (by omega), pu_upd_ne _ _ (by omega)]
          exact vz
        · right
          have e1 := eg true G3 u2
          rw [q315, show nI l + am_b true = nI (l + 1) from nI_1 l] at e1
          exact ⟨F3, _, i2 + 1, c16, by omega, rfl, e1, ((r4.W.tr u3).tr v3.W).tr (tx_W.g13 (Or.inr (Or.inr rfl)) _), vT.g15 _, by rw [pu_up_row, pu_upd_eq], HS _ F2 G2 _ _ uI (fun a h1 h2 => v3.1 a (by omega) (by omega)) (by rw [pu_up_ne _ _ (by omega)]; exact vG)⟩
    · left
      obtain ⟨F', G', b1, b2, b3, b4⟩ := hT.bad 3
      rw [if_neg (show ¬ nI l < (16 : Int32) from nI_nlt (b := 16) (by omega) (by omega)), b1] at hh
      refine ⟨F', G', ?_, ?_, b3.W, b4⟩
      · unfold tx_yl
        rw [hh, pu_bs, if_neg Bool.false_ne_true]
      · unfold tx_gR
        dsimp only
        rw [if_pos rfl, if_neg e2, if_pos c0, if_pos (show G 216 15 = 16 by rw [h15, show l = 16 by omega]; rfl), b2]
        rfl
  · left
    obtain ⟨F', G', b1, b2, b3, b4⟩ := hT.bad 1
    have hw : ¬ xt_isWord (nI 0) F = true := fun z => c0 (W0.mp z)
    have hh : xs_takeHead (nI k) (nI l) F = some (false, F') := by
      unfold xs_takeHead
      rw [pu_letE, if_neg hk0', b1]
      rcases hT.1.wrd with ⟨_, w1, x, w2, w3, _⟩ | ⟨w1, _⟩
      · have hx : x ≠ 0 := fun z => hw (by rw [xt_wordI, w3, z]; exact ⟨w1, rfl⟩)
        have := kw_len hk4
        rw [if_pos w1, w3, if_pos (show (0 : Int32) < nI x from nI_lt (a := 0) (by omega) (by omega))]
        rfl
      · rw [if_neg w1]
        rfl
    refine ⟨F', G', ?_, ?_, b3.W, b4⟩
    · unfold tx_yl
      rw [hh, pu_bs, if_neg Bool.false_ne_true]
    · unfold tx_gR
      dsimp only
      rw [if_pos rfl, if_neg e2, if_neg c0, b2]
      rfl
theorem tx_rowsL (hk0 : 1 ≤ k) (HL : tx_RL n b k N ng nw Inv) (HS : ∀ l F G F' G', Inv l F G → (∀ a, 131 ≤ a → a ≤ 142 → F' a = F a) → G' 223 = G 223 → Inv l F' G') : ∀ (m l i Fc Fm : Nat) (F G : (Nat → Nat → Int32)), N - i ≤ m → m < Fc → m + 1 < Fm → tx_T n b k N i F G → l ≤ 16 → G 216 15 = nI l → tx_en ng nw F G → Inv l F G →
    (∃ F' G', am_loop (tx_tL (nI k)) Fc (nI l, F) = some (.inl (-1, F')) ∧ (am_loop (tx_gR (nI (kw_c k 0))) Fm (true, G)).bind tx_gE = some (false, G') ∧ tx_W F G F' G' ∧ tx_Z F' G') ∨
    ∃ F' G' l', am_loop (tx_tL (nI k)) Fc (nI l, F) = some (.inr (nI l', F')) ∧ (am_loop (tx_gR (nI (kw_c k 0))) Fm (true, G)).bind tx_gE = some (true, G') ∧ tx_W F G F' G' ∧ tx_ok F' ∧ l' ≤ 16 ∧ G' 216 15 = nI l' ∧ Inv l' F' G' := by
  intro m
  induction m with
  | zero =>
    intro l i Fc Fm F G hm h1 h2 hT hl h15 hE hI
    obtain ⟨Fc', rfl⟩ : ∃ F', Fc = F' + 1 := ⟨Fc - 1, by omega⟩
    obtain ⟨Fm', rfl⟩ : ∃ F', Fm = F' + 1 := ⟨Fm - 1, by omega⟩
    have l16 : ¬ (16 : Int32) < nI l := nI_nlt (a := 16) (by omega) (by omega)
    rcases hT.1.fin with ⟨e0, e1, e2⟩ | ⟨e0, _⟩
    · right
      refine ⟨F, G, l, pu_loop_inr ?_, ?_, tx_W.rf, hT.2, hl, h15, hI⟩
      · unfold tx_tL
        dsimp only
        rw [if_neg l16, if_pos e1]
      · have : tx_gR (nI (kw_c k 0)) (true, G) = some (.inr (.inr (true, G))) := by
          unfold tx_gR
          dsimp only
          rw [if_pos rfl, if_pos e2]
        rw [pu_loop_inr this]
        rfl
    · omega
  | succ m ih =>
    intro l i Fc Fm F G hm h1 h2 hT hl h15 hE hI
    obtain ⟨Fc', rfl⟩ : ∃ F', Fc = F' + 1 := ⟨Fc - 1, by omega⟩
    obtain ⟨Fm', rfl⟩ : ∃ F', Fm = F' + 2 := ⟨Fm - 2, by omega⟩
    have l16 : ¬ (16 : Int32) < nI l := nI_nlt (a := 16) (by omega) (by omega)
    have hk0' : ¬ nI k = 0 := nI_ne (b := 0) (by omega) (by have := hT.1.2.2.1.1; omega)
    rcases hT.1.fin with ⟨e0, e1, e2⟩ | ⟨e0, e1, e2⟩
    · right
      refine ⟨F, G, l, pu_loop_inr ?_, ?_, tx_W.rf, hT.2, hl, h15, hI⟩
      · unfold tx_tL
        dsimp only
        rw [if_neg l16, if_pos e1]
      · have : tx_gR (nI (kw_c k 0)) (true, G) = some (.inr (.inr (true, G))) := by
          unfold tx_gR
          dsimp only
          rw [if_pos rfl, if_pos e2]
        rw [show Fm' + 2 = (Fm' + 1) + 1 from rfl, pu_loop_inr this]
        rfl
    · have ec := tx_t1 (nI k) (nI l) F hk0' l16 e1
      rcases tx_row hk0 HL HS hT hl h15 hE hI e2 with ⟨F', G', r1, r2, r3, r4⟩ | ⟨F', G', r1, r2, r3, r4⟩ | ⟨F', G', i', r1, r2, r3, r4, r5, r6, r7, r8⟩
      · left
        rw [r1, pu_bs, if_neg Bool.false_ne_true] at ec
        rw [pu_loop_inr ec, show Fm' + 2 = (Fm' + 1) + 1 from rfl, pu_loop_inr r2]
        exact ⟨F', G', rfl, rfl, r3, r4⟩
      · left
        rw [r1, pu_bs, if_neg Bool.false_ne_true] at ec
        have e3 : tx_gR (nI (kw_c k 0)) (false, G') = some (.inr (.inr (false, G'))) := by
          unfold tx_gR
          dsimp only
          rw [if_neg Bool.false_ne_true]
        rw [pu_loop_inr ec, show Fm' + 2 = (Fm' + 1) + 1 from rfl, pu_loop_inl r2, pu_loop_inr e3]
        exact ⟨F', G', rfl, rfl, r3, r4⟩
      · rw [r3, pu_bs, if_pos rfl, nI_1] at ec
        rw [pu_loop_inl ec, show Fm' + 2 = (Fm' + 1) + 1 from rfl, pu_loop_inl r4]
        rcases ih (l + 1) i' Fc' (Fm' + 1) F' G' (by omega) (by omega) (by omega) r6 (by omega) r7 (hE.to r5) r8 with ⟨F2, G2, s1, s2, s3, s4⟩ | ⟨F2, G2, l', s1, s2, s3, s4⟩
        · exact Or.inl ⟨F2, G2, s1, s2, r5.tr s3, s4⟩
        · exact Or.inr ⟨F2, G2, l', s1, s2, r5.tr s3, s4⟩
end
section
variable {n : Nat} {b : Nat → Nat} {N ng nw : Nat}
theorem tx_aR {G : (Nat → Nat → Int32)} {k : Nat} (hk : 1 ≤ k ∧ k < 4) (h12 : G 216 12 = nI k) {ok : Bool} {G' : (Nat → Nat → Int32)} (h : (if k = 1 then m_aWalk G else if k = 2 then m_aNearness G else m_aSecret G) = some (ok, G')) : m_aRow G = if ok = true then (m_need 159 G').bind fun p2 => some p2 else some (false, G') := by
  have fin : ∀ (x : Option (Bool × (Nat → Nat → Int32))), x = some (ok, G') → (x.bind fun p1 => if p1.1 = true then (m_need 159 p1.2).bind fun p2 => if p2.1 = true then some (true, p2.2) else some (false, p2.2) else some (false, p1.2)) = if ok = true then (m_need 159 G').bind fun p2 => some p2 else some (false, G') := by
    rintro x rfl
    rw [pu_bs]
    by_cases c : ok = true
    · subst c
      rw [if_pos rfl, if_pos rfl]
      dsimp only
      cases m_need 159 G' with
      | none => rfl
      | some p =>
        obtain ⟨x, y⟩ := p
        cases x <;> rfl
    · rw [if_neg c, if_neg c]
  unfold m_aRow
  simp only [h12]
  rcases (show k = 1 ∨ k = 2 ∨ k = 3 by omega) with rfl | rfl | rfl
  · exact fin _ h
  · exact fin _ h
  · exact fin _ h
theorem tx_RL1 : tx_RL n b 1 N ng nw (fun l F G => ∀ j, j < l → tx_wl ng nw F G j) := by
  intro i l F G G1 hT hN hl h15 h15' hE h217 h12 hI
  obtain ⟨e1, e2, e3, e4, e5, e6⟩ := hE
  obtain ⟨ok, F', G', r1, r2, r3, r4, r5⟩ := tx_walk hT hN hl h15 e1 e2 e3 e4 e5 e6
  refine ⟨ok, F', G', ?_, tx_aR (by omega) h12 r2, r3, r4, ?_⟩
  · unfold xs_readLine
    rw [if_pos (show nI 1 = (1 : Int32) from rfl), r1]
    rfl
  · rcases r5 with y | ⟨y1, i', y2, y3, y4, y5, y6⟩
    · exact Or.inl y
    · refine Or.inr ⟨y1, i', y2, y3, fun j hj => ?_⟩
      by_cases c : j = l
      · rw [c]; exact y4
      · exact (hI j (by omega)).to (fun a h1 h2 => y5 j c a h1 h2) (fun t ht => y6 _ (by omega))
theorem tx_RL2 : tx_RL n b 2 N ng nw (fun _ F G => tx_ne F G) := by
  intro i l F G G1 hT hN hl h15 h15' hE h217 h12 hI
  obtain ⟨ok, F', G', r1, r2, r3, r4, r5⟩ := tx_near hT hN hI
  refine ⟨ok, F', G', ?_, tx_aR (by omega) h12 r2, r3, r4, r5⟩
  unfold xs_readLine
  rw [if_neg (show ¬ nI 2 = (1 : Int32) by decide), if_pos (show nI 2 = (2 : Int32) from rfl), r1]
  rfl
theorem tx_RL3 : tx_RL n b 3 N ng nw (fun _ F G => tx_ke nw F G) := by
  intro i l F G G1 hT hN hl h15 h15' hE h217 h12 hI
  obtain ⟨e1, e2, e3, e4, e5, e6⟩ := hE
  obtain ⟨ok, F', G', r1, r2, r3, r4, r5⟩ := tx_keep hT hN e2 e4 (by rw [h217]; exact e6) hI
  refine ⟨ok, F', G', ?_, tx_aR (by omega) h12 r2, r3, r4, r5⟩
  unfold xs_readLine
  rw [if_neg (show ¬ nI 3 = (1 : Int32) by decide), if_neg (show ¬ nI 3 = (2 : Int32) by decide), r1]
  rfl
end
