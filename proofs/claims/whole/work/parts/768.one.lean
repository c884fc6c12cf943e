/-! ONE CONDITION -/
def tx_xN (r2 : Int32 → (Nat → Nat → Int32) → Option (Bool × (Nat → Nat → Int32))) (a0 : Int32) (f : (Nat → Nat → Int32)) : Option (Bool × (Nat → Nat → Int32)) := (xt_advance f).bind fun p5 => (r2 (a0 + 1) p5).bind fun p6 => (xl_emit_129 20033 p6.2).bind fun p7 => some (p6.1, p7)
def tx_xP (r1 : Int32 → (Nat → Nat → Int32) → Option (Bool × (Nat → Nat → Int32))) (a0 : Int32) (f : (Nat → Nat → Int32)) : Option (Bool × (Nat → Nat → Int32)) := (xt_advance f).bind fun p8 => (r1 (a0 + 1) p8).bind fun p9 => if p9.1 = true then (xs_takeSign 41 p9.2).bind fun p10 => if p10.1 = true then some (true, p10.2) else some (false, p10.2) else some (false, p9.2)
def tx_xM (f : (Nat → Nat → Int32)) : Option (Bool × (Nat → Nat → Int32)) := (xs_readSum f).bind fun p11 => if p11.1 = true then (if xt_isSign 60 p11.2 = true then (xt_advance p11.2).bind fun p14 => (xs_readSum p14).bind fun p15 => (xl_emit_129 (20000 + p11.2 123 2) p15.2).bind fun p16 => some (p15.1, p16)
  else if xt_isSign 61 p11.2 = true then (xt_advance p11.2).bind fun p14 => (xs_readSum p14).bind fun p15 => (xl_emit_129 (20000 + p11.2 123 2) p15.2).bind fun p16 => some (p15.1, p16)
  else if xt_isSign 62 p11.2 = true then (xt_advance p11.2).bind fun p14 => (xs_readSum p14).bind fun p15 => (xl_emit_129 (20000 + p11.2 123 2) p15.2).bind fun p16 => some (p15.1, p16)
  else some ((xs_refuse 1 p11.2).1, (xs_refuse 1 p11.2).2)) else some (false, p11.2)
theorem tx_rcB (r1 r2 : Int32 → (Nat → Nat → Int32) → Option (Bool × (Nat → Nat → Int32))) (a0 : Int32) (f : (Nat → Nat → Int32)) : xs_readCondition_B r1 r2 a0 f = if xt_isWord 6 f = true then (if a0 < 8 then tx_xN r2 a0 f else some ((xs_refuse 3 f).1, (xs_refuse 3 f).2)) else if xt_isSign 40 f = true then (if a0 < 8 then tx_xP r1 a0 f else some ((xs_refuse 3 f).1, (xs_refuse 3 f).2)) else tx_xM f := by
  unfold xs_readCondition_B
  simp only [pu_letE]
  by_cases c1 : xt_isWord 6 f = true
  · by_cases c2 : a0 < 8
    · simp only [if_pos c1, if_pos c2] <;> rfl
    · simp only [if_pos c1, if_neg c2] <;> rfl
  · by_cases c3 : xt_isSign 40 f = true
    · by_cases c2 : a0 < 8
      · simp only [if_neg c1, if_pos c3, if_pos c2] <;> rfl
      · simp only [if_neg c1, if_pos c3, if_neg c2] <;> rfl
    · simp only [if_neg c1, if_neg c3] <;> rfl
def tx_mM (f : (Nat → Nat → Int32)) : Option (Bool × (Nat → Nat → Int32)) := (m_sumUp f).bind fun p9 => if p9.1 = true then (
        am_let ((if p9.2 216 18 = 160 then (
            27)
          else (
            if p9.2 216 18 = 161 then (
              28)
            else (
              if p9.2 216 18 = 162 then (
                29)
              else (
                (-1))))) : Int32) fun t10 =>
        if t10 = (-1) then (
          am_let (m_bad 1 p9.2) fun p11 =>
          some (p11.1, p11.2))
        else (
          (m_next0 p9.2).bind fun p12 =>
          (m_sumUp p12).bind fun p13 =>
          if p13.1 = true then (
            (m_lay t10 0 p13.2).bind fun p14 =>
            some (true, p14))
          else (
            some (false, p13.2)))) else some (false, p9.2)
def tx_mN (r3 : (Nat → Nat → Int32) → Option (Bool × (Nat → Nat → Int32))) (f : (Nat → Nat → Int32)) : Option (Bool × (Nat → Nat → Int32)) := (m_opens f).bind fun p1 => if p1.1 = true then (r3 p1.2).bind fun p2 => if p2.1 = true then am_let (am_up p2.2 216 24 ((p2.2 216 24) - 1) : Nat → Nat → Int32) fun f3 => (m_lay 30 0 f3).bind fun p4 => some (true, p4) else some (false, p2.2) else some (false, p1.2)
def tx_mP (r1 : (Nat → Nat → Int32) → Option (Bool × (Nat → Nat → Int32))) (f : (Nat → Nat → Int32)) : Option (Bool × (Nat → Nat → Int32)) := (m_opens f).bind fun p5 => if p5.1 = true then (r1 p5.2).bind fun p6 => if p6.1 = true then (m_need 141 p6.2).bind fun p7 => if p7.1 = true then am_let (am_up p7.2 216 24 ((p7.2 216 24) - 1) : Nat → Nat → Int32) fun f8 => some (true, f8) else some (false, p7.2) else some (false, p6.2) else some (false, p5.2)
theorem tx_moB (r1 r2 r3 : (Nat → Nat → Int32) → Option (Bool × (Nat → Nat → Int32))) (f : (Nat → Nat → Int32)) : m_oneTest_B r1 r2 r3 f = if f 216 18 = 6 then tx_mN r3 f else if f 216 18 = 140 then tx_mP r1 f else tx_mM f := rfl
section
variable {n : Nat} {b : Nat → Nat} {N i e : Nat} {W : List lw_S} {F G : (Nat → Nat → Int32)}
/-- what opens: deeper, and on -/
theorem tx_open (h : tx_S n b 0 N i e W F G) {d : Nat} (hd : d < 8) (h24 : G 216 24 = nI d) (hi : i < N) : ∃ F1 G1, xt_advance F = some F1 ∧ m_opens G = some (true, G1) ∧ tx_S n b 0 N (i + 1) (e + 1) W F1 G1 ∧ tx_P F G F1 G1 ∧ G1 216 24 = nI (d + 1) := by
  obtain ⟨g1, g2⟩ := h.g24 (nI (d + 1))
  obtain ⟨F1, G1, r1, r2, r3, r4, r5, _, _⟩ := g1.adv hi
  refine ⟨F1, G1, r1, ?_, r3, g2.tr r4, ?_⟩
  · unfold m_opens
    simp only [h24, if_neg (show ¬ nI d = (8 : Int32) from nI_ne (b := 8) (by omega)), pu_letE, nI_1, r2, pu_bs]
  · rw [r5, pu_up_row, pu_upd_eq]
theorem tx_open8 (h : tx_S n b 0 N i e W F G) (h24 : G 216 24 = nI 8) : ∃ F1 G1, some ((xs_refuse 3 F).1, (xs_refuse 3 F).2) = some (false, F1) ∧ m_opens G = some (false, G1) ∧ tx_P F G F1 G1 ∧ tx_Z F1 G1 := by
  obtain ⟨F', G', b1, b2, b3, b4⟩ := h.bad 3
  refine ⟨F', G', by rw [b1], ?_, b3, b4⟩
  unfold m_opens
  rw [if_pos (show G 216 24 = 8 from h24), b2]
  rfl
/-- deeper no more -/
theorem tx_close (h : tx_S n b 0 N i e W F G) {d : Nat} (h24 : G 216 24 = nI (d + 1)) : ∃ G1, am_up G 216 24 (G 216 24 - 1) = G1 ∧ tx_S n b 0 N i e W F G1 ∧ tx_P F G F G1 ∧ G1 216 24 = nI d := by
  obtain ⟨g1, g2⟩ := h.g24 (nI d)
  refine ⟨_, rfl, ?_⟩
  rw [h24, nI_pred]
  exact ⟨g1, g2, by rw [pu_up_row, pu_upd_eq]⟩
theorem tx_cmp (h : tx_S n b 0 N i e W F G) : ∃ ok F' G', tx_xM F = some (ok, F') ∧ tx_mM G = some (ok, G') ∧ tx_O n b N i e W (fun D => ∀ st : List Bool, st.length + 4 ≤ 60 → lw_ks D st = some (true :: st)) F G ok F' G' := by
  unfold tx_xM tx_mM
  obtain ⟨ok, F1, G1, r1, r2, r3, r4⟩ := tx_sum h
  rw [r1, r2, pu_bs, pu_bs]
  rcases r4 with ⟨rfl, rz⟩ | ⟨rfl, i2, D, ri, rS, r24, rQ⟩
  · exact ⟨false, F1, G1, rfl, rfl, r3, Or.inl ⟨rfl, rz⟩⟩
  · rw [if_pos rfl, if_pos rfl]
    dsimp only
    have s1 : xt_isSign 60 F1 = true ↔ G1 216 18 = 160 := rS.1.sign (c := 60) (by omega) (by omega)
    have s2 : xt_isSign 61 F1 = true ↔ G1 216 18 = 161 := rS.1.sign (c := 61) (by omega) (by omega)
    have s3 : xt_isSign 62 F1 = true ↔ G1 216 18 = 162 := rS.1.sign (c := 62) (by omega) (by omega)
    have key : ∀ z : Nat, z < 3 → xt_isSign (nI (60 + z)) F1 = true → ∃ ok F' G', ((xt_advance F1).bind fun p14 => (xs_readSum p14).bind fun p15 => (xl_emit_129 (20000 + F1 123 2) p15.2).bind fun p16 => some (p15.1, p16)) = some (ok, F') ∧ ((m_next0 G1).bind fun p12 => (m_sumUp p12).bind fun p13 => if p13.1 = true then (m_lay (nI (27 + z)) 0 p13.2).bind fun p14 => some (true, p14) else some (false, p13.2)) = some (ok, G') ∧ tx_O n b N i e W (fun D => ∀ st : List Bool, st.length + 4 ≤ 60 → lw_ks D st = some (true :: st)) F G ok F' G' := by
      intro z hz hs
      have hG := (rS.1.sign (c := 60 + z) (by omega) (by omega)).mp hs
      have hi := rS.1.signN (by omega) hG (by omega)
      obtain ⟨F2, G2, u1, u2, u3, u4, u5, _, _⟩ := rS.adv hi
      obtain ⟨ok, F3, G3, v1, v2, v3, v4⟩ := tx_sum u3
      rw [u1, u2, pu_bs, pu_bs, v1, v2, pu_bs, pu_bs, (xt_signI.mp hs).2, show (20000 : Int32) + nI (60 + z) = nI (20000 + (60 + z)) from nI_add 20000 _]
      rcases v4 with ⟨rfl, vz⟩ | ⟨rfl, i3, D3, wi, wS, w24, wQ⟩
      · obtain ⟨F4, x1, x2, x3⟩ := tx_emF G3 (nI (20000 + (60 + z))) (((r3.tr u4).tr v3).2.2.2.2 h.U)
        dsimp only
        rw [x1, pu_bs, if_neg Bool.false_ne_true]
        exact ⟨false, F4, G3, rfl, rfl, ((r3.tr u4).tr v3).tr x2, Or.inl ⟨rfl, by unfold tx_Z; rw [x3]; exact vz⟩⟩
      · have hx : lw_e (27 + z, 0) = [20000 + (60 + z)] := by
          rcases (show z = 0 ∨ z = 1 ∨ z = 2 by omega) with rfl | rfl | rfl <;> rfl
        have hk : ∀ st, lw_k (27 + z, 0) (false :: false :: st) = some (true :: st) := by
          rcases (show z = 0 ∨ z = 1 ∨ z = 2 by omega) with rfl | rfl | rfl <;> intro st <;> rfl
        obtain ⟨F4, G4, x1, x2, x3, x4, x5, _⟩ := tx_emit wS hx 0 (fun y => by dsimp only at y; omega)
        dsimp only
        rw [x1, pu_bs, if_pos rfl, x2, pu_bs]
        refine ⟨true, F4, G4, rfl, rfl, ((r3.tr u4).tr v3).tr x4, Or.inr ⟨rfl, i3, D ++ D3 ++ [(27 + z, 0)], by omega, by rw [← List.append_assoc, ← List.append_assoc]; exact x3, x5.trans (w24.trans (u5.trans r24)), fun st hst => ?_⟩⟩
        rw [lw_ksa, lw_ksa, rQ st (by omega), pu_bs, wQ _ (by show st.length + 1 + 3 ≤ 60; omega), pu_bs, lw_ks1 (by show st.length + 1 + 1 ≤ 60; omega), hk]
    simp only [pu_letE]
    by_cases c1 : xt_isSign 60 F1 = true
    · rw [if_pos c1, if_pos (s1.mp c1), if_neg (by decide)]
      exact key 0 (by omega) c1
    · rw [if_neg c1, if_neg (fun z => c1 (s1.mpr z))]
      by_cases c2 : xt_isSign 61 F1 = true
      · rw [if_pos c2, if_pos (s2.mp c2), if_neg (by decide)]
        exact key 1 (by omega) c2
      · rw [if_neg c2, if_neg (fun z => c2 (s2.mpr z))]
        by_cases c3 : xt_isSign 62 F1 = true
        · rw [if_pos c3, if_pos (s3.mp c3), if_neg (by decide)]
          exact key 2 (by omega) c3
        · rw [if_neg c3, if_neg (fun z => c3 (s3.mpr z)), if_pos rfl]
          obtain ⟨F', G', b1, b2, b3, b4⟩ := rS.bad 1
          rw [b1, b2]
          exact ⟨false, F', G', rfl, rfl, r3.tr b3, Or.inl ⟨rfl, b4⟩⟩
end
theorem tx_cond {n : Nat} {b : Nat → Nat} {N : Nat} : ∀ (m d nx nm : Nat), d + m = 8 → 1 + 2 * m ≤ nx → 1 + 3 * m ≤ nm → tx_RC n b N d (4 + 2 * m) ((x_rec nx).2 (nI d)) (m_rec nm).2.2 := by
  intro m
  induction m with
  | zero =>
    intro d nx nm hd hx hm i e W F G h h24
    obtain ⟨nx, rfl⟩ : ∃ z, nx = z + 1 := ⟨nx - 1, by omega⟩
    obtain ⟨nm, rfl⟩ : ∃ z, nm = z + 1 := ⟨nm - 1, by omega⟩
    rw [tx_xC, tx_mC, tx_rcB, tx_moB]
    have W6 : xt_isWord 6 F = true ↔ G 216 18 = 6 := tx_wordN h.1 (x := 6) (by omega)
    have S40 : xt_isSign 40 F = true ↔ G 216 18 = 140 := h.1.sign (c := 40) (by omega) (by omega)
    have hd8 : d = 8 := by omega
    rw [hd8] at h24
    obtain ⟨F1, G1, o1, o2, o3, o4⟩ := tx_open8 h h24
    have l8 : ¬ nI d < (8 : Int32) := nI_nlt (b := 8) (by omega) (by omega)
    rw [if_neg l8, o1]
    by_cases c1 : xt_isWord 6 F = true
    · rw [if_pos c1, if_pos (W6.mp c1)]
      unfold tx_mN
      rw [o2, pu_bs, if_neg Bool.false_ne_true]
      exact ⟨false, F1, G1, rfl, rfl, o3, Or.inl ⟨rfl, o4⟩⟩
    · rw [if_neg c1, if_neg (fun z => c1 (W6.mpr z))]
      by_cases c2 : xt_isSign 40 F = true
      · rw [if_pos c2, if_pos (S40.mp c2)]
        unfold tx_mP
        rw [if_neg l8, o2, pu_bs, if_neg Bool.false_ne_true]
        exact ⟨false, F1, G1, rfl, rfl, o3, Or.inl ⟨rfl, o4⟩⟩
      · rw [if_neg c2, if_neg (fun z => c2 (S40.mpr z))]
        exact tx_cmp h
  | succ m ih =>
    intro d nx nm hd hx hm i e W F G h h24
    obtain ⟨nx, rfl⟩ : ∃ z, nx = z + 2 := ⟨nx - 2, by omega⟩
    obtain ⟨nm, rfl⟩ : ∃ z, nm = z + 3 := ⟨nm - 3, by omega⟩
    rw [tx_xC, tx_mC, tx_rcB, tx_moB]
    have W6 : xt_isWord 6 F = true ↔ G 216 18 = 6 := tx_wordN h.1 (x := 6) (by omega)
    have S40 : xt_isSign 40 F = true ↔ G 216 18 = 140 := h.1.sign (c := 40) (by omega) (by omega)
    have l8 : nI d < (8 : Int32) := nI_lt (b := 8) (by omega) (by omega)
    by_cases c1 : xt_isWord 6 F = true
    · rw [if_pos c1, if_pos (W6.mp c1), if_pos l8]
      have hi := h.1.signN (c := 6) (by omega) (W6.mp c1) (by omega)
      obtain ⟨F1, G1, o1, o2, o3, o4, o5⟩ := tx_open h (by omega) h24 hi
      obtain ⟨ok, F2, G2, u1, u2, u3, u4⟩ := ih (d + 1) (nx + 1) (nm + 2) (by omega) (by omega) (by omega) _ _ _ _ _ o3 o5
      unfold tx_xN tx_mN
      rw [o1, o2, pu_bs, pu_bs, if_pos rfl, nI_1, u1, pu_bs]
      dsimp only
      rw [u2, pu_bs]
      rcases u4 with ⟨rfl, uz⟩ | ⟨rfl, i2, D, ui, uS, u24, uQ⟩
      · obtain ⟨F4, x1, x2, x3⟩ := tx_emF G2 20033 ((o4.tr u3).2.2.2.2 h.U)
        rw [x1, pu_bs, if_neg Bool.false_ne_true]
        exact ⟨false, F4, G2, rfl, rfl, (o4.tr u3).tr x2, Or.inl ⟨rfl, by unfold tx_Z; rw [x3]; exact uz⟩⟩
      · obtain ⟨G3, y1, y2, y3, y4⟩ := tx_close uS (u24.trans o5)
        obtain ⟨F4, G4, x1, x2, x3, x4, x5, _⟩ := tx_emit (s := (30, 0)) (x := 20033) y2 rfl 0 (fun z => by dsimp only at z; omega)
        rw [show (20033 : Int32) = nI 20033 from rfl, x1, pu_bs, if_pos rfl]
        dsimp only
        rw [pu_letE, y1, show (30 : Int32) = nI (30, 0).1 from rfl, x2, pu_bs]
        refine ⟨true, F4, G4, rfl, rfl, ((o4.tr u3).tr y3).tr x4, Or.inr ⟨rfl, i2, D ++ [(30, 0)], by omega, by rw [← List.append_assoc]; exact x3, (x5.trans y4).trans h24.symm, fun st hst => ?_⟩⟩
        rw [lw_ksa, uQ st (by omega), pu_bs, lw_ks1 (by show st.length + 1 ≤ 60; omega)]
        rfl
    · rw [if_neg c1, if_neg (fun z => c1 (W6.mpr z))]
      by_cases c2 : xt_isSign 40 F = true
      · rw [if_pos c2, if_pos (S40.mp c2), if_pos l8]
        have hi := h.1.signN (c := 140) (by omega) (S40.mp c2) (by omega)
        obtain ⟨F1, G1, o1, o2, o3, o4, o5⟩ := tx_open h (by omega) h24 hi
        obtain ⟨ok, F2, G2, u1, u2, u3, u4⟩ := tx_any (by omega) (ih (d + 1) nx nm (by omega) (by omega) (by omega)) _ _ _ _ _ o3 o5
        have u1' : (x_rec (nx + 1)).1 (nI (d + 1)) F1 = some (ok, F2) := (tx_xA nx (nI (d + 1)) F1).trans u1
        have u2' : (m_rec (nm + 2)).1 G1 = some (ok, G2) := (tx_mA nm G1).trans u2
        unfold tx_xP tx_mP
        rw [o1, o2, pu_bs, pu_bs, if_pos rfl, nI_1, u1', pu_bs]
        dsimp only
        rw [u2', pu_bs]
        rcases u4 with ⟨rfl, uz⟩ | ⟨rfl, i2, D, ui, uS, u24, uQ⟩
        · rw [if_neg Bool.false_ne_true, if_neg Bool.false_ne_true]
          exact ⟨false, F2, G2, rfl, rfl, o4.tr u3, Or.inl ⟨rfl, uz⟩⟩
        · rw [if_pos rfl, if_pos rfl]
          dsimp only
          obtain ⟨ok, F3, G3, v1, v2, v3, v4⟩ := tx_sign uS (c := 41) (by omega) (by omega)
          rw [show (41 : Int32) = nI 41 from rfl, v1, show (141 : Int32) = nI (100 + 41) from rfl, v2, pu_bs, pu_bs]
          rcases v4 with ⟨rfl, vz⟩ | ⟨rfl, wS, w24, _, _⟩
          · exact ⟨false, F3, G3, rfl, rfl, (o4.tr u3).tr v3, Or.inl ⟨rfl, vz⟩⟩
          · obtain ⟨G4, y1, y2, y3, y4⟩ := tx_close wS (w24.trans (u24.trans o5))
            rw [if_pos rfl, if_pos rfl, pu_letE]
            dsimp only
            rw [y1]
            refine ⟨true, F3, G4, rfl, rfl, ((o4.tr u3).tr v3).tr y3, Or.inr ⟨rfl, i2 + 1, D, by omega, y2.le (by omega), y4.trans h24.symm, fun st hst => uQ st (by omega)⟩⟩
      · rw [if_neg c2, if_neg (fun z => c2 (S40.mpr z))]
        obtain ⟨ok, F', G', r1, r2, r3, r4⟩ := tx_cmp h
        refine ⟨ok, F', G', r1, r2, r3, ?_⟩
        rcases r4 with h | ⟨rfl, i2, D, a1, a2, a3, a4⟩
        · exact Or.inl h
        · exact Or.inr ⟨rfl, i2, D, a1, a2, a3, fun st hst => a4 st (by omega)⟩
/-- and any of them, as a line asks -/
theorem tx_given {n : Nat} {b : Nat → Nat} {N : Nat} : tx_RC n b N 0 22 (xs_readAny 40 0) (m_any 40) := by
  intro i e W F G h h24
  have h1 := tx_cond (n := n) (b := b) (N := N) 8 0 39 38 (by omega) (by omega) (by omega)
  obtain ⟨ok, F2, G2, u1, u2, u3, u4⟩ := tx_any (by omega) h1 i e W F G h h24
  exact ⟨ok, F2, G2, (tx_xA 39 0 F).trans u1, (tx_mA 38 G).trans u2, u3, u4⟩
