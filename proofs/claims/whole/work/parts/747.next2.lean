def tx_mk (p8 : Int32) : Bool := (if p8 = 59 then (
            true)
          else (
            if p8 = 43 then (
              true)
            else (
              if p8 = 45 then (
                true)
              else (
                if p8 = 42 then (
                  true)
                else (
                  if p8 = 47 then (
                    true)
                  else (
                    if p8 = 40 then (
                      true)
                    else (
                      if p8 = 41 then (
                        true)
                      else (
                        if p8 = 60 then (
                          true)
                        else (
                          if p8 = 61 then (
                            true)
                          else (
                            if p8 = 62 then (
                              true)
                            else (
                              false)))))))))))
theorem tx_mk0 : (List.range 256).all (fun c => tx_mk (nI c) == lx_S c) = true := by decide +kernel
theorem tx_mkx {c : Nat} (h : c < 256) : tx_mk (nI c) = lx_S c := by
  have := lx_ofall tx_mk0 h
  rw [beq_iff_eq] at this
  exact this
theorem md_next {n : Nat} {b : Nat → Nat} {G : Nat → Nat → Int32} (T : md_T n b G) {p k : Nat} (hp : p ≤ n) (h17 : G 216 17 = nI p) (hk : k < 4) (h12 : G 216 12 = nI k) : ∃ G', m_next0 G = some G' ∧ tx_fm G G' ∧ G' 216 17 = nI (tx_e n b (lx_e n b lx_B p)) ∧ G' 216 19 = nI (lx_e n b lx_B p) ∧ tx_R k (tx_V n b k (lx_e n b lx_B p)) G' := by
  have hn := T.1
  have hb : ∀ i, i < n → b i < 256 := fun i hi => (T.2.2 i hi).1
  obtain ⟨i1, i2, i3, i4⟩ := lx_eF (b := b) lx_B hp
  obtain ⟨e6, r1, F1, E1⟩ := tx_blank T hp h17
  unfold m_next0
  rw [r1, pu_bs]
  generalize hst : lx_e n b lx_B p = st at *
  have F2 := F1.up (j := 19) (by omega) (e6 216 17)
  rw [E1] at F2
  have T2 := F2.T T
  have g17 : am_up e6 216 19 (nI st) 216 17 = nI st := by rw [pu_up_row, pu_upd_ne _ _ (by omega)]; exact E1
  have g19 : am_up e6 216 19 (nI st) 216 19 = nI st := by rw [pu_up_row, pu_upd_eq]
  rw [pu_letE, E1]
  generalize am_up e6 216 19 (nI st) = G2 at *
  rw [g17, md_see T2 i2, pu_bs]
  unfold tx_e tx_V
  by_cases c : st < n
  · have hc := hb st c
    have ec : md_c n b st = nI (b st) := by
      unfold md_c
      rw [if_pos c]
    rw [if_neg (show ¬ n ≤ st by omega), if_neg (show ¬ n ≤ st by omega), if_neg (show ¬ md_c n b st = -1 from by rw [ec]; exact pu_neg1 (by omega))]
    by_cases cL : lx_L (b st) = true
    · rw [if_pos cL, if_pos cL, if_pos ((md_L hb st).mpr ⟨c, cL⟩)]
      obtain ⟨G3, r3, F3, E3, E4⟩ := tx_letters T2 i2 g17
      obtain ⟨j1, j2, j3, j4⟩ := lx_eF (b := b) lx_L i2
      obtain ⟨M, r4, r5⟩ := md_word (F3.T T2) j1 j2 (by rw [E4]; exact g19) E3 hk (by rw [F3.2 12 (by omega) (by omega) (by omega) (by omega), F2.2 12 (by omega) (by omega) (by omega) (by omega)]; exact h12)
      rw [r3, pu_bs, r4, pu_bs, pu_letE]
      refine ⟨_, rfl, (F2.tr F3).up (by omega) _, ?_, ?_, ?_⟩
      · rw [pu_up_row, pu_upd_ne _ _ (by omega)]; exact E3
      · rw [pu_up_row, pu_upd_ne _ _ (by omega), E4]; exact g19
      · unfold tx_R
        dsimp only
        have e18 : am_up G3 216 18 M 216 18 = M := by rw [pu_up_row, pu_upd_eq]
        rw [e18]
        rcases r5 with ⟨a1, a2⟩ | ⟨i, a1, a2, a3⟩
        · rw [if_pos a1]
          exact Or.inr (Or.inr (Or.inr (Or.inr ⟨rfl, a2⟩)))
        · have hlen : ∀ k, k < 4 → (kw_W k).length ≤ 17 := by decide
          have hlen := hlen k hk
          rw [if_neg (show ¬ kw_f (kw_m b st (lx_e n b lx_L st)) (kw_W k) 0 = -1 from by rw [a2]; exact pu_neg1 (by omega))]
          exact Or.inr (Or.inl ⟨rfl, i, a1, a2, a3⟩)
    · rw [if_neg cL, if_neg cL, if_neg (fun z => cL ((md_L hb st).mp z).2)]
      by_cases cD : lx_D (b st) = true
      · rw [if_pos cD, if_pos cD, if_pos ((md_D hb st).mpr ⟨c, cD⟩), pu_letE]
        have F3 := F2.up (j := 20) (by omega) 0
        obtain ⟨G3, r3, F4, E3, E4, E5⟩ := tx_digits (F3.T T) i2 (by rw [pu_up_row, pu_upd_ne _ _ (by omega)]; exact g17) (by rw [pu_up_row, pu_upd_ne _ _ (by omega)]; exact g19) (by rw [pu_up_row, pu_upd_eq])
        obtain ⟨j1, j2, j3, j4⟩ := lx_eF (b := b) lx_D i2
        rw [r3, pu_bs, E3, E4, pk_sub j1, pu_letE, pu_letE]
        refine ⟨_, rfl, (F3.tr F4).up (by omega) _, ?_, ?_, ?_⟩
        · rw [pu_up_row, pu_upd_ne _ _ (by omega)]; exact E3
        · rw [pu_up_row, pu_upd_ne _ _ (by omega)]; exact E4
        · unfold tx_R
          by_cases c4 : lx_e n b lx_D st - st ≤ 4
          · rw [if_pos c4, if_pos (show nI (lx_e n b lx_D st - st) < (5 : Int32) from nI_lt (b := 5) (by omega) (by omega))]
            refine Or.inr (Or.inr (Or.inl ⟨rfl, _, ?_, rfl, ?_, ?_⟩))
            · have h1 := lx_vl (b := b) (s := st) (lx_e n b lx_D st - st) c4 (fun i hi => j3 _ (by omega) (by omega))
              have h2 : 10 ^ (lx_e n b lx_D st - st) ≤ 10 ^ 4 := Nat.pow_le_pow_right (by omega) c4
              have h3 : 10 ^ 4 = 10000 := rfl
              omega
            · rw [pu_up_row, pu_upd_eq]
            · rw [pu_up_row, pu_upd_ne _ _ (by omega)]; exact E5 c4
          · rw [if_neg c4, if_neg (show ¬ nI (lx_e n b lx_D st - st) < (5 : Int32) from nI_nlt (b := 5) (by omega) (by omega))]
            exact Or.inr (Or.inr (Or.inr (Or.inr ⟨rfl, by rw [pu_up_row, pu_upd_eq]⟩)))
      · rw [if_neg cD, if_neg cD, if_neg (fun z => cD ((md_D hb st).mp z).2), pu_letE]
        have et : ∀ x, am_let (if md_c n b st = 59 then true else if md_c n b st = 43 then true else if md_c n b st = 45 then true else if md_c n b st = 42 then true else if md_c n b st = 47 then true else if md_c n b st = 40 then true else if md_c n b st = 41 then true else if md_c n b st = 60 then true else if md_c n b st = 61 then true else if md_c n b st = 62 then true else false : Bool) (fun t31 => am_let (if t31 = true then 100 + md_c n b st else 1 : Int32) fun t32 => am_let (am_up x 216 18 t32 : Nat → Nat → Int32) fun f33 => some f33) = some (am_up x 216 18 (if lx_S (b st) = true then 100 + md_c n b st else 1)) := by
          intro x
          rw [← tx_mkx hc, ← ec]
          rfl
        rw [et, ec, nI_1]
        refine ⟨_, rfl, (F2.up (j := 17) (by omega) _).up (by omega) _, ?_, ?_, ?_⟩
        · rw [pu_up_row, pu_upd_ne _ _ (by omega), pu_up_row, pu_upd_eq]
        · rw [pu_up_row, pu_upd_ne _ _ (by omega), pu_up_row, pu_upd_ne _ _ (by omega)]; exact g19
        · unfold tx_R
          by_cases cS : lx_S (b st) = true
          · rw [if_pos cS, if_pos cS]
            exact Or.inr (Or.inr (Or.inr (Or.inl ⟨rfl, b st, hc, cS, rfl, by rw [pu_up_row, pu_upd_eq]; exact nI_add 100 (b st)⟩)))
          · rw [if_neg cS, if_neg cS]
            exact Or.inr (Or.inr (Or.inr (Or.inr ⟨rfl, by rw [pu_up_row, pu_upd_eq]⟩)))
  · rw [if_pos (show n ≤ st by omega), if_pos (show n ≤ st by omega)]
    have ec : md_c n b st = -1 := by
      unfold md_c
      rw [if_neg c]
    rw [if_pos ec, pu_letE]
    refine ⟨_, rfl, F2.up (by omega) _, ?_, ?_, Or.inl ⟨rfl, ?_⟩⟩
    · rw [pu_up_row, pu_upd_ne _ _ (by omega)]; exact g17
    · rw [pu_up_row, pu_upd_ne _ _ (by omega)]; exact g19
    · rw [pu_up_row, pu_upd_eq]
