section MN5
variable {D : va_G} {cA : Nat → ClassId} {B b0 : Nat} {adK adV : Nat → Nat} {sc : Nat × (Nat → Int32)}
theorem am_room1 {d : Nat} {R1 R2 : Nat} (h1 : d + 1 + 8 ≤ R1) (h2 : 64 * (d + 1 + 8) ≤ R2) : (d + 9 ≤ R1 ∧ 64 * (d + 9) ≤ R2) ∧ (9 ≤ R1 ∧ 576 ≤ R2) := by
  have e : d + 1 + 8 = d + 9 := by omega
  rw [e] at h1 h2
  exact ⟨⟨h1, h2⟩, by omega, by omega⟩
/-- THE ABSTRACT MACHINE IS SOUND -/
theorem am_sound {l : Launch} (hall : am_Chk) : ∀ n : Nat, am_Snd l D cA B b0 adK adV sc n := by
  intro n
  induction n with
  | zero => intro d mi j ls st sh h r M e; cases e
  | succ n ih =>
    intro d mi j ls st sh h r M hrun hM p e R s m args below meth c0 Q L0 S0 hC hini hR hL hret
    cases hc : (am_code mi)[j]? with
    | none => simp [am_run, hc] at hrun
    | some qe =>
      obtain ⟨⟨i, a, b, c, v⟩, ⟨pc, idx, pos⟩⟩ := qe
      obtain ⟨hck, hck2⟩ := am_ck_row (hall mi M hM).1 hc
      have hp : ∀ q, (am_code mi)[j]? = some q → q.2.1 = pc := fun q hq => by
        rw [hc] at hq
        cases hq
        rfl
      have hj : ∃ q, (am_code mi)[j]? = some q := ⟨_, hc⟩
      by_cases hpl : am_plain i = true
      · rw [am_run_plain hc hpl] at hrun
        obtain ⟨s1, e1, e2⟩ := am_bind_some hrun
        obtain ⟨j1, ls1, st1, sh1, h1⟩ := s1
        have hg := am_grow n d mi _ _ _ _ _ r e2
        have hx := am_ex_grow e1
        refine am_ex_sound (ini := decide (M.2.2.2.2.2.1 = 2)) hC (fun z => hini (of_decide_eq_true z)) hp hj hck ⟨Nat.le_trans (Nat.sub_le_sub_right hg.1 _) hR.2.2.1, Nat.le_trans (Nat.sub_le_sub_right hg.2 _) hR.2.2.2⟩ hL e1 ?_
        exact ih d mi j1 ls1 st1 sh1 h1 r M e2 hM p e R s m args below meth c0 Q L0 S0 hC hini hR ⟨Nat.le_trans hL.1 hx.1, Nat.le_trans hL.2 hx.2⟩ hret
      · have hcall : ∀ (k nn : Nat), ((i = .invokestatic nn ∧ k = 0) ∨ (i = .invokevirtual nn ∧ k = 1) ∨ (i = .invokespecial nn ∧ k = 2)) → decode M.2.2.1 pc = .ok (i, 3) → am_nxb (am_code mi) (j + 1) pc 3 = true → am_cab M.1 k nn a b c pos = true →
            ((if c < 200 then (match (generalizing := false) d with
              | 0 => none
              | d + 1 => if am_okc sh st a b c = true then (am_run sc n d a (0, lv_args 0 (st.take b).reverse, [], sh, h)).bind fun q => am_run sc n (d + 1) mi (j + 1, ls, q.1.toList ++ st.drop b, q.2.1, q.2.2) else none)
            else (match (generalizing := false) d with
              | 0 => none
              | d + 1 => (am_jdk c j ls st sh h).bind fun s => am_run sc n (d + 1) mi s)) = some r) → am_AW D cA B b0 adK p l e R s m args below meth c0 Q M.2.2.2.1 (am_code mi) L0 S0 (j, ls, st, sh, h) := by
          intro k nn hi hd hnx hcb he
          cases d with
          | zero => by_cases h2 : c < 200 <;> simp [h2] at he
          | succ d =>
            obtain ⟨hr1, hr2⟩ := am_room1 hR.1 hR.2.1
            by_cases h2 : c < 200
            · rw [if_pos h2] at he
              simp only at he
              by_cases h3 : am_okc sh st a b c = true
              · rw [if_pos h3] at he
                obtain ⟨q, e1, e2⟩ := am_bind_some he
                have hg := am_grow n (d + 1) mi _ _ _ _ _ r e2
                have hg1 := am_grow n d a _ _ _ _ _ q e1
                refine am_call_sound ih hall hC hp hj hnx hr1 ⟨Nat.le_trans (Nat.sub_le_sub_right hg.1 _) hR.2.2.1, Nat.le_trans (Nat.sub_le_sub_right hg.2 _) hR.2.2.2⟩ hL hi hd hcb h2 h3 e1 ?_
                exact ih (d + 1) mi _ _ _ _ _ r M e2 hM p e R s m args below meth c0 Q L0 S0 hC hini hR ⟨Nat.le_trans hL.1 hg1.1, Nat.le_trans hL.2 hg1.2⟩ hret
              · rw [if_neg h3] at he
                cases he
            · rw [if_neg h2] at he
              simp only at he
              obtain ⟨s1, e1, e2⟩ := am_bind_some he
              obtain ⟨j1, ls1, st1, sh1, h1⟩ := s1
              have hsh : sh1 = sh := am_jdk_sh e1
              subst hsh
              have hg := am_grow n (d + 1) mi _ _ _ _ _ r e2
              refine am_jdk_sound hC hp hj hnx hr2 ⟨Nat.le_trans (Nat.sub_le_sub_right hg.1 _) hR.2.2.1, Nat.le_trans (Nat.sub_le_sub_right hg.2 _) hR.2.2.2⟩ hi hd hcb h2 e1 ?_
              exact ih (d + 1) mi j1 ls1 st1 sh1 h1 r M e2 hM p e R s m args below meth c0 Q L0 S0 hC hini hR hL hret
        cases i with
        | invokestatic nn =>
          simp only [am_ck, Bool.and_eq_true, decide_eq_true_eq] at hck
          simp only [am_run, hc] at hrun
          exact hcall 0 nn (Or.inl ⟨rfl, rfl⟩) hck.1 hck.2 hck2 hrun
        | invokevirtual nn =>
          simp only [am_ck, Bool.and_eq_true, decide_eq_true_eq] at hck
          simp only [am_run, hc] at hrun
          exact hcall 1 nn (Or.inr (Or.inl ⟨rfl, rfl⟩)) hck.1 hck.2 hck2 hrun
        | invokespecial nn =>
          simp only [am_ck, Bool.and_eq_true, decide_eq_true_eq] at hck
          simp only [am_run, hc] at hrun
          exact hcall 2 nn (Or.inr (Or.inr ⟨rfl, rfl⟩)) hck.1 hck.2 hck2 hrun
        | ireturn =>
          simp only [am_ck, Bool.and_eq_true, decide_eq_true_eq] at hck
          simp only [am_run, hc] at hrun
          split at hrun
          · rename_i x
            by_cases hz : a = 1 ∧ ¬ (x = 0 ∨ x = 1)
            · rw [if_pos hz] at hrun
              cases hrun
            · rw [if_neg hz] at hrun
              cases hrun
              intro H locs lsA pc' hpc hl hW hS
              have e1 : pc' = pc := by rw [← hpc _ hc]
              subst e1
              refine hret H locs lsA pc' .ireturn [.int x] hck.1 (Or.inl ⟨rfl, x, rfl, rfl, ?_⟩) hW hS
              simp only [am_ck2] at hck2
              by_cases ha : a = 1
              · rw [if_pos ha] at hck2
                exact Or.inr ⟨of_decide_eq_true hck2, Classical.byContradiction fun z => hz ⟨ha, z⟩⟩
              · rw [if_neg ha] at hck2
                exact Or.inl (of_decide_eq_true hck2)
          · cases hrun
        | areturn =>
          simp only [am_ck, Bool.and_eq_true, decide_eq_true_eq] at hck
          simp only [am_run, hc] at hrun
          have hob : ∃ nm, M.2.2.2.2.1 = some (.object nm) := by
            simp only [am_ck2] at hck2
            split at hck2
            · rename_i nm hnm
              exact ⟨nm, hnm⟩
            · cases hck2
          split at hrun
          · rename_i x
            cases hrun
            intro H locs lsA pc' hpc hl hW hS
            have e1 : pc' = pc := by rw [← hpc _ hc]
            subst e1
            exact hret H locs lsA pc' .areturn [.ref x] hck.1 (Or.inr (Or.inl ⟨rfl, hob, Or.inl ⟨x, rfl, rfl⟩⟩)) hW hS
          · rename_i x
            cases hrun
            intro H locs lsA pc' hpc hl hW hS
            have e1 : pc' = pc := by rw [← hpc _ hc]
            subst e1
            exact hret H locs lsA pc' .areturn [.retAddr x] hck.1 (Or.inr (Or.inl ⟨rfl, hob, Or.inr ⟨x, rfl, rfl⟩⟩)) hW hS
          · cases hrun
        | return_ =>
          simp only [am_ck, Bool.and_eq_true, decide_eq_true_eq] at hck
          simp only [am_run, hc] at hrun
          split at hrun
          · cases hrun
            intro H locs lsA pc' hpc hl hW hS
            have e1 : pc' = pc := by rw [← hpc _ hc]
            subst e1
            simp only [am_ck2] at hck2
            exact hret H locs lsA pc' .return_ [] hck.1 (Or.inr (Or.inr ⟨rfl, of_decide_eq_true hck2, rfl, rfl⟩)) hW hS
          · cases hrun
        | _ => exact absurd rfl hpl
end MN5
