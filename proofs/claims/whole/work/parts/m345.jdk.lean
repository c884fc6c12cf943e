section MN2
variable {D : va_G} {cA : Nat → ClassId} {B b0 : Nat} {adK adV : Nat → Nat} {sc : Nat × (Nat → Int32)}
theorem am_wl_code {y : MethodName} {cc : ByteArray} {ml : Nat} {ret : Option FieldType} (h : Cond.code y cc ml ret ∈ lw_tbl) : GoodIn am_wl0 (Cond.code y cc ml ret :: am_wl0) := am_goodIn h rfl
set_option maxRecDepth 100000 in
theorem am_j_max : Cond.static Lib.Math.max.name ∈ am_wl0 ∧ Cond.initialized "java/lang/Math" ∈ am_wl0 ∧ Cond.code Lib.Math.max.name Lib.Math.max.code 2 (some .int) ∈ am_wl0 ∧ Cond.static Lib.Math.min.name ∈ am_wl0 ∧ Cond.code Lib.Math.min.name Lib.Math.min.code 2 (some .int) ∈ am_wl0 := by decide +kernel
set_option maxRecDepth 100000 in
theorem am_j_copy : Cond.native arraycopyName ∈ am_wl0 ∧ Cond.static arraycopyName ∈ am_wl0 ∧ Cond.initialized "java/lang/System" ∈ am_wl0 := by decide +kernel
set_option maxRecDepth 100000 in
theorem am_j_obj : Cond.instanceMethod Lib.objectInit ∈ am_wl0 ∧ Cond.code Lib.objectInit ⟨#[0xb1]⟩ 1 none ∈ am_wl0 := by decide +kernel
/-- the JDK's calls -/
theorem am_jdk_sound {l : Launch} {own : String} {cc : ByteArray} {nL : Nat} {p : Program} {e : Env} {R : Room} {s : State} {m : MethodId} {args : Array Value} {below : List Frame} {meth : Method} {c0 : Code} {Q : State → Prop} {cd : List am_E} {L0 S0 : Nat} {j pc : Nat} {ls : List (Nat × Value)} {st : List Value} {sh : List am_Sh} {h : am_H} {i : Jvm.ClassFile.Instr} {a b c : Nat} {pos k n : Nat} {t1 : am_C}
    (hC : am_Cx D cA B b0 adK adV sc own cc nL p s m args c0) (hp : ∀ q, cd[j]? = some q → q.2.1 = pc) (hj : ∃ q, cd[j]? = some q) (hnx : am_nxb cd (j + 1) pc 3 = true) (hR : 9 ≤ R.frames ∧ 576 ≤ R.locals) (hcap : sh.length - L0 ≤ R.cells ∧ am_sl sh - S0 ≤ R.slots)
    (hi : (i = .invokestatic n ∧ k = 0) ∨ (i = .invokevirtual n ∧ k = 1) ∨ (i = .invokespecial n ∧ k = 2)) (hd : decode cc pc = .ok (i, 3)) (hck : am_cab own k n a b c pos = true) (hc : ¬ c < 200) (he : am_jdk c j ls st sh h = some t1)
    (kk : am_AW D cA B b0 adK p l e R s m args below meth c0 Q nL cd L0 S0 t1) : am_AW D cA B b0 adK p l e R s m args below meth c0 Q nL cd L0 S0 (j, ls, st, sh, h) := by
  obtain ⟨hx, hb, hml, hown, hts, htn, hK, hX, hbB, hBs, hV, hSR, hZ, hZq⟩ := id hC
  have hF := am_Cx_Fx hC
  unfold am_jdk at he
  by_cases hcat : am_cats st ≤ 9
  · rw [if_pos hcat] at he
    unfold am_cab at hck
    rw [if_neg hc] at hck
    have hdS : k = 0 → decode cc pc = .ok (.invokestatic n, 3) := fun hk => by
      rcases hi with ⟨rfl, -⟩ | ⟨-, hk2⟩ | ⟨-, hk2⟩
      · exact hd
      · omega
      · omega
    have hdV : k = 1 → decode cc pc = .ok (.invokevirtual n, 3) := fun hk => by
      rcases hi with ⟨-, hk2⟩ | ⟨rfl, -⟩ | ⟨-, hk2⟩
      · omega
      · exact hd
      · omega
    have hdI : k = 2 → decode cc pc = .ok (.invokespecial n, 3) := fun hk => by
      rcases hi with ⟨-, hk2⟩ | ⟨-, hk2⟩ | ⟨rfl, -⟩
      · omega
      · omega
      · exact hd
    by_cases h200 : c = 200
    · rw [if_pos h200] at he hck
      simp only [Bool.and_eq_true, decide_eq_true_eq] at hck
      split at he
      · rename_i y x st
        cases he
        refine am_s3 hp hj hnx ?_ kk
        intro H locs lsA hsz hW hS go
        refine va_mmax hx hb (by rw [hml, hsz]) hown (hts _ (am_wl0_of (am_tb_mem hck.2) rfl)) (hts _ am_j_max.1) (hts _ am_j_max.2.1) (hts _ am_j_max.2.2.1) (by omega) ?_ hcap.1 hcap.2 (hdS hck.1) (go H locs hW hS)
        have e1 := am_tr_cats (B := B) (b := b0) (adK := adK) st
        have e2 : am_cats (.int y :: .int x :: st) = 1 + (1 + am_cats st) := rfl
        omega
      · cases he
    · rw [if_neg h200] at he hck
      by_cases h201 : c = 201
      · rw [if_pos h201] at he hck
        simp only [Bool.and_eq_true, decide_eq_true_eq] at hck
        split at he
        · rename_i y x st
          cases he
          refine am_s3 hp hj hnx ?_ kk
          intro H locs lsA hsz hW hS go
          refine va_mmin hx hb (by rw [hml, hsz]) hown (hts _ (am_wl0_of (am_tb_mem hck.2) rfl)) (hts _ am_j_max.2.2.2.1) (hts _ am_j_max.2.1) (hts _ am_j_max.2.2.2.2) (by omega) ?_ hcap.1 hcap.2 (hdS hck.1) (go H locs hW hS)
          have e1 := am_tr_cats (B := B) (b := b0) (adK := adK) st
          have e2 : am_cats (.int y :: .int x :: st) = 1 + (1 + am_cats st) := rfl
          omega
        · cases he
      · rw [if_neg h201] at he hck
        by_cases h202 : c = 202
        · rw [if_pos h202] at he hck
          simp only [Bool.and_eq_true, decide_eq_true_eq] at hck
          split at he
          · rename_i nn dp mm sp kq st
            split at he
            · rename_i N M hN hM
              by_cases hg : am_sp sp nn N = true ∧ am_sp dp nn M = true ∧ (kq < am_NX ↔ mm < am_NX)
              · rw [if_pos hg] at he
                cases he
                obtain ⟨g1, g2, g3⟩ := hg
                unfold am_sp at g1 g2
                simp only [Bool.and_eq_true, decide_eq_true_eq] at g1 g2
                refine am_s3 hp hj hnx ?_ kk
                intro H locs lsA hsz hW hS go
                refine am_r_copyi hx hb (by rw [hml, hsz]) hown (hts _ (am_wl0_of (am_tb_mem hck.2) rfl)) (hts _ am_j_copy.1) (hts _ am_j_copy.2.1) (hts _ am_j_copy.2.2) hK hW.1 (am_ws_D hW.2.2.1) hS kq mm 0 0 (am_ws_get hN) (am_ws_get hM) rfl rfl g1.1.1 g2.1.1 g1.1.2 g1.2 g2.2 (by omega) ?_ (hdS hck.1) ?_
                · have e1 := am_tr_cats (B := B) (b := b0) (adK := adK) st
                  have e2 : am_cats (.int nn :: .int dp :: .ref mm :: .int sp :: .ref kq :: st) = 1 + (1 + (1 + (1 + (1 + am_cats st)))) := rfl
                  have e3 : nativeFrameWords "java/lang/System" "arraycopy" 5 + 11 ≤ 400 := by decide
                  omega
                · intro H1 locs1 hP1 hz1 hS1
                  refine go H1 locs1 ?_ hS1
                  rw [am_cpy_wrow h _ _ _ g3]
                  exact hW.row hM hP1 hz1
              · rw [if_neg hg] at he
                cases he
            · cases he
          · cases he
        · rw [if_neg h202] at he hck
          by_cases h400 : c = 400
          · rw [if_pos h400] at he
            rw [if_neg (by omega), if_pos h400] at hck
            simp only [Bool.and_eq_true, decide_eq_true_eq] at hck
            split at he
            · rename_i w st
              by_cases hw : w < am_strs.length
              · rw [if_pos hw] at he
                cases he
                refine am_s3 hp hj hnx ?_ kk
                intro H locs lsA hsz hW hS go
                have e1 := am_tr_cats (B := B) (b := b0) (adK := adK) st
                have hcs : (List.map (fun v => v.category) (List.map (am_tr B b0 adK) st)).sum ≤ 8 := by
                  rw [e1]
                  exact (show am_cats st ≤ 8 by have e2 : am_cats (.retAddr w :: st) = 1 + am_cats st := rfl; omega)
                refine am_callN (W.runV (As := []) (rest := st.map (am_tr B b0 adK)) (C := RJ0) ⟨hx, hb, hml, hown, hts⟩ (am_m_length (D := D) (cA := cA) (B := B) (b := b0) (adK := adK) (adV := adV) (sc := sc) l hw) ⟨callB_of 0 hts (am_goodIn (List.mem_filter.mp mS_length_code).1 rfl) rfl rfl rfl (hts _ mS_ini_RJ0) (hts _ (am_wl0_of (am_tb_mem hck.2) rfl)) ⟨by decide, by decide, by decide⟩ ⟨(show 2 + 1 ≤ R.frames by omega), (show 8 + (1 + 11) + 64 * 2 ≤ R.locals by omega)⟩, hts _ mS_length_inst, hts _ mS_length_sel⟩ ⟨am_Pn_blind, vk_recv hV hw hS, fun U hU hW2 => ⟨rfl, hF.go hW2 (by rw [hU]; exact Nat.le_trans hBs hS.1) (fun a h1 h2 => by rw [hU]; exact hS.2.1 a h1 h2)⟩⟩ rfl rfl hsz rfl (lv_room hcs) (hdV hck.1) ⟨hcap.1, hcap.2⟩) (go H locs hW hS)
              · rw [if_neg hw] at he
                cases he
            · cases he
          · rw [if_neg h400] at he
            by_cases h401 : c = 401
            · rw [if_pos h401] at he
              rw [if_neg (by omega), if_neg h400] at hck
              simp only [Bool.and_eq_true, decide_eq_true_eq] at hck
              split at he
              · rename_i x w st
                by_cases hw : w < am_strs.length ∧ am_in x (am_tl w) = true
                · rw [if_pos hw] at he
                  cases he
                  refine am_s3 hp hj hnx ?_ kk
                  intro H locs lsA hsz hW hS go
                  have e1 := am_tr_cats (B := B) (b := b0) (adK := adK) st
                  have hcs : (List.map (fun v => v.category) (List.map (am_tr B b0 adK) st)).sum ≤ 8 := by
                    rw [e1]
                    exact (show am_cats st ≤ 8 by have e2 : am_cats (.int x :: .retAddr w :: st) = 1 + (1 + am_cats st) := rfl; omega)
                  refine am_callN (W.runV (As := [.int x]) (rest := st.map (am_tr B b0 adK)) (C := RJ0) ⟨hx, hb, hml, hown, hts⟩ (am_m_charAt (D := D) (cA := cA) (B := B) (b := b0) (adK := adK) (adV := adV) (sc := sc) l hw.1 hw.2) ⟨callB_of 1 hts (am_goodIn (List.mem_filter.mp mS_charAt_code).1 rfl) rfl rfl rfl (hts _ mS_ini_RJ0) (hts _ (am_wl0_of (am_tb_mem hck.2) rfl)) ⟨by decide, by decide, by decide⟩ ⟨(show 4 + 1 ≤ R.frames by omega), (show 8 + (2 + 11) + 64 * 4 ≤ R.locals by omega)⟩, hts _ mS_charAt_inst, hts _ mS_charAt_sel⟩ ⟨am_Pn_blind, vk_recv hV hw.1 hS, fun U hU hW2 => ⟨rfl, hF.go hW2 (by rw [hU]; exact Nat.le_trans hBs hS.1) (fun a h1 h2 => by rw [hU]; exact hS.2.1 a h1 h2)⟩⟩ rfl rfl hsz rfl (lv_room hcs) (hdV hck.1.2) ⟨hcap.1, hcap.2⟩) (go H locs hW hS)
                · rw [if_neg hw] at he
                  cases he
              · cases he
            · rw [if_neg h401] at he
              by_cases h300 : c = 300
              · rw [if_pos h300] at he hck
                simp only [Bool.and_eq_true, decide_eq_true_eq] at hck
                split at he
                · rename_i x st
                  cases he
                  refine am_s3 hp hj hnx ?_ kk
                  intro H locs lsA hsz hW hS go
                  refine W.objInit hx hb hown (hts _ (am_wl0_of (am_tb_mem hck.2) rfl)) (hts _ am_j_obj.1) (hts _ am_j_obj.2) rfl (by rw [hml]; exact hsz) rfl (hdI hck.1) (by omega) ?_ (go H locs hW hS)
                  have e1 := am_tr_cats (B := B) (b := b0) (adK := adK) st
                  have e2 : am_cats (.ref x :: st) = 1 + am_cats st := rfl
                  show 2 * 0 + ((st.map (am_tr B b0 adK)).map fun v => v.category).sum + 12 ≤ R.locals
                  omega
                · cases he
              · rw [if_neg h300] at he
                cases he
  · rw [if_neg hcat] at he
    cases he
end MN2
