section MN4
theorem am_cap {L s q R : Nat} (h1 : L ≤ s) (h2 : s ≤ q) (h3 : q - L ≤ R) : s - L + (q - s) ≤ R := by omega
theorem am_cap2 {L s q : Nat} (h1 : L ≤ s) (h2 : s ≤ q) : q - L = s - L + (q - s) := by omega
set_option maxRecDepth 10000 in
theorem am_loc {a d R : Nat} (h1 : a + 19 ≤ 64) (h2 : 64 * (d + 9) ≤ R) : 8 + (a + 11) + 64 * (d + 8) ≤ R := by omega
/-- a link's room and words, both kinds of links -/
def am_CBs (R : Room) (s : State) (args : Array Value) (own : String) (n : Nat) (M : am_MI) : Prop :=
  ∀ (rm : Room) (mc ms : Nat), rm.cells = mc → rm.slots = ms → rm.frames + 1 ≤ R.frames ∧ 8 + (M.2.2.2.1 + 11) + rm.locals ≤ R.locals →
    CallB R s args own n M.2.1 M.2.2.1 M.2.2.2.1 M.2.2.2.2.1 (Cond.code M.2.1 M.2.2.1 M.2.2.2.1 M.2.2.2.2.1 :: am_wl0) rm mc ms M.2.2.2.2.2.2.1 ∨ ∃ host, va_CN R s args own n M.2.1 host M.2.2.1 M.2.2.2.1 M.2.2.2.2.1 (Cond.code M.2.1 M.2.2.1 M.2.2.2.1 M.2.2.2.2.1 :: am_wl0) rm mc ms M.2.2.2.2.2.2.1
theorem am_mkcb {R : Room} {s : State} {args : Array Value} {own : String} {n pos : Nat} {M : am_MI} (hts : ∀ w ∈ am_wl0, w.before args s = true) (htn : ∀ w ∈ lw_tbl, am_nb w = true → va_Nw w s) (hcode : Cond.code M.2.1 M.2.2.1 M.2.2.2.1 M.2.2.2.2.1 ∈ lw_tbl) (hini : Cond.initialized M.2.1.cls ∈ lw_tbl)
    (hy1 : M.2.1.cls ≠ "java/lang/invoke/MethodHandle") (hy2 : M.2.1.cls ≠ "java/lang/invoke/VarHandle") (hnp : (parseMethodDescriptor M.2.1.desc).map (fun d => d.parameters.length) = some M.2.2.2.2.2.2.1) (hlk : am_lkb own n pos M.2.1 = true) : am_CBs R s args own n M := by
  intro rm mc ms h1 h2 h3
  rcases am_lk_of' hlk with h | ⟨host, h⟩
  · exact Or.inl (callB_of _ hts (am_goodIn hcode rfl) rfl h1 h2 (hts _ (am_wl0_of hini rfl)) (hts _ (am_wl0_of h rfl)) ⟨hy1, hy2, hnp⟩ h3)
  · exact Or.inr ⟨host, va_cnB _ hts (am_goodIn hcode rfl) rfl h1 h2 (htn _ h rfl) (hts _ (am_wl0_of hini rfl)) ⟨hy1, hy2, hnp⟩ h3⟩
set_option maxRecDepth 100000 in
theorem am_ml_all : (List.range 400).all (fun a => match am_mt[a]? with | some M => decide (am_ml.getD a 0 = M.2.2.2.1) | none => true) = true := by decide +kernel
set_option maxRecDepth 100000 in
theorem am_mt_len : am_mt.length = 314 := by decide +kernel
theorem am_ml_mt {a : Nat} {M : am_MI} (h : am_mt[a]? = some M) : am_ml.getD a 0 = M.2.2.2.1 := by
  have hl := (List.getElem?_eq_some_iff.mp h).1
  rw [am_mt_len] at hl
  have g := List.all_eq_true.mp am_ml_all a (List.mem_range.mpr (by omega))
  rw [h] at g
  exact of_decide_eq_true g
set_option maxRecDepth 100000 in
theorem am_ini_all : am_mt.all (fun M => if M.2.2.2.2.2.1 = 2 then decide (M.2.2.2.2.1 = none) else true) = true := by decide +kernel
theorem am_ini_ret {a : Nat} {M : am_MI} (h : am_mt[a]? = some M) (hk : M.2.2.2.2.2.1 = 2) : M.2.2.2.2.1 = none := by
  have g := List.all_eq_true.mp am_ini_all M (List.mem_of_getElem? h)
  rw [if_pos hk] at g
  exact of_decide_eq_true g
end MN4
section MN3
variable {D : va_G} {cA : Nat → ClassId} {B b0 : Nat} {adK adV : Nat → Nat} {sc : Nat × (Nat → Int32)}
/-- a call of a method of the claim's own -/
theorem am_call_sound {l : Launch} {nf : Nat} (ih : am_Snd l D cA B b0 adK adV sc nf) (hall : am_Chk) {own : String} {cc : ByteArray} {nL : Nat} {p : Program} {e : Env} {R : Room} {s : State} {m : MethodId} {args : Array Value} {below : List Frame} {meth : Method} {c0 : Code} {Q : State → Prop} {cd : List am_E} {L0 S0 : Nat} {d j pc : Nat} {ls : List (Nat × Value)} {st : List Value} {sh : List am_Sh} {h : am_H} {i : Jvm.ClassFile.Instr} {a b c : Nat} {pos k n : Nat} {q : am_R}
    (hC : am_Cx D cA B b0 adK adV sc own cc nL p s m args c0) (hp : ∀ q, cd[j]? = some q → q.2.1 = pc) (hj : ∃ q, cd[j]? = some q) (hnx : am_nxb cd (j + 1) pc 3 = true) (hR : d + 9 ≤ R.frames ∧ 64 * (d + 9) ≤ R.locals) (hcap : q.2.1.length - L0 ≤ R.cells ∧ am_sl q.2.1 - S0 ≤ R.slots) (hL : L0 ≤ sh.length ∧ S0 ≤ am_sl sh)
    (hi : (i = .invokestatic n ∧ k = 0) ∨ (i = .invokevirtual n ∧ k = 1) ∨ (i = .invokespecial n ∧ k = 2)) (hd : decode cc pc = .ok (i, 3)) (hck : am_cab own k n a b c pos = true) (hc : c < 200) (hok : am_okc sh st a b c = true) (he : am_run sc nf d a (0, lv_args 0 (st.take b).reverse, [], sh, h) = some q)
    (kk : am_AW D cA B b0 adK p l e R s m args below meth c0 Q nL cd L0 S0 (j + 1, ls, q.1.toList ++ st.drop b, q.2.1, q.2.2)) : am_AW D cA B b0 adK p l e R s m args below meth c0 Q nL cd L0 S0 (j, ls, st, sh, h) := by
  obtain ⟨hx, hb, hml, hown, hts, htn, hK, hX, hbB, hBs, hV, hSR, hZ, hZq⟩ := id hC
  have hF := am_Cx_Fx hC
  have hgr := am_grow nf d a _ _ _ _ _ q he
  unfold am_cab at hck
  rw [if_pos hc] at hck
  cases hM : am_mt[a]? with
  | none => rw [hM] at hck; cases hck
  | some M =>
    rw [hM] at hck
    simp only [Bool.and_eq_true, decide_eq_true_eq] at hck
    obtain ⟨⟨⟨ha, hkind⟩, hlk⟩, hrest⟩ := hck
    obtain ⟨-, hm⟩ := hall a M hM
    obtain ⟨hmb, -⟩ := hm ha
    obtain ⟨hown0, hcode, hini, hk0, hk1, hk2, hpl, hy1, hy2, hnp, hml0⟩ := am_mb_of hmb
    unfold am_okc at hok
    simp only [Bool.and_eq_true, decide_eq_true_eq] at hok
    obtain ⟨⟨⟨hbl, hcats⟩, hargs⟩, hrecv⟩ := hok
    have hml1 : am_ml.getD a 0 = M.2.2.2.1 := am_ml_mt hM
    rw [hml1] at hargs
    have hMet := am_met ih hall hM ha he hargs
    have hgood := am_goodIn hcode rfl
    have hrm : d + 8 + 1 ≤ R.frames ∧ 8 + (M.2.2.2.1 + 11) + 64 * (d + 8) ≤ R.locals := ⟨hR.1, am_loc hml0 hR.2⟩
    have hcs : ((st.drop b).map (am_tr B b0 adK)).map (fun v => v.category) = ((st.drop b).map (am_tr B b0 adK)).map (fun v => v.category) := rfl
    have hcs8 : (((st.drop b).map (am_tr B b0 adK)).map (fun v => v.category)).sum ≤ 8 := by
      rw [am_tr_cats]
      exact hcats
    have hcb : am_CBs R s args own n M := am_mkcb hts htn hcode hini hy1 hy2 hnp hlk
    refine am_s3 (sh1 := q.2.1) (h1 := q.2.2) (st1 := q.1.toList ++ st.drop b) hp hj hnx ?_ kk
    intro H locs lsA hsz hW hS go
    have hcells : sh.length - L0 + (q.2.1.length - sh.length) ≤ R.cells ∧ am_sl sh - S0 + (am_sl q.2.1 - am_sl sh) ≤ R.slots := ⟨am_cap hL.1 hgr.1 hcap.1, am_cap hL.2 hgr.2 hcap.2⟩
    have fin : va_Run p l e R s m args below meth c0 H locs (sh.length - L0) (am_sl sh - S0) (q.2.1.length - sh.length) (am_sl q.2.1 - am_sl sh) (F0 m pc lsA (st.map (am_tr B b0 adK))) ((st.drop b).map (am_tr B b0 adK)) (am_Qc D cA B b0 adK q ((st.take b).reverse.map (am_tr B b0 adK)).toArray) (fun q => B ≤ q) → W p l e R s m args below meth c0 H locs (sh.length - L0) (am_sl sh - S0) Q (F0 m pc lsA (st.map (am_tr B b0 adK))) := by
      intro hr
      refine am_callr hr hS fun H1 locs1 hW1 hS1 => ?_
      have g := go H1 locs1 hW1 hS1
      rw [am_cap2 hL.1 hgr.1, am_cap2 hL.2 hgr.2] at g
      have e1 : (q.1.toList ++ st.drop b).map (am_tr B b0 adK) = (q.1.map (am_tr B b0 adK)).toList ++ (st.drop b).map (am_tr B b0 adK) := by
        rw [List.map_append]
        cases q.1 <;> rfl
      rw [e1] at g
      exact g
    have hpre : ∀ U : State, U.heap = H → s.WarmedH U.vm → am_Pc D cA B b0 adK adV sc (st.take b).reverse sh h ((st.take b).reverse.map (am_tr B b0 adK)).toArray U := fun U hU hW2 => ⟨rfl, hF.go hW2 (by rw [hU]; exact Nat.le_trans hBs hS.1) (fun a h1 h2 => by rw [hU]; exact hS.2.1 a h1 h2), by rw [hU]; exact hW⟩
    have hnb : M.2.2.2.2.2.2.1 = b ∨ M.2.2.2.2.2.2.1 + 1 = b := by
      by_cases hz : k = 0
      · rw [if_pos hz] at hrest
        simp only [Bool.and_eq_true, decide_eq_true_eq] at hrest
        exact Or.inl hrest.2.symm
      · rw [if_neg hz] at hrest
        simp only [Bool.and_eq_true, decide_eq_true_eq] at hrest
        exact Or.inr hrest.1.symm
    have hroom : 2 * (F0 m pc lsA (st.map (am_tr B b0 adK))).monitorRoom + (((st.drop b).map (am_tr B b0 adK)).map fun v => v.category).sum ≤ 8 := lv_room hcs8
    have hW1 : lsA.size = nL := hsz
    rcases hi with ⟨rfl, rfl⟩ | ⟨rfl, rfl⟩ | ⟨rfl, rfl⟩
    · rw [if_pos rfl] at hrest
      simp only [Bool.and_eq_true, decide_eq_true_eq] at hrest
      have hlen : ((st.take b).reverse.map (am_tr B b0 adK)).length = M.2.2.2.2.2.2.1 := by
        rw [List.length_map, List.length_reverse, List.length_take, ← hrest.2]
        exact Nat.min_eq_left hbl
      have hst : st.map (am_tr B b0 adK) = ((st.take b).reverse.map (am_tr B b0 adK)).reverse ++ (st.drop b).map (am_tr B b0 adK) := by
        rw [← List.map_reverse, List.reverse_reverse, ← List.map_append, List.take_append_drop]
      rcases hcb ({ frames := d + 8, cells := q.2.1.length - sh.length, slots := am_sl q.2.1 - am_sl sh, locals := 64 * (d + 8) } : Room) (q.2.1.length - sh.length) (am_sl q.2.1 - am_sl sh) rfl rfl hrm with cb | ⟨host, cb⟩
      · exact fin (va_runS (Ts := am_wl0) ⟨hx, hb, hml, hown, hts⟩ hMet ⟨cb, hts _ (am_wl0_of (hk0 hkind) rfl)⟩ ⟨am_Pc_blind, hpre⟩ rfl hlen hW1 hst hroom hd hcells)
      · exact fin (va_runSN (Ts := am_wl0) ⟨hx, hb, hml, hown, hts⟩ hMet ⟨cb, hts _ (am_wl0_of (hk0 hkind) rfl), trivial⟩ ⟨am_Pc_blind, hpre⟩ rfl hlen hW1 hst hroom hd hcells)
    · rw [if_neg (by decide)] at hrest
      simp only [Bool.and_eq_true, decide_eq_true_eq] at hrest
      rw [if_pos trivial] at hrest
      simp only [Bool.and_eq_true, decide_eq_true_eq] at hrest
      obtain ⟨hb1, ⟨hc1, hc2⟩, hcls⟩ := hrest
      rw [if_neg (Nat.ne_of_gt hc1)] at hrecv
      cases hhd : (st.drop (b - 1)).head? with
      | none => rw [hhd] at hrecv; cases hrecv
      | some w =>
        rw [hhd] at hrecv
        cases w with
        | ref k0 =>
          have hrecv : (if 100 ≤ c then true else (match sh[k0]? with | some (.inl o) => decide (o.1 + 1 = c) | _ => false)) = true := hrecv
          rw [if_neg (Nat.not_le.mpr hc2)] at hrecv
          cases hsk : sh[k0]? with
          | none => rw [hsk] at hrecv; cases hrecv
          | some so =>
            rw [hsk] at hrecv
            cases so with
            | inr _ => cases hrecv
            | inl o =>
              have hoc : o.1 + 1 = c := of_decide_eq_true hrecv
              subst hoc
              have hoc2 : o.1 + 1 - 1 = o.1 := rfl
              rw [hoc2] at hcls
              cases hcl : vwCl[o.1]? with
              | none => rw [hcl] at hcls; cases hcls
              | some cq =>
                rw [hcl] at hcls
                have hcq : cq.1 = M.2.1.cls := of_decide_eq_true hcls
                obtain ⟨s1, s2⟩ := am_okc_split (by rw [hb1]; exact Nat.le_add_left _ _) hbl hhd
                have hlen : ((st.take (b - 1)).reverse.map (am_tr B b0 adK)).length = M.2.2.2.2.2.2.1 := by
                  rw [List.length_map, List.length_reverse, List.length_take, hb1]
                  exact Nat.min_eq_left (by rw [hb1] at hbl; exact Nat.le_trans (Nat.le_succ _) hbl)
                have hst : st.map (am_tr B b0 adK) = ((st.take (b - 1)).reverse.map (am_tr B b0 adK)).reverse ++ .ref (am_ad B b0 k0) :: (st.drop b).map (am_tr B b0 adK) := by
                  have g := congrArg (List.map (am_tr B b0 adK)) s1
                  rw [List.map_append, List.map_reverse] at g
                  exact g
                rw [s2] at fin hpre
                have hrec : ∃ cellB : Cell, H[am_ad B b0 k0]? = some cellB ∧ cellB.vm.isStatics = false ∧ s.vm.findClass M.2.1.cls = some cellB.cls := by
                  rw [← hcq]
                  exact va_recv hK hW.1 hcl (am_ws_get hsk)
                rcases hcb ({ frames := d + 8, cells := q.2.1.length - sh.length, slots := am_sl q.2.1 - am_sl sh, locals := 64 * (d + 8) } : Room) (q.2.1.length - sh.length) (am_sl q.2.1 - am_sl sh) rfl rfl hrm with cb | ⟨host, cb⟩
                · rw [s2] at hMet
                  exact fin (va_runV (Ts := am_wl0) (C := M.2.1.cls) ⟨hx, hb, hml, hown, hts⟩ hMet ⟨cb, hts _ (am_wl0_of (hk1 hkind).1 rfl), hts _ (am_wl0_of (hk1 hkind).2 rfl)⟩ ⟨am_Pc_blind, hrec, hpre⟩ rfl hlen hW1 hst hroom hd hcells)
                · rw [s2] at hMet
                  exact fin (va_runVN (Ts := am_wl0) (C := M.2.1.cls) ⟨hx, hb, hml, hown, hts⟩ hMet ⟨cb, hts _ (am_wl0_of (hk1 hkind).1 rfl), hts _ (am_wl0_of (hk1 hkind).2 rfl)⟩ ⟨am_Pc_blind, hrec, hpre⟩ rfl hlen hW1 hst hroom hd hcells)
        | _ => cases hrecv
    · rw [if_neg (by decide)] at hrest
      simp only [Bool.and_eq_true, decide_eq_true_eq] at hrest
      rw [if_neg (by decide)] at hrest
      simp only [Bool.and_eq_true, decide_eq_true_eq] at hrest
      obtain ⟨hb1, -, hc1⟩ := hrest
      obtain ⟨hinst, hname⟩ := hk2 hkind
      have hret : M.2.2.2.2.1 = none := am_ini_ret hM hkind
      rw [if_neg (fun z => by rw [z] at hc1; exact absurd hc1 (by decide))] at hrecv
      cases hhd : (st.drop (b - 1)).head? with
      | none => rw [hhd] at hrecv; cases hrecv
      | some w =>
        rw [hhd] at hrecv
        cases w with
        | ref k0 =>
          obtain ⟨s1, s2⟩ := am_okc_split (by rw [hb1]; exact Nat.le_add_left _ _) hbl hhd
          have hlen : ((st.take (b - 1)).reverse.map (am_tr B b0 adK)).length = M.2.2.2.2.2.2.1 := by
            rw [List.length_map, List.length_reverse, List.length_take, hb1]
            exact Nat.min_eq_left (by rw [hb1] at hbl; exact Nat.le_trans (Nat.le_succ _) hbl)
          have hst : st.map (am_tr B b0 adK) = ((st.take (b - 1)).reverse.map (am_tr B b0 adK)).reverse ++ .ref (am_ad B b0 k0) :: (st.drop b).map (am_tr B b0 adK) := by
            have g := congrArg (List.map (am_tr B b0 adK)) s1
            rw [List.map_append, List.map_reverse] at g
            exact g
          rw [s2] at fin hpre hMet
          rw [hret] at hMet
          have cb := hcb ({ frames := d + 8, cells := q.2.1.length - sh.length, slots := am_sl q.2.1 - am_sl sh, locals := 64 * (d + 8) } : Room) (q.2.1.length - sh.length) (am_sl q.2.1 - am_sl sh) rfl rfl hrm
          rw [hret] at cb
          rcases cb with cb | ⟨host, cb⟩
          · exact fin (va_runI (Ts := am_wl0) ⟨hx, hb, hml, hown, hts⟩ hMet ⟨cb, hname, hts _ (am_wl0_of hinst rfl)⟩ ⟨am_Pc_blind, hpre⟩ rfl hlen hW1 hst hroom hd hcells)
          · exact fin (va_runIN (Ts := am_wl0) ⟨hx, hb, hml, hown, hts⟩ hMet ⟨cb, hname, hts _ (am_wl0_of hinst rfl)⟩ ⟨am_Pc_blind, hpre⟩ rfl hlen hW1 hst hroom hd hcells)
        | _ => cases hrecv
end MN3
