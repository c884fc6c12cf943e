/-! WHAT STANDS FAST, from a method's start to its callee's -/
def am_Fx (D : va_G) (cA : Nat → ClassId) (B b : Nat) (adK adV : Nat → Nat) (sc : Nat × (Nat → Int32)) (s : State) : Prop :=
  (∀ w ∈ lw_tbl, am_nb w = true → va_Nw w s) ∧ va_K D vwCl (am_tys cA) s ∧ va_X b sc.1 sc.2 s s.heap ∧ b < B ∧ B ≤ s.heap.size ∧
  vk_S am_strs.length (am_strs.map List.length) am_strs adK adV (fun q => B ≤ q) s s.heap ∧ (∀ (i : Nat) (q : String × Nat × String × Nat), am_sr[i]? = some q → vk_R q.1 q.2.1 q.2.2.1 (adK i) s) ∧
  va_Z "java/lang/String" "COMPACT_STRINGS" "Z" (.int 1) (fun q => B ≤ q) s s.heap ∧ va_Zq "jdk/internal/util/Preconditions" "SIOOBE_FORMATTER" "Ljava/util/function/BiFunction;" (fun q => B ≤ q) s s.heap
section FX
variable {D : va_G} {cA : Nat → ClassId} {B b : Nat} {adK adV : Nat → Nat} {sc : Nat × (Nat → Int32)}
theorem am_Cx_Fx {own : String} {cc : ByteArray} {nL : Nat} {p : Program} {s : State} {m : MethodId} {args : Array Value} {c : Code} (h : am_Cx D cA B b adK adV sc own cc nL p s m args c) : am_Fx D cA B b adK adV sc s := by
  obtain ⟨-, -, -, -, -, h⟩ := h
  exact h
theorem am_nb_moved {w : Cond} (hw : am_nb w = true) {s U : State} (hW : s.WarmedH U.vm) (h : va_Nw w s) : va_Nw w U := by
  unfold am_nb at hw
  split at hw
  · exact va_Nw.warmM hW h
  · exact va_AO.moved hW.alike h
  · cases hw
theorem am_Fx.go {s U : State} (h : am_Fx D cA B b adK adV sc s) (hW : s.WarmedH U.vm) (hz : B ≤ U.heap.size) (hq : ∀ a : Nat, a < s.heap.size → ¬ B ≤ a → U.heap[a]? = s.heap[a]?) : am_Fx D cA B b adK adV sc U := by
  obtain ⟨h1, h2, h3, h4, h5, h6, h7, h8, h9⟩ := h
  exact ⟨fun w hw hn => am_nb_moved hn hW (h1 w hw hn), va_K.moved hW.alike h2, va_X.moved hW.alike (h3.kept (hq b (Nat.lt_of_lt_of_le h4 h5) (Nat.not_le.mpr h4))), h4, hz, (vk_S.moved hW.alike h6).kept hq, fun i q hi => (h7 i q hi).warm hW, (va_Z.moved hW.alike h8).kept hq, (va_Zq.moved hW.alike h9).kept hq⟩
theorem am_Fx.same {s U : State} (h : am_Fx D cA B b adK adV sc s) (hv : U.vm = s.vm) (hh : U.heap = s.heap) : am_Fx D cA B b adK adV sc U := by
  obtain ⟨h1, h2, h3, h4, h5, h6, h7, h8, h9⟩ := h
  have ha : s.vm.Alike U.vm := by rw [hv]; exact Vm.Alike.refl _
  rw [am_Fx, hh]
  refine ⟨fun w hw hn => ?_, va_K.moved ha h2, va_X.moved ha h3, h4, h5, vk_S.moved ha h6, fun i q hi => (h7 i q hi).same hv, va_Z.moved ha h8, va_Zq.moved ha h9⟩
  have g := h1 w hw hn
  unfold am_nb at hn
  split at hn
  · exact va_Nw.same rfl hv.symm g
  · exact va_AO.moved ha g
  · cases hn
end FX
set_option maxRecDepth 100000 in
theorem am_wl0_good : ∀ w ∈ am_wl0, goodWord w = true := fun w h => (List.mem_filter.mp h).2
theorem am_goodIn {w0 : Cond} (h : w0 ∈ lw_tbl) (hg : goodWord w0 = true) : GoodIn am_wl0 (w0 :: am_wl0) := by
  intro w hw
  rcases List.mem_cons.mp hw with rfl | hw
  · exact ⟨am_wl0_of h hg, good_of_word hg⟩
  · exact ⟨hw, good_of_word (am_wl0_good w hw)⟩
/-! THE JDK'S MEMBERS OF TEXTS: contracts that touch no cell -/
section STR
variable {D : va_G} {cA : Nat → ClassId} {B b : Nat} {adK adV : Nat → Nat} {sc : Nat × (Nat → Int32)}
def am_Pn (D : va_G) (cA : Nat → ClassId) (B b : Nat) (adK adV : Nat → Nat) (sc : Nat × (Nat → Int32)) (as : List Value) : Array Value → State → Prop := fun v U => v = as.toArray ∧ am_Fx D cA B b adK adV sc U
def am_Qn (v : Option Value) : Array Value → State → Outcome → State → Prop := fun _ st o t => o = .returned v ∧ t.heap = st.heap
theorem am_Pn_blind {as : List Value} : FrameBlind (am_Pn D cA B b adK adV sc as) := fun a U g mk h => ⟨h.1, h.2.same rfl rfl⟩
abbrev am_rm (k : Nat) : Room := { frames := k, cells := 0, slots := 0, locals := 64 * k }
/-- such a contract at a call -/
theorem am_callN {p : Program} {l : Launch} {e : Env} {R : Room} {s : State} {m : MethodId} {args : Array Value} {below : List Frame} {meth : Method} {c : Code} {H : Heap} {locs : List Loc} {cells slots : Nat} {Q : State → Prop} {g : JFrame} {rest : List Value} {v : Option Value} {a : Array Value}
    (hr : CallRun p l e R s m args below meth c H locs cells slots 0 0 g rest (am_Qn v a) (fun _ => False))
    (kk : W p l e R s m args below meth c H locs cells slots Q { g with pc := g.pc + 3, stack := v.toList ++ rest }) : W p l e R s m args below meth c H locs cells slots Q g := by
  refine W.callX hr (fun x hx => hx.elim) fun v' st₀ t h0 hq => ?_
  obtain ⟨hv, hh⟩ := hq
  cases hv
  rw [hh, h0]
  exact kk
theorem dS_coder_0 : decode cJ0_coder_7d493 0 = .ok (.getstatic 38, 3) := by decide +kernel
theorem dS_coder_3 : decode cJ0_coder_7d493 3 = .ok (.ifCond .eq 10, 3) := by decide +kernel
theorem dS_coder_6 : decode cJ0_coder_7d493 6 = .ok (.aload_n 0, 1) := by decide +kernel
theorem dS_coder_7 : decode cJ0_coder_7d493 7 = .ok (.getfield 15, 3) := by decide +kernel
theorem dS_coder_10 : decode cJ0_coder_7d493 10 = .ok (.goto 4, 3) := by decide +kernel
theorem dS_coder_14 : decode cJ0_coder_7d493 14 = .ok (.ireturn, 1) := by decide +kernel
theorem dS_isLatin1_0 : decode cJ0_isLatin1_aae02 0 = .ok (.getstatic 38, 3) := by decide +kernel
theorem dS_isLatin1_3 : decode cJ0_isLatin1_aae02 3 = .ok (.ifCond .eq 14, 3) := by decide +kernel
theorem dS_isLatin1_6 : decode cJ0_isLatin1_aae02 6 = .ok (.aload_n 0, 1) := by decide +kernel
theorem dS_isLatin1_7 : decode cJ0_isLatin1_aae02 7 = .ok (.getfield 15, 3) := by decide +kernel
theorem dS_isLatin1_10 : decode cJ0_isLatin1_aae02 10 = .ok (.ifCond .ne 7, 3) := by decide +kernel
theorem dS_isLatin1_13 : decode cJ0_isLatin1_aae02 13 = .ok (.iconst 1, 1) := by decide +kernel
theorem dS_isLatin1_14 : decode cJ0_isLatin1_aae02 14 = .ok (.goto 4, 3) := by decide +kernel
theorem dS_isLatin1_17 : decode cJ0_isLatin1_aae02 17 = .ok (.iconst 0, 1) := by decide +kernel
theorem dS_isLatin1_18 : decode cJ0_isLatin1_aae02 18 = .ok (.ireturn, 1) := by decide +kernel
theorem dS_length_0 : decode cJ0_length_8abf5 0 = .ok (.aload_n 0, 1) := by decide +kernel
theorem dS_length_1 : decode cJ0_length_8abf5 1 = .ok (.getfield 9, 3) := by decide +kernel
theorem dS_length_4 : decode cJ0_length_8abf5 4 = .ok (.arraylength, 1) := by decide +kernel
theorem dS_length_5 : decode cJ0_length_8abf5 5 = .ok (.aload_n 0, 1) := by decide +kernel
theorem dS_length_6 : decode cJ0_length_8abf5 6 = .ok (.invokevirtual 335, 3) := by decide +kernel
theorem dS_length_9 : decode cJ0_length_8abf5 9 = .ok (.ishr, 1) := by decide +kernel
theorem dS_length_10 : decode cJ0_length_8abf5 10 = .ok (.ireturn, 1) := by decide +kernel
theorem dS_checkIndex_0 : decode cJ0_checkIndex_df160 0 = .ok (.iload_n 0, 1) := by decide +kernel
theorem dS_checkIndex_1 : decode cJ0_checkIndex_df160 1 = .ok (.iload_n 1, 1) := by decide +kernel
theorem dS_checkIndex_2 : decode cJ0_checkIndex_df160 2 = .ok (.getstatic 1053, 3) := by decide +kernel
theorem dS_checkIndex_5 : decode cJ0_checkIndex_df160 5 = .ok (.invokestatic 1059, 3) := by decide +kernel
theorem dS_checkIndex_8 : decode cJ0_checkIndex_df160 8 = .ok (.pop, 1) := by decide +kernel
theorem dS_checkIndex_9 : decode cJ0_checkIndex_df160 9 = .ok (.return_, 1) := by decide +kernel
theorem dS_charAt_0 : decode cJ0_charAt_5068e 0 = .ok (.aload_n 0, 1) := by decide +kernel
theorem dS_charAt_1 : decode cJ0_charAt_5068e 1 = .ok (.invokevirtual 492, 3) := by decide +kernel
theorem dS_charAt_4 : decode cJ0_charAt_5068e 4 = .ok (.ifCond .eq 12, 3) := by decide +kernel
theorem dS_charAt_7 : decode cJ0_charAt_5068e 7 = .ok (.aload_n 0, 1) := by decide +kernel
theorem dS_charAt_8 : decode cJ0_charAt_5068e 8 = .ok (.getfield 9, 3) := by decide +kernel
theorem dS_charAt_11 : decode cJ0_charAt_5068e 11 = .ok (.iload_n 1, 1) := by decide +kernel
theorem dS_charAt_12 : decode cJ0_charAt_5068e 12 = .ok (.invokestatic 495, 3) := by decide +kernel
theorem dS_charAt_15 : decode cJ0_charAt_5068e 15 = .ok (.ireturn, 1) := by decide +kernel
theorem dS_charAt_16 : decode cJ0_charAt_5068e 16 = .ok (.aload_n 0, 1) := by decide +kernel
theorem dS_charAt_17 : decode cJ0_charAt_5068e 17 = .ok (.getfield 9, 3) := by decide +kernel
theorem dS_charAt_20 : decode cJ0_charAt_5068e 20 = .ok (.iload_n 1, 1) := by decide +kernel
theorem dS_charAt_21 : decode cJ0_charAt_5068e 21 = .ok (.invokestatic 498, 3) := by decide +kernel
theorem dS_charAt_24 : decode cJ0_charAt_5068e 24 = .ok (.ireturn, 1) := by decide +kernel
theorem dS_lat_0 : decode cJ1_charAt_3b067 0 = .ok (.iload_n 1, 1) := by decide +kernel
theorem dS_lat_1 : decode cJ1_charAt_3b067 1 = .ok (.aload_n 0, 1) := by decide +kernel
theorem dS_lat_2 : decode cJ1_charAt_3b067 2 = .ok (.arraylength, 1) := by decide +kernel
theorem dS_lat_3 : decode cJ1_charAt_3b067 3 = .ok (.invokestatic 9, 3) := by decide +kernel
theorem dS_lat_6 : decode cJ1_charAt_3b067 6 = .ok (.aload_n 0, 1) := by decide +kernel
theorem dS_lat_7 : decode cJ1_charAt_3b067 7 = .ok (.iload_n 1, 1) := by decide +kernel
theorem dS_lat_8 : decode cJ1_charAt_3b067 8 = .ok (.baload, 1) := by decide +kernel
theorem dS_lat_9 : decode cJ1_charAt_3b067 9 = .ok (.sipush 255, 3) := by decide +kernel
theorem dS_lat_12 : decode cJ1_charAt_3b067 12 = .ok (.iand, 1) := by decide +kernel
theorem dS_lat_13 : decode cJ1_charAt_3b067 13 = .ok (.i2c, 1) := by decide +kernel
theorem dS_lat_14 : decode cJ1_charAt_3b067 14 = .ok (.ireturn, 1) := by decide +kernel
theorem dS_pre_0 : decode cJ3_checkIndex_8e157 0 = .ok (.iload_n 0, 1) := by decide +kernel
theorem dS_pre_1 : decode cJ3_checkIndex_8e157 1 = .ok (.ifCond .lt 8, 3) := by decide +kernel
theorem dS_pre_4 : decode cJ3_checkIndex_8e157 4 = .ok (.iload_n 0, 1) := by decide +kernel
theorem dS_pre_5 : decode cJ3_checkIndex_8e157 5 = .ok (.iload_n 1, 1) := by decide +kernel
theorem dS_pre_6 : decode cJ3_checkIndex_8e157 6 = .ok (.if_icmp .lt 10, 3) := by decide +kernel
theorem dS_pre_9 : decode cJ3_checkIndex_8e157 9 = .ok (.aload_n 2, 1) := by decide +kernel
theorem dS_pre_10 : decode cJ3_checkIndex_8e157 10 = .ok (.iload_n 0, 1) := by decide +kernel
theorem dS_pre_11 : decode cJ3_checkIndex_8e157 11 = .ok (.iload_n 1, 1) := by decide +kernel
theorem dS_pre_12 : decode cJ3_checkIndex_8e157 12 = .ok (.invokestatic 95, 3) := by decide +kernel
theorem dS_pre_15 : decode cJ3_checkIndex_8e157 15 = .ok (.athrow, 1) := by decide +kernel
theorem dS_pre_16 : decode cJ3_checkIndex_8e157 16 = .ok (.iload_n 0, 1) := by decide +kernel
theorem dS_pre_17 : decode cJ3_checkIndex_8e157 17 = .ok (.ireturn, 1) := by decide +kernel
theorem mS_coder_code : Cond.code yJ0_coder_7d493 cJ0_coder_7d493 1 (some .byte) ∈ am_wl0 := am_wl0_of (am_tb_mem (n := 840) rfl) rfl
theorem mS_coder_inst : Cond.instanceMethod yJ0_coder_7d493 ∈ am_wl0 := am_wl0_of (am_tb_mem (n := 838) rfl) rfl
theorem mS_coder_sel : Cond.selects RJ0 yJ0_coder_7d493 yJ0_coder_7d493 ∈ am_wl0 := am_wl0_of (am_tb_mem (n := 839) rfl) rfl
theorem mS_isLatin1_code : Cond.code yJ0_isLatin1_aae02 cJ0_isLatin1_aae02 1 (some .boolean) ∈ am_wl0 := am_wl0_of (am_tb_mem (n := 850) rfl) rfl
theorem mS_isLatin1_inst : Cond.instanceMethod yJ0_isLatin1_aae02 ∈ am_wl0 := am_wl0_of (am_tb_mem (n := 848) rfl) rfl
theorem mS_isLatin1_sel : Cond.selects RJ0 yJ0_isLatin1_aae02 yJ0_isLatin1_aae02 ∈ am_wl0 := am_wl0_of (am_tb_mem (n := 849) rfl) rfl
theorem mS_length_code : Cond.code yJ0_length_8abf5 cJ0_length_8abf5 1 (some .int) ∈ am_wl0 := am_wl0_of (am_tb_mem (n := 836) rfl) rfl
theorem mS_length_inst : Cond.instanceMethod yJ0_length_8abf5 ∈ am_wl0 := am_wl0_of (am_tb_mem (n := 834) rfl) rfl
theorem mS_length_sel : Cond.selects RJ0 yJ0_length_8abf5 yJ0_length_8abf5 ∈ am_wl0 := am_wl0_of (am_tb_mem (n := 835) rfl) rfl
theorem mS_charAt_code : Cond.code yJ0_charAt_5068e cJ0_charAt_5068e 2 (some .char) ∈ am_wl0 := am_wl0_of (am_tb_mem (n := 846) rfl) rfl
theorem mS_charAt_inst : Cond.instanceMethod yJ0_charAt_5068e ∈ am_wl0 := am_wl0_of (am_tb_mem (n := 844) rfl) rfl
theorem mS_charAt_sel : Cond.selects RJ0 yJ0_charAt_5068e yJ0_charAt_5068e ∈ am_wl0 := am_wl0_of (am_tb_mem (n := 845) rfl) rfl
theorem mS_checkIndex_code : Cond.code yJ0_checkIndex_df160 cJ0_checkIndex_df160 2 (none) ∈ am_wl0 := am_wl0_of (am_tb_mem (n := 856) rfl) rfl
theorem mS_checkIndex_stat : Cond.static yJ0_checkIndex_df160 ∈ am_wl0 := am_wl0_of (am_tb_mem (n := 855) rfl) rfl
theorem mS_lat_code : Cond.code yJ1_charAt_3b067 cJ1_charAt_3b067 2 (some .char) ∈ am_wl0 := am_wl0_of (am_tb_mem (n := 853) rfl) rfl
theorem mS_lat_stat : Cond.static yJ1_charAt_3b067 ∈ am_wl0 := am_wl0_of (am_tb_mem (n := 852) rfl) rfl
theorem mS_pre_code : Cond.code yJ3_checkIndex_8e157 cJ3_checkIndex_8e157 3 (some .int) ∈ am_wl0 := am_wl0_of (am_tb_mem (n := 861) rfl) rfl
theorem mS_pre_stat : Cond.static yJ3_checkIndex_8e157 ∈ am_wl0 := am_wl0_of (am_tb_mem (n := 860) rfl) rfl
theorem mS_ini_RJ0 : Cond.initialized RJ0 ∈ am_wl0 := am_wl0_of (am_tb_mem (n := 145) rfl) rfl
theorem mS_ini_RJ1 : Cond.initialized RJ1 ∈ am_wl0 := am_wl0_of (am_tb_mem (n := 146) rfl) rfl
theorem mS_ini_RJ3 : Cond.initialized RJ3 ∈ am_wl0 := am_wl0_of (am_tb_mem (n := 147) rfl) rfl
theorem mS_f38 : Cond.fieldLink RJ0 38 "java/lang/String" "COMPACT_STRINGS" "Z" ∈ am_wl0 := am_wl0_of (am_tb_mem (n := 841) rfl) rfl
theorem mS_f15 : Cond.fieldLink RJ0 15 "java/lang/String" "coder" "B" ∈ am_wl0 := am_wl0_of (am_tb_mem (n := 2036) rfl) rfl
theorem mS_f9 : Cond.fieldLink RJ0 9 "java/lang/String" "value" "[B" ∈ am_wl0 := am_wl0_of (am_tb_mem (n := 2035) rfl) rfl
theorem mS_f1053 : Cond.fieldLink RJ0 1053 "jdk/internal/util/Preconditions" "SIOOBE_FORMATTER" "Ljava/util/function/BiFunction;" ∈ am_wl0 := am_wl0_of (am_tb_mem (n := 857) rfl) rfl
theorem mS_l335 : Cond.methodLink RJ0 335 yJ0_coder_7d493 ∈ am_wl0 := am_wl0_of (am_tb_mem (n := 837) rfl) rfl
theorem mS_l492 : Cond.methodLink RJ0 492 yJ0_isLatin1_aae02 ∈ am_wl0 := am_wl0_of (am_tb_mem (n := 847) rfl) rfl
theorem mS_l495 : Cond.methodLink RJ0 495 yJ1_charAt_3b067 ∈ am_wl0 := am_wl0_of (am_tb_mem (n := 851) rfl) rfl
theorem mS_l1059 : Cond.methodLink RJ0 1059 yJ3_checkIndex_8e157 ∈ am_wl0 := am_wl0_of (am_tb_mem (n := 859) rfl) rfl
theorem mS_lL9 : Cond.methodLink RJ1 9 yJ0_checkIndex_df160 ∈ am_wl0 := am_wl0_of (am_tb_mem (n := 854) rfl) rfl
set_option maxHeartbeats 4000000 in
theorem am_m_coder (l : Launch) {i : Nat} (hi : i < am_strs.length) : Met l yJ0_coder_7d493 (Cond.code yJ0_coder_7d493 cJ0_coder_7d493 1 (some .byte) :: am_wl0) (am_rm 1) (am_Pn D cA B b adK adV sc [.ref (adK i)]) (am_Qn (some (.int 0))) 0 0 (fun _ => False) := by
  refine Met.ofW (cc := cJ0_coder_7d493) (maxL := 1) (ret := some .byte) (by decide) rfl ?_
  intro p e s m args below meth c s₁ B0 hml hv
  obtain ⟨rfl, hF⟩ := hv
  have hx := B0.exec
  have hb := B0.bytes
  have hr := B0.returns
  have hts0 := atoms_spec (ws := Cond.code yJ0_coder_7d493 cJ0_coder_7d493 1 (some .byte) :: am_wl0) B0.pre
  have hts : ∀ w ∈ am_wl0, w.before _ s = true := fun w h => hts0 w (List.mem_cons_of_mem _ h)
  have hown : s.vm.findClass RJ0 = some m.cls := findClass_of_methodNamed B0.named
  have hlocks := B0.notSynchronized
  obtain ⟨hnw, hK, hX, hbB, hBs, hV, hSR, hZ, hZq⟩ := id hF
  have hS : va_S (fun q => B ≤ q) s.heap s.heap [] := va_S.rf
  have hl := lv_entry ([.ref (adK i)]) (n := 1) (Nat.le_of_ble_eq_true rfl)
  rw [lg_entry_eq]
  generalize (lg_sl ([.ref (adK i)]) ++ List.replicate (1 - (lg_sl ([.ref (adK i)])).length) Slot.unset).toArray = ls at hl ⊢
  have hl : lv_has ls 1 [(0, .ref (adK i))] := hl
  refine va_gets hx hb hZ hS hown (hts _ mS_f38) (fun _ z => z) dS_coder_0 ?_
  refine lv_if_eq (tgt := 13) hx hb dS_coder_3 (by decide) (fun z => absurd z (by decide)) (fun _ => ?_)
  refine lv_aload_n hx hb dS_coder_6 rfl (lv_at hl 0 rfl) ?_
  refine vk_getf hx hb (hV.1 i hi).2.1 hS hown (hts _ mS_f15) (fun _ z => z) dS_coder_7 ?_
  refine lv_goto (tgt := 14) hx hb dS_coder_10 (by decide) ?_
  exact W.zret hx hb hr rfl (fun t ht _ => ⟨rfl, ht⟩) (fun q hq => by cases hq) dS_coder_14

set_option maxHeartbeats 4000000 in
theorem am_m_isLatin1 (l : Launch) {i : Nat} (hi : i < am_strs.length) : Met l yJ0_isLatin1_aae02 (Cond.code yJ0_isLatin1_aae02 cJ0_isLatin1_aae02 1 (some .boolean) :: am_wl0) (am_rm 1) (am_Pn D cA B b adK adV sc [.ref (adK i)]) (am_Qn (some (.int 1))) 0 0 (fun _ => False) := by
  refine Met.ofW (cc := cJ0_isLatin1_aae02) (maxL := 1) (ret := some .boolean) (by decide) rfl ?_
  intro p e s m args below meth c s₁ B0 hml hv
  obtain ⟨rfl, hF⟩ := hv
  have hx := B0.exec
  have hb := B0.bytes
  have hr := B0.returns
  have hts0 := atoms_spec (ws := Cond.code yJ0_isLatin1_aae02 cJ0_isLatin1_aae02 1 (some .boolean) :: am_wl0) B0.pre
  have hts : ∀ w ∈ am_wl0, w.before _ s = true := fun w h => hts0 w (List.mem_cons_of_mem _ h)
  have hown : s.vm.findClass RJ0 = some m.cls := findClass_of_methodNamed B0.named
  have hlocks := B0.notSynchronized
  obtain ⟨hnw, hK, hX, hbB, hBs, hV, hSR, hZ, hZq⟩ := id hF
  have hS : va_S (fun q => B ≤ q) s.heap s.heap [] := va_S.rf
  have hl := lv_entry ([.ref (adK i)]) (n := 1) (Nat.le_of_ble_eq_true rfl)
  rw [lg_entry_eq]
  generalize (lg_sl ([.ref (adK i)]) ++ List.replicate (1 - (lg_sl ([.ref (adK i)])).length) Slot.unset).toArray = ls at hl ⊢
  have hl : lv_has ls 1 [(0, .ref (adK i))] := hl
  refine va_gets hx hb hZ hS hown (hts _ mS_f38) (fun _ z => z) dS_isLatin1_0 ?_
  refine lv_if_eq (tgt := 17) hx hb dS_isLatin1_3 (by decide) (fun z => absurd z (by decide)) (fun _ => ?_)
  refine lv_aload_n hx hb dS_isLatin1_6 rfl (lv_at hl 0 rfl) ?_
  refine vk_getf hx hb (hV.1 i hi).2.1 hS hown (hts _ mS_f15) (fun _ z => z) dS_isLatin1_7 ?_
  refine lv_if_ne (tgt := 17) hx hb dS_isLatin1_10 (by decide) (fun z => absurd rfl z) (fun _ => ?_)
  refine lv_iconst (v := 1) hx hb dS_isLatin1_13 (by decide) ?_
  refine lv_goto (tgt := 18) hx hb dS_isLatin1_14 (by decide) ?_
  exact W.zret hx hb hr rfl (fun t ht _ => ⟨rfl, ht⟩) (fun q hq => by cases hq) dS_isLatin1_18

theorem am_tl_map (w : Nat) : (am_strs.map List.length).getD w 0 = am_tl w := by
  unfold am_tl
  rw [List.getD_eq_getElem?_getD, List.getElem?_map, List.getD_eq_getElem?_getD]
  cases am_strs[w]? <;> rfl
theorem am_shr0 : ∀ n : Nat, n < 512 → nI n >>> ((0 : Int32) &&& 31) = nI n := by decide +kernel
theorem am_strs_len : ∀ w, w < am_strs.length → am_tl w < 512 := by decide +kernel






set_option maxHeartbeats 4000000 in
theorem am_m_length (l : Launch) {i : Nat} (hi : i < am_strs.length) : Met l yJ0_length_8abf5 (Cond.code yJ0_length_8abf5 cJ0_length_8abf5 1 (some .int) :: am_wl0) (am_rm 2) (am_Pn D cA B b adK adV sc [.ref (adK i)]) (am_Qn (some (.int (nI (am_tl i))))) 0 0 (fun _ => False) := by
  refine Met.ofW (cc := cJ0_length_8abf5) (maxL := 1) (ret := some .int) (by decide) rfl ?_
  intro p e s m args below meth c s₁ B0 hml hv
  obtain ⟨rfl, hF⟩ := hv
  have hx := B0.exec
  have hb := B0.bytes
  have hr := B0.returns
  have hts0 := atoms_spec (ws := Cond.code yJ0_length_8abf5 cJ0_length_8abf5 1 (some .int) :: am_wl0) B0.pre
  have hts : ∀ w ∈ am_wl0, w.before _ s = true := fun w h => hts0 w (List.mem_cons_of_mem _ h)
  have hown : s.vm.findClass RJ0 = some m.cls := findClass_of_methodNamed B0.named
  have hlocks := B0.notSynchronized
  obtain ⟨hnw, hK, hX, hbB, hBs, hV, hSR, hZ, hZq⟩ := id hF
  have hS : va_S (fun q => B ≤ q) s.heap s.heap [] := va_S.rf
  have hl := lv_entry ([.ref (adK i)]) (n := 1) (Nat.le_of_ble_eq_true rfl)
  rw [lg_entry_eq]
  generalize (lg_sl ([.ref (adK i)]) ++ List.replicate (1 - (lg_sl ([.ref (adK i)])).length) Slot.unset).toArray = ls at hl ⊢
  have hl : lv_has ls 1 [(0, .ref (adK i))] := hl
  refine lv_aload_n hx hb dS_length_0 rfl (lv_at hl 0 rfl) ?_
  refine vk_getf hx hb (hV.1 i hi).2.2.1 hS hown (hts _ mS_f9) (fun _ z => z) dS_length_1 ?_
  refine va_tlen hx hb (hV.1 i hi).2.2.2 hS (v := nI (am_tl i)) (by rw [am_tl_map]; rfl) dS_length_4 ?_
  refine lv_aload_n hx hb dS_length_5 rfl (lv_at hl 0 rfl) ?_
  refine am_callN (W.runV (As := []) (rest := [.int (nI (am_tl i))]) (C := RJ0) ⟨hx, hb, hml, hown, hts⟩ (am_m_coder (D := D) (cA := cA) (B := B) (b := b) (adV := adV) (sc := sc) l hi) ⟨callB_of 0 hts (am_goodIn (List.mem_filter.mp mS_coder_code).1 rfl) rfl rfl rfl (hts _ mS_ini_RJ0) (hts _ mS_l335) ⟨by decide, by decide, by decide⟩ ⟨Nat.le_of_ble_eq_true rfl, Nat.le_of_ble_eq_true rfl⟩, hts _ mS_coder_inst, hts _ mS_coder_sel⟩ ⟨am_Pn_blind, vk_recv hV hi hS, fun U hU hW => ⟨rfl, hF.go hW (by rw [hU]; exact hBs) (fun a _ _ => by rw [hU])⟩⟩ rfl rfl hl.1 rfl (lv_room (Nat.le_of_ble_eq_true rfl)) dS_length_6 ⟨Nat.le_of_ble_eq_true rfl, Nat.le_of_ble_eq_true rfl⟩) ?_
  refine lv_ishr hx hb dS_length_9 ?_
  rw [am_shr0 _ (am_strs_len i hi)]
  exact W.iret hx hb hr (fun t ht _ => ⟨rfl, ht⟩) (fun q hq => by cases hq) dS_length_10

set_option maxHeartbeats 4000000 in
theorem am_m_pre (l : Launch) {x y : Int32} {w : Value} (hw : w.category = 1) (h0 : ¬ x < 0) (h1 : x < y) : Met l yJ3_checkIndex_8e157 (Cond.code yJ3_checkIndex_8e157 cJ3_checkIndex_8e157 3 (some .int) :: am_wl0) (am_rm 1) (am_Pn D cA B b adK adV sc [.int x, .int y, w]) (am_Qn (some (.int x))) 0 0 (fun _ => False) := by
  refine Met.ofW (cc := cJ3_checkIndex_8e157) (maxL := 3) (ret := some .int) (by decide) rfl ?_
  intro p e s m args below meth c s₁ B0 hml hv
  obtain ⟨rfl, hF⟩ := hv
  have hx := B0.exec
  have hb := B0.bytes
  have hr := B0.returns
  have hts0 := atoms_spec (ws := Cond.code yJ3_checkIndex_8e157 cJ3_checkIndex_8e157 3 (some .int) :: am_wl0) B0.pre
  have hts : ∀ w ∈ am_wl0, w.before _ s = true := fun w h => hts0 w (List.mem_cons_of_mem _ h)
  have hown : s.vm.findClass RJ3 = some m.cls := findClass_of_methodNamed B0.named
  have hlocks := B0.notSynchronized
  obtain ⟨hnw, hK, hX, hbB, hBs, hV, hSR, hZ, hZq⟩ := id hF
  have hS : va_S (fun q => B ≤ q) s.heap s.heap [] := va_S.rf
  have hl := lv_entry ([.int x, .int y, w]) (n := 3) (by cases w <;> first | exact Nat.le_of_ble_eq_true rfl | (cases hw))
  rw [lg_entry_eq]
  generalize (lg_sl ([.int x, .int y, w]) ++ List.replicate (3 - (lg_sl ([.int x, .int y, w])).length) Slot.unset).toArray = ls at hl ⊢
  have hl : lv_has ls 3 [(0, .int x), (1, .int y)] := lv_sub hl [0, 1] rfl
  refine lv_iload_n hx hb dS_pre_0 rfl (lv_at hl 0 rfl) ?_
  refine lv_if_lt (tgt := 9) hx hb dS_pre_1 (by decide) (fun z => absurd z h0) (fun _ => ?_)
  refine lv_iload_n hx hb dS_pre_4 rfl (lv_at hl 0 rfl) ?_
  refine lv_iload_n hx hb dS_pre_5 rfl (lv_at hl 1 rfl) ?_
  refine lv_icmp_lt (tgt := 16) hx hb dS_pre_6 (by decide) (fun _ => ?_) (fun z => absurd h1 z)
  refine lv_iload_n hx hb dS_pre_16 rfl (lv_at hl 0 rfl) ?_
  exact W.iret hx hb hr (fun t ht _ => ⟨rfl, ht⟩) (fun q hq => by cases hq) dS_pre_17

set_option maxHeartbeats 4000000 in
theorem am_m_checkIndex (l : Launch) {x y : Int32} (h0 : ¬ x < 0) (h1 : x < y) : Met l yJ0_checkIndex_df160 (Cond.code yJ0_checkIndex_df160 cJ0_checkIndex_df160 2 (none) :: am_wl0) (am_rm 2) (am_Pn D cA B b adK adV sc [.int x, .int y]) (am_Qn none) 0 0 (fun _ => False) := by
  refine Met.ofW (cc := cJ0_checkIndex_df160) (maxL := 2) (ret := none) (by decide) rfl ?_
  intro p e s m args below meth c s₁ B0 hml hv
  obtain ⟨rfl, hF⟩ := hv
  have hx := B0.exec
  have hb := B0.bytes
  have hr := B0.returns
  have hts0 := atoms_spec (ws := Cond.code yJ0_checkIndex_df160 cJ0_checkIndex_df160 2 (none) :: am_wl0) B0.pre
  have hts : ∀ w ∈ am_wl0, w.before _ s = true := fun w h => hts0 w (List.mem_cons_of_mem _ h)
  have hown : s.vm.findClass RJ0 = some m.cls := findClass_of_methodNamed B0.named
  have hlocks := B0.notSynchronized
  obtain ⟨hnw, hK, hX, hbB, hBs, hV, hSR, hZ, hZq⟩ := id hF
  have hS : va_S (fun q => B ≤ q) s.heap s.heap [] := va_S.rf
  have hl := lv_entry ([.int x, .int y]) (n := 2) (Nat.le_of_ble_eq_true rfl)
  rw [lg_entry_eq]
  generalize (lg_sl ([.int x, .int y]) ++ List.replicate (2 - (lg_sl ([.int x, .int y])).length) Slot.unset).toArray = ls at hl ⊢
  have hl : lv_has ls 2 [(0, .int x), (1, .int y)] := hl
  refine lv_iload_n hx hb dS_checkIndex_0 rfl (lv_at hl 0 rfl) ?_
  refine lv_iload_n hx hb dS_checkIndex_1 rfl (lv_at hl 1 rfl) ?_
  have fin : ∀ w : Value, w.category = 1 → va_Z "jdk/internal/util/Preconditions" "SIOOBE_FORMATTER" "Ljava/util/function/BiFunction;" w (fun q => B ≤ q) s s.heap → W p l e (headSpec (Cond.code yJ0_checkIndex_df160 cJ0_checkIndex_df160 2 none :: am_wl0) (am_rm 2)).room s m ([.int x, .int y] : List Value).toArray below meth c s.heap [] 0 0 (MQ below (am_Qn none) ([.int x, .int y] : List Value).toArray s 0 0 (fun _ => False)) (F0 m 2 ls [.int y, .int x]) := by
   intro w hw hZ2
   refine va_gets hx hb hZ2 hS hown (hts _ mS_f1053) (fun _ z => z) dS_checkIndex_2 ?_
   refine am_callN (W.runS (As := [.int x, .int y, w]) (rest := []) ⟨hx, hb, hml, hown, hts⟩ (am_m_pre (D := D) (cA := cA) (B := B) (b := b) (adK := adK) (adV := adV) (sc := sc) l hw h0 h1) ⟨callB_of 3 hts (am_goodIn (List.mem_filter.mp mS_pre_code).1 rfl) rfl rfl rfl (hts _ mS_ini_RJ3) (hts _ mS_l1059) ⟨by decide, by decide, by decide⟩ ⟨Nat.le_of_ble_eq_true rfl, Nat.le_of_ble_eq_true rfl⟩, hts _ mS_pre_stat⟩ ⟨am_Pn_blind, fun U hU hW => ⟨rfl, hF.go hW (by rw [hU]; exact hBs) (fun a _ _ => by rw [hU])⟩⟩ rfl rfl hl.1 rfl (lv_room (Nat.le_of_ble_eq_true rfl)) dS_checkIndex_5 ⟨Nat.le_of_ble_eq_true rfl, Nat.le_of_ble_eq_true rfl⟩) ?_
   refine lv_pop hx hb dS_checkIndex_8 rfl ?_
   exact W.vret hx hb hr (fun t ht _ => ⟨rfl, ht⟩) (fun q hq => by cases hq) dS_checkIndex_9
  rcases hZq with h | ⟨t, h⟩
  · exact fin .null rfl h
  · exact fin (.ref t) rfl h

theorem am_sgn : ∀ w, w < am_strs.length → ∀ k, k < am_tl w → (((am_strs.getD w []).getD k 0 &&& 255).toUInt32 % 65536).toInt32 = am_tc w k ∧ narrow .char (.int (am_tc w k)) = .int (am_tc w k) := by decide +kernel

set_option maxHeartbeats 4000000 in
theorem am_m_lat (l : Launch) {i : Nat} (hi : i < am_strs.length) {x : Int32} (h0 : am_in x (am_tl i) = true) : Met l yJ1_charAt_3b067 (Cond.code yJ1_charAt_3b067 cJ1_charAt_3b067 2 (some .char) :: am_wl0) (am_rm 3) (am_Pn D cA B b adK adV sc [.ref (adV i), .int x]) (am_Qn (some (.int (am_tc i x.toNatClampNeg)))) 0 0 (fun _ => False) := by
  refine Met.ofW (cc := cJ1_charAt_3b067) (maxL := 2) (ret := some .char) (by decide) rfl ?_
  intro p e s m args below meth c s₁ B0 hml hv
  obtain ⟨rfl, hF⟩ := hv
  have hx := B0.exec
  have hb := B0.bytes
  have hr := B0.returns
  have hts0 := atoms_spec (ws := Cond.code yJ1_charAt_3b067 cJ1_charAt_3b067 2 (some .char) :: am_wl0) B0.pre
  have hts : ∀ w ∈ am_wl0, w.before _ s = true := fun w h => hts0 w (List.mem_cons_of_mem _ h)
  have hown : s.vm.findClass RJ1 = some m.cls := findClass_of_methodNamed B0.named
  have hlocks := B0.notSynchronized
  obtain ⟨hnw, hK, hX, hbB, hBs, hV, hSR, hZ, hZq⟩ := id hF
  have hS : va_S (fun q => B ≤ q) s.heap s.heap [] := va_S.rf
  have hl := lv_entry ([.ref (adV i), .int x]) (n := 2) (Nat.le_of_ble_eq_true rfl)
  rw [lg_entry_eq]
  generalize (lg_sl ([.ref (adV i), .int x]) ++ List.replicate (2 - (lg_sl ([.ref (adV i), .int x])).length) Slot.unset).toArray = ls at hl ⊢
  have hl : lv_has ls 2 [(0, .ref (adV i)), (1, .int x)] := hl
  have hin := am_in_vp h0
  have h1 : ¬ x < 0 := fun z => hin (Or.inl z)
  have h2 : x.toNatClampNeg < am_tl i := Nat.not_le.mp fun z => hin (Or.inr z)
  have h3 : x < nI (am_tl i) := by
    obtain ⟨j, hj, rfl⟩ := nI_of h1
    rw [nI_clamp hj] at h2
    exact nI_lt h2 (Nat.lt_trans (am_strs_len i hi) (by decide))
  obtain ⟨g1, g2⟩ := am_sgn i hi x.toNatClampNeg h2
  refine lv_iload_n hx hb dS_lat_0 rfl (lv_at hl 1 rfl) ?_
  refine lv_aload_n hx hb dS_lat_1 rfl (lv_at hl 0 rfl) ?_
  refine va_tlen hx hb (hV.1 i hi).2.2.2 hS (v := nI (am_tl i)) (by rw [am_tl_map]; rfl) dS_lat_2 ?_
  refine am_callN (W.runS (As := [.int x, .int (nI (am_tl i))]) (rest := []) ⟨hx, hb, hml, hown, hts⟩ (am_m_checkIndex (D := D) (cA := cA) (B := B) (b := b) (adK := adK) (adV := adV) (sc := sc) l h1 h3) ⟨callB_of 2 hts (am_goodIn (List.mem_filter.mp mS_checkIndex_code).1 rfl) rfl rfl rfl (hts _ mS_ini_RJ0) (hts _ mS_lL9) ⟨by decide, by decide, by decide⟩ ⟨Nat.le_of_ble_eq_true rfl, Nat.le_of_ble_eq_true rfl⟩, hts _ mS_checkIndex_stat⟩ ⟨am_Pn_blind, fun U hU hW => ⟨rfl, hF.go hW (by rw [hU]; exact hBs) (fun a _ _ => by rw [hU])⟩⟩ rfl rfl hl.1 rfl (lv_room (Nat.le_of_ble_eq_true rfl)) dS_lat_3 ⟨Nat.le_of_ble_eq_true rfl, Nat.le_of_ble_eq_true rfl⟩) ?_
  refine lv_aload_n hx hb dS_lat_6 rfl (lv_at hl 0 rfl) ?_
  refine lv_iload_n hx hb dS_lat_7 rfl (lv_at hl 1 rfl) ?_
  refine va_tb hx hb (hV.1 i hi).2.2.2 hS (by rw [am_tl_map]; exact hin) (v := .int ((am_strs.getD i []).getD x.toNatClampNeg 0)) rfl dS_lat_8 ?_
  refine lv_sipush (v := 255) hx hb dS_lat_9 (by decide) ?_
  refine lv_iand hx hb dS_lat_12 ?_
  refine lv_i2c hx hb dS_lat_13 g1 ?_
  exact W.zret hx hb hr g2 (fun t ht _ => ⟨rfl, ht⟩) (fun q hq => by cases hq) dS_lat_14

set_option maxHeartbeats 4000000 in
theorem am_m_charAt (l : Launch) {i : Nat} (hi : i < am_strs.length) {x : Int32} (h0 : am_in x (am_tl i) = true) : Met l yJ0_charAt_5068e (Cond.code yJ0_charAt_5068e cJ0_charAt_5068e 2 (some .char) :: am_wl0) (am_rm 4) (am_Pn D cA B b adK adV sc [.ref (adK i), .int x]) (am_Qn (some (.int (am_tc i x.toNatClampNeg)))) 0 0 (fun _ => False) := by
  refine Met.ofW (cc := cJ0_charAt_5068e) (maxL := 2) (ret := some .char) (by decide) rfl ?_
  intro p e s m args below meth c s₁ B0 hml hv
  obtain ⟨rfl, hF⟩ := hv
  have hx := B0.exec
  have hb := B0.bytes
  have hr := B0.returns
  have hts0 := atoms_spec (ws := Cond.code yJ0_charAt_5068e cJ0_charAt_5068e 2 (some .char) :: am_wl0) B0.pre
  have hts : ∀ w ∈ am_wl0, w.before _ s = true := fun w h => hts0 w (List.mem_cons_of_mem _ h)
  have hown : s.vm.findClass RJ0 = some m.cls := findClass_of_methodNamed B0.named
  have hlocks := B0.notSynchronized
  obtain ⟨hnw, hK, hX, hbB, hBs, hV, hSR, hZ, hZq⟩ := id hF
  have hS : va_S (fun q => B ≤ q) s.heap s.heap [] := va_S.rf
  have hl := lv_entry ([.ref (adK i), .int x]) (n := 2) (Nat.le_of_ble_eq_true rfl)
  rw [lg_entry_eq]
  generalize (lg_sl ([.ref (adK i), .int x]) ++ List.replicate (2 - (lg_sl ([.ref (adK i), .int x])).length) Slot.unset).toArray = ls at hl ⊢
  have hl : lv_has ls 2 [(0, .ref (adK i)), (1, .int x)] := hl
  have hin := am_in_vp h0
  have h2 : x.toNatClampNeg < am_tl i := Nat.not_le.mp fun z => hin (Or.inr z)
  obtain ⟨g1, g2⟩ := am_sgn i hi x.toNatClampNeg h2
  refine lv_aload_n hx hb dS_charAt_0 rfl (lv_at hl 0 rfl) ?_
  refine am_callN (W.runV (As := []) (rest := []) (C := RJ0) ⟨hx, hb, hml, hown, hts⟩ (am_m_isLatin1 (D := D) (cA := cA) (B := B) (b := b) (adV := adV) (sc := sc) l hi) ⟨callB_of 0 hts (am_goodIn (List.mem_filter.mp mS_isLatin1_code).1 rfl) rfl rfl rfl (hts _ mS_ini_RJ0) (hts _ mS_l492) ⟨by decide, by decide, by decide⟩ ⟨Nat.le_of_ble_eq_true rfl, Nat.le_of_ble_eq_true rfl⟩, hts _ mS_isLatin1_inst, hts _ mS_isLatin1_sel⟩ ⟨am_Pn_blind, vk_recv hV hi hS, fun U hU hW => ⟨rfl, hF.go hW (by rw [hU]; exact hBs) (fun a _ _ => by rw [hU])⟩⟩ rfl rfl hl.1 rfl (lv_room (Nat.le_of_ble_eq_true rfl)) dS_charAt_1 ⟨Nat.le_of_ble_eq_true rfl, Nat.le_of_ble_eq_true rfl⟩) ?_
  refine lv_if_eq (tgt := 16) hx hb dS_charAt_4 (show ((4 : Nat) : Int) + 12 = ((16 : Nat) : Int) by decide) (fun z => absurd z (by decide)) (fun _ => ?_)
  refine lv_aload_n hx hb dS_charAt_7 rfl (lv_at hl 0 rfl) ?_
  refine vk_getf hx hb (hV.1 i hi).2.2.1 hS hown (hts _ mS_f9) (fun _ z => z) dS_charAt_8 ?_
  refine lv_iload_n hx hb dS_charAt_11 rfl (lv_at hl 1 rfl) ?_
  refine am_callN (W.runS (As := [.ref (adV i), .int x]) (rest := []) ⟨hx, hb, hml, hown, hts⟩ (am_m_lat (D := D) (cA := cA) (B := B) (b := b) (adK := adK) (adV := adV) (sc := sc) l hi h0) ⟨callB_of 2 hts (am_goodIn (List.mem_filter.mp mS_lat_code).1 rfl) rfl rfl rfl (hts _ mS_ini_RJ1) (hts _ mS_l495) ⟨by decide, by decide, by decide⟩ ⟨Nat.le_of_ble_eq_true rfl, Nat.le_of_ble_eq_true rfl⟩, hts _ mS_lat_stat⟩ ⟨am_Pn_blind, fun U hU hW => ⟨rfl, hF.go hW (by rw [hU]; exact hBs) (fun a _ _ => by rw [hU])⟩⟩ rfl rfl hl.1 rfl (lv_room (Nat.le_of_ble_eq_true rfl)) dS_charAt_12 ⟨Nat.le_of_ble_eq_true rfl, Nat.le_of_ble_eq_true rfl⟩) ?_
  exact W.zret hx hb hr g2 (fun t ht _ => ⟨rfl, ht⟩) (fun q hq => by cases hq) dS_charAt_15
end STR
