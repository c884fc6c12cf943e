/-! THE LAW'S START: what the Statement gives of the classes, the arrays, the texts -/
def am_fl : List Cond := flatC (Jvm.Cond.and given_1 narrow_1)
def am_tt (q : String × Nat × String × Nat) : Term := .string q.1 q.2.1
def am_tv (q : String × Nat × String × Nat) : Term := .field (am_tt q) "java/lang/String" "value" "[B"
def am_txs (q : String × Nat × String × Nat) (B : List Int32) : List Cond := [Cond.exactly (am_tt q) "java/lang/String", Cond.eq (.field (am_tt q) "java/lang/String" "coder" "B") (.int 0), Cond.arrayOf (am_tv q) .byte, Cond.eq (.length (am_tv q)) (.int (Int32.ofNat B.length))] ++ (List.range B.length).map fun j => Cond.eq (.elem (am_tv q) (.int (Int32.ofNat j))) (.int (B.getD j 0))
def am_txall : List Cond := (am_sr.zip am_strs).flatMap fun x => am_txs x.1 x.2
set_option maxRecDepth 100000 in
theorem am_fl_0 : (am_fl.drop 9).take 35 = (am_txall.drop 0).take 35 := by decide +kernel
set_option maxRecDepth 100000 in
theorem am_fl_1 : (am_fl.drop 44).take 35 = (am_txall.drop 35).take 35 := by decide +kernel
set_option maxRecDepth 100000 in
theorem am_fl_2 : (am_fl.drop 79).take 35 = (am_txall.drop 70).take 35 := by decide +kernel
set_option maxRecDepth 100000 in
theorem am_fl_3 : (am_fl.drop 114).take 35 = (am_txall.drop 105).take 35 := by decide +kernel
set_option maxRecDepth 100000 in
theorem am_fl_4 : (am_fl.drop 149).take 35 = (am_txall.drop 140).take 35 := by decide +kernel
set_option maxRecDepth 100000 in
theorem am_fl_5 : (am_fl.drop 184).take 35 = (am_txall.drop 175).take 35 := by decide +kernel
set_option maxRecDepth 100000 in
theorem am_fl_6 : (am_fl.drop 219).take 35 = (am_txall.drop 210).take 35 := by decide +kernel
set_option maxRecDepth 100000 in
theorem am_fl_7 : (am_fl.drop 254).take 35 = (am_txall.drop 245).take 35 := by decide +kernel
set_option maxRecDepth 100000 in
theorem am_fl_8 : (am_fl.drop 289).take 35 = (am_txall.drop 280).take 35 := by decide +kernel
set_option maxRecDepth 100000 in
theorem am_fl_9 : (am_fl.drop 324).take 35 = (am_txall.drop 315).take 35 := by decide +kernel
set_option maxRecDepth 100000 in
theorem am_fl_10 : (am_fl.drop 359).take 35 = (am_txall.drop 350).take 35 := by decide +kernel
theorem am_txall_len : am_txall.length = 383 := by decide +kernel
theorem am_tk35 {l m : List Cond} {a b : Nat} (h : (l.drop a).take 35 = (m.drop b).take 35) {r : Nat} (hr : r < 35) {w : Cond} (hw : m[b + r]? = some w) : w ∈ l := by
  have g : ((l.drop a).take 35)[r]? = some w := by
    rw [h, List.getElem?_take, if_pos hr, List.getElem?_drop]
    exact hw
  exact List.mem_of_mem_drop (List.mem_of_mem_take (List.mem_of_getElem? g))
theorem am_txall_mem {w : Cond} (h : w ∈ am_txall) : w ∈ am_fl := by
  obtain ⟨n, hn⟩ := List.getElem?_of_mem h
  have hl : n < 383 := by
    rw [← am_txall_len]
    exact (List.getElem?_eq_some_iff.mp hn).1
  by_cases c0 : n < 35
  · exact am_tk35 am_fl_0 (r := n - 0) (by omega) (by rw [show 0 + (n - 0) = n by omega]; exact hn)
  by_cases c1 : n < 70
  · exact am_tk35 am_fl_1 (r := n - 35) (by omega) (by rw [show 35 + (n - 35) = n by omega]; exact hn)
  by_cases c2 : n < 105
  · exact am_tk35 am_fl_2 (r := n - 70) (by omega) (by rw [show 70 + (n - 70) = n by omega]; exact hn)
  by_cases c3 : n < 140
  · exact am_tk35 am_fl_3 (r := n - 105) (by omega) (by rw [show 105 + (n - 105) = n by omega]; exact hn)
  by_cases c4 : n < 175
  · exact am_tk35 am_fl_4 (r := n - 140) (by omega) (by rw [show 140 + (n - 140) = n by omega]; exact hn)
  by_cases c5 : n < 210
  · exact am_tk35 am_fl_5 (r := n - 175) (by omega) (by rw [show 175 + (n - 175) = n by omega]; exact hn)
  by_cases c6 : n < 245
  · exact am_tk35 am_fl_6 (r := n - 210) (by omega) (by rw [show 210 + (n - 210) = n by omega]; exact hn)
  by_cases c7 : n < 280
  · exact am_tk35 am_fl_7 (r := n - 245) (by omega) (by rw [show 245 + (n - 245) = n by omega]; exact hn)
  by_cases c8 : n < 315
  · exact am_tk35 am_fl_8 (r := n - 280) (by omega) (by rw [show 280 + (n - 280) = n by omega]; exact hn)
  by_cases c9 : n < 350
  · exact am_tk35 am_fl_9 (r := n - 315) (by omega) (by rw [show 315 + (n - 315) = n by omega]; exact hn)
  by_cases c10 : n < 385
  · exact am_tk35 am_fl_10 (r := n - 350) (by omega) (by rw [show 350 + (n - 350) = n by omega]; exact hn)
  omega
def am_txb (i : Nat) : Bool := match am_sr[i]? with
  | some q => decide (am_tb q.2.2.2 = some (.stringRef q.1 q.2.1 q.2.2.1))
  | none => false
set_option maxRecDepth 100000 in
theorem am_txb_ok : (List.range am_strs.length).all am_txb = true := by decide +kernel
theorem am_txm {i : Nat} {q : String × Nat × String × Nat} (hi : i < am_strs.length) (hq : am_sr[i]? = some q) {w : Cond} (h : w ∈ am_txs q (am_strs.getD i [])) : w ∈ am_fl := by
  refine am_txall_mem (List.mem_flatMap.mpr ⟨(q, am_strs.getD i []), List.mem_of_getElem? (i := i) ?_, h⟩)
  rw [List.getElem?_zip_eq_some]
  refine ⟨hq, ?_⟩
  rw [List.getD_eq_getElem?_getD, List.getElem?_eq_getElem hi]
  rfl
theorem am_tx {i : Nat} (hi : i < am_strs.length) : ∃ q, am_sr[i]? = some q ∧ Cond.exactly (am_tt q) "java/lang/String" ∈ am_fl ∧ Cond.eq (.field (am_tt q) "java/lang/String" "coder" "B") (.int 0) ∈ am_fl ∧ Cond.arrayOf (am_tv q) .byte ∈ am_fl ∧
    Cond.eq (.length (am_tv q)) (.int (Int32.ofNat (am_strs.getD i []).length)) ∈ am_fl ∧ Cond.stringRef q.1 q.2.1 q.2.2.1 ∈ lw_tbl ∧ ∀ j, j < (am_strs.getD i []).length → Cond.eq (.elem (am_tv q) (.int (Int32.ofNat j))) (.int ((am_strs.getD i []).getD j 0)) ∈ am_fl := by
  have h := List.all_eq_true.mp am_txb_ok i (List.mem_range.mpr hi)
  unfold am_txb at h
  cases hq : am_sr[i]? with
  | none => rw [hq] at h; cases h
  | some q =>
    rw [hq] at h
    refine ⟨q, rfl, am_txm hi hq ?_, am_txm hi hq ?_, am_txm hi hq ?_, am_txm hi hq ?_, am_tb_mem (of_decide_eq_true h), fun j hj => am_txm hi hq ?_⟩
    · exact List.mem_append_left _ List.mem_cons_self
    · exact List.mem_append_left _ (List.mem_cons_of_mem _ List.mem_cons_self)
    · exact List.mem_append_left _ (List.mem_cons_of_mem _ (List.mem_cons_of_mem _ List.mem_cons_self))
    · exact List.mem_append_left _ (List.mem_cons_of_mem _ (List.mem_cons_of_mem _ (List.mem_cons_of_mem _ List.mem_cons_self)))
    · exact List.mem_append_right _ (List.mem_map.mpr ⟨j, List.mem_range.mpr hj, rfl⟩)
theorem am_sr_len : am_sr.length = am_strs.length := by decide +kernel
theorem am_strs_nd : ∀ i, i < am_strs.length → ∀ j, j < am_strs.length → am_strs.getD i [] = am_strs.getD j [] → i = j := by decide +kernel
theorem am_strs_31 : ∀ i, i < am_strs.length → (am_strs.getD i []).length < 512 := by decide +kernel
theorem am_mapl (i : Nat) : (am_strs.map List.length).getD i 0 = (am_strs.getD i []).length := am_tl_map i
theorem am_gd {l : List Int32} {k : Nat} (h : k < l.length) : l.getD k 0 = l[k] := by
  rw [List.getD_eq_getElem?_getD, List.getElem?_eq_getElem h]
  rfl
/-- the texts are ones, unlike by what they hold -/
theorem am_texts {args : Array Value} {s : State} (hgv : (Jvm.Cond.and given_1 narrow_1).before args s = true) (hts : ∀ w ∈ lw_tbl, w.before args s = true) (A : Nat → Prop) (hA : ∀ a : Nat, a < s.heap.size → ¬ A a) :
    ∃ adK adV : Nat → Nat, vk_S am_strs.length (am_strs.map List.length) am_strs adK adV A s s.heap ∧ ∀ (i : Nat) (q : String × Nat × String × Nat), am_sr[i]? = some q → vk_R q.1 q.2.1 q.2.2.1 (adK i) s := by
  have hf : ∀ w ∈ am_fl, w.before args s = true := flat_of_before _ hgv
  have h0 : ∀ i : Nat, ∃ q : Nat × Nat, i < am_strs.length → (∀ x, am_sr[i]? = some x → (am_tt x).eval args s none [] s = some (.ref q.1)) ∧ va_O "java/lang/String" q.1 A s s.heap ∧ va_OF "java/lang/String" "coder" "B" (.int 0) q.1 A s s.heap ∧ va_OF "java/lang/String" "value" "[B" (.ref q.2) q.1 A s s.heap ∧ va_T .byte q.2 ((am_strs.map List.length).getD i 0) (fun j => .int ((am_strs.getD i []).getD j 0)) A s s.heap := by
    intro i
    by_cases hi : i < am_strs.length
    · obtain ⟨x, hx, w1, w2, w3, w4, w5, w6⟩ := am_tx hi
      obtain ⟨a, c, cA, kA, q1, q2, q3, q4, q5, q6, -⟩ := Cond.exactly_spec (args := args) (first := s) (o := none) (s := s) (idx := []) (t := am_tt x) (cls := "java/lang/String") (hf _ w1)
      obtain ⟨t, ht, hT⟩ := va_Tof (f := fun j => .int ((am_strs.getD i []).getD j 0)) (A := A) (Nat.lt_trans (am_strs_31 i hi) (by decide)) (hf _ w3) (va_eqt (hf _ w4)) (fun j hj => va_eqt (hf _ (w6 j hj))) hA
      refine ⟨(a, t), fun _ => ⟨fun y hy => ?_, ⟨cA, q3, q5, by rw [q6]; exact q2, hA a (Array.getElem?_eq_some_iff.mp q3).1⟩, vk_OFof q1 (va_eqt (hf _ w2)) hA, vk_OFof q1 ht hA, by rw [am_mapl]; exact hT⟩⟩
      rw [hx] at hy
      cases hy
      exact q1
    · exact ⟨(0, 0), fun h => absurd h hi⟩
  obtain ⟨ad, had⟩ := Classical.axiomOfChoice h0
  refine ⟨fun i => (ad i).1, fun i => (ad i).2, ⟨fun i hi => (had i hi).2, fun i j hi hj e => ?_⟩, fun i q hq => ?_⟩
  · obtain ⟨-, -, -, hv1, ht1⟩ := had i hi
    obtain ⟨-, -, -, hv2, ht2⟩ := had j hj
    have e : (ad i).1 = (ad j).1 := e
    rw [← e] at hv2
    obtain ⟨cf1, k1, i1, f1, c1, a1, -, a3, -, a5, -⟩ := hv1
    obtain ⟨cf2, k2, i2, f2, c2, b1, -, b3, -, b5, -⟩ := hv2
    rw [a1] at b1
    cases b1
    rw [a3] at b3
    cases b3
    rw [a5] at b5
    have ev : (ad i).2 = (ad j).2 := by
      have := Option.some.inj b5
      exact Value.ref.inj this
    rw [← ev] at ht2
    rw [am_mapl] at ht1 ht2
    obtain ⟨d1, p1, -, -, p4, p5, p6, -⟩ := ht1
    obtain ⟨d2, r1, -, -, r4, r5, r6, -⟩ := ht2
    rw [p1] at r1
    cases r1
    have hl : (am_strs.getD i []).length = (am_strs.getD j []).length := by
      rw [p5] at r5
      exact (nI_eq (Nat.lt_trans (am_strs_31 i hi) (by decide)) (Nat.lt_trans (am_strs_31 j hj) (by decide))).mp r5
    refine am_strs_nd i hi j hj (List.ext_getElem hl fun k h1 h2 => ?_)
    have g1 := p6 k h1
    have g2 := r6 k h2
    rw [g1] at g2
    have g3 : (am_strs.getD i []).getD k 0 = (am_strs.getD j []).getD k 0 := by
      have := Option.some.inj g2
      exact Value.int.inj this
    rw [am_gd h1, am_gd h2] at g3
    exact g3
  · have hi : i < am_strs.length := by
      rw [← am_sr_len]
      exact (List.getElem?_eq_some_iff.mp hq).1
    obtain ⟨x, hx, -, -, -, -, w5, -⟩ := am_tx hi
    rw [hq] at hx
    cases hx
    exact vk_R.of (hts _ w5) ((had i hi).1 q hq)
theorem am_i145 : Cond.initialized "java/lang/String" ∈ lw_tbl := am_tb_mem (n := 145) (by decide +kernel)
theorem am_i147 : Cond.initialized "jdk/internal/util/Preconditions" ∈ lw_tbl := am_tb_mem (n := 147) (by decide +kernel)
theorem am_i246 : Cond.arrayClass .int ∈ lw_tbl := am_tb_mem (n := 246) (by decide +kernel)
theorem am_i432 : Cond.arrayOver (.object "TongueGlass$Court") ∈ lw_tbl := am_tb_mem (n := 432) (by decide +kernel)
theorem am_i589 : Cond.arrayClass .long ∈ lw_tbl := am_tb_mem (n := 589) (by decide +kernel)
theorem am_i842 : Cond.laysStatic "java/lang/String" "COMPACT_STRINGS" "Z" ∈ lw_tbl := am_tb_mem (n := 842) (by decide +kernel)
theorem am_i858 : Cond.laysStatic "jdk/internal/util/Preconditions" "SIOOBE_FORMATTER" "Ljava/util/function/BiFunction;" ∈ lw_tbl := am_tb_mem (n := 858) (by decide +kernel)
set_option maxRecDepth 100000 in
theorem am_f1 : Cond.eq (.static "java/lang/String" "COMPACT_STRINGS" "Z") (.int 1) ∈ am_fl := by decide +kernel
set_option maxRecDepth 100000 in
theorem am_f2 : Cond.isRef (.static "jdk/internal/util/Preconditions" "SIOOBE_FORMATTER" "Ljava/util/function/BiFunction;") ∈ am_fl := by decide +kernel
theorem am_kinds {args : Array Value} {s : State} (hts : ∀ w ∈ lw_tbl, w.before args s = true) : ∃ (D : va_G) (cA : Nat → ClassId), va_K D vwCl (am_tys cA) s := by
  have h1 : ∀ c : Nat, ∃ x : ClassId × (Nat → Nat), ∀ q, vwCl[c]? = some q → u_Kn s q.1 q.2.1 q.2.2 x.1 x.2 := by
    intro c
    cases hq : vwCl[c]? with
    | none => exact ⟨(0, fun _ => 0), fun q h => by cases h⟩
    | some q =>
      obtain ⟨-, -, hw, hi, -⟩ := am_cl_ok hq
      obtain ⟨cC, iS, h⟩ := u_known (C := q.1) (T := q.2.1) (N := q.2.2) (n := q.2.2) (ws := am_wl0) (fun w h => hts w (List.mem_filter.mp h).1) hw (hts _ (List.mem_filter.mp hi).1)
      refine ⟨(cC, iS), fun q' h' => ?_⟩
      cases h'
      exact h
  obtain ⟨x, hx⟩ := Classical.axiomOfChoice h1
  obtain ⟨cI, kI, pI, a1, a2, a3⟩ := Cond.arrayClass_spec (hts _ am_i246)
  obtain ⟨cL, kL, pL, b1, b2, b3⟩ := Cond.arrayClass_spec (hts _ am_i589)
  obtain ⟨comp, cO, kO, o1, -, o3, o4, o5⟩ := Cond.arrayOver_spec (hts _ am_i432)
  refine ⟨(fun c => (x c).1, fun c => (x c).2), fun k => if k = 0 then cI else if k = 1 then cL else cO, fun c q h => hx c q h, fun k q h => ?_⟩
  match k, h with
  | 0, h => cases h; exact ⟨fun n z => ⟨fun k h => (by cases h), kI, a2, pI, a3⟩, a1⟩
  | 1, h => cases h; exact ⟨fun n z => ⟨fun k h => (by cases h), kL, b2, pL, b3⟩, b1⟩
  | 2, h => cases h; exact ⟨fun n z => ⟨fun k h => (by cases h), kO, o3, comp, o4⟩, kO, comp, o3, o4, o1, o5⟩
  | k + 3, h => simp [am_tys] at h
