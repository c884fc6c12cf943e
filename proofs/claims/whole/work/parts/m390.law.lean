/-! THE CLAIM OUT OF ONE WALK OF THE LAW'S BODY. Your part is whole_start (and what it stands on); all else here is the same for every law, but numbers. -/
def R_law : String := "TongueGlassLaw"
def lw_P (b : Addr) (xs : List Int32) (args : Array Value) (s : State) : Prop := args = #[.ref b] ∧ s.IntsAt b xs ∧ xs.length ≤ 3072 ∧ (Jvm.Cond.and given_1 narrow_1).before args s = true
def lw_Q (_ : Array Value) (s : State) (o : Outcome) (t : State) : Prop := o = .returned (some (.int 1)) ∧ Framed s o t [] 600000 7302250
def lw_Z (below : List Frame) (a : Array Value) (s : State) : State → Prop := fun t => ∃ o, t.status = .running ∧ Ended t below o ∧ lw_Q a s o t
/-- the law's own end, with 1 on the stack, nothing written that was there before, its room as the claim has it -/
theorem lw_ret {p : Program} {l : Launch} {e : Env} {s : State} {m : MethodId} {below : List Frame} {meth : Method} {c : Code} {b : Nat} (hx : p.tables.exec = Jvm.exec) (hb : c.code = code) (hr : meth.sig.returnType = ret) (hlocks : meth.locks = false) {pc : Nat} {H : Heap} {ls : Array Slot} (hdg : decode code pc = .ok (.ireturn, 1)) : W p l e room_1 s m #[Value.ref b] below meth c H [] 600000 7302250 (lw_Z below #[Value.ref b] s) (F0 m pc ls [.int 1]) := by
  intro T hT X
  obtain ⟨fs, hret, hrun, hended, hW, hframe⟩ := X.leave (v := some (.int 1)) (hlocks := hlocks) (fun h => by rw [hr] at h; cases h)
  have hmeth' : T.vm.method? m = some meth := X.method'
  refine ⟨T.setFrames fs, ?_, .returned (some (.int 1)), hrun, hended, rfl, ⟨_, rfl⟩, hW, hframe⟩
  jvm_step X.here [X.here.top, hx, hb, hdg, hmeth', hr, ret, narrow_b1]
  (try refine ⟨rfl, ?_⟩); (try refine ⟨rfl, ?_⟩)
  first | (intro acts; rw [hret _ acts rfl rfl rfl]) | rw [hret _ _ rfl rfl rfl]
  exact Steps.refl _
/-- what holds at the law's entry: the machine, the code, the tables' words (any of lw_tbl by 'hts w (by decide +kernel)'), the script of L ints xs at the cell b, what the Statement gives of the start (any of its parts by flat_of_before) -/
def lw_At (p : Program) (s : State) (m : MethodId) (meth : Method) (c : Code) (b L : Nat) (xs : Nat → Int32) : Prop :=
  p.tables.exec = Jvm.exec ∧ c.code = code ∧ meth.sig.returnType = ret ∧ c.maxLocals = 4 ∧ s.vm.findClass R_law = some m.cls ∧ (∀ w ∈ lw_tbl, w.before #[Value.ref b] s = true) ∧ va_X b L xs s s.heap ∧ b < s.heap.size ∧ meth.locks = false ∧ (Jvm.Cond.and given_1 narrow_1).before #[Value.ref b] s = true
theorem am_nbT {w : Cond} (hn : am_nb w = true) {args : Array Value} {s : State} (h : w.before args s = true) : va_Nw w s := by
  unfold am_nb at hn
  split at hn
  · exact va_Nw.of rfl h
  · exact va_AO.of h
  · cases hn
/-- from the abstract machine's run of the law to the walk -/
theorem am_start {p : Program} {e : Env} {s : State} {m : MethodId} {below : List Frame} {meth : Method} {c : Code} (l : Launch) {b L : Nat} {xs : Nat → Int32} (C0 : lw_At p s m meth c b L xs)
    (hrun : ∃ (n : Nat) (sh : List am_Sh) (h : am_H), am_run (L, xs) n 60 313 (0, [(0, .ref am_SC)], [], [], (fun _ _ => 0, fun _ _ => 0)) = some (some (.int 1), sh, h) ∧ sh.length ≤ 600000 ∧ am_sl sh ≤ 7302250) : W p l e room_1 s m #[Value.ref b] below meth c s.heap [] 0 0 (lw_Z below #[Value.ref b] s) (entryFrame m ([Value.ref b] : List Value).toArray 4) := by
  obtain ⟨n, sh, h, hrun, hz1, hz2⟩ := hrun
  obtain ⟨hx, hb, hr, hml, hown, hts, hX, hbl, hlocks, hgv⟩ := id C0
  have hA : ∀ a : Nat, a < s.heap.size → ¬ (fun q => s.heap.size ≤ q) a := fun a h => Nat.not_le.mpr h
  have hf : ∀ w ∈ am_fl, w.before #[Value.ref b] s = true := flat_of_before _ hgv
  obtain ⟨D, cA, hK⟩ := am_kinds hts
  obtain ⟨adK, adV, hV, hR⟩ := am_texts hgv hts (fun q => s.heap.size ≤ q) hA
  have hZ : va_Z "java/lang/String" "COMPACT_STRINGS" "Z" (.int 1) (fun q => s.heap.size ≤ q) s s.heap := va_Zof (hts _ am_i842) (hts _ am_i145) (va_eqt (hf _ am_f1)) hA
  have hZq : va_Zq "jdk/internal/util/Preconditions" "SIOOBE_FORMATTER" "Ljava/util/function/BiFunction;" (fun q => s.heap.size ≤ q) s s.heap := va_Zqof (hts _ am_i858) (hts _ am_i147) (hf _ am_f2) hA
  have hC : am_Cx D cA s.heap.size b adK adV (L, xs) am_law.1 am_law.2.2.1 am_law.2.2.2.1 p s m #[Value.ref b] c :=
    ⟨hx, hb, hml, hown, fun w hw => hts w (List.mem_filter.mp hw).1, fun w hw hn => am_nbT hn (hts w hw), hK, hX, hbl, Nat.le_refl _, hV, hR, hZ, hZq⟩
  have hW : am_Wd D cA s.heap.size b [] (fun _ _ => 0, fun _ _ => 0) s.heap := ⟨fun k q h => by simp [am_ws] at h, rfl, Nat.zero_le _, fun k _ => by unfold am_rw; split <;> rfl⟩
  have hS : va_S (fun q : Nat => s.heap.size ≤ q) s.heap s.heap [] := va_S.rf
  have key := am_sound (D := D) (cA := cA) (B := s.heap.size) (b0 := b) (adK := adK) (adV := adV) (sc := (L, xs)) (l := l) am_Chk_ok n 60 313 0 [(0, .ref am_SC)] [] [] (fun _ _ => 0, fun _ _ => 0) (some (.int 1), sh, h) am_law hrun am_law_mt p e room_1 s m #[Value.ref b] below meth c (lw_Z below #[Value.ref b] s) 0 0 hC (fun z => absurd z (by decide)) ⟨by decide, by decide, hz1, hz2⟩ ⟨Nat.zero_le _, Nat.zero_le _⟩ ?_
  · have hl := lv_entry ([.ref b]) (n := 4) (Nat.le_of_ble_eq_true rfl)
    rw [lg_entry_eq]
    generalize (lg_sl ([.ref b]) ++ List.replicate (4 - (lg_sl ([.ref b])).length) Slot.unset).toArray = ls at hl ⊢
    exact key s.heap [] ls 0 (fun q hq => by cases hq; rfl) hl hW hS
  · intro H locs lsA pc i st' hdec hret hWd hS2
    rcases hret with ⟨rfl, x, rfl, hv, -⟩ | ⟨-, -, ⟨x, -, hv⟩ | ⟨x, -, hv⟩⟩ | ⟨-, -, -, hv⟩
    · cases hv
      refine va_forget (fun q hq => hS2.2.2 q hq) ?_
      refine W.widen (k := 600000) (n := 7302250) hz1 hz2 ?_
      exact lw_ret hx hb hr hlocks hdec
    · cases hv
    · cases hv
    · cases hv
