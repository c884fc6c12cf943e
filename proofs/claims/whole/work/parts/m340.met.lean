/-! THE WHOLE RUN -/
/-- what the cells and their sizes do: they only grow -/
theorem am_ex_grow {sc : Nat × (Nat → Int32)} {i : Jvm.ClassFile.Instr} {a b c : Nat} {v : Int32} {j : Nat} {ls : List (Nat × Value)} {st : List Value} {sh : List am_Sh} {h : am_H} {s1 : am_C} (e : am_ex sc i a b c v j ls st sh h = some s1) : sh.length ≤ s1.2.2.2.1.length ∧ am_sl sh ≤ am_sl s1.2.2.2.1 := by
  have app : ∀ x : am_Sh, sh.length ≤ (sh ++ [x]).length ∧ am_sl sh ≤ am_sl (sh ++ [x]) := fun x => by
    rw [am_sl_app]
    simp
  cases i with
  | ifCond k o => cases k <;> (simp only [am_ex] at e; repeat' split at e) <;> first | (cases e; exact ⟨Nat.le_refl _, Nat.le_refl _⟩) | (cases e; done)
  | if_icmp k o => cases k <;> (simp only [am_ex] at e; repeat' split at e) <;> first | (cases e; exact ⟨Nat.le_refl _, Nat.le_refl _⟩) | (cases e; done)
  | putfield n =>
    simp only [am_ex] at e
    split at e
    · repeat' split at e
      all_goals first | (cases e; exact ⟨Nat.le_refl _, Nat.le_refl _⟩) | (cases e; done)
    · split at e
      · rename_i o ho
        split at e
        · rename_i hoa
          split at e
          · cases e
            refine ⟨by rw [List.length_set]; exact Nat.le_refl _, ?_⟩
            rw [am_sl_set ho (by show (List.set _ _ _).length = o.2.length; exact List.length_set)]
            exact Nat.le_refl _
          · cases e
        · cases e
      · cases e
    · cases e
  | new n =>
    simp only [am_ex] at e
    split at e
    · cases e
      exact app _
    · cases e
  | newarray n =>
    simp only [am_ex] at e
    repeat' split at e
    all_goals first | (cases e; exact app _) | (cases e; done)
  | anewarray n =>
    simp only [am_ex] at e
    repeat' split at e
    all_goals first | (cases e; exact app _) | (cases e; done)
  | _ =>
    simp only [am_ex] at e
    repeat' split at e
    all_goals first | (cases e; exact ⟨Nat.le_refl _, Nat.le_refl _⟩) | (cases e; done)
theorem am_jdk_sh {c j : Nat} {l : List (Nat × Value)} {st : List Value} {sh : List am_Sh} {h : am_H} {s1 : am_C} (e : am_jdk c j l st sh h = some s1) : s1.2.2.2.1 = sh := by
  simp only [am_jdk] at e
  repeat' split at e
  all_goals first | (cases e; rfl) | (cases e; done)
theorem am_grow {sc : Nat × (Nat → Int32)} : ∀ (n d mi j : Nat) (l : List (Nat × Value)) (st : List Value) (sh : List am_Sh) (h : am_H) (r : am_R), am_run sc n d mi (j, l, st, sh, h) = some r → sh.length ≤ r.2.1.length ∧ am_sl sh ≤ am_sl r.2.1 := by
  intro n
  induction n with
  | zero => intro d mi j l st sh h r e; cases e
  | succ n ih =>
    intro d mi j l st sh h r e
    cases hc : (am_code mi)[j]? with
    | none => simp [am_run, hc] at e
    | some q =>
      obtain ⟨⟨i, a, b, c, v⟩, p⟩ := q
      by_cases hp : am_plain i = true
      · rw [am_run_plain hc hp] at e
        obtain ⟨s1, e1, e2⟩ := am_bind_some e
        have g1 := am_ex_grow e1
        have g2 := ih d mi s1.1 s1.2.1 s1.2.2.1 s1.2.2.2.1 s1.2.2.2.2 r e2
        exact ⟨Nat.le_trans g1.1 g2.1, Nat.le_trans g1.2 g2.2⟩
      · cases i <;> first
          | exact absurd (show am_plain _ = true from rfl) hp
          | (simp only [am_run, hc] at e
             repeat' split at e
             all_goals first | (cases e; exact ⟨Nat.le_refl _, Nat.le_refl _⟩) | (cases e; done))
          | (simp only [am_run, hc] at e
             by_cases h2 : c < 200
             · rw [if_pos h2] at e
               cases d with
               | zero => cases e
               | succ d =>
                 simp only at e
                 by_cases h3 : am_okc sh st a b c = true
                 · rw [if_pos h3] at e
                   obtain ⟨q, q1, q2⟩ := am_bind_some e
                   have g1 := ih _ _ _ _ _ _ _ _ q1
                   have g2 := ih _ _ _ _ _ _ _ _ q2
                   exact ⟨Nat.le_trans g1.1 g2.1, Nat.le_trans g1.2 g2.2⟩
                 · rw [if_neg h3] at e
                   cases e
             · rw [if_neg h2] at e
               cases d with
               | zero => cases e
               | succ d =>
                 simp only at e
                 obtain ⟨s, h1, h2⟩ := am_bind_some e
                 have g2 := ih (d + 1) mi s.1 s.2.1 s.2.2.1 s.2.2.2.1 s.2.2.2.2 r h2
                 rw [am_jdk_sh h1] at g2
                 exact g2)
/-- the checks, as they are used -/
theorem am_ck_row {M : am_MI} {mi j : Nat} (hall : am_ckl M (am_code mi) = true ∧ am_ckl2 M (am_code mi) = true) {i : Jvm.ClassFile.Instr} {a b c : Nat} {v : Int32} {pc idx pos : Nat} (hc : (am_code mi)[j]? = some ((i, a, b, c, v), (pc, idx, pos))) :
    am_ck M.1 M.2.2.2.1 (decide (M.2.2.2.2.2.1 = 2)) M.2.2.1 (am_code mi) j i a b c v pc idx pos = true ∧ am_ck2 M i a b c pos = true := by
  refine ⟨?_, ?_⟩
  · have g := List.all_eq_true.mp hall.1 j (List.mem_range.mpr (List.getElem?_eq_some_iff.mp hc).1)
    rw [hc] at g
    exact g
  · exact List.all_eq_true.mp hall.2 _ (List.mem_of_getElem? hc)
/-- how a method ends -/
def am_retv (M : am_MI) (i : Jvm.ClassFile.Instr) (st : List Value) (v : Option Value) : Prop :=
  (i = .ireturn ∧ ∃ x : Int32, st = [.int x] ∧ v = some (.int x) ∧ (M.2.2.2.2.1 = some .int ∨ (M.2.2.2.2.1 = some .boolean ∧ (x = 0 ∨ x = 1)))) ∨
  (i = .areturn ∧ (∃ n, M.2.2.2.2.1 = some (.object n)) ∧ ((∃ x : Nat, st = [.ref x] ∧ v = some (.ref x)) ∨ ∃ x : Nat, st = [.retAddr x] ∧ v = some (.retAddr x))) ∨
  (i = .return_ ∧ M.2.2.2.2.1 = none ∧ st = [] ∧ v = none)
section MN
variable {D : va_G} {cA : Nat → ClassId} {B b0 : Nat} {adK adV : Nat → Nat} {sc : Nat × (Nat → Int32)}
/-- a method's contract out of the abstract machine's run -/
def am_Pc (D : va_G) (cA : Nat → ClassId) (B b : Nat) (adK adV : Nat → Nat) (sc : Nat × (Nat → Int32)) (vs : List Value) (sh : List am_Sh) (h : am_H) : Array Value → State → Prop := fun v U => v = (vs.map (am_tr B b adK)).toArray ∧ am_Fx D cA B b adK adV sc U ∧ am_Wd D cA B b sh h U.heap
def am_Qc (D : va_G) (cA : Nat → ClassId) (B b : Nat) (adK : Nat → Nat) (r : am_R) : Array Value → State → Outcome → State → Prop := fun _ st o t => o = .returned (r.1.map (am_tr B b adK)) ∧ am_Wd D cA B b r.2.1 r.2.2 t.heap ∧ va_F (fun q => B ≤ q) st t
theorem am_Pc_blind {vs : List Value} {sh : List am_Sh} {h : am_H} : FrameBlind (am_Pc D cA B b0 adK adV sc vs sh h) := fun a U g mk q => ⟨q.1, q.2.1.same rfl rfl, q.2.2⟩
/-- a call whose contract is of that kind -/
theorem am_callr {p : Program} {l : Launch} {e : Env} {R : Room} {s : State} {m : MethodId} {args : Array Value} {below : List Frame} {meth : Method} {c : Code} {H : Heap} {locs : List Loc} {cells slots mc ms : Nat} {Q : State → Prop} {pc : Nat} {ls : Array Slot} {st0 rest : List Value} {r : am_R} {a : Array Value}
    (hr : va_Run p l e R s m args below meth c H locs cells slots mc ms (F0 m pc ls st0) rest (am_Qc D cA B b0 adK r a) (fun q => B ≤ q)) (hS : va_S (fun q => B ≤ q) s.heap H locs)
    (kk : ∀ (H1 : Heap) (locs1 : List Loc), am_Wd D cA B b0 r.2.1 r.2.2 H1 → va_S (fun q => B ≤ q) s.heap H1 locs1 → W p l e R s m args below meth c H1 locs1 (cells + mc) (slots + ms) Q (F0 m (pc + 3) ls ((r.1.map (am_tr B b0 adK)).toList ++ rest))) : W p l e R s m args below meth c H locs cells slots Q (F0 m pc ls st0) := by
  intro T hT X
  obtain ⟨v, st₀, t, T', L, h0, X', hL, e1, e2, ⟨hv, hw, hz, hk⟩, st⟩ := hr T hT X
  cases hv
  rw [h0] at hz hk
  obtain ⟨t2, a1, b1⟩ := kk T'.heap (locs ++ L) (by rw [e1]; exact hw) ⟨Nat.le_trans hS.1 (by rw [e1]; exact hz), fun q h1 h2 => by rw [e1, hk q (Nat.lt_of_lt_of_le h1 hS.1) h2]; exact hS.2.1 q h1 h2, fun q hq => by
      rcases List.mem_append.mp hq with h | h
      · exact hS.2.2 q h
      · exact hL q h⟩ T' rfl X'
  exact ⟨t2, st t2 a1, b1⟩
theorem am_okc_split {st : List Value} {b : Nat} {x : Value} (h1 : 1 ≤ b) (h2 : b ≤ st.length) (h3 : (st.drop (b - 1)).head? = some x) : st = (st.take (b - 1)).reverse.reverse ++ x :: st.drop b ∧ (st.take b).reverse = x :: (st.take (b - 1)).reverse := by
  have e1 : st.drop (b - 1) = x :: st.drop b := by
    cases hd : st.drop (b - 1) with
    | nil => rw [hd] at h3; cases h3
    | cons y t =>
      rw [hd] at h3
      cases h3
      congr 1
      have := congrArg (List.drop 1) hd
      rw [List.drop_drop] at this
      rw [show b - 1 + 1 = b by omega] at this
      exact this.symm
  have e2 : st.take b = st.take (b - 1) ++ [x] := by
    have g : st.take b = (st.take (b - 1)) ++ ((st.drop (b - 1)).take 1) := by
      rw [← List.take_add]
      congr 1
      omega
    rw [g, e1]
    rfl
  refine ⟨?_, ?_⟩
  · rw [List.reverse_reverse, ← e1, List.take_append_drop]
  · rw [e2, List.reverse_append]
    rfl
/-- what the checks give of all methods -/
def am_Chk : Prop := ∀ (mi : Nat) (M : am_MI), am_mt[mi]? = some M → (am_ckl M (am_code mi) = true ∧ am_ckl2 M (am_code mi) = true) ∧ (mi ≠ 313 → am_mb M = true ∧ ∃ q, (am_code mi)[0]? = some q ∧ q.2.1 = 0)
/-- the statement of a run by so much fuel -/
def am_Snd (l : Launch) (D : va_G) (cA : Nat → ClassId) (B b0 : Nat) (adK adV : Nat → Nat) (sc : Nat × (Nat → Int32)) (n : Nat) : Prop :=
  ∀ (d mi j : Nat) (ls : List (Nat × Value)) (st : List Value) (sh : List am_Sh) (h : am_H) (r : am_R) (M : am_MI), am_run sc n d mi (j, ls, st, sh, h) = some r → am_mt[mi]? = some M →
    ∀ (p : Program) (e : Env) (R : Room) (s : State) (m : MethodId) (args : Array Value) (below : List Frame) (meth : Method) (c0 : Code) (Q : State → Prop) (L0 S0 : Nat),
      am_Cx D cA B b0 adK adV sc M.1 M.2.2.1 M.2.2.2.1 p s m args c0 → (M.2.2.2.2.2.1 = 2 → meth.name = "<init>") → (d + 8 ≤ R.frames ∧ 64 * (d + 8) ≤ R.locals ∧ r.2.1.length - L0 ≤ R.cells ∧ am_sl r.2.1 - S0 ≤ R.slots) → (L0 ≤ sh.length ∧ S0 ≤ am_sl sh) →
      (∀ (H : Heap) (locs : List Loc) (lsA : Array Slot) (pc : Nat) (i : Jvm.ClassFile.Instr) (st' : List Value), decode M.2.2.1 pc = .ok (i, 1) → am_retv M i st' r.1 → am_Wd D cA B b0 r.2.1 r.2.2 H → va_S (fun q => B ≤ q) s.heap H locs → W p l e R s m args below meth c0 H locs (r.2.1.length - L0) (am_sl r.2.1 - S0) Q (F0 m pc lsA (st'.map (am_tr B b0 adK)))) →
      am_AW D cA B b0 adK p l e R s m args below meth c0 Q M.2.2.2.1 (am_code mi) L0 S0 (j, ls, st, sh, h)
theorem am_mb_of {M : am_MI} (h : am_mb M = true) : M.1 = M.2.1.cls ∧ Cond.code M.2.1 M.2.2.1 M.2.2.2.1 M.2.2.2.2.1 ∈ lw_tbl ∧ Cond.initialized M.2.1.cls ∈ lw_tbl ∧ (M.2.2.2.2.2.1 = 0 → Cond.static M.2.1 ∈ lw_tbl) ∧ (M.2.2.2.2.2.1 = 1 → Cond.instanceMethod M.2.1 ∈ lw_tbl ∧ Cond.selects M.2.1.cls M.2.1 M.2.1 ∈ lw_tbl) ∧ (M.2.2.2.2.2.1 = 2 → Cond.instanceMethod M.2.1 ∈ lw_tbl ∧ M.2.1.name = "<init>") ∧
    plainName M.2.1.cls = true ∧ M.2.1.cls ≠ "java/lang/invoke/MethodHandle" ∧ M.2.1.cls ≠ "java/lang/invoke/VarHandle" ∧ (parseMethodDescriptor M.2.1.desc).map (fun d => d.parameters.length) = some M.2.2.2.2.2.2.1 ∧ M.2.2.2.1 + 19 ≤ 64 := by
  obtain ⟨own, y, cc, ml, ret, kind, np, p1, p2, p3, p4⟩ := M
  unfold am_mb at h
  simp only [Bool.and_eq_true, decide_eq_true_eq] at h
  obtain ⟨⟨⟨⟨⟨⟨⟨⟨h1, h2⟩, h3⟩, h4⟩, h5⟩, h6⟩, h7⟩, h8⟩, h9⟩ := h
  refine ⟨h1, am_tb_mem h2, am_tb_mem h3, fun hk => ?_, fun hk => ?_, fun hk => ?_, h5, h6, h7, h8, h9⟩
  · have hk : kind = 0 := hk
    rw [if_pos hk] at h4
    exact am_tb_mem (of_decide_eq_true h4)
  · have hk : kind = 1 := hk
    rw [if_neg (by omega)] at h4
    simp only [Bool.and_eq_true, decide_eq_true_eq] at h4
    rw [if_pos hk] at h4
    exact ⟨am_tb_mem h4.1, am_tb_mem (of_decide_eq_true h4.2)⟩
  · have hk : kind = 2 := hk
    rw [if_neg (by omega)] at h4
    simp only [Bool.and_eq_true, decide_eq_true_eq] at h4
    rw [if_neg (by omega)] at h4
    simp only [Bool.and_eq_true, decide_eq_true_eq] at h4
    exact ⟨am_tb_mem h4.1, h4.2.2⟩
/-- the contract of a method that the machine ran -/
theorem am_met {l : Launch} {n : Nat} (ih : am_Snd l D cA B b0 adK adV sc n) (hall : am_Chk) {d mi : Nat} {M : am_MI} (hM : am_mt[mi]? = some M) (hmi : mi ≠ 313) {vs : List Value} {sh : List am_Sh} {h : am_H} {r : am_R} (hrun : am_run sc n d mi (0, lv_args 0 vs, [], sh, h) = some r) (hvs : (lg_sl vs).length ≤ M.2.2.2.1) :
    Met l M.2.1 (Cond.code M.2.1 M.2.2.1 M.2.2.2.1 M.2.2.2.2.1 :: am_wl0) ({ frames := d + 8, cells := r.2.1.length - sh.length, slots := am_sl r.2.1 - am_sl sh, locals := 64 * (d + 8) } : Room) (am_Pc D cA B b0 adK adV sc vs sh h) (am_Qc D cA B b0 adK r) (r.2.1.length - sh.length) (am_sl r.2.1 - am_sl sh) (fun q => B ≤ q) := by
  obtain ⟨-, hm⟩ := hall mi M hM
  obtain ⟨hmb, q0, hq0, hq1⟩ := hm hmi
  obtain ⟨hown0, hcode, hini, hk0, hk1, hk2, hpl, hy1, hy2, hnp, hml0⟩ := am_mb_of hmb
  refine Met.ofW (cc := M.2.2.1) (maxL := M.2.2.2.1) (ret := M.2.2.2.2.1) hpl rfl ?_
  intro p e s m args below meth c s₁ B0 hml hv
  obtain ⟨rfl, hF, hW⟩ := hv
  have hx := B0.exec
  have hb := B0.bytes
  have hr := B0.returns
  have hts0 := atoms_spec (ws := Cond.code M.2.1 M.2.2.1 M.2.2.2.1 M.2.2.2.2.1 :: am_wl0) B0.pre
  have hts : ∀ w ∈ am_wl0, w.before _ s = true := fun w h => hts0 w (List.mem_cons_of_mem _ h)
  have hown : s.vm.findClass M.1 = some m.cls := by
    rw [hown0]
    exact findClass_of_methodNamed B0.named
  have hlocks := B0.notSynchronized
  have hC : am_Cx D cA B b0 adK adV sc M.1 M.2.2.1 M.2.2.2.1 p s m _ c := ⟨hx, hb, hml, hown, hts, hF⟩
  have hl := lv_entry (vs.map (am_tr B b0 adK)) (n := M.2.2.2.1) (by rw [am_lgsl_tr]; exact hvs)
  rw [lg_entry_eq]
  generalize (lg_sl (vs.map (am_tr B b0 adK)) ++ List.replicate (M.2.2.2.1 - (lg_sl (vs.map (am_tr B b0 adK))).length) Slot.unset).toArray = lsA at hl ⊢
  rw [am_args_tr] at hl
  have key := ih d mi 0 (lv_args 0 vs) [] sh h r M hrun hM p e ({ frames := d + 8, cells := r.2.1.length - sh.length, slots := am_sl r.2.1 - am_sl sh, locals := 64 * (d + 8) } : Room) s m _ below meth c (MQ below (am_Qc D cA B b0 adK r) (vs.map (am_tr B b0 adK)).toArray s (r.2.1.length - sh.length) (am_sl r.2.1 - am_sl sh) (fun q => B ≤ q)) sh.length (am_sl sh) hC
    (fun hk => by rw [(name_of_methodNamed B0.named B0.method).1]; exact (hk2 hk).2) ⟨Nat.le_refl _, Nat.le_refl _, Nat.le_refl _, Nat.le_refl _⟩ ⟨Nat.le_refl _, Nat.le_refl _⟩ ?_ s.heap [] lsA 0 (fun q hq => by
      have hq : (am_code mi)[0]? = some q := hq
      rw [hq0] at hq
      cases hq
      exact hq1) hl hW va_S.rf
  · have e1 : (sh.length - sh.length) = 0 := Nat.sub_self _
    have e2 : (am_sl sh - am_sl sh) = 0 := Nat.sub_self _
    have key : W p l e ({ frames := d + 8, cells := r.2.1.length - sh.length, slots := am_sl r.2.1 - am_sl sh, locals := 64 * (d + 8) } : Room) s m (vs.map (am_tr B b0 adK)).toArray below meth c s.heap [] (sh.length - sh.length) (am_sl sh - am_sl sh) (MQ below (am_Qc D cA B b0 adK r) (vs.map (am_tr B b0 adK)).toArray s (r.2.1.length - sh.length) (am_sl r.2.1 - am_sl sh) (fun q => B ≤ q)) (F0 m 0 lsA []) := key
    rw [e1, e2] at key
    exact key
  · intro H locs lsB pc i st' hd hrv hW1 hS1
    rcases hrv with ⟨rfl, x, rfl, hv, hrt⟩ | ⟨rfl, ⟨nm, hrt⟩, hx2⟩ | ⟨rfl, hrt, rfl, hv⟩
    · have hq : ∀ t : State, t.heap = H → s.WarmedH t.vm → am_Qc D cA B b0 adK r (vs.map (am_tr B b0 adK)).toArray s (.returned (some (.int x))) t := fun t ht _ => ⟨by rw [hv]; rfl, by rw [ht]; exact hW1, hS1.F ht⟩
      rcases hrt with hrt | ⟨hrt, h01⟩
      · exact W.iret hx hb (by rw [hr, hrt]) hq hS1.2.2 hd
      · exact W.zret hx hb (by rw [hr, hrt]) (by rcases h01 with rfl | rfl <;> rfl) hq hS1.2.2 hd
    · rcases hx2 with ⟨x, rfl, hv⟩ | ⟨x, rfl, hv⟩
      · exact W.aret hx hb (by rw [hr, hrt]) (Or.inl ⟨nm, rfl⟩) (Or.inr ⟨_, rfl⟩) (fun t ht _ => ⟨by rw [hv]; rfl, by rw [ht]; exact hW1, hS1.F ht⟩) hS1.2.2 hd
      · exact W.aret hx hb (by rw [hr, hrt]) (Or.inl ⟨nm, rfl⟩) (Or.inr ⟨_, rfl⟩) (fun t ht _ => ⟨by rw [hv]; rfl, by rw [ht]; exact hW1, hS1.F ht⟩) hS1.2.2 hd
    · exact W.vret hx hb (by rw [hr, hrt]) (fun t ht _ => ⟨by rw [hv]; rfl, by rw [ht]; exact hW1, hS1.F ht⟩) hS1.2.2 hd
end MN
