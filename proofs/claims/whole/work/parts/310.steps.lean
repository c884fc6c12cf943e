/-! ONE STEP: the machine's walk goes along -/
/-- what is known at a method's start: its frame, its code, the tables, the classes, the script, the texts -/
def am_Cx (D : va_G) (cA : Nat → ClassId) (B b : Nat) (adK adV : Nat → Nat) (sc : Nat × (Nat → Int32)) (own : String) (cc : ByteArray) (nL : Nat) (p : Program) (s : State) (m : MethodId) (args : Array Value) (c : Code) : Prop :=
  p.tables.exec = Jvm.exec ∧ c.code = cc ∧ c.maxLocals = nL ∧ s.vm.findClass own = some m.cls ∧ (∀ w ∈ lw_tbl, w.before args s = true) ∧ va_K D vwCl (am_tys cA) s ∧ va_X b sc.1 sc.2 s s.heap ∧ b < B ∧ B ≤ s.heap.size ∧
  vk_S am_strs.length (am_strs.map List.length) am_strs adK adV (fun q => B ≤ q) s s.heap ∧ ∀ (i : Nat) (q : String × Nat × String × Nat), am_sr[i]? = some q → vk_R q.1 q.2.1 q.2.2.1 (adK i) s
/-- the machine's walk from the abstract machine's state t on -/
def am_AW (D : va_G) (cA : Nat → ClassId) (B b : Nat) (adK : Nat → Nat) (p : Program) (l : Launch) (e : Env) (R : Room) (s : State) (m : MethodId) (args : Array Value) (below : List Frame) (meth : Method) (c : Code) (Q : State → Prop) (nL : Nat) (cd : List am_E) (L0 S0 : Nat) (t : am_C) : Prop :=
  ∀ (H : Heap) (locs : List Loc) (ls : Array Slot) (pc : Nat), (∀ q, cd[t.1]? = some q → q.2.1 = pc) → lv_has ls nL (am_trl B b adK t.2.1) → am_Wd D cA B b t.2.2.2.1 t.2.2.2.2 H → va_S (fun q => B ≤ q) s.heap H locs →
    W p l e R s m args below meth c H locs (t.2.2.2.1.length - L0) (am_sl t.2.2.2.1 - S0) Q (F0 m pc ls (t.2.2.1.map (am_tr B b adK)))

/-- the place behind an instruction; a branch's target -/
def am_nxb (cd : List am_E) (j pc n : Nat) : Bool := match cd[j]? with
  | some q => q.2.1 == pc + n
  | none => true
def am_tgb (cd : List am_E) (a pc : Nat) (off : Int) : Bool := match cd[a]? with
  | some q => decide ((pc : Int) + off = (q.2.1 : Int))
  | none => false
/-- a field's row -/
def am_fdb (own : String) (a b idx pos : Nat) (c : Nat) (ini : Bool) (put : Bool) : Bool := match vwCl[a]? with
  | some q => decide (b < q.2.2) && decide ((q.2.1 b).1 = q.1) && decide (lw_tbl[pos]? = some (.fieldLink own idx q.1 (q.2.1 b).2.1 (q.2.1 b).2.2.1)) &&
    (if put = true then (if c = 1 then decide ((q.2.1 b).2.2.2 = true) && ini && decide ((q.2.1 b).1 = own) && (match parseFieldDescriptor (q.2.1 b).2.2.1 with | some (.object _) => true | some (.array _) => true | _ => false)
      else decide ((q.2.1 b).2.2.2 = false) && (if c = 0 then decide (parseFieldDescriptor (q.2.1 b).2.2.1 = some .int) else decide (c = 2) && decide (parseFieldDescriptor (q.2.1 b).2.2.1 = some .boolean))) else true)
  | none => false
/-- a switch: every place of the table goes where the list says -/
def am_swb (cd : List am_E) (L : List (Int32 × Nat)) (b pc : Nat) (dflt lo hi : Int) (offs : Array Int) : Bool :=
  am_tgb cd b pc dflt && decide (-2147483648 ≤ lo) && decide (hi < 2147483648) && decide (offs.size = (hi - lo + 1).toNat) && decide (lo ≤ hi) &&
  (List.range offs.size).all (fun n => match offs[n]? with
    | some off => am_tgb cd (am_swt (Int32.ofInt (lo + n)) L b) pc off
    | none => false) && L.all (fun q => decide (lo ≤ q.1.toInt) && decide (q.1.toInt ≤ hi))
/-- an instruction's row: what the bytes hold there, and what the tables say of it -/
def am_ck (own : String) (nL : Nat) (ini : Bool) (cc : ByteArray) (cd : List am_E) (j : Nat) (i : Jvm.ClassFile.Instr) (a b c : Nat) (v : Int32) (pc idx pos : Nat) : Bool :=
  match i with
  | .iconst n => decide (decode cc pc = .ok (.iconst n, 1)) && decide (Int32.ofInt n = v) && am_nxb cd (j + 1) pc 1
  | .bipush n => decide (decode cc pc = .ok (.bipush n, 2)) && decide ((Int8.ofInt n).toInt32 = v) && am_nxb cd (j + 1) pc 2
  | .sipush n => decide (decode cc pc = .ok (.sipush n, 3)) && decide ((Int16.ofInt n).toInt32 = v) && am_nxb cd (j + 1) pc 3
  | .ldc n => decide (decode cc pc = .ok (.ldc n, 2)) && (if c = 1 then (match am_sr[a]? with | some q => decide (q.1 = own) && decide (q.2.1 = n) | none => false) else decide (lw_tbl[pos]? = some (.constant own n v))) && am_nxb cd (j + 1) pc 2
  | .ldc_w n => decide (decode cc pc = .ok (.ldc_w n, 3)) && decide (c = 0) && decide (lw_tbl[pos]? = some (.constant own n v)) && am_nxb cd (j + 1) pc 3
  | .ldc2_w n => decide (decode cc pc = .ok (.ldc2_w n, 3)) && decide (lw_tbl[pos]? = some (.constantLong own n v.toInt64)) && am_nxb cd (j + 1) pc 3
  | .lconst n => decide (decode cc pc = .ok (.lconst n, 1)) && decide (Int64.ofNat (n : Nat) = v.toInt64) && am_nxb cd (j + 1) pc 1
  | .iload_n n => decide (decode cc pc = .ok (.iload_n n, 1)) && am_nxb cd (j + 1) pc 1
  | .iload n => decide (decode cc pc = .ok (.iload n, 2)) && am_nxb cd (j + 1) pc 2
  | .aload_n n => decide (decode cc pc = .ok (.aload_n n, 1)) && am_nxb cd (j + 1) pc 1
  | .aload n => decide (decode cc pc = .ok (.aload n, 2)) && am_nxb cd (j + 1) pc 2
  | .lload_n n => decide (decode cc pc = .ok (.lload_n n, 1)) && am_nxb cd (j + 1) pc 1
  | .istore_n n => decide (decode cc pc = .ok (.istore_n n, 1)) && decide ((n : Nat) < nL) && am_nxb cd (j + 1) pc 1
  | .istore n => decide (decode cc pc = .ok (.istore n, 2)) && decide (n < nL) && am_nxb cd (j + 1) pc 2
  | .astore_n n => decide (decode cc pc = .ok (.astore_n n, 1)) && decide ((n : Nat) < nL) && am_nxb cd (j + 1) pc 1
  | .astore n => decide (decode cc pc = .ok (.astore n, 2)) && decide (n < nL) && am_nxb cd (j + 1) pc 2
  | .lstore_n n => decide (decode cc pc = .ok (.lstore_n n, 1)) && decide ((n : Nat) + 1 < nL) && am_nxb cd (j + 1) pc 1
  | .iinc n x => decide (decode cc pc = .ok (.iinc n x, 3)) && decide (Int32.ofInt x = v) && decide (n < nL) && am_nxb cd (j + 1) pc 3
  | .goto off => decide (decode cc pc = .ok (.goto off, 3)) && am_tgb cd a pc off
  | .ifCond k off => decide (decode cc pc = .ok (.ifCond k off, 3)) && am_tgb cd a pc off && am_nxb cd (j + 1) pc 3
  | .if_icmp k off => decide (decode cc pc = .ok (.if_icmp k off, 3)) && am_tgb cd a pc off && am_nxb cd (j + 1) pc 3
  | .tableswitch dflt lo hi offs => (match decode cc pc with | .ok (x, _) => decide (x = .tableswitch dflt lo hi offs) | _ => false) && am_swb cd (am_sw.getD a []) b pc dflt lo hi offs
  | .getfield n => decide (decode cc pc = .ok (.getfield n, 3)) && am_fdb own a b n pos c ini false && am_nxb cd (j + 1) pc 3
  | .putfield n => decide (decode cc pc = .ok (.putfield n, 3)) && am_fdb own a b n pos c ini true && am_nxb cd (j + 1) pc 3
  | .newarray ty => decide (decode cc pc = .ok (.newarray ty, 2)) && (if a = 0 then decide (ty = .int) else decide (a = 1) && decide (ty = .long)) && am_nxb cd (j + 1) pc 2
  | .anewarray n => decide (decode cc pc = .ok (.anewarray n, 3)) && decide (a = 2) && decide (lw_tbl[pos]? = some (.classLink own n "TongueGlass$Court")) && am_nxb cd (j + 1) pc 3
  | .new n => decide (decode cc pc = .ok (.new n, 3)) && (match vwCl[a]? with | some q => decide (b = q.2.2) && decide (lw_tbl[pos]? = some (.classLink own n q.1)) | none => false) && am_nxb cd (j + 1) pc 3
  | .invokevirtual n => decide (decode cc pc = .ok (.invokevirtual n, 3)) && am_nxb cd (j + 1) pc 3
  | .invokespecial n => decide (decode cc pc = .ok (.invokespecial n, 3)) && am_nxb cd (j + 1) pc 3
  | .invokestatic n => decide (decode cc pc = .ok (.invokestatic n, 3)) && am_nxb cd (j + 1) pc 3
  | x => decide (decode cc pc = .ok (x, 1)) && am_nxb cd (j + 1) pc 1
