/-! THE CHECK OF THE PROGRAM'S ROWS -/
/-- the place behind an instruction; a branch's target -/
def am_nxb (cd : List am_E) (j pc n : Nat) : Bool := match cd[j]? with
  | some q => q.2.1 == pc + n
  | none => true
def am_tgb (cd : List am_E) (a pc : Nat) (off : Int) : Bool := match cd[a]? with
  | some q => decide ((pc : Int) + off = (q.2.1 : Int))
  | none => false
/-- a field's row -/
def am_fdb (own : String) (a b idx pos : Nat) (c : Nat) (ini : Bool) (put : Bool) : Bool := match vwCl[a]? with
  | some q => decide (b < q.2.2) && decide ((q.2.1 b).1 = q.1) && decide (am_tb pos = some (.fieldLink own idx q.1 (q.2.1 b).2.1 (q.2.1 b).2.2.1)) &&
    (if put = true then (if c = 1 then decide ((q.2.1 b).2.2.2 = true) && ini && decide ((q.2.1 b).1 = own) && (match parseFieldDescriptor (q.2.1 b).2.2.1 with | some (.object _) => true | some (.array _) => true | _ => false)
      else decide ((q.2.1 b).2.2.2 = false) && (if c = 0 then decide (parseFieldDescriptor (q.2.1 b).2.2.1 = some .int) else decide (c = 2) && decide (parseFieldDescriptor (q.2.1 b).2.2.1 = some .boolean))) else true)
  | none => false
/-- a switch: every place of the table goes where the list says -/
def am_swb (cd : List am_E) (L : List (Int32 × Nat)) (b pc : Nat) (dflt lo hi : Int) (offs : Array Int) : Bool :=
  am_tgb cd b pc dflt && decide (-2147483648 ≤ lo) && decide (hi < 2147483648) && decide (offs.size = (hi - lo + 1).toNat) && decide (lo ≤ hi) &&
  (List.range offs.size).all (fun n => match offs[n]? with
    | some off => am_tgb cd (am_swt (Int32.ofInt (lo + n)) L b) pc off
    | none => false) && L.all (fun q => decide (lo ≤ q.1.toInt) && decide (q.1.toInt ≤ hi))
/-- an instruction's row: what the bytes hold there, and what the tables say of it -/
def am_ck (own : String) (nL : Nat) (ini : Bool) (cc : ByteArray) (cd : List am_E) (j : Nat) (i : Jvm.ClassFile.Instr) (a b c : Nat) (v : Int32) (pc idx pos : Nat) : Bool :=
  match i with
  | .iconst n => decide (decode cc pc = .ok (.iconst n, 1)) && decide (Int32.ofInt n = v) && am_nxb cd (j + 1) pc 1
  | .bipush n => decide (decode cc pc = .ok (.bipush n, 2)) && decide ((Int8.ofInt n).toInt32 = v) && am_nxb cd (j + 1) pc 2
  | .sipush n => decide (decode cc pc = .ok (.sipush n, 3)) && decide ((Int16.ofInt n).toInt32 = v) && am_nxb cd (j + 1) pc 3
  | .ldc n => decide (decode cc pc = .ok (.ldc n, 2)) && (if c = 1 then (match am_sr[a]? with | some q => decide (q.1 = own) && decide (q.2.1 = n) | none => false) else decide (am_tb pos = some (.constant own n v))) && am_nxb cd (j + 1) pc 2
  | .ldc_w n => decide (decode cc pc = .ok (.ldc_w n, 3)) && decide (c = 0) && decide (am_tb pos = some (.constant own n v)) && am_nxb cd (j + 1) pc 3
  | .ldc2_w n => decide (decode cc pc = .ok (.ldc2_w n, 3)) && decide (am_tb pos = some (.constantLong own n v.toInt64)) && am_nxb cd (j + 1) pc 3
  | .lconst n => decide (decode cc pc = .ok (.lconst n, 1)) && decide (Int64.ofNat (n : Nat) = v.toInt64) && am_nxb cd (j + 1) pc 1
  | .iload_n n => decide (decode cc pc = .ok (.iload_n n, 1)) && am_nxb cd (j + 1) pc 1
  | .iload n => decide (decode cc pc = .ok (.iload n, 2)) && am_nxb cd (j + 1) pc 2
  | .aload_n n => decide (decode cc pc = .ok (.aload_n n, 1)) && am_nxb cd (j + 1) pc 1
  | .aload n => decide (decode cc pc = .ok (.aload n, 2)) && am_nxb cd (j + 1) pc 2
  | .lload_n n => decide (decode cc pc = .ok (.lload_n n, 1)) && am_nxb cd (j + 1) pc 1
  | .istore_n n => decide (decode cc pc = .ok (.istore_n n, 1)) && decide ((n : Nat) < nL) && am_nxb cd (j + 1) pc 1
  | .istore n => decide (decode cc pc = .ok (.istore n, 2)) && decide (n < nL) && am_nxb cd (j + 1) pc 2
  | .astore_n n => decide (decode cc pc = .ok (.astore_n n, 1)) && decide ((n : Nat) < nL) && am_nxb cd (j + 1) pc 1
  | .astore n => decide (decode cc pc = .ok (.astore n, 2)) && decide (n < nL) && am_nxb cd (j + 1) pc 2
  | .lstore_n n => decide (decode cc pc = .ok (.lstore_n n, 1)) && decide ((n : Nat) + 1 < nL) && am_nxb cd (j + 1) pc 1
  | .iinc n x => decide (decode cc pc = .ok (.iinc n x, 3)) && decide (Int32.ofInt x = v) && decide (n < nL) && am_nxb cd (j + 1) pc 3
  | .goto off => decide (decode cc pc = .ok (.goto off, 3)) && am_tgb cd a pc off
  | .ifCond k off => decide (decode cc pc = .ok (.ifCond k off, 3)) && am_tgb cd a pc off && am_nxb cd (j + 1) pc 3
  | .if_icmp k off => decide (decode cc pc = .ok (.if_icmp k off, 3)) && am_tgb cd a pc off && am_nxb cd (j + 1) pc 3
  | .tableswitch dflt lo hi offs => (match decode cc pc with | .ok (x, _) => decide (x = .tableswitch dflt lo hi offs) | _ => false) && am_swb cd (am_sw.getD a []) b pc dflt lo hi offs
  | .getfield n => decide (decode cc pc = .ok (.getfield n, 3)) && am_fdb own a b n pos c ini false && am_nxb cd (j + 1) pc 3
  | .putfield n => decide (decode cc pc = .ok (.putfield n, 3)) && am_fdb own a b n pos c ini true && am_nxb cd (j + 1) pc 3
  | .newarray ty => decide (decode cc pc = .ok (.newarray ty, 2)) && (if a = 0 then decide (ty = .int) else decide (a = 1) && decide (ty = .long)) && am_nxb cd (j + 1) pc 2
  | .anewarray n => decide (decode cc pc = .ok (.anewarray n, 3)) && decide (a = 2) && decide (am_tb pos = some (.classLink own n "TongueGlass$Court")) && am_nxb cd (j + 1) pc 3
  | .new n => decide (decode cc pc = .ok (.new n, 3)) && (match vwCl[a]? with | some q => decide (b = q.2.2) && decide (am_tb pos = some (.classLink own n q.1)) | none => false) && am_nxb cd (j + 1) pc 3
  | .invokevirtual n => decide (decode cc pc = .ok (.invokevirtual n, 3)) && am_nxb cd (j + 1) pc 3
  | .invokespecial n => decide (decode cc pc = .ok (.invokespecial n, 3)) && am_nxb cd (j + 1) pc 3
  | .invokestatic n => decide (decode cc pc = .ok (.invokestatic n, 3)) && am_nxb cd (j + 1) pc 3
  | x => decide (decode cc pc = .ok (x, 1)) && am_nxb cd (j + 1) pc 1
def am_ckl (M : am_MI) (cd : List am_E) : Bool := (List.range cd.length).all fun j => match cd[j]? with
  | some ((i, a, b, c, v), (pc, idx, pos)) => am_ck M.1 M.2.2.2.1 (decide (M.2.2.2.2.2.1 = 2)) M.2.2.1 cd j i a b c v pc idx pos
  | none => false
/-! CALLS AND ENDS: what is checked of them -/
/-- a link of the pool: to the method itself, or to a nest mate's -/
def am_lkb (own : String) (n pos : Nat) (y : MethodName) : Bool := match am_tb pos with
  | some (.methodLink o k z) => decide (o = own) && decide (k = n) && decide (z = y)
  | some (.methodLinkNest o k z _) => decide (o = own) && decide (k = n) && decide (z = y)
  | _ => false
theorem am_lk_of' {own : String} {n pos : Nat} {y : MethodName} (h : am_lkb own n pos y = true) : Cond.methodLink own n y ∈ lw_tbl ∨ ∃ host, Cond.methodLinkNest own n y host ∈ lw_tbl := by
  unfold am_lkb at h
  split at h
  · rename_i o k z hz
    simp only [Bool.and_eq_true, decide_eq_true_eq] at h
    obtain ⟨⟨rfl, rfl⟩, rfl⟩ := h
    exact Or.inl (am_tb_mem hz)
  · rename_i o k z host hz
    simp only [Bool.and_eq_true, decide_eq_true_eq] at h
    obtain ⟨⟨rfl, rfl⟩, rfl⟩ := h
    exact Or.inr ⟨host, am_tb_mem hz⟩
  · cases h
def am_cab (own : String) (kind n a b c pos : Nat) : Bool :=
  if c < 200 then (match am_mt[a]? with
    | some M => decide (a ≠ 313) && decide (M.2.2.2.2.2.1 = kind) && am_lkb own n pos M.2.1 && (if kind = 0 then decide (c = 0) && decide (b = M.2.2.2.2.2.2.1)
        else decide (b = M.2.2.2.2.2.2.1 + 1) && (if kind = 1 then decide (1 ≤ c) && decide (c < 100) && (match vwCl[c - 1]? with | some q => decide (q.1 = M.2.1.cls) | none => false) else decide (kind = 2) && decide (100 ≤ c)))
    | none => false)
  else if c = 200 then decide (kind = 0) && decide (am_tb pos = some (.methodLink own n Lib.Math.max.name))
  else if c = 201 then decide (kind = 0) && decide (am_tb pos = some (.methodLink own n Lib.Math.min.name))
  else if c = 202 then decide (kind = 0) && decide (am_tb pos = some (.methodLink own n arraycopyName))
  else if c = 300 then decide (kind = 2) && decide (am_tb pos = some (.methodLink own n Lib.objectInit))
  else if c = 400 then decide (kind = 1) && decide (am_tb pos = some (.methodLink own n yJ0_length_8abf5))
  else decide (c = 401) && decide (kind = 1) && decide (am_tb pos = some (.methodLink own n yJ0_charAt_5068e))
def am_ck2 (M : am_MI) (i : Jvm.ClassFile.Instr) (a b c pos : Nat) : Bool := match i with
  | .ireturn => if a = 1 then decide (M.2.2.2.2.1 = some .boolean) else decide (M.2.2.2.2.1 = some .int)
  | .areturn => (match M.2.2.2.2.1 with | some (.object _) => true | _ => false)
  | .return_ => decide (M.2.2.2.2.1 = none)
  | .invokestatic n => am_cab M.1 0 n a b c pos
  | .invokevirtual n => am_cab M.1 1 n a b c pos
  | .invokespecial n => am_cab M.1 2 n a b c pos
  | _ => true
def am_ckl2 (M : am_MI) (cd : List am_E) : Bool := cd.all fun q => am_ck2 M q.1.1 q.1.2.1 q.1.2.2.1 q.1.2.2.2.1 q.2.2.2
/-- a method that is called -/
def am_mb (M : am_MI) : Bool := match M with
  | (own, y, cc, ml, ret, kind, np, p1, p2, p3, p4) => decide (own = y.cls) && decide (am_tb p1 = some (.code y cc ml ret)) && decide (am_tb p2 = some (.initialized y.cls)) &&
    (if kind = 0 then decide (am_tb p3 = some (.static y)) else decide (am_tb p3 = some (.instanceMethod y)) && (if kind = 1 then decide (am_tb p4 = some (.selects y.cls y y)) else decide (kind = 2) && decide (y.name = "<init>"))) &&
    plainName y.cls && decide (y.cls ≠ "java/lang/invoke/MethodHandle") && decide (y.cls ≠ "java/lang/invoke/VarHandle") && decide ((parseMethodDescriptor y.desc).map (fun d => d.parameters.length) = some np) && decide (ml + 19 ≤ 64)
def am_ckall (mi : Nat) : Bool := match am_mt[mi]? with
  | some M => am_ckl M (am_code mi) && am_ckl2 M (am_code mi) && am_mb M && (match (am_code mi)[0]? with | some q => q.2.1 == 0 | none => false)
  | none => false
/-- the law, row by row -/
def am_law : am_MI := (RL, yL_law, cL_law, 4, some .boolean, 0, 1, 0, 0, 0, 0)
set_option maxRecDepth 100000 in
theorem am_law_mt : am_mt[313]? = some am_law := rfl
def am_cklaw (j : Nat) : Bool := match (am_code 313)[j]? with
  | some ((i, a, b, c, v), (pc, idx, pos)) => am_ck am_law.1 am_law.2.2.2.1 (decide (am_law.2.2.2.2.2.1 = 2)) am_law.2.2.1 (am_code 313) j i a b c v pc idx pos
  | none => false
