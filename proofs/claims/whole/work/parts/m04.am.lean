/-! THE ABSTRACT MACHINE: refs are places in a list of shapes; numbers of all objects and arrays stand in one function; a fuel function runs it. -/
/-- an object: its class's number, its fields (none: a number; some 0: null; some (r + 1): the cell r); an array: its kind (0 int, 1 long, 2 of Courts), its length -/
abbrev am_Sh : Type := (Nat × List (Option Nat)) ⊕ (Nat × Nat)
abbrev am_C : Type := Nat × List (Nat × Value) × List Value × List am_Sh × am_H
/-- the class's cells are those below -/
def am_NX : Nat := 216
/-- the script's place (a text is a .retAddr) -/
def am_SC : Nat := 1000000
def am_rw (h : am_H) (k : Nat) : Nat → Int32 := if k < am_NX then h.1 k else h.2 k
def am_rd (h : am_H) (k j : Nat) : Int32 := if k < am_NX then h.1 k j else h.2 k j
def am_wrow (h : am_H) (k : Nat) (g : Nat → Int32) : am_H := if k < am_NX then (am_row h.1 k g, h.2) else (h.1, am_row h.2 k g)
def am_wr (h : am_H) (k j : Nat) (x : Int32) : am_H := if k < am_NX then (am_up h.1 k j x, h.2) else (h.1, am_up h.2 k j x)
def am_cpy (h : am_H) (k sp m dp n : Nat) : am_H := if k < am_NX then (if m < am_NX then (am_cp h.1 k sp m dp n, h.2) else h) else (if m < am_NX then h else (h.1, am_cp h.2 k sp m dp n))
def am_lk : List (Nat × Value) → Nat → Option Value
  | [], _ => none
  | q :: l, i => if q.1 = i then some q.2 else am_lk l i
def am_ins : List (Nat × Value) → Nat → Value → List (Nat × Value)
  | [], i, v => [(i, v)]
  | q :: l, i, v => if q.1 < i then q :: am_ins l i v else (i, v) :: q :: l
def am_sto (l : List (Nat × Value)) (i : Nat) (v : Value) : List (Nat × Value) := am_ins (l.filter (fun q => !(q.1 == i) && !(q.1 + 1 == i && q.2.category == 2))) i v
def am_stl (l : List (Nat × Value)) (i : Nat) (v : Value) : List (Nat × Value) := am_ins (l.filter (fun q => !(q.1 == i) && (!(q.1 == i + 1) && !(q.1 + 1 == i && q.2.category == 2)))) i v
def am_cats (st : List Value) : Nat := (st.map fun v => v.category).sum
def am_sz : am_Sh → Nat
  | .inl o => o.2.length
  | .inr a => a.2
def am_sl (sh : List am_Sh) : Nat := (sh.map am_sz).sum
/-- where a switch goes -/
def am_swt (x : Int32) : List (Int32 × Nat) → Nat → Nat
  | [], d => d
  | q :: l, d => if x = q.1 then q.2 else am_swt x l d
variable (sc : Nat × (Nat → Int32))
/-- one instruction that is no call and no return -/
def am_ex (i : Jvm.ClassFile.Instr) (a b c : Nat) (v : Int32) (j : Nat) (ls : List (Nat × Value)) (st : List Value) (sh : List am_Sh) (h : am_H) : Option am_C :=
  match i with
  | .iconst _ | .bipush _ | .sipush _ => some (j + 1, ls, .int v :: st, sh, h)
  | .ldc _ | .ldc_w _ => some (j + 1, ls, (if c = 1 then .retAddr a else .int v) :: st, sh, h)
  | .ldc2_w _ | .lconst _ => some (j + 1, ls, .long v.toInt64 :: st, sh, h)
  | .iload_n k => (match am_lk ls k.val with | some (.int x) => some (j + 1, ls, .int x :: st, sh, h) | _ => none)
  | .iload k => (match am_lk ls k with | some (.int x) => some (j + 1, ls, .int x :: st, sh, h) | _ => none)
  | .aload_n k => (match am_lk ls k.val with | some (.ref x) => some (j + 1, ls, .ref x :: st, sh, h) | some (.retAddr x) => some (j + 1, ls, .retAddr x :: st, sh, h) | _ => none)
  | .aload k => (match am_lk ls k with | some (.ref x) => some (j + 1, ls, .ref x :: st, sh, h) | some (.retAddr x) => some (j + 1, ls, .retAddr x :: st, sh, h) | _ => none)
  | .lload_n k => (match am_lk ls k.val with | some (.long x) => some (j + 1, ls, .long x :: st, sh, h) | _ => none)
  | .istore_n k => (match st with | .int x :: st => some (j + 1, am_sto ls k.val (.int x), st, sh, h) | _ => none)
  | .istore k => (match st with | .int x :: st => some (j + 1, am_sto ls k (.int x), st, sh, h) | _ => none)
  | .astore_n k => (match st with | .ref x :: st => some (j + 1, am_sto ls k.val (.ref x), st, sh, h) | _ => none)
  | .astore k => (match st with | .ref x :: st => some (j + 1, am_sto ls k (.ref x), st, sh, h) | _ => none)
  | .lstore_n k => (match st with | .long x :: st => some (j + 1, am_stl ls k.val (.long x), st, sh, h) | _ => none)
  | .iinc k _ => (match am_lk ls k with | some (.int x) => some (j + 1, am_sto ls k (.int (x + v)), st, sh, h) | _ => none)
  | .iadd => (match st with | .int y :: .int x :: st => some (j + 1, ls, .int (x + y) :: st, sh, h) | _ => none)
  | .isub => (match st with | .int y :: .int x :: st => some (j + 1, ls, .int (x - y) :: st, sh, h) | _ => none)
  | .imul => (match st with | .int y :: .int x :: st => some (j + 1, ls, .int (x * y) :: st, sh, h) | _ => none)
  | .iand => (match st with | .int y :: .int x :: st => some (j + 1, ls, .int (x &&& y) :: st, sh, h) | _ => none)
  | .ior => (match st with | .int y :: .int x :: st => some (j + 1, ls, .int (x ||| y) :: st, sh, h) | _ => none)
  | .ixor => (match st with | .int y :: .int x :: st => some (j + 1, ls, .int (x ^^^ y) :: st, sh, h) | _ => none)
  | .ishl => (match st with | .int y :: .int x :: st => some (j + 1, ls, .int (x <<< (y &&& 31)) :: st, sh, h) | _ => none)
  | .ishr => (match st with | .int y :: .int x :: st => some (j + 1, ls, .int (x >>> (y &&& 31)) :: st, sh, h) | _ => none)
  | .iushr => (match st with | .int y :: .int x :: st => some (j + 1, ls, .int ((x.toUInt32 >>> (y.toUInt32 &&& Int32.toUInt32 31)).toInt32) :: st, sh, h) | _ => none)
  | .idiv => (match st with | .int y :: .int x :: st => if y = 0 then none else some (j + 1, ls, .int (x / y) :: st, sh, h) | _ => none)
  | .irem => (match st with | .int y :: .int x :: st => if y = 0 then none else some (j + 1, ls, .int (x - x / y * y) :: st, sh, h) | _ => none)
  | .ineg => (match st with | .int x :: st => some (j + 1, ls, .int (0 - x) :: st, sh, h) | _ => none)
  | .i2l => (match st with | .int x :: st => some (j + 1, ls, .long x.toInt64 :: st, sh, h) | _ => none)
  | .l2i => (match st with | .long x :: st => some (j + 1, ls, .int x.toInt32 :: st, sh, h) | _ => none)
  | .ladd => (match st with | .long y :: .long x :: st => some (j + 1, ls, .long (x + y) :: st, sh, h) | _ => none)
  | .land => (match st with | .long y :: .long x :: st => some (j + 1, ls, .long (x &&& y) :: st, sh, h) | _ => none)
  | .lor => (match st with | .long y :: .long x :: st => some (j + 1, ls, .long (x ||| y) :: st, sh, h) | _ => none)
  | .lrem => (match st with | .long y :: .long x :: st => if y = 0 then none else some (j + 1, ls, .long (x - x / y * y) :: st, sh, h) | _ => none)
  | .lshl => (match st with | .int y :: .long x :: st => some (j + 1, ls, .long (x <<< (y.toInt64 &&& 63)) :: st, sh, h) | _ => none)
  | .lshr => (match st with | .int y :: .long x :: st => some (j + 1, ls, .long (x >>> (y.toInt64 &&& 63)) :: st, sh, h) | _ => none)
  | .lcmp => (match st with | .long y :: .long x :: st => some (j + 1, ls, .int (am_lcmp x y) :: st, sh, h) | _ => none)
  | .dup => (match st with | .int x :: st => some (j + 1, ls, .int x :: .int x :: st, sh, h) | .ref x :: st => some (j + 1, ls, .ref x :: .ref x :: st, sh, h) | _ => none)
  | .dup2 => (match st with | .int y :: .ref x :: st => some (j + 1, ls, .int y :: .ref x :: .int y :: .ref x :: st, sh, h) | _ => none)
  | .pop => (match st with | .int _ :: st => some (j + 1, ls, st, sh, h) | _ => none)
  | .goto _ => some (a, ls, st, sh, h)
  | .ifCond .eq _ => (match st with | .int x :: st => if x = 0 then some (a, ls, st, sh, h) else some (j + 1, ls, st, sh, h) | _ => none)
  | .ifCond .ne _ => (match st with | .int x :: st => if x = 0 then some (j + 1, ls, st, sh, h) else some (a, ls, st, sh, h) | _ => none)
  | .ifCond .lt _ => (match st with | .int x :: st => if x < 0 then some (a, ls, st, sh, h) else some (j + 1, ls, st, sh, h) | _ => none)
  | .ifCond .ge _ => (match st with | .int x :: st => if x < 0 then some (j + 1, ls, st, sh, h) else some (a, ls, st, sh, h) | _ => none)
  | .ifCond .gt _ => (match st with | .int x :: st => if 0 < x then some (a, ls, st, sh, h) else some (j + 1, ls, st, sh, h) | _ => none)
  | .ifCond .le _ => (match st with | .int x :: st => if 0 < x then some (j + 1, ls, st, sh, h) else some (a, ls, st, sh, h) | _ => none)
  | .if_icmp .eq _ => (match st with | .int y :: .int x :: st => if x = y then some (a, ls, st, sh, h) else some (j + 1, ls, st, sh, h) | _ => none)
  | .if_icmp .ne _ => (match st with | .int y :: .int x :: st => if x = y then some (j + 1, ls, st, sh, h) else some (a, ls, st, sh, h) | _ => none)
  | .if_icmp .lt _ => (match st with | .int y :: .int x :: st => if x < y then some (a, ls, st, sh, h) else some (j + 1, ls, st, sh, h) | _ => none)
  | .if_icmp .ge _ => (match st with | .int y :: .int x :: st => if x < y then some (j + 1, ls, st, sh, h) else some (a, ls, st, sh, h) | _ => none)
  | .if_icmp .gt _ => (match st with | .int y :: .int x :: st => if y < x then some (a, ls, st, sh, h) else some (j + 1, ls, st, sh, h) | _ => none)
  | .if_icmp .le _ => (match st with | .int y :: .int x :: st => if y < x then some (j + 1, ls, st, sh, h) else some (a, ls, st, sh, h) | _ => none)
  | .tableswitch _ _ _ _ => (match st with
    | .int x :: st => some (am_swt x (am_sw.getD a []) b, ls, st, sh, h)
    | _ => none)
  | .getfield _ => (match st with
    | .ref k :: st => (match sh[k]? with
      | some (.inl o) => if o.1 = a then (match o.2[b]? with
        | some none => some (j + 1, ls, .int (am_rd h k b) :: st, sh, h)
        | some (some 0) => some (j + 1, ls, .null :: st, sh, h)
        | some (some (r + 1)) => some (j + 1, ls, .ref r :: st, sh, h)
        | none => none) else none
      | _ => none)
    | _ => none)
  | .putfield _ => (match st with
    | .int x :: .ref k :: st => (match sh[k]? with
      | some (.inl o) => if o.1 = a then (match o.2[b]? with
        | some none => if c = 0 ∨ (c = 2 ∧ (x = 0 ∨ x = 1)) then some (j + 1, ls, st, sh, am_wr h k b x) else none
        | _ => none) else none
      | _ => none)
    | .ref x :: .ref k :: st => (match sh[k]? with
      | some (.inl o) => if o.1 = a ∧ c = 1 then (match o.2[b]? with
        | some (some _) => some (j + 1, ls, st, sh.set k (.inl (a, o.2.set b (some (x + 1)))), h)
        | _ => none) else none
      | _ => none)
    | _ => none)
  | .iaload => (match st with
    | .int x :: .ref k :: st => (match sh[k]? with
      | some (.inr (0, n)) => if am_in x n = true then some (j + 1, ls, .int (am_rd h k x.toNatClampNeg) :: st, sh, h) else none
      | none => if k = am_SC ∧ am_in x sc.1 = true then some (j + 1, ls, .int (sc.2 x.toNatClampNeg) :: st, sh, h) else none
      | _ => none)
    | _ => none)
  | .iastore => (match st with
    | .int y :: .int x :: .ref k :: st => (match sh[k]? with
      | some (.inr (0, n)) => if am_in x n = true then some (j + 1, ls, st, sh, am_wr h k x.toNatClampNeg y) else none
      | _ => none)
    | _ => none)
  | .laload => (match st with
    | .int x :: .ref k :: st => (match sh[k]? with
      | some (.inr (1, n)) => if am_in x n = true then some (j + 1, ls, .long (am_rd h k x.toNatClampNeg).toInt64 :: st, sh, h) else none
      | _ => none)
    | _ => none)
  | .lastore => (match st with
    | .long y :: .int x :: .ref k :: st => (match sh[k]? with
      | some (.inr (1, n)) => if am_in x n = true ∧ y.toInt32.toInt64 = y then some (j + 1, ls, st, sh, am_wr h k x.toNatClampNeg y.toInt32) else none
      | _ => none)
    | _ => none)
  | .aaload => (match st with
    | .int x :: .ref k :: st => (match sh[k]? with
      | some (.inr (2, n)) => if am_in x n = true then some (j + 1, ls, am_rv (am_rd h k x.toNatClampNeg) :: st, sh, h) else none
      | _ => none)
    | _ => none)
  | .aastore => (match st with
    | .ref y :: .int x :: .ref k :: st => (match sh[k]? with
      | some (.inr (2, n)) => (match sh[y]? with
        | some (.inl o) => if am_in x n = true ∧ o.1 = 2 then some (j + 1, ls, st, sh, am_wr h k x.toNatClampNeg (nI (y + 1))) else none
        | _ => none)
      | _ => none)
    | _ => none)
  | .arraylength => (match st with
    | .ref k :: st => (match sh[k]? with
      | some (.inr o) => some (j + 1, ls, .int (nI o.2) :: st, sh, h)
      | none => if k = am_SC then some (j + 1, ls, .int (nI sc.1) :: st, sh, h) else none
      | _ => none)
    | _ => none)
  | .newarray _ => (match st with
    | .int x :: st => if ¬ x < 0 ∧ x.toNatClampNeg ≤ 10000 ∧ sh.length < 1000 then some (j + 1, ls, .ref sh.length :: st, sh ++ [.inr (a, x.toNatClampNeg)], h) else none
    | _ => none)
  | .anewarray _ => (match st with
    | .int x :: st => if ¬ x < 0 ∧ x.toNatClampNeg ≤ 10000 ∧ sh.length < 1000 then some (j + 1, ls, .ref sh.length :: st, sh ++ [.inr (2, x.toNatClampNeg)], h) else none
    | _ => none)
  | .new _ => if sh.length < 1000 then some (j + 1, ls, .ref sh.length :: st, sh ++ [.inl (a, am_ft.getD a [])], h) else none
  | _ => none
/-- a call of the JDK that the machine knows -/
def am_jdk (c j : Nat) (ls : List (Nat × Value)) (st : List Value) (sh : List am_Sh) (h : am_H) : Option am_C :=
  if am_cats st ≤ 9 then
  (if c = 200 then (match st with | .int y :: .int x :: st => some (j + 1, ls, .int (am_max x y) :: st, sh, h) | _ => none)
  else if c = 201 then (match st with | .int y :: .int x :: st => some (j + 1, ls, .int (am_min x y) :: st, sh, h) | _ => none)
  else if c = 202 then (match st with
    | .int n :: .int dp :: .ref m :: .int sp :: .ref k :: st => (match sh[k]?, sh[m]? with
      | some (.inr (0, N)), some (.inr (0, M)) => if am_sp sp n N = true ∧ am_sp dp n M = true ∧ (k < am_NX ↔ m < am_NX) then some (j + 1, ls, st, sh, am_cpy h k sp.toNatClampNeg m dp.toNatClampNeg n.toNatClampNeg) else none
      | _, _ => none)
    | _ => none)
  else if c = 400 then (match st with | .retAddr w :: st => if w < am_strs.length then some (j + 1, ls, .int (nI (am_tl w)) :: st, sh, h) else none | _ => none)
  else if c = 401 then (match st with | .int x :: .retAddr w :: st => if w < am_strs.length ∧ am_in x (am_tl w) = true then some (j + 1, ls, .int (am_tc w x.toNatClampNeg) :: st, sh, h) else none | _ => none)
  else if c = 300 then (match st with | .ref _ :: st => some (j + 1, ls, st, sh, h) | _ => none)
  else none)
  else none
/-- a call's stack and receiver -/
def am_okc (sh : List am_Sh) (st : List Value) (a b c : Nat) : Bool :=
  decide (b ≤ st.length) && decide (am_cats (st.drop b) ≤ 8) && decide ((lg_sl (st.take b).reverse).length ≤ am_ml.getD a 0) &&
  (if c = 0 then true else match (st.drop (b - 1)).head? with
    | some (.ref k) => if 100 ≤ c then true else (match sh[k]? with | some (.inl o) => decide (o.1 + 1 = c) | _ => false)
    | _ => false)
def am_run : Nat → Nat → Nat → am_C → Option (Option Value × List am_Sh × am_H)
  | 0, _, _, _ => none
  | n + 1, d, mi, (j, ls, st, sh, h) =>
    match (am_code mi)[j]? with
    | none => none
    | some ((i, a, b, c, v), _) =>
      match i with
      | .ireturn => (match st with | [.int x] => if a = 1 ∧ ¬ (x = 0 ∨ x = 1) then none else some (some (.int x), sh, h) | _ => none)
      | .areturn => (match st with | [.ref x] => some (some (.ref x), sh, h) | [.retAddr x] => some (some (.retAddr x), sh, h) | _ => none)
      | .return_ => (match st with | [] => some (none, sh, h) | _ => none)
      | .invokevirtual _ | .invokespecial _ | .invokestatic _ =>
        if c < 200 then
          (match d with
          | 0 => none
          | d + 1 => if am_okc sh st a b c = true then
              (am_run n d a (0, lv_args 0 (st.take b).reverse, [], sh, h)).bind fun q => am_run n (d + 1) mi (j + 1, ls, q.1.toList ++ st.drop b, q.2.1, q.2.2)
              else none)
        else (match d with
          | 0 => none
          | d + 1 => (am_jdk c j ls st sh h).bind fun s => am_run n (d + 1) mi s)
      | _ => (am_ex sc i a b c v j ls st sh h).bind fun s => am_run n d mi s
/-- one instruction of a code list, no call and no return -/
def am_one (cd : List am_E) : am_C → Option am_C
  | (j, ls, st, sh, h) => match cd[j]? with
    | none => none
    | some ((i, a, b, c, v), _) => am_ex sc i a b c v j ls st sh h
/-- some of them on end -/
def am_go (cd : List am_E) : Nat → am_C → Option am_C
  | 0, s => some s
  | k + 1, s => (am_one sc cd s).bind fun s => am_go cd k s
