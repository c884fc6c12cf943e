/-- the words that stay as they are at any warmed state -/
def am_wl0 : List Cond := lw_tbl.filter goodWord
theorem am_wl0_of {w : Cond} (h : w ∈ lw_tbl) (hg : goodWord w = true) : w ∈ am_wl0 := List.mem_filter.mpr ⟨h, hg⟩
/-- of the others those that are used -/
def am_nb : Cond → Bool
  | .methodLinkNest .. => true
  | .arrayOver (.object "TongueGlass$Court") => true
  | _ => false
/-! ONE STEP: the machine's walk goes along -/
/-- what is known at a method's start: its frame, its code, the tables, the classes, the script, the texts -/
def am_Cx (D : va_G) (cA : Nat → ClassId) (B b : Nat) (adK adV : Nat → Nat) (sc : Nat × (Nat → Int32)) (own : String) (cc : ByteArray) (nL : Nat) (p : Program) (s : State) (m : MethodId) (args : Array Value) (c : Code) : Prop :=
  p.tables.exec = Jvm.exec ∧ c.code = cc ∧ c.maxLocals = nL ∧ s.vm.findClass own = some m.cls ∧ (∀ w ∈ am_wl0, w.before args s = true) ∧ (∀ w ∈ lw_tbl, am_nb w = true → va_Nw w s) ∧ va_K D vwCl (am_tys cA) s ∧ va_X b sc.1 sc.2 s s.heap ∧ b < B ∧ B ≤ s.heap.size ∧
  vk_S am_strs.length (am_strs.map List.length) am_strs adK adV (fun q => B ≤ q) s s.heap ∧ (∀ (i : Nat) (q : String × Nat × String × Nat), am_sr[i]? = some q → vk_R q.1 q.2.1 q.2.2.1 (adK i) s) ∧
  va_Z "java/lang/String" "COMPACT_STRINGS" "Z" (.int 1) (fun q => B ≤ q) s s.heap ∧ va_Zq "jdk/internal/util/Preconditions" "SIOOBE_FORMATTER" "Ljava/util/function/BiFunction;" (fun q => B ≤ q) s s.heap
/-- the machine's walk from the abstract machine's state t on -/
def am_AW (D : va_G) (cA : Nat → ClassId) (B b : Nat) (adK : Nat → Nat) (p : Program) (l : Launch) (e : Env) (R : Room) (s : State) (m : MethodId) (args : Array Value) (below : List Frame) (meth : Method) (c : Code) (Q : State → Prop) (nL : Nat) (cd : List am_E) (L0 S0 : Nat) (t : am_C) : Prop :=
  ∀ (H : Heap) (locs : List Loc) (ls : Array Slot) (pc : Nat), (∀ q, cd[t.1]? = some q → q.2.1 = pc) → lv_has ls nL (am_trl B b adK t.2.1) → am_Wd D cA B b t.2.2.2.1 t.2.2.2.2 H → va_S (fun q => B ≤ q) s.heap H locs →
    W p l e R s m args below meth c H locs (t.2.2.2.1.length - L0) (am_sl t.2.2.2.1 - S0) Q (F0 m pc ls (t.2.2.1.map (am_tr B b adK)))

