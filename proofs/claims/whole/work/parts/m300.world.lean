/-! THE WORLD BEHIND THE ABSTRACT MACHINE'S STATE -/
def am_ad (B b k : Nat) : Nat := if k = am_SC then b else B + k
def am_tr (B b : Nat) (adK : Nat → Nat) : Value → Value
  | .ref k => .ref (am_ad B b k)
  | .retAddr w => .ref (adK w)
  | v => v
def am_fv (B b : Nat) (g : Nat → Int32) (j : Nat) : Option Nat → Value
  | none => .int (g j)
  | some 0 => .null
  | some (r + 1) => .ref (am_ad B b r)
def am_or (B b : Nat) (x : Int32) : Option Nat := if x = 0 then none else some (am_ad B b (x.toNatClampNeg - 1))
def am_en (B b : Nat) (cA : Nat → ClassId) (g : Nat → Int32) : am_Sh → va_E
  | .inl o => .inr (o.1, o.2.mapIdx fun j r => am_fv B b g j r)
  | .inr (0, n) => .inl (cA 0, n, .inl g)
  | .inr (1, n) => .inl (cA 1, n, .inr (.inl fun j => (g j).toInt64))
  | .inr (_ + 2, n) => .inl (cA 2, n, .inr (.inr (.inr (.inr fun j => am_or B b (g j)))))
def am_ws (B b : Nat) (cA : Nat → ClassId) (sh : List am_Sh) (h : am_H) : va_W := sh.mapIdx fun k s => (am_ad B b k, am_en B b cA (am_rw h k) s)
def am_tys (cA : Nat → ClassId) : List (ClassId × FieldType) := [(cA 0, .int), (cA 1, .long), (cA 2, .object "TongueGlass$Court")]
def am_Wd (D : va_G) (cA : Nat → ClassId) (B b : Nat) (sh : List am_Sh) (h : am_H) (H : Heap) : Prop :=
  va_P D vwCl (am_ws B b cA sh h) H ∧ H.size = B + sh.length ∧ sh.length ≤ 1000 ∧ ∀ k, sh.length ≤ k → am_rw h k = fun _ => 0
theorem am_rd_rw (h : am_H) (k j : Nat) : am_rd h k j = am_rw h k j := by
  unfold am_rd am_rw
  by_cases c : k < am_NX
  · rw [if_pos c, if_pos c]
  · rw [if_neg c, if_neg c]
theorem am_wr_wrow (h : am_H) (k j : Nat) (x : Int32) : am_wr h k j x = am_wrow h k (upd (am_rw h k) j x) := by
  unfold am_wr am_wrow am_rw am_up
  by_cases c : k < am_NX
  · rw [if_pos c, if_pos c, if_pos c]
  · rw [if_neg c, if_neg c, if_neg c]
theorem am_rw_wrow (h : am_H) (k : Nat) (g : Nat → Int32) (i : Nat) : am_rw (am_wrow h k g) i = if i = k then g else am_rw h i := by
  unfold am_rw am_wrow am_row
  by_cases c : k < am_NX
  · rw [if_pos c]
    by_cases d : i < am_NX
    · rw [if_pos d, if_pos d]
    · rw [if_neg d, if_neg d, if_neg (fun e : i = k => d (by rw [e]; exact c))]
  · rw [if_neg c]
    by_cases d : i < am_NX
    · rw [if_pos d, if_pos d, if_neg (fun e : i = k => c (by rw [← e]; exact d))]
    · rw [if_neg d, if_neg d]
theorem am_cpy_wrow (h : am_H) {k m : Nat} (sp dp n : Nat) (e : k < am_NX ↔ m < am_NX) : am_cpy h k sp m dp n = am_wrow h m (va_cpy (am_rw h k) (am_rw h m) sp dp n) := by
  unfold am_cpy am_wrow am_rw am_cp
  by_cases c : k < am_NX
  · rw [if_pos c, if_pos (e.mp c), if_pos (e.mp c), if_pos (e.mp c), if_pos c]
  · have d : ¬ m < am_NX := fun d => c (e.mpr d)
    rw [if_neg c, if_neg d, if_neg d, if_neg d, if_neg c]
section WD
variable {D : va_G} {cA : Nat → ClassId} {B b : Nat} {sh : List am_Sh} {h : am_H} {H : Heap}
theorem am_ws_get {k : Nat} {s : am_Sh} (hk : sh[k]? = some s) : (am_ws B b cA sh h)[k]? = some (am_ad B b k, am_en B b cA (am_rw h k) s) := by
  unfold am_ws
  rw [List.getElem?_mapIdx, hk]
  rfl
theorem am_ws_len : (am_ws B b cA sh h).length = sh.length := by
  unfold am_ws
  rw [List.length_mapIdx]
theorem am_ws_inv {k : Nat} {q : Nat × va_E} (hk : (am_ws B b cA sh h)[k]? = some q) : k < sh.length ∧ q.1 = am_ad B b k := by
  unfold am_ws at hk
  rw [List.getElem?_mapIdx] at hk
  cases hs : sh[k]? with
  | none => rw [hs] at hk; cases hk
  | some s =>
    rw [hs] at hk
    cases hk
    exact ⟨(List.getElem?_eq_some_iff.mp hs).1, rfl⟩
theorem am_ad_lt {k : Nat} (hk : k < 1000) : am_ad B b k = B + k := by
  unfold am_ad
  rw [if_neg (fun e => by rw [e] at hk; exact absurd hk (by decide))]
theorem am_ws_D (hl : sh.length ≤ 1000) : va_D (fun q => B ≤ q) (am_ws B b cA sh h) := by
  refine ⟨fun i j p q hi hj e => ?_, fun k q hk => ?_⟩
  · obtain ⟨l1, e1⟩ := am_ws_inv hi
    obtain ⟨l2, e2⟩ := am_ws_inv hj
    rw [e1, e2, am_ad_lt (by omega), am_ad_lt (by omega)] at e
    omega
  · obtain ⟨l1, e1⟩ := am_ws_inv hk
    show B ≤ q.1
    rw [e1, am_ad_lt (by omega)]
    omega
/-- a row is written -/
theorem am_ws_row {k : Nat} {s : am_Sh} (g : Nat → Int32) (hk : sh[k]? = some s) : (am_ws B b cA sh h).set k (am_ad B b k, am_en B b cA g s) = am_ws B b cA sh (am_wrow h k g) := by
  apply List.ext_getElem?
  intro i
  rw [List.getElem?_set]
  by_cases e : k = i
  · subst e
    rw [if_pos rfl, am_ws_get hk, am_rw_wrow, if_pos rfl, if_pos (by rw [am_ws_len]; exact (List.getElem?_eq_some_iff.mp hk).1)]
  · rw [if_neg e]
    unfold am_ws
    rw [List.getElem?_mapIdx, List.getElem?_mapIdx]
    cases sh[i]? with
    | none => rfl
    | some s' => simp only [Option.map_some]; rw [am_rw_wrow, if_neg (fun z => e z.symm)]
/-- an object's field of references is written -/
theorem am_ws_fld {k : Nat} (s' : am_Sh) (hk : k < sh.length) : (am_ws B b cA sh h).set k (am_ad B b k, am_en B b cA (am_rw h k) s') = am_ws B b cA (sh.set k s') h := by
  apply List.ext_getElem?
  intro i
  rw [List.getElem?_set]
  by_cases e : k = i
  · subst e
    rw [if_pos rfl, am_ws_get (s := s') (by rw [List.getElem?_set, if_pos rfl, if_pos hk]), if_pos (by rw [am_ws_len]; exact hk)]
  · rw [if_neg e]
    unfold am_ws
    rw [List.getElem?_mapIdx, List.getElem?_mapIdx, List.getElem?_set, if_neg e]
/-- a cell is made -/
theorem am_ws_new (s' : am_Sh) : am_ws B b cA sh h ++ [(am_ad B b sh.length, am_en B b cA (am_rw h sh.length) s')] = am_ws B b cA (sh ++ [s']) h := by
  unfold am_ws
  rw [List.mapIdx_append]
  congr 1
  simp
theorem am_Wd.row {k : Nat} {s : am_Sh} {g : Nat → Int32} {H1 : Heap} (hW : am_Wd D cA B b sh h H) (hk : sh[k]? = some s) (hP : va_P D vwCl ((am_ws B b cA sh h).set k (am_ad B b k, am_en B b cA g s)) H1) (hz : H1.size = H.size) : am_Wd D cA B b sh (am_wrow h k g) H1 := by
  obtain ⟨-, h2, h3, h4⟩ := hW
  refine ⟨by rw [am_ws_row g hk] at hP; exact hP, by rw [hz]; exact h2, h3, fun i hi => ?_⟩
  have hl := (List.getElem?_eq_some_iff.mp hk).1
  rw [am_rw_wrow, if_neg (by omega)]
  exact h4 i hi
theorem am_sl_set {k : Nat} {s s' : am_Sh} (hk : sh[k]? = some s) (e : am_sz s' = am_sz s) : am_sl (sh.set k s') = am_sl sh := by
  unfold am_sl
  rw [List.map_set]
  congr 1
  apply List.ext_getElem?
  intro i
  rw [List.getElem?_set]
  by_cases z : k = i
  · subst z
    rw [if_pos rfl, List.getElem?_map, hk, List.length_map, if_pos (List.getElem?_eq_some_iff.mp hk).1, e]
    rfl
  · rw [if_neg z]
theorem am_sl_app {s' : am_Sh} : am_sl (sh ++ [s']) = am_sl sh + am_sz s' := by
  unfold am_sl
  simp
end WD
/-! the locals and the stack -/
def am_trl (B b : Nat) (adK : Nat → Nat) (l : List (Nat × Value)) : List (Nat × Value) := l.map fun q => (q.1, am_tr B b adK q.2)
theorem am_tr_cat {B b : Nat} {adK : Nat → Nat} (v : Value) : (am_tr B b adK v).category = v.category := by cases v <;> rfl
theorem am_tr_cats {B b : Nat} {adK : Nat → Nat} (st : List Value) : ((st.map (am_tr B b adK)).map fun v => v.category).sum = am_cats st := by
  unfold am_cats
  rw [List.map_map]
  congr 1
  exact List.map_congr_left fun v _ => am_tr_cat v
theorem am_lv_get {B b : Nat} {adK : Nat → Nat} {ls : Array Slot} {nL : Nat} {l : List (Nat × Value)} (hl : lv_has ls nL (am_trl B b adK l)) {i : Nat} {v : Value} (h : am_lk l i = some v) : ls[i]? = some (.val (am_tr B b adK v)) :=
  hl.2.2 (i, am_tr B b adK v) (List.mem_map.mpr ⟨(i, v), am_lk_mem h, rfl⟩)
theorem am_lv_sub {ls : Array Slot} {nL : Nat} {l l' : List (Nat × Value)} (hl : lv_has ls nL l) (h : ∀ q ∈ l', q ∈ l) : lv_has ls nL l' := ⟨hl.1, hl.2.1, fun q hq => hl.2.2 q (h q hq)⟩
/-- a stored value of one slot -/
theorem am_lv_sto {B b : Nat} {adK : Nat → Nat} {ls : Array Slot} {nL : Nat} {l : List (Nat × Value)} {i : Nat} {v : Value} (hl : lv_has ls nL ((i, am_tr B b adK v) :: (am_trl B b adK l).filter (fun q => !(q.1 == i) && !(q.1 + 1 == i && q.2.category == 2)))) : lv_has ls nL (am_trl B b adK (am_sto l i v)) := by
  refine am_lv_sub hl fun q hq => ?_
  obtain ⟨p, hp, rfl⟩ := List.mem_map.mp hq
  rcases am_ins_mem.mp hp with rfl | hp
  · exact List.mem_cons_self
  · obtain ⟨h1, h2⟩ := List.mem_filter.mp hp
    refine List.mem_cons_of_mem _ (List.mem_filter.mpr ⟨List.mem_map.mpr ⟨p, h1, rfl⟩, ?_⟩)
    show (!(p.1 == i) && !(p.1 + 1 == i && (am_tr B b adK p.2).category == 2)) = true
    rw [am_tr_cat]
    exact h2
theorem am_lv_stl {B b : Nat} {adK : Nat → Nat} {ls : Array Slot} {nL : Nat} {l : List (Nat × Value)} {i : Nat} {v : Value} (hl : lv_has ls nL ((i, am_tr B b adK v) :: (am_trl B b adK l).filter (fun q => !(q.1 == i) && (!(q.1 == i + 1) && !(q.1 + 1 == i && q.2.category == 2))))) : lv_has ls nL (am_trl B b adK (am_stl l i v)) := by
  refine am_lv_sub hl fun q hq => ?_
  obtain ⟨p, hp, rfl⟩ := List.mem_map.mp hq
  rcases am_ins_mem.mp hp with rfl | hp
  · exact List.mem_cons_self
  · obtain ⟨h1, h2⟩ := List.mem_filter.mp hp
    refine List.mem_cons_of_mem _ (List.mem_filter.mpr ⟨List.mem_map.mpr ⟨p, h1, rfl⟩, ?_⟩)
    show (!(p.1 == i) && (!(p.1 == i + 1) && !(p.1 + 1 == i && (am_tr B b adK p.2).category == 2))) = true
    rw [am_tr_cat]
    exact h2
theorem am_args_tr {B b : Nat} {adK : Nat → Nat} : ∀ (vs : List Value) (i : Nat), lv_args i (vs.map (am_tr B b adK)) = am_trl B b adK (lv_args i vs)
  | [], _ => rfl
  | v :: vs, i => by
    show (i, am_tr B b adK v) :: lv_args (if (am_tr B b adK v).category = 2 then i + 2 else i + 1) (vs.map (am_tr B b adK)) = (i, am_tr B b adK v) :: am_trl B b adK (lv_args (if v.category = 2 then i + 2 else i + 1) vs)
    rw [am_tr_cat, am_args_tr vs]
theorem am_lgsl_tr {B b : Nat} {adK : Nat → Nat} (vs : List Value) : (lg_sl (vs.map (am_tr B b adK))).length = (lg_sl vs).length := by
  induction vs with
  | nil => rfl
  | cons v t ih =>
    have e : ∀ (v : Value) (t : List Value), (lg_sl (v :: t)).length = (if v.category = 2 then 2 else 1) + (lg_sl t).length := by
      intro v t
      unfold lg_sl
      rw [List.flatMap_cons, List.length_append]
      congr 1
      split <;> rfl
    rw [List.map_cons, e, e, ih, am_tr_cat]
theorem am_in_vp {i : Int32} {n : Nat} (h : am_in i n = true) : vp_in i n := by
  unfold am_in at h
  simp only [Bool.and_eq_true, decide_eq_true_eq] at h
  intro z
  rcases z with z | z
  · exact h.1 z
  · omega
