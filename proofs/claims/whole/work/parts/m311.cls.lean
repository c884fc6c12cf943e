/-! ONE STEP IS THE MACHINE'S -/
/-- the classes: their fields' types, their words among the tables' -/
def am_clb : Bool := vwCl.all fun q => (List.range q.2.2).all (fun k => (parseFieldDescriptor (q.2.1 k).2.2.1).isSome && (List.range q.2.2).all (fun i => decide (k = i) || decide ((q.2.1 k).2.1 ≠ (q.2.1 i).2.1))) && (u_ws q.1 q.2.1 q.2.2).all (fun w => decide (w ∈ lw_tbl) && goodWord w) && decide (Cond.instantiable q.1 q.2.2 ∈ lw_tbl) && decide (Cond.initialized q.1 ∈ lw_tbl)
set_option maxRecDepth 100000 in
theorem am_clb_ok : am_clb = true := by decide +kernel
theorem am_cl_ok {ci : Nat} {q : vw_C} (h : vwCl[ci]? = some q) : (∃ ty : Nat → FieldType, ∀ k, k < q.2.2 → parseFieldDescriptor (q.2.1 k).2.2.1 = some (ty k)) ∧ (∀ a, a < q.2.2 → ∀ b, b < q.2.2 → a ≠ b → (q.2.1 a).2.1 ≠ (q.2.1 b).2.1) ∧ (∀ w ∈ u_ws q.1 q.2.1 q.2.2, w ∈ am_wl0) ∧ Cond.instantiable q.1 q.2.2 ∈ am_wl0 ∧ Cond.initialized q.1 ∈ am_wl0 := by
  have h1 := List.all_eq_true.mp am_clb_ok q (List.mem_of_getElem? h)
  simp only [Bool.and_eq_true, decide_eq_true_eq] at h1
  obtain ⟨⟨⟨h2, h3⟩, h4⟩, h5⟩ := h1
  have h6 : ∀ k, k < q.2.2 → (parseFieldDescriptor (q.2.1 k).2.2.1).isSome = true ∧ ∀ i, i < q.2.2 → k = i ∨ (q.2.1 k).2.1 ≠ (q.2.1 i).2.1 := by
    intro k hk
    have g := List.all_eq_true.mp h2 k (List.mem_range.mpr hk)
    simp only [Bool.and_eq_true] at g
    refine ⟨g.1, fun i hi => ?_⟩
    have g2 := List.all_eq_true.mp g.2 i (List.mem_range.mpr hi)
    simp only [Bool.or_eq_true, decide_eq_true_eq] at g2
    exact g2
  refine ⟨⟨fun k => (parseFieldDescriptor (q.2.1 k).2.2.1).getD .int, fun k hk => ?_⟩, fun a ha b hb hab => ((h6 a ha).2 b hb).resolve_left hab, fun w hw => ?_, am_wl0_of h4 rfl, am_wl0_of h5 rfl⟩
  · have g := (h6 k hk).1
    cases hp : parseFieldDescriptor (q.2.1 k).2.2.1 with
    | none => rw [hp] at g; cases g
    | some t => simp [hp]
  · have g := List.all_eq_true.mp h3 w hw
    simp only [Bool.and_eq_true, decide_eq_true_eq] at g
    exact am_wl0_of g.1 g.2
set_option maxRecDepth 100000 in
theorem am_ac_int : Cond.arrayClass (newarray.typeOf .int) ∈ lw_tbl := by decide +kernel
set_option maxRecDepth 100000 in
theorem am_ac_long : Cond.arrayClass (newarray.typeOf .long) ∈ lw_tbl := by decide +kernel
set_option maxRecDepth 100000 in
theorem am_ao_court : Cond.arrayOver (.object "TongueGlass$Court") ∈ lw_tbl := by decide +kernel
def am_ftb : Bool := (List.range vwCl.length).all fun c => match vwCl[c]? with
  | some q => decide ((am_ft.getD c []).length = q.2.2) && (List.range q.2.2).all (fun j => match (am_ft.getD c [])[j]? with
    | some none => decide (parseFieldDescriptor (q.2.1 j).2.2.1 = some .int) || decide (parseFieldDescriptor (q.2.1 j).2.2.1 = some .boolean)
    | some (some 0) => (match parseFieldDescriptor (q.2.1 j).2.2.1 with | some (.object _) => true | some (.array _) => true | _ => false)
    | _ => false)
  | none => true
theorem am_ftb_ok : am_ftb = true := by decide +kernel
theorem am_ft_ok {c : Nat} {C : String} {T : u_T} {N : Nat} (h : vwCl[c]? = some (C, T, N)) : (am_ft.getD c []).length = N ∧ ∀ j, j < N → True ∧ (((am_ft.getD c [])[j]? = some none ∧ (parseFieldDescriptor (T j).2.2.1 = some .int ∨ parseFieldDescriptor (T j).2.2.1 = some .boolean)) ∨ ((am_ft.getD c [])[j]? = some (some 0) ∧ ((∃ x, parseFieldDescriptor (T j).2.2.1 = some (.object x)) ∨ ∃ x, parseFieldDescriptor (T j).2.2.1 = some (.array x)))) := by
  have h1 := List.all_eq_true.mp am_ftb_ok c (List.mem_range.mpr (List.getElem?_eq_some_iff.mp h).1)
  rw [h] at h1
  simp only [Bool.and_eq_true, decide_eq_true_eq] at h1
  refine ⟨h1.1, fun j hj => ⟨trivial, ?_⟩⟩
  have h2 := List.all_eq_true.mp h1.2 j (List.mem_range.mpr hj)
  split at h2
  · rename_i g
    simp only [Bool.or_eq_true, decide_eq_true_eq] at h2
    exact Or.inl ⟨g, h2⟩
  · rename_i g
    refine Or.inr ⟨g, ?_⟩
    split at h2
    · rename_i x hx
      exact Or.inl ⟨x, hx⟩
    · rename_i x hx
      exact Or.inr ⟨x, hx⟩
    · cases h2
  · cases h2
