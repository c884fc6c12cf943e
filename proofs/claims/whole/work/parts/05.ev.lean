/-! WHAT A RUN OF THE ABSTRACT MACHINE COMES TO, row by row -/
/-- fewer locals -/
def am_sub : List (Nat × Value) → List (Nat × Value) → Prop
  | [], _ => True
  | q :: l, m => am_lk m q.1 = some q.2 ∧ am_sub l m
variable {sc : Nat × (Nat → Int32)}
abbrev am_R : Type := Option Value × List am_Sh × am_H
def am_Ev (sc : Nat × (Nat → Int32)) (d mi : Nat) (s : am_C) (r : am_R) : Prop := ∃ n, am_run sc n d mi s = some r
def am_plain : Jvm.ClassFile.Instr → Bool
  | .ireturn | .areturn | .return_ | .invokevirtual _ | .invokespecial _ | .invokestatic _ => false
  | _ => true
theorem am_ex_plain {i : Jvm.ClassFile.Instr} {a b c : Nat} {v : Int32} {j : Nat} {ls : List (Nat × Value)} {st : List Value} {sh : List am_Sh} {h : am_H} {s' : am_C} (e : am_ex sc i a b c v j ls st sh h = some s') : am_plain i = true := by
  cases i <;> first | rfl | (exact absurd e (by simp [am_ex]))
theorem am_run_plain {n d mi j : Nat} {ls : List (Nat × Value)} {st : List Value} {sh : List am_Sh} {h : am_H} {i : Jvm.ClassFile.Instr} {a b c : Nat} {v : Int32} {p : Nat × Nat × Nat} (hc : (am_code mi)[j]? = some ((i, a, b, c, v), p)) (hp : am_plain i = true) :
    am_run sc (n + 1) d mi (j, ls, st, sh, h) = (am_ex sc i a b c v j ls st sh h).bind fun s => am_run sc n d mi s := by
  cases i <;> first | (exact absurd (show false = true from hp) (by decide)) | (simp only [am_run, hc])
theorem am_Ev.one {d mi : Nat} {cd : List am_E} {s s' : am_C} {r : am_R} (hcd : am_code mi = cd) (h : am_one sc cd s = some s') (k : am_Ev sc d mi s' r) : am_Ev sc d mi s r := by
  obtain ⟨j, ls, st, sh, hh⟩ := s
  subst hcd
  unfold am_one at h
  cases hc : (am_code mi)[j]? with
  | none => simp [hc] at h
  | some e =>
    obtain ⟨⟨i, a, b, c, v⟩, p⟩ := e
    simp only [hc] at h
    obtain ⟨n, hn⟩ := k
    refine ⟨n + 1, ?_⟩
    rw [am_run_plain hc (am_ex_plain h), h]
    exact hn
theorem am_Ev.go {d mi : Nat} {cd : List am_E} (hcd : am_code mi = cd) : ∀ (k : Nat) {s s' : am_C} {r : am_R}, am_go sc cd k s = some s' → am_Ev sc d mi s' r → am_Ev sc d mi s r := by
  intro k
  induction k with
  | zero => intro s s' r h e; cases h; exact e
  | succ k ih =>
    intro s s' r h e
    unfold am_go at h
    cases ho : am_one sc cd s with
    | none => simp [ho] at h
    | some s1 =>
      simp only [ho] at h
      exact am_Ev.one hcd ho (ih h e)
theorem am_Ev.t {d mi : Nat} {cd : List am_E} {s s1 : am_C} {r : am_R} {c : Prop} [Decidable c] {o : Option am_C} (hcd : am_code mi = cd) (h : am_one sc cd s = if c then some s1 else o) (hc : c) (k : am_Ev sc d mi s1 r) : am_Ev sc d mi s r :=
  am_Ev.one hcd (h.trans (if_pos hc)) k
theorem am_Ev.f {d mi : Nat} {cd : List am_E} {s s1 : am_C} {r : am_R} {c : Prop} [Decidable c] {o : Option am_C} (hcd : am_code mi = cd) (h : am_one sc cd s = if c then o else some s1) (hc : ¬ c) (k : am_Ev sc d mi s1 r) : am_Ev sc d mi s r :=
  am_Ev.one hcd (h.trans (if_neg hc)) k

/-! fewer locals are enough -/
def am_uq (m : List (Nat × Value)) : Prop := va_nd (m.map Prod.fst) = true
theorem am_uq.eq {m : List (Nat × Value)} (hu : am_uq m) {i : Nat} {v w : Value} (h1 : (i, v) ∈ m) (h2 : (i, w) ∈ m) : v = w := by
  obtain ⟨x, hx⟩ := List.getElem?_of_mem h1
  obtain ⟨y, hy⟩ := List.getElem?_of_mem h2
  have e := va_nd_inj _ hu x y i (by rw [List.getElem?_map, hx]; rfl) (by rw [List.getElem?_map, hy]; rfl)
  subst e
  rw [hx] at hy
  cases hy
  rfl
theorem am_lk_mem : ∀ {l : List (Nat × Value)} {i : Nat} {v : Value}, am_lk l i = some v → (i, v) ∈ l
  | [], _, _, h => by simp [am_lk] at h
  | q :: l, i, v, h => by
    unfold am_lk at h
    by_cases e : q.1 = i
    · rw [if_pos e] at h
      cases h
      subst e
      exact List.mem_cons_self
    · rw [if_neg e] at h
      exact List.mem_cons_of_mem _ (am_lk_mem h)
theorem am_lk_of : ∀ {l : List (Nat × Value)} {i : Nat} {v : Value}, (i, v) ∈ l → ∃ w, am_lk l i = some w
  | [], _, _, h => by cases h
  | q :: l, i, v, h => by
    unfold am_lk
    by_cases e : q.1 = i
    · exact ⟨q.2, by rw [if_pos e]⟩
    · rw [if_neg e]
      rcases List.mem_cons.mp h with h | h
      · exact absurd (by rw [← h]) e
      · exact am_lk_of h
theorem am_lk_up {l m : List (Nat × Value)} (hu : am_uq m) (hs : ∀ q ∈ l, q ∈ m) {i : Nat} {v : Value} (h : am_lk l i = some v) : am_lk m i = some v := by
  have h1 := hs _ (am_lk_mem h)
  obtain ⟨w, hw⟩ := am_lk_of h1
  rw [hw, hu.eq h1 (am_lk_mem hw)]
theorem am_ins_mem : ∀ {l : List (Nat × Value)} {i : Nat} {v : Value} {q : Nat × Value}, q ∈ am_ins l i v ↔ q = (i, v) ∨ q ∈ l
  | [], i, v, q => by simp [am_ins]
  | p :: l, i, v, q => by
    unfold am_ins
    by_cases e : p.1 < i
    · rw [if_pos e, List.mem_cons, am_ins_mem, List.mem_cons]
      constructor
      · rintro (h | h | h)
        · exact Or.inr (Or.inl h)
        · exact Or.inl h
        · exact Or.inr (Or.inr h)
      · rintro (h | h | h)
        · exact Or.inr (Or.inl h)
        · exact Or.inl h
        · exact Or.inr (Or.inr h)
    · rw [if_neg e, List.mem_cons]
theorem am_nd_iff : ∀ (l : List Nat), va_nd l = true ↔ l.Nodup
  | [] => by simp [va_nd]
  | a :: l => by simp [va_nd, am_nd_iff l]
theorem am_ins_map : ∀ (l : List (Nat × Value)) (i : Nat) (v : Value), i ∉ l.map Prod.fst → (l.map Prod.fst).Nodup → ((am_ins l i v).map Prod.fst).Nodup
  | [], i, v, _, _ => by simp [am_ins]
  | p :: l, i, v, h, hn => by
    unfold am_ins
    rw [List.map_cons, List.mem_cons, not_or] at h
    rw [List.map_cons, List.nodup_cons] at hn
    by_cases e : p.1 < i
    · rw [if_pos e, List.map_cons, List.nodup_cons]
      refine ⟨fun hm => ?_, am_ins_map l i v h.2 hn.2⟩
      obtain ⟨q, hq, hq2⟩ := List.mem_map.mp hm
      rcases am_ins_mem.mp hq with rfl | hq
      · exact h.1 hq2
      · exact hn.1 (hq2 ▸ List.mem_map_of_mem hq)
    · rw [if_neg e, List.map_cons, List.map_cons, List.nodup_cons, List.nodup_cons]
      exact ⟨by rw [List.mem_cons, not_or]; exact ⟨h.1, h.2⟩, hn⟩
theorem am_sto_uq {m : List (Nat × Value)} (hu : am_uq m) (f : Nat × Value → Bool) (i : Nat) (v : Value) (hf : ∀ q, f q = true → q.1 ≠ i) : am_uq (am_ins (m.filter f) i v) := by
  refine (am_nd_iff _).mpr (am_ins_map _ _ _ ?_ ?_)
  · intro h
    obtain ⟨q, hq, hq2⟩ := List.mem_map.mp h
    exact hf q (List.mem_filter.mp hq).2 hq2
  · exact List.Nodup.sublist (List.Sublist.map _ List.filter_sublist) ((am_nd_iff _).mp hu)
theorem am_sto_sub {l m : List (Nat × Value)} (hs : ∀ q ∈ l, q ∈ m) (f : Nat × Value → Bool) (i : Nat) (v : Value) : ∀ q ∈ am_ins (l.filter f) i v, q ∈ am_ins (m.filter f) i v := by
  intro q hq
  rcases am_ins_mem.mp hq with h | h
  · exact am_ins_mem.mpr (Or.inl h)
  · obtain ⟨h1, h2⟩ := List.mem_filter.mp h
    exact am_ins_mem.mpr (Or.inr (List.mem_filter.mpr ⟨hs q h1, h2⟩))
/-- an instruction that looks at no local -/
def am_free : Jvm.ClassFile.Instr → Bool
  | .iload_n _ | .iload _ | .aload_n _ | .aload _ | .lload_n _ | .istore_n _ | .istore _ | .astore_n _ | .astore _ | .lstore_n _ | .iinc _ _ => false
  | _ => true
def am_wl (m : List (Nat × Value)) (s : am_C) : am_C := (s.1, m, s.2.2)
set_option maxHeartbeats 4000000 in
theorem am_ex_free {i : Jvm.ClassFile.Instr} {a b c : Nat} {v : Int32} {j : Nat} {l m : List (Nat × Value)} {st : List Value} {sh : List am_Sh} {h : am_H} (hi : am_free i = true) : am_ex sc i a b c v j m st sh h = (am_ex sc i a b c v j l st sh h).map (am_wl m) := by
  cases i with
  | ifCond k o => cases k <;> (simp only [am_ex]; repeat' split) <;> rfl
  | if_icmp k o => cases k <;> (simp only [am_ex]; repeat' split) <;> rfl
  | iload_n k => exact absurd (show false = true from hi) (by decide)
  | iload k => exact absurd (show false = true from hi) (by decide)
  | aload_n k => exact absurd (show false = true from hi) (by decide)
  | aload k => exact absurd (show false = true from hi) (by decide)
  | lload_n k => exact absurd (show false = true from hi) (by decide)
  | istore_n k => exact absurd (show false = true from hi) (by decide)
  | istore k => exact absurd (show false = true from hi) (by decide)
  | astore_n k => exact absurd (show false = true from hi) (by decide)
  | astore k => exact absurd (show false = true from hi) (by decide)
  | lstore_n k => exact absurd (show false = true from hi) (by decide)
  | iinc k n => exact absurd (show false = true from hi) (by decide)
  | _ => first
    | rfl
    | ((simp only [am_ex]; repeat' split) <;> rfl)
