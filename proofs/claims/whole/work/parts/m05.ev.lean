/-! WHAT A RUN OF THE ABSTRACT MACHINE COMES TO, row by row -/
/-- fewer locals -/
def am_sub : List (Nat × Value) → List (Nat × Value) → Prop
  | [], _ => True
  | q :: l, m => am_lk m q.1 = some q.2 ∧ am_sub l m
variable {sc : Nat × (Nat → Int32)}
abbrev am_R : Type := Option Value × List am_Sh × am_H
def am_Ev (sc : Nat × (Nat → Int32)) (d mi : Nat) (s : am_C) (r : am_R) : Prop := ∃ n, am_run sc n d mi s = some r
def am_plain : Jvm.ClassFile.Instr → Bool
  | .ireturn | .areturn | .return_ | .invokevirtual _ | .invokespecial _ | .invokestatic _ => false
  | _ => true
theorem am_ex_plain {i : Jvm.ClassFile.Instr} {a b c : Nat} {v : Int32} {j : Nat} {ls : List (Nat × Value)} {st : List Value} {sh : List am_Sh} {h : am_H} {s' : am_C} (e : am_ex sc i a b c v j ls st sh h = some s') : am_plain i = true := by
  cases i <;> first | rfl | (exact absurd e (by simp [am_ex]))
theorem am_run_plain {n d mi j : Nat} {ls : List (Nat × Value)} {st : List Value} {sh : List am_Sh} {h : am_H} {i : Jvm.ClassFile.Instr} {a b c : Nat} {v : Int32} {p : Nat × Nat × Nat} (hc : (am_code mi)[j]? = some ((i, a, b, c, v), p)) (hp : am_plain i = true) :
    am_run sc (n + 1) d mi (j, ls, st, sh, h) = (am_ex sc i a b c v j ls st sh h).bind fun s => am_run sc n d mi s := by
  cases i <;> first | (exact absurd (show false = true from hp) (by decide)) | (simp only [am_run, hc])
theorem am_Ev.one {d mi : Nat} {cd : List am_E} {s s' : am_C} {r : am_R} (hcd : am_code mi = cd) (h : am_one sc cd s = some s') (k : am_Ev sc d mi s' r) : am_Ev sc d mi s r := by
  obtain ⟨j, ls, st, sh, hh⟩ := s
  subst hcd
  unfold am_one at h
  cases hc : (am_code mi)[j]? with
  | none => simp [hc] at h
  | some e =>
    obtain ⟨⟨i, a, b, c, v⟩, p⟩ := e
    simp only [hc] at h
    obtain ⟨n, hn⟩ := k
    refine ⟨n + 1, ?_⟩
    rw [am_run_plain hc (am_ex_plain h), h]
    exact hn
theorem am_Ev.go {d mi : Nat} {cd : List am_E} (hcd : am_code mi = cd) : ∀ (k : Nat) {s s' : am_C} {r : am_R}, am_go sc cd k s = some s' → am_Ev sc d mi s' r → am_Ev sc d mi s r := by
  intro k
  induction k with
  | zero => intro s s' r h e; cases h; exact e
  | succ k ih =>
    intro s s' r h e
    unfold am_go at h
    cases ho : am_one sc cd s with
    | none => simp [ho] at h
    | some s1 =>
      simp only [ho] at h
      exact am_Ev.one hcd ho (ih h e)
theorem am_Ev.t {d mi : Nat} {cd : List am_E} {s s1 : am_C} {r : am_R} {c : Prop} [Decidable c] {o : Option am_C} (hcd : am_code mi = cd) (h : am_one sc cd s = if c then some s1 else o) (hc : c) (k : am_Ev sc d mi s1 r) : am_Ev sc d mi s r :=
  am_Ev.one hcd (h.trans (if_pos hc)) k
theorem am_Ev.f {d mi : Nat} {cd : List am_E} {s s1 : am_C} {r : am_R} {c : Prop} [Decidable c] {o : Option am_C} (hcd : am_code mi = cd) (h : am_one sc cd s = if c then o else some s1) (hc : ¬ c) (k : am_Ev sc d mi s1 r) : am_Ev sc d mi s r :=
  am_Ev.one hcd (h.trans (if_neg hc)) k
/-! fewer locals are enough -/
def am_uq (m : List (Nat × Value)) : Prop := va_nd (m.map Prod.fst) = true
theorem am_uq.eq {m : List (Nat × Value)} (hu : am_uq m) {i : Nat} {v w : Value} (h1 : (i, v) ∈ m) (h2 : (i, w) ∈ m) : v = w := by
  obtain ⟨x, hx⟩ := List.getElem?_of_mem h1
  obtain ⟨y, hy⟩ := List.getElem?_of_mem h2
  have e := va_nd_inj _ hu x y i (by rw [List.getElem?_map, hx]; rfl) (by rw [List.getElem?_map, hy]; rfl)
  subst e
  rw [hx] at hy
  cases hy
  rfl
theorem am_lk_mem : ∀ {l : List (Nat × Value)} {i : Nat} {v : Value}, am_lk l i = some v → (i, v) ∈ l
  | [], _, _, h => by simp [am_lk] at h
  | q :: l, i, v, h => by
    unfold am_lk at h
    by_cases e : q.1 = i
    · rw [if_pos e] at h
      cases h
      subst e
      exact List.mem_cons_self
    · rw [if_neg e] at h
      exact List.mem_cons_of_mem _ (am_lk_mem h)
theorem am_lk_of : ∀ {l : List (Nat × Value)} {i : Nat} {v : Value}, (i, v) ∈ l → ∃ w, am_lk l i = some w
  | [], _, _, h => by cases h
  | q :: l, i, v, h => by
    unfold am_lk
    by_cases e : q.1 = i
    · exact ⟨q.2, by rw [if_pos e]⟩
    · rw [if_neg e]
      rcases List.mem_cons.mp h with h | h
      · exact absurd (by rw [← h]) e
      · exact am_lk_of h
theorem am_lk_up {l m : List (Nat × Value)} (hu : am_uq m) (hs : ∀ q ∈ l, q ∈ m) {i : Nat} {v : Value} (h : am_lk l i = some v) : am_lk m i = some v := by
  have h1 := hs _ (am_lk_mem h)
  obtain ⟨w, hw⟩ := am_lk_of h1
  rw [hw, hu.eq h1 (am_lk_mem hw)]
theorem am_ins_mem : ∀ {l : List (Nat × Value)} {i : Nat} {v : Value} {q : Nat × Value}, q ∈ am_ins l i v ↔ q = (i, v) ∨ q ∈ l
  | [], i, v, q => by simp [am_ins]
  | p :: l, i, v, q => by
    unfold am_ins
    by_cases e : p.1 < i
    · rw [if_pos e, List.mem_cons, am_ins_mem, List.mem_cons]
      constructor
      · rintro (h | h | h)
        · exact Or.inr (Or.inl h)
        · exact Or.inl h
        · exact Or.inr (Or.inr h)
      · rintro (h | h | h)
        · exact Or.inr (Or.inl h)
        · exact Or.inl h
        · exact Or.inr (Or.inr h)
    · rw [if_neg e, List.mem_cons]
theorem am_nd_iff : ∀ (l : List Nat), va_nd l = true ↔ l.Nodup
  | [] => by simp [va_nd]
  | a :: l => by simp [va_nd, am_nd_iff l]
theorem am_ins_map : ∀ (l : List (Nat × Value)) (i : Nat) (v : Value), i ∉ l.map Prod.fst → (l.map Prod.fst).Nodup → ((am_ins l i v).map Prod.fst).Nodup
  | [], i, v, _, _ => by simp [am_ins]
  | p :: l, i, v, h, hn => by
    unfold am_ins
    rw [List.map_cons, List.mem_cons, not_or] at h
    rw [List.map_cons, List.nodup_cons] at hn
    by_cases e : p.1 < i
    · rw [if_pos e, List.map_cons, List.nodup_cons]
      refine ⟨fun hm => ?_, am_ins_map l i v h.2 hn.2⟩
      obtain ⟨q, hq, hq2⟩ := List.mem_map.mp hm
      rcases am_ins_mem.mp hq with rfl | hq
      · exact h.1 hq2
      · exact hn.1 (hq2 ▸ List.mem_map_of_mem hq)
    · rw [if_neg e, List.map_cons, List.map_cons, List.nodup_cons, List.nodup_cons]
      exact ⟨by rw [List.mem_cons, not_or]; exact ⟨h.1, h.2⟩, hn⟩
theorem am_sto_uq {m : List (Nat × Value)} (hu : am_uq m) (f : Nat × Value → Bool) (i : Nat) (v : Value) (hf : ∀ q, f q = true → q.1 ≠ i) : am_uq (am_ins (m.filter f) i v) := by
  refine (am_nd_iff _).mpr (am_ins_map _ _ _ ?_ ?_)
  · intro h
    obtain ⟨q, hq, hq2⟩ := List.mem_map.mp h
    exact hf q (List.mem_filter.mp hq).2 hq2
  · exact List.Nodup.sublist (List.Sublist.map _ List.filter_sublist) ((am_nd_iff _).mp hu)
theorem am_sto_sub {l m : List (Nat × Value)} (hs : ∀ q ∈ l, q ∈ m) (f : Nat × Value → Bool) (i : Nat) (v : Value) : ∀ q ∈ am_ins (l.filter f) i v, q ∈ am_ins (m.filter f) i v := by
  intro q hq
  rcases am_ins_mem.mp hq with h | h
  · exact am_ins_mem.mpr (Or.inl h)
  · obtain ⟨h1, h2⟩ := List.mem_filter.mp h
    exact am_ins_mem.mpr (Or.inr (List.mem_filter.mpr ⟨hs q h1, h2⟩))
/-- an instruction that looks at no local -/
def am_free : Jvm.ClassFile.Instr → Bool
  | .iload_n _ | .iload _ | .aload_n _ | .aload _ | .lload_n _ | .istore_n _ | .istore _ | .astore_n _ | .astore _ | .lstore_n _ | .iinc _ _ => false
  | _ => true
def am_wl (m : List (Nat × Value)) (s : am_C) : am_C := (s.1, m, s.2.2)
set_option maxHeartbeats 4000000 in
theorem am_ex_free {i : Jvm.ClassFile.Instr} {a b c : Nat} {v : Int32} {j : Nat} {l m : List (Nat × Value)} {st : List Value} {sh : List am_Sh} {h : am_H} (hi : am_free i = true) : am_ex sc i a b c v j m st sh h = (am_ex sc i a b c v j l st sh h).map (am_wl m) := by
  cases i with
  | ifCond k o => cases k <;> (simp only [am_ex]; repeat' split) <;> rfl
  | if_icmp k o => cases k <;> (simp only [am_ex]; repeat' split) <;> rfl
  | iload_n k => exact absurd (show false = true from hi) (by decide)
  | iload k => exact absurd (show false = true from hi) (by decide)
  | aload_n k => exact absurd (show false = true from hi) (by decide)
  | aload k => exact absurd (show false = true from hi) (by decide)
  | lload_n k => exact absurd (show false = true from hi) (by decide)
  | istore_n k => exact absurd (show false = true from hi) (by decide)
  | istore k => exact absurd (show false = true from hi) (by decide)
  | astore_n k => exact absurd (show false = true from hi) (by decide)
  | astore k => exact absurd (show false = true from hi) (by decide)
  | lstore_n k => exact absurd (show false = true from hi) (by decide)
  | iinc k n => exact absurd (show false = true from hi) (by decide)
  | _ => first
    | rfl
    | ((simp only [am_ex]; repeat' split) <;> rfl)
set_option maxHeartbeats 4000000 in
theorem am_ex_weak {i : Jvm.ClassFile.Instr} {a b c : Nat} {v : Int32} {j : Nat} {l m : List (Nat × Value)} {st : List Value} {sh : List am_Sh} {h : am_H} {s1 : am_C} (hu : am_uq m) (hs : ∀ q ∈ l, q ∈ m) (e : am_ex sc i a b c v j l st sh h = some s1) :
    ∃ m1, am_ex sc i a b c v j m st sh h = some (s1.1, m1, s1.2.2) ∧ am_uq m1 ∧ ∀ q ∈ s1.2.1, q ∈ m1 := by
  by_cases hi : am_free i = true
  · refine ⟨m, ?_, hu, ?_⟩
    · rw [am_ex_free (l := l) (m := m) hi, e]
      rfl
    · have e2 := am_ex_free (sc := sc) (a := a) (b := b) (c := c) (v := v) (j := j) (l := l) (m := l) (st := st) (sh := sh) (h := h) hi
      rw [e] at e2
      have e3 : s1 = am_wl l s1 := Option.some.inj e2
      intro q hq
      rw [e3] at hq
      exact hs q hq
  · have f1 : ∀ (k : Nat) (q : Nat × Value), (!(q.1 == k) && !(q.1 + 1 == k && q.2.category == 2)) = true → q.1 ≠ k := by
      intro k q hq
      simp only [Bool.and_eq_true, Bool.not_eq_true', beq_eq_false_iff_ne, ne_eq] at hq
      exact hq.1
    have f2 : ∀ (k : Nat) (q : Nat × Value), (!(q.1 == k) && (!(q.1 == k + 1) && !(q.1 + 1 == k && q.2.category == 2))) = true → q.1 ≠ k := by
      intro k q hq
      simp only [Bool.and_eq_true, Bool.not_eq_true', beq_eq_false_iff_ne, ne_eq] at hq
      exact hq.1
    cases i with
    | iload_n k =>
      simp only [am_ex] at e ⊢
      cases hk : am_lk l k.val with
      | none => simp [hk] at e
      | some w => rw [am_lk_up hu hs hk]; rw [hk] at e; cases w <;> first | (cases e; exact ⟨m, rfl, hu, hs⟩) | (cases e; done)
    | iload k =>
      simp only [am_ex] at e ⊢
      cases hk : am_lk l k with
      | none => simp [hk] at e
      | some w => rw [am_lk_up hu hs hk]; rw [hk] at e; cases w <;> first | (cases e; exact ⟨m, rfl, hu, hs⟩) | (cases e; done)
    | aload_n k =>
      simp only [am_ex] at e ⊢
      cases hk : am_lk l k.val with
      | none => simp [hk] at e
      | some w => rw [am_lk_up hu hs hk]; rw [hk] at e; cases w <;> first | (cases e; exact ⟨m, rfl, hu, hs⟩) | (cases e; done)
    | aload k =>
      simp only [am_ex] at e ⊢
      cases hk : am_lk l k with
      | none => simp [hk] at e
      | some w => rw [am_lk_up hu hs hk]; rw [hk] at e; cases w <;> first | (cases e; exact ⟨m, rfl, hu, hs⟩) | (cases e; done)
    | lload_n k =>
      simp only [am_ex] at e ⊢
      cases hk : am_lk l k.val with
      | none => simp [hk] at e
      | some w => rw [am_lk_up hu hs hk]; rw [hk] at e; cases w <;> first | (cases e; exact ⟨m, rfl, hu, hs⟩) | (cases e; done)
    | iinc k n =>
      simp only [am_ex] at e ⊢
      cases hk : am_lk l k with
      | none => simp [hk] at e
      | some w => rw [am_lk_up hu hs hk]; rw [hk] at e; cases w <;> first | (cases e; exact ⟨_, rfl, am_sto_uq hu _ _ _ (f1 _), am_sto_sub hs _ _ _⟩) | (cases e; done)
    | istore_n k =>
      simp only [am_ex] at e ⊢
      split at e <;> first | (cases e; exact ⟨_, rfl, am_sto_uq hu _ _ _ (f1 _), am_sto_sub hs _ _ _⟩) | (cases e; done)
    | istore k =>
      simp only [am_ex] at e ⊢
      split at e <;> first | (cases e; exact ⟨_, rfl, am_sto_uq hu _ _ _ (f1 _), am_sto_sub hs _ _ _⟩) | (cases e; done)
    | astore_n k =>
      simp only [am_ex] at e ⊢
      split at e <;> first | (cases e; exact ⟨_, rfl, am_sto_uq hu _ _ _ (f1 _), am_sto_sub hs _ _ _⟩) | (cases e; done)
    | astore k =>
      simp only [am_ex] at e ⊢
      split at e <;> first | (cases e; exact ⟨_, rfl, am_sto_uq hu _ _ _ (f1 _), am_sto_sub hs _ _ _⟩) | (cases e; done)
    | lstore_n k =>
      simp only [am_ex] at e ⊢
      split at e <;> first | (cases e; exact ⟨_, rfl, am_sto_uq hu _ _ _ (f2 _), am_sto_sub hs _ _ _⟩) | (cases e; done)
    | _ => exact absurd rfl hi
theorem am_jdk_wl {c j : Nat} {l m : List (Nat × Value)} {st : List Value} {sh : List am_Sh} {h : am_H} : am_jdk c j m st sh h = (am_jdk c j l st sh h).map (am_wl m) := by
  (simp only [am_jdk]; repeat' split) <;> rfl
theorem am_weak : ∀ (n d mi j : Nat) (l m : List (Nat × Value)) (st : List Value) (sh : List am_Sh) (h : am_H) (r : am_R), am_uq m → (∀ q ∈ l, q ∈ m) → am_run sc n d mi (j, l, st, sh, h) = some r → am_run sc n d mi (j, m, st, sh, h) = some r := by
  intro n
  induction n with
  | zero => intro d mi j l m st sh h r _ _ e; cases e
  | succ n ih =>
    intro d mi j l m st sh h r hu hs e
    cases hc : (am_code mi)[j]? with
    | none => simp [am_run, hc] at e
    | some q =>
      obtain ⟨⟨i, a, b, c, v⟩, p⟩ := q
      by_cases hp : am_plain i = true
      · rw [am_run_plain hc hp] at e ⊢
        obtain ⟨s1, e1, e2⟩ := am_bind_some e
        obtain ⟨m1, g1, g2, g3⟩ := am_ex_weak hu hs e1
        rw [g1]
        exact ih d mi s1.1 s1.2.1 m1 s1.2.2.1 s1.2.2.2.1 s1.2.2.2.2 r g2 g3 e2
      · have key : ∀ (f : am_C → Option am_R), (∀ s t : am_C, s.1 = t.1 → s.2.2 = t.2.2 → (∀ q ∈ s.2.1, q ∈ t.2.1) → am_uq t.2.1 → f s = some r → f t = some r) → (am_jdk c j l st sh h).bind f = some r → (am_jdk c j m st sh h).bind f = some r := by
          intro f hf hb
          obtain ⟨s, h1, h2⟩ := am_bind_some hb
          have h3 := am_jdk_wl (c := c) (j := j) (l := l) (m := m) (st := st) (sh := sh) (h := h)
          have h4 := am_jdk_wl (c := c) (j := j) (l := l) (m := l) (st := st) (sh := sh) (h := h)
          rw [h1] at h3 h4
          rw [h3]
          have h5 : s = am_wl l s := Option.some.inj h4
          refine hf s (am_wl m s) rfl rfl ?_ hu h2
          intro q hq
          rw [h5] at hq
          exact hs q hq
        cases i <;> first
          | exact absurd (show am_plain _ = true from rfl) hp
          | (simp only [am_run, hc] at e ⊢; exact e)
          | (simp only [am_run, hc] at e ⊢
             by_cases h2 : c < 200
             · rw [if_pos h2] at e ⊢
               cases d with
               | zero => exact e
               | succ d =>
                 simp only at e ⊢
                 by_cases h3 : am_okc sh st a b c = true
                 · rw [if_pos h3] at e ⊢
                   obtain ⟨q, q1, q2⟩ := am_bind_some e
                   rw [q1]
                   exact ih (d + 1) mi (j + 1) l m _ _ _ r hu hs q2
                 · rw [if_neg h3] at e
                   cases e
             · rw [if_neg h2] at e ⊢
               cases d with
               | zero => exact e
               | succ d => exact key _ (fun s t x1 x2 x3 x4 x5 => by
                   obtain ⟨s1, s2, s3⟩ := s
                   obtain ⟨t1, t2, t3⟩ := t
                   cases x1
                   cases x2
                   exact ih (d + 1) mi _ _ _ _ _ _ r x4 x3 x5) e)
/-! more fuel changes nothing -/
theorem am_more : ∀ (n d mi j : Nat) (l : List (Nat × Value)) (st : List Value) (sh : List am_Sh) (h : am_H) (r : am_R) (k : Nat), am_run sc n d mi (j, l, st, sh, h) = some r → am_run sc (n + k) d mi (j, l, st, sh, h) = some r := by
  intro n
  induction n with
  | zero => intro d mi j l st sh h r k e; cases e
  | succ n ih =>
    intro d mi j l st sh h r k e
    rw [show n + 1 + k = (n + k) + 1 by omega]
    cases hc : (am_code mi)[j]? with
    | none => simp [am_run, hc] at e
    | some q =>
      obtain ⟨⟨i, a, b, c, v⟩, p⟩ := q
      by_cases hp : am_plain i = true
      · rw [am_run_plain hc hp] at e ⊢
        obtain ⟨s1, e1, e2⟩ := am_bind_some e
        rw [e1]
        exact ih d mi s1.1 s1.2.1 s1.2.2.1 s1.2.2.2.1 s1.2.2.2.2 r k e2
      · cases i <;> first
          | exact absurd (show am_plain _ = true from rfl) hp
          | (simp only [am_run, hc] at e ⊢; exact e)
          | (simp only [am_run, hc] at e ⊢
             by_cases h2 : c < 200
             · rw [if_pos h2] at e ⊢
               cases d with
               | zero => exact e
               | succ d =>
                 simp only at e ⊢
                 by_cases h3 : am_okc sh st a b c = true
                 · rw [if_pos h3] at e ⊢
                   obtain ⟨q, q1, q2⟩ := am_bind_some e
                   rw [ih _ _ _ _ _ _ _ _ k q1]
                   exact ih (d + 1) mi (j + 1) l _ _ _ r k q2
                 · rw [if_neg h3] at e
                   cases e
             · rw [if_neg h2] at e ⊢
               cases d with
               | zero => exact e
               | succ d =>
                 simp only at e ⊢
                 obtain ⟨s, h1, h2⟩ := am_bind_some e
                 rw [h1]
                 exact ih (d + 1) mi s.1 s.2.1 s.2.2.1 s.2.2.2.1 s.2.2.2.2 r k h2)
/-! the rows for calls, ends, loops -/
theorem am_sub_mem : ∀ {l m : List (Nat × Value)}, am_sub l m → ∀ q ∈ l, q ∈ m
  | [], _, _, q, h => by cases h
  | p :: l, m, hs, q, h => by
    rcases List.mem_cons.mp h with rfl | h
    · exact am_lk_mem hs.1
    · exact am_sub_mem hs.2 q h
theorem am_Ev.weak {d mi j : Nat} {l m : List (Nat × Value)} {st : List Value} {sh : List am_Sh} {h : am_H} {r : am_R} (hs : am_sub l m) (hu : am_uq m) (k : am_Ev sc d mi (j, l, st, sh, h) r) : am_Ev sc d mi (j, m, st, sh, h) r := by
  obtain ⟨n, e⟩ := k
  exact ⟨n, am_weak n d mi j l m st sh h r hu (am_sub_mem hs) e⟩
def am_isc : Jvm.ClassFile.Instr → Bool
  | .invokevirtual _ | .invokespecial _ | .invokestatic _ => true
  | _ => false
/-- a call: the method, its beginning -/
def am_cl (cd : List am_E) (s : am_C) : Option (Nat × am_C) := match cd[s.1]? with
  | none => none
  | some ((i, a, b, c, _), _) => if am_isc i = true ∧ c < 200 ∧ am_okc s.2.2.2.1 s.2.2.1 a b c = true then some (a, (0, lv_args 0 (s.2.2.1.take b).reverse, [], s.2.2.2)) else none
/-- where it goes on -/
def am_ct (cd : List am_E) (s : am_C) (q : am_R) : am_C := match cd[s.1]? with
  | none => s
  | some ((_, _, b, _, _), _) => (s.1 + 1, s.2.1, q.1.toList ++ s.2.2.1.drop b, q.2)
theorem am_Ev.call {d mi a : Nat} {cd : List am_E} {s s0 s1 : am_C} {q r : am_R} (hcd : am_code mi = cd) (h : am_cl cd s = some (a, s0)) (ht : am_ct cd s q = s1) (hy : am_Ev sc d a s0 q) (k : am_Ev sc (d + 1) mi s1 r) : am_Ev sc (d + 1) mi s r := by
  obtain ⟨j, l, st, sh, hh⟩ := s
  subst hcd
  subst ht
  obtain ⟨n1, e1⟩ := hy
  obtain ⟨n2, e2⟩ := k
  unfold am_cl at h
  unfold am_ct at e2
  cases hc : (am_code mi)[j]? with
  | none => simp [hc] at h
  | some e =>
    obtain ⟨⟨i, a1, b, c, v⟩, p⟩ := e
    simp only [hc] at h e2
    by_cases h3 : am_isc i = true ∧ c < 200 ∧ am_okc sh st a1 b c = true
    · rw [if_pos h3] at h
      cases h
      obtain ⟨q1, q2, q3⟩ := q
      have f1 := am_more n1 d a _ _ _ _ _ _ n2 e1
      have f2 := am_more n2 (d + 1) mi _ _ _ _ _ _ n1 e2
      rw [Nat.add_comm n2 n1] at f2
      refine ⟨n1 + n2 + 1, ?_⟩
      cases i <;> first
        | exact absurd (show false = true from h3.1) (by decide)
        | (simp only [am_run, hc]
           rw [if_pos h3.2.1, if_pos h3.2.2, f1]
           exact f2)
    · rw [if_neg h3] at h
      cases h
/-- a call of the JDK -/
def am_jk (cd : List am_E) (s : am_C) : Option am_C := match cd[s.1]? with
  | none => none
  | some ((i, _, _, c, _), _) => if am_isc i = true ∧ ¬ c < 200 then am_jdk c s.1 s.2.1 s.2.2.1 s.2.2.2.1 s.2.2.2.2 else none
theorem am_Ev.jdk {d mi : Nat} {cd : List am_E} {s s1 : am_C} {r : am_R} (hcd : am_code mi = cd) (h : am_jk cd s = some s1) (k : am_Ev sc (d + 1) mi s1 r) : am_Ev sc (d + 1) mi s r := by
  obtain ⟨j, l, st, sh, hh⟩ := s
  subst hcd
  obtain ⟨n, e2⟩ := k
  unfold am_jk at h
  cases hc : (am_code mi)[j]? with
  | none => simp [hc] at h
  | some e =>
    obtain ⟨⟨i, a1, b, c, v⟩, p⟩ := e
    simp only [hc] at h
    by_cases h3 : am_isc i = true ∧ ¬ c < 200
    · rw [if_pos h3] at h
      refine ⟨n + 1, ?_⟩
      cases i <;> first
        | exact absurd (show false = true from h3.1) (by decide)
        | (simp only [am_run, hc]
           rw [if_neg h3.2, h]
           exact e2)
    · rw [if_neg h3] at h
      cases h
theorem am_Ev.jdkt {d mi : Nat} {cd : List am_E} {s s1 : am_C} {r : am_R} {c : Prop} [Decidable c] (hcd : am_code mi = cd) (h : am_jk cd s = if c then some s1 else none) (hc : c) (k : am_Ev sc (d + 1) mi s1 r) : am_Ev sc (d + 1) mi s r :=
  am_Ev.jdk hcd (h.trans (if_pos hc)) k
/-- a method's end -/
def am_rt (cd : List am_E) (s : am_C) : Option am_R := match cd[s.1]? with
  | none => none
  | some ((i, a, _, _, _), _) => match i with
    | .ireturn => (match s.2.2.1 with | [.int x] => if a = 1 ∧ ¬ (x = 0 ∨ x = 1) then none else some (some (.int x), s.2.2.2) | _ => none)
    | .areturn => (match s.2.2.1 with | [.ref x] => some (some (.ref x), s.2.2.2) | [.retAddr x] => some (some (.retAddr x), s.2.2.2) | _ => none)
    | .return_ => (match s.2.2.1 with | [] => some (none, s.2.2.2) | _ => none)
    | _ => none
theorem am_Ev.ret {d mi : Nat} {cd : List am_E} {s : am_C} {r : am_R} (hcd : am_code mi = cd) (h : am_rt cd s = some r) : am_Ev sc d mi s r := by
  obtain ⟨j, l, st, sh, hh⟩ := s
  subst hcd
  unfold am_rt at h
  cases hc : (am_code mi)[j]? with
  | none => simp [hc] at h
  | some e =>
    obtain ⟨⟨i, a1, b, c, v⟩, p⟩ := e
    simp only [hc] at h
    refine ⟨1, ?_⟩
    cases i <;> first
      | (cases h; done)
      | (simp only [am_run, hc]; exact h)
theorem am_b01 (x : Bool) : ¬ ((1 : Nat) = 1 ∧ ¬ (am_b x = 0 ∨ am_b x = 1)) := by
  cases x <;> decide
theorem am_Ev.retb {d mi : Nat} {cd : List am_E} {s : am_C} {x : Bool} {r : am_R} (hcd : am_code mi = cd) (h : am_rt cd s = if (1 : Nat) = 1 ∧ ¬ (am_b x = 0 ∨ am_b x = 1) then none else some r) : am_Ev sc d mi s r :=
  am_Ev.ret hcd (h.trans (if_neg (am_b01 x)))
theorem am_b_t {b : Bool} (h : b = true) : ¬ am_b b = 0 := by subst h; decide
theorem am_b_f {b : Bool} (h : ¬ b = true) : am_b b = 0 := by cases b with | false => rfl | true => exact absurd rfl h
/-! what a pure text says -/
theorem am_loop_ok {S E : Type} {f : S → Option (S ⊕ E)} {G : S → Prop} {Z : E → Prop} (hs : ∀ s q, f s = some q → (∀ s', q = .inl s' → G s') → (∀ e, q = .inr e → Z e) → G s) : ∀ (n : Nat) (s : S) (e : E), am_loop f n s = some e → Z e → G s := by
  intro n
  induction n with
  | zero => intro s e h _; cases h
  | succ n ih =>
    intro s e h hz
    obtain ⟨q, h1, h2⟩ := am_bind_some (show (f s).bind _ = some e from h)
    refine hs s q h1 (fun s' hq => ?_) (fun e' hq => ?_)
    · subst hq
      exact ih s' e h2 hz
    · subst hq
      cases h2
      exact hz
theorem am_swt_t {x k : Int32} {t d : Nat} {l : List (Int32 × Nat)} (h : x = k) : am_swt x ((k, t) :: l) d = t := by
  unfold am_swt
  rw [if_pos h]
theorem am_swt_f {x k : Int32} {t d : Nat} {l : List (Int32 × Nat)} (h : ¬ x = k) : am_swt x ((k, t) :: l) d = am_swt x l d := by
  rw [am_swt, if_neg h]
theorem am_sub_nil {m : List (Nat × Value)} : am_sub [] m := trivial
theorem am_sub_cons {q : Nat × Value} {l m : List (Nat × Value)} (h : am_lk m q.1 = some q.2) (k : am_sub l m) : am_sub (q :: l) m := ⟨h, k⟩
theorem am_swt_n {x : Int32} {d : Nat} : am_swt x [] d = d := rfl
theorem am_Ev.cast {d mi : Nat} {s : am_C} {a b : am_R} (e : a = b) (k : am_Ev sc d mi s a) : am_Ev sc d mi s b := e ▸ k
theorem am_Ev.weak' {d mi j : Nat} {l m : List (Nat × Value)} {st : List Value} {sh : List am_Sh} {h : am_H} {r : am_R} (k : am_Ev sc d mi (j, l, st, sh, h) r) (hs : am_sub l m) (hu : am_uq m) : am_Ev sc d mi (j, m, st, sh, h) r := am_Ev.weak hs hu k
