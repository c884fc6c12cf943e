/-! THE TWO CONSTRUCTORS: a run that never asks the script, by the kernel -/
def am_ex0 (i : Jvm.ClassFile.Instr) (a b c : Nat) (v : Int32) (j : Nat) (ls : List (Nat × Value)) (st : List Value) (sh : List am_Sh) (h : am_H) : Option am_C := match i with
  | .iaload => none
  | .arraylength => none
  | i => am_ex (0, fun _ => 0) i a b c v j ls st sh h
theorem am_ex0_ok {sc : Nat × (Nat → Int32)} {i : Jvm.ClassFile.Instr} {a b c : Nat} {v : Int32} {j : Nat} {ls : List (Nat × Value)} {st : List Value} {sh : List am_Sh} {h : am_H} {s1 : am_C} (e : am_ex0 i a b c v j ls st sh h = some s1) : am_ex sc i a b c v j ls st sh h = some s1 := by
  cases i with
  | iaload => cases e
  | arraylength => cases e
  | ifCond k o => cases k <;> exact e
  | if_icmp k o => cases k <;> exact e
  | _ => exact e
def am_run0 : Nat → Nat → Nat → am_C → Option am_R
  | 0, _, _, _ => none
  | n + 1, d, mi, (j, ls, st, sh, h) =>
    match (am_code mi)[j]? with
    | none => none
    | some ((i, a, b, c, v), _) =>
      match i with
      | .return_ => (match st with | [] => some (none, sh, h) | _ => none)
      | .ireturn => none
      | .areturn => none
      | .invokevirtual _ | .invokespecial _ | .invokestatic _ =>
        if c < 200 then
          (match d with
          | 0 => none
          | d + 1 => if am_okc sh st a b c = true then
              (am_run0 n d a (0, lv_args 0 (st.take b).reverse, [], sh, h)).bind fun q => am_run0 n (d + 1) mi (j + 1, ls, q.1.toList ++ st.drop b, q.2.1, q.2.2)
              else none)
        else (match d with
          | 0 => none
          | d + 1 => (am_jdk c j ls st sh h).bind fun s => am_run0 n (d + 1) mi s)
      | i => (am_ex0 i a b c v j ls st sh h).bind fun s => am_run0 n d mi s
theorem am_run0_ok {sc : Nat × (Nat → Int32)} : ∀ (n d mi j : Nat) (l : List (Nat × Value)) (st : List Value) (sh : List am_Sh) (h : am_H) (r : am_R), am_run0 n d mi (j, l, st, sh, h) = some r → am_run sc n d mi (j, l, st, sh, h) = some r := by
  intro n
  induction n with
  | zero => intro d mi j l st sh h r e; cases e
  | succ n ih =>
    intro d mi j l st sh h r e
    cases hc : (am_code mi)[j]? with
    | none => simp [am_run0, hc] at e
    | some q =>
      obtain ⟨⟨i, a, b, c, v⟩, p⟩ := q
      by_cases hp : am_plain i = true
      · rw [am_run_plain hc hp]
        have e2 : (am_ex0 i a b c v j l st sh h).bind (fun s => am_run0 n d mi s) = some r := by
          cases i <;> first | (exact absurd (show false = true from hp) (by decide)) | (simp only [am_run0, hc] at e; exact e)
        obtain ⟨s1, e3, e4⟩ := am_bind_some e2
        rw [am_ex0_ok e3]
        exact ih d mi s1.1 s1.2.1 s1.2.2.1 s1.2.2.2.1 s1.2.2.2.2 r e4
      · cases i <;> first
          | exact absurd (show am_plain _ = true from rfl) hp
          | (simp only [am_run0, hc] at e; cases e; done)
          | (simp only [am_run0, hc] at e; simp only [am_run, hc]; exact e)
          | (simp only [am_run0, hc] at e
             simp only [am_run, hc]
             by_cases h2 : c < 200
             · rw [if_pos h2] at e ⊢
               cases d with
               | zero => exact e
               | succ d =>
                 simp only at e ⊢
                 by_cases h3 : am_okc sh st a b c = true
                 · rw [if_pos h3] at e ⊢
                   obtain ⟨q, q1, q2⟩ := am_bind_some e
                   rw [ih _ _ _ _ _ _ _ _ q1]
                   exact ih (d + 1) mi (j + 1) l _ _ _ r q2
                 · rw [if_neg h3] at e
                   cases e
             · rw [if_neg h2] at e ⊢
               cases d with
               | zero => exact e
               | succ d =>
                 simp only at e ⊢
                 obtain ⟨s, h1, h2⟩ := am_bind_some e
                 rw [h1]
                 exact ih (d + 1) mi s.1 s.2.1 s.2.2.1 s.2.2.2.1 s.2.2.2.2 r h2)
def am_h0 : am_H := (fun _ _ => 0, fun _ _ => 0)
def am_runA : Option am_R := am_run0 3000 59 126 (0, [(0, .ref 0)], [], [.inl (11, am_ft.getD 11 [])], am_h0)
def am_rA : am_R := am_runA.getD (none, [], am_h0)
def am_runB : Option am_R := am_run0 3000 59 175 (0, [(0, .ref 216)], [], am_SH.take 216 ++ [.inl (12, am_ft.getD 12 [])], am_rA.2.2)
def am_rB : am_R := am_runB.getD (none, [], am_h0)
def am_f0 : Nat → Nat → Int32 := am_rB.2.2.1
def am_g0 : Nat → Nat → Int32 := am_rB.2.2.2
def am_shE : am_Sh → Nat × List (Option Nat) × Nat
  | .inl o => (o.1 + 1, o.2, 0)
  | .inr a => (0, [some a.1], a.2)
theorem am_shE_inj {a b : am_Sh} (h : am_shE a = am_shE b) : a = b := by
  obtain ⟨a1, a2⟩ | ⟨a1, a2⟩ := a <;> obtain ⟨b1, b2⟩ | ⟨b1, b2⟩ := b
  · have h1 := congrArg Prod.fst h
    have h2 := congrArg (fun x => x.2.1) h
    have h1 : a1 + 1 = b1 + 1 := h1
    have h2 : a2 = b2 := h2
    rw [show a1 = b1 by omega, h2]
  · have h1 : a1 + 1 = 0 := congrArg Prod.fst h
    omega
  · have h1 : 0 = b1 + 1 := congrArg Prod.fst h
    omega
  · have h2 : [some a1] = [some b1] := congrArg (fun x => x.2.1) h
    have h3 : a2 = b2 := congrArg (fun x => x.2.2) h
    have h4 : a1 = b1 := by
      have := List.cons.inj h2
      exact Option.some.inj this.1
    rw [h3, h4]
theorem am_shE_map : ∀ {l m : List am_Sh}, l.map am_shE = m.map am_shE → l = m
  | [], [], _ => rfl
  | [], _ :: _, h => by cases h
  | _ :: _, [], h => by cases h
  | a :: l, b :: m, h => by
    rw [List.map_cons, List.map_cons] at h
    have h1 := List.cons.inj h
    rw [am_shE_inj h1.1, am_shE_map h1.2]
set_option maxRecDepth 100000 in
theorem am_rA_k : (am_runA.map fun r => (r.1.isNone, r.2.1.map am_shE)) = some (true, (am_SH.take 216).map am_shE) := by decide +kernel
set_option maxRecDepth 100000 in
theorem am_rB_k : (am_runB.map fun r => (r.1.isNone, r.2.1.map am_shE)) = some (true, am_SH.map am_shE) := by decide +kernel
theorem am_map_k {o : Option am_R} {x : am_R} {S : List am_Sh} (h : (o.map fun r => (r.1.isNone, r.2.1.map am_shE)) = some (true, S.map am_shE)) : o = some (none, S, (o.getD x).2.2) := by
  cases o with
  | none => cases h
  | some r =>
    obtain ⟨a, b, c⟩ := r
    have h1 := Option.some.inj h
    have h2 : a.isNone = true := congrArg Prod.fst h1
    have h3 : b = S := am_shE_map (congrArg Prod.snd h1)
    subst h3
    cases a with
    | none => rfl
    | some y => cases h2
theorem am_rA_ok : am_runA = some (none, am_SH.take 216, am_rA.2.2) := by
  unfold am_rA
  exact am_map_k (x := (none, [], am_h0)) am_rA_k
theorem am_rB_ok : am_runB = some (none, am_SH, (am_f0, am_g0)) := by
  have h : am_runB = some (none, am_SH, am_rB.2.2) := by
    unfold am_rB
    exact am_map_k (x := (none, [], am_h0)) am_rB_k
  rw [h]
  unfold am_f0 am_g0
  generalize am_rB = q
  obtain ⟨a, b, c, d⟩ := q
  rfl
set_option maxRecDepth 100000 in
set_option maxHeartbeats 4000000 in
/-- the law's start -/
theorem am_law_begin {sc : Nat × (Nat → Int32)} {r : am_R} (kk : am_Ev sc 60 313 (10, [(0, .ref am_SC), (1, .ref 0), (2, .ref 216), (3, .int (nI 0))], [], am_SH, (am_f0, am_g0)) r) : am_Ev sc 60 313 (0, [(0, .ref am_SC)], [], [], (fun _ _ => 0, fun _ _ => 0)) r := by
  have hcd : am_code 313 = am_c313 := rfl
  have hA := am_rA_ok
  unfold am_runA at hA
  have hB := am_rB_ok
  unfold am_runB at hB
  refine am_Ev.go hcd 2 (s' := (2, [(0, .ref am_SC)], [.ref 0, .ref 0], [.inl (11, am_ft.getD 11 [])], am_h0)) rfl ?_
  refine am_Ev.call hcd (a := 126) (s0 := (0, [(0, .ref 0)], [], [.inl (11, am_ft.getD 11 [])], am_h0)) (q := (none, am_SH.take 216, am_rA.2.2)) (s1 := (3, [(0, .ref am_SC)], [.ref 0], am_SH.take 216, am_rA.2.2)) rfl rfl ⟨3000, am_run0_ok _ _ _ _ _ _ _ _ _ hA⟩ ?_
  refine am_Ev.go hcd 1 (s' := (4, [(0, .ref am_SC), (1, .ref 0)], [], am_SH.take 216, am_rA.2.2)) rfl ?_
  refine am_Ev.go hcd 2 (s' := (6, [(0, .ref am_SC), (1, .ref 0)], [.ref 216, .ref 216], am_SH.take 216 ++ [.inl (12, am_ft.getD 12 [])], am_rA.2.2)) rfl ?_
  refine am_Ev.call hcd (a := 175) (s0 := (0, [(0, .ref 216)], [], am_SH.take 216 ++ [.inl (12, am_ft.getD 12 [])], am_rA.2.2)) (q := (none, am_SH, (am_f0, am_g0))) (s1 := (7, [(0, .ref am_SC), (1, .ref 0)], [.ref 216], am_SH, (am_f0, am_g0))) rfl rfl ⟨3000, am_run0_ok _ _ _ _ _ _ _ _ _ hB⟩ ?_
  exact am_Ev.go hcd 3 (s' := (10, [(0, .ref am_SC), (1, .ref 0), (2, .ref 216), (3, .int (nI 0))], [], am_SH, (am_f0, am_g0))) rfl kk
