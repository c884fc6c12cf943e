def xt_isMark (a0 : Int32)  : Bool :=
  if a0 = 59 then (
    true)
  else (
    if a0 < 40 then (
      if a0 = 45 then (
        true)
      else (
        if a0 = 47 then (
          true)
        else (
          if a0 < 60 then (
            false)
          else (
            if 62 < a0 then (
              false)
            else (
              true)))))
    else (
      if 43 < a0 then (
        if a0 = 45 then (
          true)
        else (
          if a0 = 47 then (
            true)
          else (
            if a0 < 60 then (
              false)
            else (
              if 62 < a0 then (
                false)
              else (
                true)))))
      else (
        true)))
set_option maxRecDepth 100000 in
set_option maxHeartbeats 4000000 in
theorem xt_isMark_ok {sc : Nat × (Nat → Int32)} (d : Nat) (a0 : Int32) (hp : am_H) : am_Ev sc (d) 121 (0, [(0, .int a0)], [], am_SH, hp) ((some (.int (am_b (xt_isMark a0)))), am_SH, hp) := by
  have hcd : am_code 121 = am_c121 := rfl
  obtain ⟨r, h⟩ : ∃ r, r = xt_isMark a0 := ⟨_, rfl⟩
  rw [← h]
  unfold xt_isMark at h
  refine am_Ev.go hcd 2 (s' := (2, [(0, .int a0)], [.int 59, .int a0], am_SH, hp)) rfl ?_
  rcases am_itv h with ⟨c4, h⟩ | ⟨c4, h⟩
  · refine am_Ev.t hcd (c := a0 = 59) (s1 := (21, [(0, .int a0)], [], am_SH, hp)) rfl c4 ?_
    refine am_Ev.go hcd 2 (s' := (24, [(0, .int a0)], [.int 1], am_SH, hp)) rfl ?_
    exact am_Ev.cast (a := ((some (.int (am_b true))), am_SH, hp)) (by subst h; rfl) (am_Ev.ret hcd rfl)
  · refine am_Ev.f hcd (c := a0 = 59) (s1 := (3, [(0, .int a0)], [], am_SH, hp)) rfl c4 ?_
    refine am_Ev.go hcd 2 (s' := (5, [(0, .int a0)], [.int 40, .int a0], am_SH, hp)) rfl ?_
    rcases am_itv h with ⟨c10, h⟩ | ⟨c10, h⟩
    · refine am_Ev.t hcd (c := a0 < 40) (s1 := (9, [(0, .int a0)], [], am_SH, hp)) rfl c10 ?_
      refine am_Ev.go hcd 2 (s' := (11, [(0, .int a0)], [.int 45, .int a0], am_SH, hp)) rfl ?_
      rcases am_itv h with ⟨c13, h⟩ | ⟨c13, h⟩
      · refine am_Ev.t hcd (c := a0 = 45) (s1 := (21, [(0, .int a0)], [], am_SH, hp)) rfl c13 ?_
        refine am_Ev.go hcd 2 (s' := (24, [(0, .int a0)], [.int 1], am_SH, hp)) rfl ?_
        exact am_Ev.cast (a := ((some (.int (am_b true))), am_SH, hp)) (by subst h; rfl) (am_Ev.ret hcd rfl)
      · refine am_Ev.f hcd (c := a0 = 45) (s1 := (12, [(0, .int a0)], [], am_SH, hp)) rfl c13 ?_
        refine am_Ev.go hcd 2 (s' := (14, [(0, .int a0)], [.int 47, .int a0], am_SH, hp)) rfl ?_
        rcases am_itv h with ⟨c19, h⟩ | ⟨c19, h⟩
        · refine am_Ev.t hcd (c := a0 = 47) (s1 := (21, [(0, .int a0)], [], am_SH, hp)) rfl c19 ?_
          refine am_Ev.go hcd 2 (s' := (24, [(0, .int a0)], [.int 1], am_SH, hp)) rfl ?_
          exact am_Ev.cast (a := ((some (.int (am_b true))), am_SH, hp)) (by subst h; rfl) (am_Ev.ret hcd rfl)
        · refine am_Ev.f hcd (c := a0 = 47) (s1 := (15, [(0, .int a0)], [], am_SH, hp)) rfl c19 ?_
          refine am_Ev.go hcd 2 (s' := (17, [(0, .int a0)], [.int 60, .int a0], am_SH, hp)) rfl ?_
          rcases am_itv h with ⟨c25, h⟩ | ⟨c25, h⟩
          · refine am_Ev.t hcd (c := a0 < 60) (s1 := (23, [(0, .int a0)], [], am_SH, hp)) rfl c25 ?_
            refine am_Ev.go hcd 1 (s' := (24, [(0, .int a0)], [.int 0], am_SH, hp)) rfl ?_
            exact am_Ev.cast (a := ((some (.int (am_b false))), am_SH, hp)) (by subst h; rfl) (am_Ev.ret hcd rfl)
          · refine am_Ev.f hcd (c := a0 < 60) (s1 := (18, [(0, .int a0)], [], am_SH, hp)) rfl c25 ?_
            refine am_Ev.go hcd 2 (s' := (20, [(0, .int a0)], [.int 62, .int a0], am_SH, hp)) rfl ?_
            rcases am_itv h with ⟨c31, h⟩ | ⟨c31, h⟩
            · refine am_Ev.t hcd (c := 62 < a0) (s1 := (23, [(0, .int a0)], [], am_SH, hp)) rfl c31 ?_
              refine am_Ev.go hcd 1 (s' := (24, [(0, .int a0)], [.int 0], am_SH, hp)) rfl ?_
              exact am_Ev.cast (a := ((some (.int (am_b false))), am_SH, hp)) (by subst h; rfl) (am_Ev.ret hcd rfl)
            · refine am_Ev.f hcd (c := 62 < a0) (s1 := (21, [(0, .int a0)], [], am_SH, hp)) rfl c31 ?_
              refine am_Ev.go hcd 2 (s' := (24, [(0, .int a0)], [.int 1], am_SH, hp)) rfl ?_
              exact am_Ev.cast (a := ((some (.int (am_b true))), am_SH, hp)) (by subst h; rfl) (am_Ev.ret hcd rfl)
    · refine am_Ev.f hcd (c := a0 < 40) (s1 := (6, [(0, .int a0)], [], am_SH, hp)) rfl c10 ?_
      refine am_Ev.go hcd 2 (s' := (8, [(0, .int a0)], [.int 43, .int a0], am_SH, hp)) rfl ?_
      rcases am_itv h with ⟨c40, h⟩ | ⟨c40, h⟩
      · refine am_Ev.t hcd (c := 43 < a0) (s1 := (9, [(0, .int a0)], [], am_SH, hp)) rfl c40 ?_
        refine am_Ev.go hcd 2 (s' := (11, [(0, .int a0)], [.int 45, .int a0], am_SH, hp)) rfl ?_
        rcases am_itv h with ⟨c43, h⟩ | ⟨c43, h⟩
        · refine am_Ev.t hcd (c := a0 = 45) (s1 := (21, [(0, .int a0)], [], am_SH, hp)) rfl c43 ?_
          refine am_Ev.go hcd 2 (s' := (24, [(0, .int a0)], [.int 1], am_SH, hp)) rfl ?_
          exact am_Ev.cast (a := ((some (.int (am_b true))), am_SH, hp)) (by subst h; rfl) (am_Ev.ret hcd rfl)
        · refine am_Ev.f hcd (c := a0 = 45) (s1 := (12, [(0, .int a0)], [], am_SH, hp)) rfl c43 ?_
          refine am_Ev.go hcd 2 (s' := (14, [(0, .int a0)], [.int 47, .int a0], am_SH, hp)) rfl ?_
          rcases am_itv h with ⟨c49, h⟩ | ⟨c49, h⟩
          · refine am_Ev.t hcd (c := a0 = 47) (s1 := (21, [(0, .int a0)], [], am_SH, hp)) rfl c49 ?_
            refine am_Ev.go hcd 2 (s' := (24, [(0, .int a0)], [.int 1], am_SH, hp)) rfl ?_
            exact am_Ev.cast (a := ((some (.int (am_b true))), am_SH, hp)) (by subst h; rfl) (am_Ev.ret hcd rfl)
          · refine am_Ev.f hcd (c := a0 = 47) (s1 := (15, [(0, .int a0)], [], am_SH, hp)) rfl c49 ?_
            refine am_Ev.go hcd 2 (s' := (17, [(0, .int a0)], [.int 60, .int a0], am_SH, hp)) rfl ?_
            rcases am_itv h with ⟨c55, h⟩ | ⟨c55, h⟩
            · refine am_Ev.t hcd (c := a0 < 60) (s1 := (23, [(0, .int a0)], [], am_SH, hp)) rfl c55 ?_
              refine am_Ev.go hcd 1 (s' := (24, [(0, .int a0)], [.int 0], am_SH, hp)) rfl ?_
              exact am_Ev.cast (a := ((some (.int (am_b false))), am_SH, hp)) (by subst h; rfl) (am_Ev.ret hcd rfl)
            · refine am_Ev.f hcd (c := a0 < 60) (s1 := (18, [(0, .int a0)], [], am_SH, hp)) rfl c55 ?_
              refine am_Ev.go hcd 2 (s' := (20, [(0, .int a0)], [.int 62, .int a0], am_SH, hp)) rfl ?_
              rcases am_itv h with ⟨c61, h⟩ | ⟨c61, h⟩
              · refine am_Ev.t hcd (c := 62 < a0) (s1 := (23, [(0, .int a0)], [], am_SH, hp)) rfl c61 ?_
                refine am_Ev.go hcd 1 (s' := (24, [(0, .int a0)], [.int 0], am_SH, hp)) rfl ?_
                exact am_Ev.cast (a := ((some (.int (am_b false))), am_SH, hp)) (by subst h; rfl) (am_Ev.ret hcd rfl)
              · refine am_Ev.f hcd (c := 62 < a0) (s1 := (21, [(0, .int a0)], [], am_SH, hp)) rfl c61 ?_
                refine am_Ev.go hcd 2 (s' := (24, [(0, .int a0)], [.int 1], am_SH, hp)) rfl ?_
                exact am_Ev.cast (a := ((some (.int (am_b true))), am_SH, hp)) (by subst h; rfl) (am_Ev.ret hcd rfl)
      · refine am_Ev.f hcd (c := 43 < a0) (s1 := (21, [(0, .int a0)], [], am_SH, hp)) rfl c40 ?_
        refine am_Ev.go hcd 2 (s' := (24, [(0, .int a0)], [.int 1], am_SH, hp)) rfl ?_
        exact am_Ev.cast (a := ((some (.int (am_b true))), am_SH, hp)) (by subst h; rfl) (am_Ev.ret hcd rfl)
def xt_isLetter (a0 : Int32)  : Bool :=
  if a0 < 97 then (
    if a0 < 65 then (
      false)
    else (
      if 90 < a0 then (
        false)
      else (
        true)))
  else (
    if 122 < a0 then (
      if a0 < 65 then (
        false)
      else (
        if 90 < a0 then (
          false)
        else (
          true)))
    else (
      true))
set_option maxRecDepth 100000 in
set_option maxHeartbeats 4000000 in
theorem xt_isLetter_ok {sc : Nat × (Nat → Int32)} (d : Nat) (a0 : Int32) (hp : am_H) : am_Ev sc (d) 119 (0, [(0, .int a0)], [], am_SH, hp) ((some (.int (am_b (xt_isLetter a0)))), am_SH, hp) := by
  have hcd : am_code 119 = am_c119 := rfl
  obtain ⟨r, h⟩ : ∃ r, r = xt_isLetter a0 := ⟨_, rfl⟩
  rw [← h]
  unfold xt_isLetter at h
  refine am_Ev.go hcd 2 (s' := (2, [(0, .int a0)], [.int 97, .int a0], am_SH, hp)) rfl ?_
  rcases am_itv h with ⟨c4, h⟩ | ⟨c4, h⟩
  · refine am_Ev.t hcd (c := a0 < 97) (s1 := (6, [(0, .int a0)], [], am_SH, hp)) rfl c4 ?_
    refine am_Ev.go hcd 2 (s' := (8, [(0, .int a0)], [.int 65, .int a0], am_SH, hp)) rfl ?_
    rcases am_itv h with ⟨c7, h⟩ | ⟨c7, h⟩
    · refine am_Ev.t hcd (c := a0 < 65) (s1 := (14, [(0, .int a0)], [], am_SH, hp)) rfl c7 ?_
      refine am_Ev.go hcd 1 (s' := (15, [(0, .int a0)], [.int 0], am_SH, hp)) rfl ?_
      exact am_Ev.cast (a := ((some (.int (am_b false))), am_SH, hp)) (by subst h; rfl) (am_Ev.ret hcd rfl)
    · refine am_Ev.f hcd (c := a0 < 65) (s1 := (9, [(0, .int a0)], [], am_SH, hp)) rfl c7 ?_
      refine am_Ev.go hcd 2 (s' := (11, [(0, .int a0)], [.int 90, .int a0], am_SH, hp)) rfl ?_
      rcases am_itv h with ⟨c13, h⟩ | ⟨c13, h⟩
      · refine am_Ev.t hcd (c := 90 < a0) (s1 := (14, [(0, .int a0)], [], am_SH, hp)) rfl c13 ?_
        refine am_Ev.go hcd 1 (s' := (15, [(0, .int a0)], [.int 0], am_SH, hp)) rfl ?_
        exact am_Ev.cast (a := ((some (.int (am_b false))), am_SH, hp)) (by subst h; rfl) (am_Ev.ret hcd rfl)
      · refine am_Ev.f hcd (c := 90 < a0) (s1 := (12, [(0, .int a0)], [], am_SH, hp)) rfl c13 ?_
        refine am_Ev.go hcd 2 (s' := (15, [(0, .int a0)], [.int 1], am_SH, hp)) rfl ?_
        exact am_Ev.cast (a := ((some (.int (am_b true))), am_SH, hp)) (by subst h; rfl) (am_Ev.ret hcd rfl)
  · refine am_Ev.f hcd (c := a0 < 97) (s1 := (3, [(0, .int a0)], [], am_SH, hp)) rfl c4 ?_
    refine am_Ev.go hcd 2 (s' := (5, [(0, .int a0)], [.int 122, .int a0], am_SH, hp)) rfl ?_
    rcases am_itv h with ⟨c22, h⟩ | ⟨c22, h⟩
    · refine am_Ev.t hcd (c := 122 < a0) (s1 := (6, [(0, .int a0)], [], am_SH, hp)) rfl c22 ?_
      refine am_Ev.go hcd 2 (s' := (8, [(0, .int a0)], [.int 65, .int a0], am_SH, hp)) rfl ?_
      rcases am_itv h with ⟨c25, h⟩ | ⟨c25, h⟩
      · refine am_Ev.t hcd (c := a0 < 65) (s1 := (14, [(0, .int a0)], [], am_SH, hp)) rfl c25 ?_
        refine am_Ev.go hcd 1 (s' := (15, [(0, .int a0)], [.int 0], am_SH, hp)) rfl ?_
        exact am_Ev.cast (a := ((some (.int (am_b false))), am_SH, hp)) (by subst h; rfl) (am_Ev.ret hcd rfl)
      · refine am_Ev.f hcd (c := a0 < 65) (s1 := (9, [(0, .int a0)], [], am_SH, hp)) rfl c25 ?_
        refine am_Ev.go hcd 2 (s' := (11, [(0, .int a0)], [.int 90, .int a0], am_SH, hp)) rfl ?_
        rcases am_itv h with ⟨c31, h⟩ | ⟨c31, h⟩
        · refine am_Ev.t hcd (c := 90 < a0) (s1 := (14, [(0, .int a0)], [], am_SH, hp)) rfl c31 ?_
          refine am_Ev.go hcd 1 (s' := (15, [(0, .int a0)], [.int 0], am_SH, hp)) rfl ?_
          exact am_Ev.cast (a := ((some (.int (am_b false))), am_SH, hp)) (by subst h; rfl) (am_Ev.ret hcd rfl)
        · refine am_Ev.f hcd (c := 90 < a0) (s1 := (12, [(0, .int a0)], [], am_SH, hp)) rfl c31 ?_
          refine am_Ev.go hcd 2 (s' := (15, [(0, .int a0)], [.int 1], am_SH, hp)) rfl ?_
          exact am_Ev.cast (a := ((some (.int (am_b true))), am_SH, hp)) (by subst h; rfl) (am_Ev.ret hcd rfl)
    · refine am_Ev.f hcd (c := 122 < a0) (s1 := (12, [(0, .int a0)], [], am_SH, hp)) rfl c22 ?_
      refine am_Ev.go hcd 2 (s' := (15, [(0, .int a0)], [.int 1], am_SH, hp)) rfl ?_
      exact am_Ev.cast (a := ((some (.int (am_b true))), am_SH, hp)) (by subst h; rfl) (am_Ev.ret hcd rfl)
def xt_endOfLetters (a0 : Int32) (f : (Nat → Nat → Int32)) : Option (Int32) :=
  am_loop (fun (s1 : Int32) => ((
    if s1 < f 123 0 then (
      if am_in s1 400 = true then (
      if (xt_isLetter (f 124 s1.toNatClampNeg)) = true then (
        am_let (s1 + 1 : Int32) fun t3 =>
        some (.inl t3))
      else (
        some (.inr s1))) else none)
    else (
      some (.inr s1))) : Option ((Int32) ⊕ (Int32)))) am_F a0
set_option maxRecDepth 100000 in
set_option maxHeartbeats 4000000 in
theorem xt_endOfLetters_ok {sc : Nat × (Nat → Int32)} (d : Nat) (a0 : Int32) (f g : (Nat → Nat → Int32)) (r : Int32) (h : xt_endOfLetters a0 f = some r) : am_Ev sc (d + 1) 115 (0, [(0, .ref 123), (1, .int a0)], [], am_SH, (f, g)) ((some (.int r)), am_SH, (f, g)) := by
  have hcd : am_code 115 = am_c115 := rfl
  unfold xt_endOfLetters at h
  refine am_Ev.go hcd 2 (s' := (2, [(0, .ref 123), (1, .int a0), (2, .int a0)], [], am_SH, (f, g))) rfl ?_
  refine am_Ev.weak' (am_loop_ok (G := fun (s1 : Int32) => am_Ev sc (d + 1) 115 (2, [(0, .ref 123), (2, .int s1)], [], am_SH, (f, g)) ((some (.int r)), am_SH, (f, g))) (Z := fun (v : Int32) => (((some (.int v)), am_SH, (f, g)) : am_R) = ((some (.int r)), am_SH, (f, g))) ?_ am_F a0 r h rfl) (am_sub_cons rfl (am_sub_cons rfl am_sub_nil)) rfl
  intro s1 q1 h hI1 hZ1
  show am_Ev sc (d + 1) 115 (2, [(0, .ref 123), (2, .int s1)], [], am_SH, (f, g)) ((some (.int r)), am_SH, (f, g))
  refine am_Ev.go hcd 3 (s' := (5, [(0, .ref 123), (2, .int s1)], [.int (f 123 0), .int s1], am_SH, (f, g))) rfl ?_
  rcases am_ite h with ⟨c6, h⟩ | ⟨c6, h⟩
  · refine am_Ev.t hcd (c := s1 < f 123 0) (s1 := (6, [(0, .ref 123), (2, .int s1)], [], am_SH, (f, g))) rfl c6 ?_
    refine am_Ev.go hcd 3 (s' := (9, [(0, .ref 123), (2, .int s1)], [.int s1, .ref 124], am_SH, (f, g))) rfl ?_
    obtain ⟨c9, h⟩ := am_grd h
    refine am_Ev.t hcd (c := am_in s1 400 = true) (s1 := (10, [(0, .ref 123), (2, .int s1)], [.int (f 124 s1.toNatClampNeg)], am_SH, (f, g))) rfl c9 ?_
    refine am_Ev.call hcd (a := 119) (s0 := (0, [(0, .int (f 124 s1.toNatClampNeg))], [], am_SH, (f, g))) (q := ((some (.int (am_b (xt_isLetter (f 124 s1.toNatClampNeg))))), am_SH, (f, g))) (s1 := (11, [(0, .ref 123), (2, .int s1)], [.int (am_b (xt_isLetter (f 124 s1.toNatClampNeg)))], am_SH, (f, g))) rfl rfl (xt_isLetter_ok (d) (f 124 s1.toNatClampNeg) (f, g)) ?_
    rcases am_ite h with ⟨c13, h⟩ | ⟨c13, h⟩
    · refine am_Ev.f hcd (c := am_b (xt_isLetter (f 124 s1.toNatClampNeg)) = 0) (s1 := (12, [(0, .ref 123), (2, .int s1)], [], am_SH, (f, g))) rfl (am_b_t c13) ?_
      obtain ⟨t3, Et3, h⟩ := am_let_eq h
      refine am_Ev.go hcd 1 (s' := (13, [(0, .ref 123), (2, .int t3)], [], am_SH, (f, g))) (by subst Et3; exact rfl) ?_
      refine am_Ev.go hcd 1 (s' := (2, [(0, .ref 123), (2, .int t3)], [], am_SH, (f, g))) rfl ?_
      exact am_Ev.weak' (hI1 t3 (Option.some.inj h).symm) (am_sub_cons rfl (am_sub_cons rfl am_sub_nil)) rfl
    · refine am_Ev.t hcd (c := am_b (xt_isLetter (f 124 s1.toNatClampNeg)) = 0) (s1 := (14, [(0, .ref 123), (2, .int s1)], [], am_SH, (f, g))) rfl (am_b_f c13) ?_
      refine am_Ev.go hcd 1 (s' := (15, [(0, .ref 123), (2, .int s1)], [.int s1], am_SH, (f, g))) rfl ?_
      exact am_Ev.cast (a := ((some (.int s1)), am_SH, (f, g))) (hZ1 _ (Option.some.inj h).symm) (am_Ev.ret hcd rfl)
  · refine am_Ev.f hcd (c := s1 < f 123 0) (s1 := (14, [(0, .ref 123), (2, .int s1)], [], am_SH, (f, g))) rfl c6 ?_
    refine am_Ev.go hcd 1 (s' := (15, [(0, .ref 123), (2, .int s1)], [.int s1], am_SH, (f, g))) rfl ?_
    exact am_Ev.cast (a := ((some (.int s1)), am_SH, (f, g))) (hZ1 _ (Option.some.inj h).symm) (am_Ev.ret hcd rfl)
def xt_keyword (a0 : Nat) (a1 : Int32) (a2 : Int32) (f : (Nat → Nat → Int32)) : Option (Int32) :=
  am_loop (fun (s1 : Int32 × Int32) => ((
    if a0 < am_strs.length then (
    if s1.2 < (nI (am_tl a0)) then (
      (am_loop (fun (s2 : Int32 × Int32) => ((
        if s2.2 < a2 then (
          if a0 < am_strs.length then (
          if s2.1 < (nI (am_tl a0)) then (
            if a0 < am_strs.length ∧ am_in s2.1 (am_tl a0) = true then (
            if am_in s2.2 400 = true then (
            if (am_tc a0 s2.1.toNatClampNeg) = f 124 s2.2.toNatClampNeg then (
              am_let (s2.1 + 1 : Int32) fun t3 =>
              am_let (s2.2 + 1 : Int32) fun t4 =>
              some (.inl (t3, t4)))
            else (
              some (.inr (s2.1, s2.2)))) else none) else none)
          else (
            some (.inr (s2.1, s2.2)))) else none)
        else (
          some (.inr (s2.1, s2.2)))) : Option ((Int32 × Int32) ⊕ (Int32 × Int32)))) am_F (s1.2, a1)).bind fun e5 =>
      if e5.2 = a2 then (
        if a0 < am_strs.length then (
        if e5.1 < (nI (am_tl a0)) then (
          if a0 < am_strs.length ∧ am_in e5.1 (am_tl a0) = true then (
          if (am_tc a0 e5.1.toNatClampNeg) = 32 then (
            some (.inr s1.1))
          else (
            (am_loop (fun (s6 : Int32) => ((
              if a0 < am_strs.length then (
              if s6 < (nI (am_tl a0)) then (
                if a0 < am_strs.length ∧ am_in s6 (am_tl a0) = true then (
                if (am_tc a0 s6.toNatClampNeg) = 32 then (
                  some (.inr s6))
                else (
                  am_let (s6 + 1 : Int32) fun t7 =>
                  some (.inl t7))) else none)
              else (
                some (.inr s6))) else none) : Option ((Int32) ⊕ (Int32)))) am_F e5.1).bind fun e8 =>
            am_let (e8 + 1 : Int32) fun t9 =>
            am_let (s1.1 + 1 : Int32) fun t10 =>
            some (.inl (t10, t9)))) else none)
        else (
          some (.inr s1.1))) else none)
      else (
        (am_loop (fun (s11 : Int32) => ((
          if a0 < am_strs.length then (
          if s11 < (nI (am_tl a0)) then (
            if a0 < am_strs.length ∧ am_in s11 (am_tl a0) = true then (
            if (am_tc a0 s11.toNatClampNeg) = 32 then (
              some (.inr s11))
            else (
              am_let (s11 + 1 : Int32) fun t12 =>
              some (.inl t12))) else none)
          else (
            some (.inr s11))) else none) : Option ((Int32) ⊕ (Int32)))) am_F e5.1).bind fun e13 =>
        am_let (e13 + 1 : Int32) fun t14 =>
        am_let (s1.1 + 1 : Int32) fun t15 =>
        some (.inl (t15, t14))))
    else (
      some (.inr (-1)))) else none) : Option ((Int32 × Int32) ⊕ (Int32)))) am_F (0, 0)
set_option maxRecDepth 100000 in
set_option maxHeartbeats 4000000 in
theorem xt_keyword_ok {sc : Nat × (Nat → Int32)} (d : Nat) (a0 : Nat) (a1 : Int32) (a2 : Int32) (f g : (Nat → Nat → Int32)) (r : Int32) (h : xt_keyword a0 a1 a2 f = some r) : am_Ev sc (d + 1) 118 (0, [(0, .ref 123), (1, .retAddr a0), (2, .int a1), (3, .int a2)], [], am_SH, (f, g)) ((some (.int r)), am_SH, (f, g)) := by
  have hcd : am_code 118 = am_c118 := rfl
  unfold xt_keyword at h
  refine am_Ev.go hcd 4 (s' := (4, [(0, .ref 123), (1, .retAddr a0), (2, .int a1), (3, .int a2), (4, .int 0), (5, .int 0)], [], am_SH, (f, g))) rfl ?_
  refine am_Ev.weak' (am_loop_ok (G := fun (s1 : Int32 × Int32) => am_Ev sc (d + 1) 118 (4, [(0, .ref 123), (1, .retAddr a0), (2, .int a1), (3, .int a2), (4, .int s1.1), (5, .int s1.2)], [], am_SH, (f, g)) ((some (.int r)), am_SH, (f, g))) (Z := fun (v : Int32) => (((some (.int v)), am_SH, (f, g)) : am_R) = ((some (.int r)), am_SH, (f, g))) ?_ am_F (0, 0) r h rfl) (am_sub_cons rfl (am_sub_cons rfl (am_sub_cons rfl (am_sub_cons rfl (am_sub_cons rfl (am_sub_cons rfl am_sub_nil)))))) rfl
  intro s1 q1 h hI1 hZ1
  show am_Ev sc (d + 1) 118 (4, [(0, .ref 123), (1, .retAddr a0), (2, .int a1), (3, .int a2), (4, .int s1.1), (5, .int s1.2)], [], am_SH, (f, g)) ((some (.int r)), am_SH, (f, g))
  refine am_Ev.go hcd 2 (s' := (6, [(0, .ref 123), (1, .retAddr a0), (2, .int a1), (3, .int a2), (4, .int s1.1), (5, .int s1.2)], [.retAddr a0, .int s1.2], am_SH, (f, g))) rfl ?_
  obtain ⟨c6, h⟩ := am_grd h
  refine am_Ev.jdkt hcd (c := a0 < am_strs.length) (s1 := (7, [(0, .ref 123), (1, .retAddr a0), (2, .int a1), (3, .int a2), (4, .int s1.1), (5, .int s1.2)], [.int (nI (am_tl a0)), .int s1.2], am_SH, (f, g))) rfl c6 ?_
  rcases am_ite h with ⟨c9, h⟩ | ⟨c9, h⟩
  · refine am_Ev.t hcd (c := s1.2 < (nI (am_tl a0))) (s1 := (8, [(0, .ref 123), (1, .retAddr a0), (2, .int a1), (3, .int a2), (4, .int s1.1), (5, .int s1.2)], [], am_SH, (f, g))) rfl c9 ?_
    refine am_Ev.go hcd 2 (s' := (10, [(0, .ref 123), (1, .retAddr a0), (2, .int a1), (3, .int a2), (4, .int s1.1), (5, .int s1.2), (6, .int a1)], [], am_SH, (f, g))) rfl ?_
    obtain ⟨e5, he5, h⟩ := am_bind_some h
    have hK2 : (fun (e5 : Int32 × Int32) => am_Ev sc (d + 1) 118 (28, [(0, .ref 123), (1, .retAddr a0), (2, .int a1), (3, .int a2), (4, .int s1.1), (5, .int e5.1), (6, .int e5.2)], [], am_SH, (f, g)) ((some (.int r)), am_SH, (f, g))) e5 := by
      show am_Ev sc (d + 1) 118 (28, [(0, .ref 123), (1, .retAddr a0), (2, .int a1), (3, .int a2), (4, .int s1.1), (5, .int e5.1), (6, .int e5.2)], [], am_SH, (f, g)) ((some (.int r)), am_SH, (f, g))
      refine am_Ev.go hcd 2 (s' := (30, [(0, .ref 123), (1, .retAddr a0), (2, .int a1), (3, .int a2), (4, .int s1.1), (5, .int e5.1), (6, .int e5.2)], [.int a2, .int e5.2], am_SH, (f, g))) rfl ?_
      rcases am_ite h with ⟨c15, h⟩ | ⟨c15, h⟩
      · refine am_Ev.t hcd (c := e5.2 = a2) (s1 := (31, [(0, .ref 123), (1, .retAddr a0), (2, .int a1), (3, .int a2), (4, .int s1.1), (5, .int e5.1), (6, .int e5.2)], [], am_SH, (f, g))) rfl c15 ?_
        refine am_Ev.go hcd 2 (s' := (33, [(0, .ref 123), (1, .retAddr a0), (2, .int a1), (3, .int a2), (4, .int s1.1), (5, .int e5.1), (6, .int e5.2)], [.retAddr a0, .int e5.1], am_SH, (f, g))) rfl ?_
        obtain ⟨c18, h⟩ := am_grd h
        refine am_Ev.jdkt hcd (c := a0 < am_strs.length) (s1 := (34, [(0, .ref 123), (1, .retAddr a0), (2, .int a1), (3, .int a2), (4, .int s1.1), (5, .int e5.1), (6, .int e5.2)], [.int (nI (am_tl a0)), .int e5.1], am_SH, (f, g))) rfl c18 ?_
        rcases am_ite h with ⟨c21, h⟩ | ⟨c21, h⟩
        · refine am_Ev.t hcd (c := e5.1 < (nI (am_tl a0))) (s1 := (35, [(0, .ref 123), (1, .retAddr a0), (2, .int a1), (3, .int a2), (4, .int s1.1), (5, .int e5.1), (6, .int e5.2)], [], am_SH, (f, g))) rfl c21 ?_
          refine am_Ev.go hcd 2 (s' := (37, [(0, .ref 123), (1, .retAddr a0), (2, .int a1), (3, .int a2), (4, .int s1.1), (5, .int e5.1), (6, .int e5.2)], [.int e5.1, .retAddr a0], am_SH, (f, g))) rfl ?_
          obtain ⟨c23, h⟩ := am_grd h
          refine am_Ev.jdkt hcd (c := a0 < am_strs.length ∧ am_in e5.1 (am_tl a0) = true) (s1 := (38, [(0, .ref 123), (1, .retAddr a0), (2, .int a1), (3, .int a2), (4, .int s1.1), (5, .int e5.1), (6, .int e5.2)], [.int (am_tc a0 e5.1.toNatClampNeg)], am_SH, (f, g))) rfl c23 ?_
          refine am_Ev.go hcd 1 (s' := (39, [(0, .ref 123), (1, .retAddr a0), (2, .int a1), (3, .int a2), (4, .int s1.1), (5, .int e5.1), (6, .int e5.2)], [.int 32, .int (am_tc a0 e5.1.toNatClampNeg)], am_SH, (f, g))) rfl ?_
          rcases am_ite h with ⟨c26, h⟩ | ⟨c26, h⟩
          · refine am_Ev.t hcd (c := (am_tc a0 e5.1.toNatClampNeg) = 32) (s1 := (40, [(0, .ref 123), (1, .retAddr a0), (2, .int a1), (3, .int a2), (4, .int s1.1), (5, .int e5.1), (6, .int e5.2)], [], am_SH, (f, g))) rfl c26 ?_
            refine am_Ev.go hcd 1 (s' := (41, [(0, .ref 123), (1, .retAddr a0), (2, .int a1), (3, .int a2), (4, .int s1.1), (5, .int e5.1), (6, .int e5.2)], [.int s1.1], am_SH, (f, g))) rfl ?_
            exact am_Ev.cast (a := ((some (.int s1.1)), am_SH, (f, g))) (hZ1 _ (Option.some.inj h).symm) (am_Ev.ret hcd rfl)
          · refine am_Ev.f hcd (c := (am_tc a0 e5.1.toNatClampNeg) = 32) (s1 := (42, [(0, .ref 123), (1, .retAddr a0), (2, .int a1), (3, .int a2), (4, .int s1.1), (5, .int e5.1), (6, .int e5.2)], [], am_SH, (f, g))) rfl c26 ?_
            obtain ⟨e8, he8, h⟩ := am_bind_some h
            have hK6 : (fun (e8 : Int32) => am_Ev sc (d + 1) 118 (53, [(0, .ref 123), (1, .retAddr a0), (2, .int a1), (3, .int a2), (4, .int s1.1), (5, .int e8)], [], am_SH, (f, g)) ((some (.int r)), am_SH, (f, g))) e8 := by
              show am_Ev sc (d + 1) 118 (53, [(0, .ref 123), (1, .retAddr a0), (2, .int a1), (3, .int a2), (4, .int s1.1), (5, .int e8)], [], am_SH, (f, g)) ((some (.int r)), am_SH, (f, g))
              obtain ⟨t9, Et9, h⟩ := am_let_eq h
              refine am_Ev.go hcd 1 (s' := (54, [(0, .ref 123), (1, .retAddr a0), (2, .int a1), (3, .int a2), (4, .int s1.1), (5, .int t9)], [], am_SH, (f, g))) (by subst Et9; exact rfl) ?_
              obtain ⟨t10, Et10, h⟩ := am_let_eq h
              refine am_Ev.go hcd 1 (s' := (55, [(0, .ref 123), (1, .retAddr a0), (2, .int a1), (3, .int a2), (4, .int t10), (5, .int t9)], [], am_SH, (f, g))) (by subst Et10; exact rfl) ?_
              refine am_Ev.go hcd 1 (s' := (4, [(0, .ref 123), (1, .retAddr a0), (2, .int a1), (3, .int a2), (4, .int t10), (5, .int t9)], [], am_SH, (f, g))) rfl ?_
              exact am_Ev.weak' (hI1 (t10, t9) (Option.some.inj h).symm) (am_sub_cons rfl (am_sub_cons rfl (am_sub_cons rfl (am_sub_cons rfl (am_sub_cons rfl (am_sub_cons rfl am_sub_nil)))))) rfl
            refine am_Ev.weak' (am_loop_ok (G := fun (s6 : Int32) => am_Ev sc (d + 1) 118 (42, [(0, .ref 123), (1, .retAddr a0), (2, .int a1), (3, .int a2), (4, .int s1.1), (5, .int s6)], [], am_SH, (f, g)) ((some (.int r)), am_SH, (f, g))) (Z := fun (e8 : Int32) => am_Ev sc (d + 1) 118 (53, [(0, .ref 123), (1, .retAddr a0), (2, .int a1), (3, .int a2), (4, .int s1.1), (5, .int e8)], [], am_SH, (f, g)) ((some (.int r)), am_SH, (f, g))) ?_ am_F e5.1 e8 he8 hK6) (am_sub_cons rfl (am_sub_cons rfl (am_sub_cons rfl (am_sub_cons rfl (am_sub_cons rfl (am_sub_cons rfl am_sub_nil)))))) rfl
            intro s6 q6 h hI6 hZ6
            show am_Ev sc (d + 1) 118 (42, [(0, .ref 123), (1, .retAddr a0), (2, .int a1), (3, .int a2), (4, .int s1.1), (5, .int s6)], [], am_SH, (f, g)) ((some (.int r)), am_SH, (f, g))
            refine am_Ev.go hcd 2 (s' := (44, [(0, .ref 123), (1, .retAddr a0), (2, .int a1), (3, .int a2), (4, .int s1.1), (5, .int s6)], [.retAddr a0, .int s6], am_SH, (f, g))) rfl ?_
            obtain ⟨c44, h⟩ := am_grd h
            refine am_Ev.jdkt hcd (c := a0 < am_strs.length) (s1 := (45, [(0, .ref 123), (1, .retAddr a0), (2, .int a1), (3, .int a2), (4, .int s1.1), (5, .int s6)], [.int (nI (am_tl a0)), .int s6], am_SH, (f, g))) rfl c44 ?_
            rcases am_ite h with ⟨c47, h⟩ | ⟨c47, h⟩
            · refine am_Ev.t hcd (c := s6 < (nI (am_tl a0))) (s1 := (46, [(0, .ref 123), (1, .retAddr a0), (2, .int a1), (3, .int a2), (4, .int s1.1), (5, .int s6)], [], am_SH, (f, g))) rfl c47 ?_
              refine am_Ev.go hcd 2 (s' := (48, [(0, .ref 123), (1, .retAddr a0), (2, .int a1), (3, .int a2), (4, .int s1.1), (5, .int s6)], [.int s6, .retAddr a0], am_SH, (f, g))) rfl ?_
              obtain ⟨c49, h⟩ := am_grd h
              refine am_Ev.jdkt hcd (c := a0 < am_strs.length ∧ am_in s6 (am_tl a0) = true) (s1 := (49, [(0, .ref 123), (1, .retAddr a0), (2, .int a1), (3, .int a2), (4, .int s1.1), (5, .int s6)], [.int (am_tc a0 s6.toNatClampNeg)], am_SH, (f, g))) rfl c49 ?_
              refine am_Ev.go hcd 1 (s' := (50, [(0, .ref 123), (1, .retAddr a0), (2, .int a1), (3, .int a2), (4, .int s1.1), (5, .int s6)], [.int 32, .int (am_tc a0 s6.toNatClampNeg)], am_SH, (f, g))) rfl ?_
              rcases am_ite h with ⟨c52, h⟩ | ⟨c52, h⟩
              · refine am_Ev.t hcd (c := (am_tc a0 s6.toNatClampNeg) = 32) (s1 := (53, [(0, .ref 123), (1, .retAddr a0), (2, .int a1), (3, .int a2), (4, .int s1.1), (5, .int s6)], [], am_SH, (f, g))) rfl c52 ?_
                exact am_Ev.weak' (hZ6 s6 (Option.some.inj h).symm) (am_sub_cons rfl (am_sub_cons rfl (am_sub_cons rfl (am_sub_cons rfl (am_sub_cons rfl (am_sub_cons rfl am_sub_nil)))))) rfl
              · refine am_Ev.f hcd (c := (am_tc a0 s6.toNatClampNeg) = 32) (s1 := (51, [(0, .ref 123), (1, .retAddr a0), (2, .int a1), (3, .int a2), (4, .int s1.1), (5, .int s6)], [], am_SH, (f, g))) rfl c52 ?_
                obtain ⟨t7, Et7, h⟩ := am_let_eq h
                refine am_Ev.go hcd 1 (s' := (52, [(0, .ref 123), (1, .retAddr a0), (2, .int a1), (3, .int a2), (4, .int s1.1), (5, .int t7)], [], am_SH, (f, g))) (by subst Et7; exact rfl) ?_
                refine am_Ev.go hcd 1 (s' := (42, [(0, .ref 123), (1, .retAddr a0), (2, .int a1), (3, .int a2), (4, .int s1.1), (5, .int t7)], [], am_SH, (f, g))) rfl ?_
                exact am_Ev.weak' (hI6 t7 (Option.some.inj h).symm) (am_sub_cons rfl (am_sub_cons rfl (am_sub_cons rfl (am_sub_cons rfl (am_sub_cons rfl (am_sub_cons rfl am_sub_nil)))))) rfl
            · refine am_Ev.f hcd (c := s6 < (nI (am_tl a0))) (s1 := (53, [(0, .ref 123), (1, .retAddr a0), (2, .int a1), (3, .int a2), (4, .int s1.1), (5, .int s6)], [], am_SH, (f, g))) rfl c47 ?_
              exact am_Ev.weak' (hZ6 s6 (Option.some.inj h).symm) (am_sub_cons rfl (am_sub_cons rfl (am_sub_cons rfl (am_sub_cons rfl (am_sub_cons rfl (am_sub_cons rfl am_sub_nil)))))) rfl
        · refine am_Ev.f hcd (c := e5.1 < (nI (am_tl a0))) (s1 := (40, [(0, .ref 123), (1, .retAddr a0), (2, .int a1), (3, .int a2), (4, .int s1.1), (5, .int e5.1), (6, .int e5.2)], [], am_SH, (f, g))) rfl c21 ?_
          refine am_Ev.go hcd 1 (s' := (41, [(0, .ref 123), (1, .retAddr a0), (2, .int a1), (3, .int a2), (4, .int s1.1), (5, .int e5.1), (6, .int e5.2)], [.int s1.1], am_SH, (f, g))) rfl ?_
          exact am_Ev.cast (a := ((some (.int s1.1)), am_SH, (f, g))) (hZ1 _ (Option.some.inj h).symm) (am_Ev.ret hcd rfl)
      · refine am_Ev.f hcd (c := e5.2 = a2) (s1 := (42, [(0, .ref 123), (1, .retAddr a0), (2, .int a1), (3, .int a2), (4, .int s1.1), (5, .int e5.1), (6, .int e5.2)], [], am_SH, (f, g))) rfl c15 ?_
        obtain ⟨e13, he13, h⟩ := am_bind_some h
        have hK11 : (fun (e13 : Int32) => am_Ev sc (d + 1) 118 (53, [(0, .ref 123), (1, .retAddr a0), (2, .int a1), (3, .int a2), (4, .int s1.1), (5, .int e13)], [], am_SH, (f, g)) ((some (.int r)), am_SH, (f, g))) e13 := by
          show am_Ev sc (d + 1) 118 (53, [(0, .ref 123), (1, .retAddr a0), (2, .int a1), (3, .int a2), (4, .int s1.1), (5, .int e13)], [], am_SH, (f, g)) ((some (.int r)), am_SH, (f, g))
          obtain ⟨t14, Et14, h⟩ := am_let_eq h
          refine am_Ev.go hcd 1 (s' := (54, [(0, .ref 123), (1, .retAddr a0), (2, .int a1), (3, .int a2), (4, .int s1.1), (5, .int t14)], [], am_SH, (f, g))) (by subst Et14; exact rfl) ?_
          obtain ⟨t15, Et15, h⟩ := am_let_eq h
          refine am_Ev.go hcd 1 (s' := (55, [(0, .ref 123), (1, .retAddr a0), (2, .int a1), (3, .int a2), (4, .int t15), (5, .int t14)], [], am_SH, (f, g))) (by subst Et15; exact rfl) ?_
          refine am_Ev.go hcd 1 (s' := (4, [(0, .ref 123), (1, .retAddr a0), (2, .int a1), (3, .int a2), (4, .int t15), (5, .int t14)], [], am_SH, (f, g))) rfl ?_
          exact am_Ev.weak' (hI1 (t15, t14) (Option.some.inj h).symm) (am_sub_cons rfl (am_sub_cons rfl (am_sub_cons rfl (am_sub_cons rfl (am_sub_cons rfl (am_sub_cons rfl am_sub_nil)))))) rfl
        refine am_Ev.weak' (am_loop_ok (G := fun (s11 : Int32) => am_Ev sc (d + 1) 118 (42, [(0, .ref 123), (1, .retAddr a0), (2, .int a1), (3, .int a2), (4, .int s1.1), (5, .int s11)], [], am_SH, (f, g)) ((some (.int r)), am_SH, (f, g))) (Z := fun (e13 : Int32) => am_Ev sc (d + 1) 118 (53, [(0, .ref 123), (1, .retAddr a0), (2, .int a1), (3, .int a2), (4, .int s1.1), (5, .int e13)], [], am_SH, (f, g)) ((some (.int r)), am_SH, (f, g))) ?_ am_F e5.1 e13 he13 hK11) (am_sub_cons rfl (am_sub_cons rfl (am_sub_cons rfl (am_sub_cons rfl (am_sub_cons rfl (am_sub_cons rfl am_sub_nil)))))) rfl
        intro s11 q11 h hI11 hZ11
        show am_Ev sc (d + 1) 118 (42, [(0, .ref 123), (1, .retAddr a0), (2, .int a1), (3, .int a2), (4, .int s1.1), (5, .int s11)], [], am_SH, (f, g)) ((some (.int r)), am_SH, (f, g))
        refine am_Ev.go hcd 2 (s' := (44, [(0, .ref 123), (1, .retAddr a0), (2, .int a1), (3, .int a2), (4, .int s1.1), (5, .int s11)], [.retAddr a0, .int s11], am_SH, (f, g))) rfl ?_
        obtain ⟨c79, h⟩ := am_grd h
        refine am_Ev.jdkt hcd (c := a0 < am_strs.length) (s1 := (45, [(0, .ref 123), (1, .retAddr a0), (2, .int a1), (3, .int a2), (4, .int s1.1), (5, .int s11)], [.int (nI (am_tl a0)), .int s11], am_SH, (f, g))) rfl c79 ?_
        rcases am_ite h with ⟨c82, h⟩ | ⟨c82, h⟩
        · refine am_Ev.t hcd (c := s11 < (nI (am_tl a0))) (s1 := (46, [(0, .ref 123), (1, .retAddr a0), (2, .int a1), (3, .int a2), (4, .int s1.1), (5, .int s11)], [], am_SH, (f, g))) rfl c82 ?_
          refine am_Ev.go hcd 2 (s' := (48, [(0, .ref 123), (1, .retAddr a0), (2, .int a1), (3, .int a2), (4, .int s1.1), (5, .int s11)], [.int s11, .retAddr a0], am_SH, (f, g))) rfl ?_
          obtain ⟨c84, h⟩ := am_grd h
          refine am_Ev.jdkt hcd (c := a0 < am_strs.length ∧ am_in s11 (am_tl a0) = true) (s1 := (49, [(0, .ref 123), (1, .retAddr a0), (2, .int a1), (3, .int a2), (4, .int s1.1), (5, .int s11)], [.int (am_tc a0 s11.toNatClampNeg)], am_SH, (f, g))) rfl c84 ?_
          refine am_Ev.go hcd 1 (s' := (50, [(0, .ref 123), (1, .retAddr a0), (2, .int a1), (3, .int a2), (4, .int s1.1), (5, .int s11)], [.int 32, .int (am_tc a0 s11.toNatClampNeg)], am_SH, (f, g))) rfl ?_
          rcases am_ite h with ⟨c87, h⟩ | ⟨c87, h⟩
          · refine am_Ev.t hcd (c := (am_tc a0 s11.toNatClampNeg) = 32) (s1 := (53, [(0, .ref 123), (1, .retAddr a0), (2, .int a1), (3, .int a2), (4, .int s1.1), (5, .int s11)], [], am_SH, (f, g))) rfl c87 ?_
            exact am_Ev.weak' (hZ11 s11 (Option.some.inj h).symm) (am_sub_cons rfl (am_sub_cons rfl (am_sub_cons rfl (am_sub_cons rfl (am_sub_cons rfl (am_sub_cons rfl am_sub_nil)))))) rfl
          · refine am_Ev.f hcd (c := (am_tc a0 s11.toNatClampNeg) = 32) (s1 := (51, [(0, .ref 123), (1, .retAddr a0), (2, .int a1), (3, .int a2), (4, .int s1.1), (5, .int s11)], [], am_SH, (f, g))) rfl c87 ?_
            obtain ⟨t12, Et12, h⟩ := am_let_eq h
            refine am_Ev.go hcd 1 (s' := (52, [(0, .ref 123), (1, .retAddr a0), (2, .int a1), (3, .int a2), (4, .int s1.1), (5, .int t12)], [], am_SH, (f, g))) (by subst Et12; exact rfl) ?_
            refine am_Ev.go hcd 1 (s' := (42, [(0, .ref 123), (1, .retAddr a0), (2, .int a1), (3, .int a2), (4, .int s1.1), (5, .int t12)], [], am_SH, (f, g))) rfl ?_
            exact am_Ev.weak' (hI11 t12 (Option.some.inj h).symm) (am_sub_cons rfl (am_sub_cons rfl (am_sub_cons rfl (am_sub_cons rfl (am_sub_cons rfl (am_sub_cons rfl am_sub_nil)))))) rfl
        · refine am_Ev.f hcd (c := s11 < (nI (am_tl a0))) (s1 := (53, [(0, .ref 123), (1, .retAddr a0), (2, .int a1), (3, .int a2), (4, .int s1.1), (5, .int s11)], [], am_SH, (f, g))) rfl c82 ?_
          exact am_Ev.weak' (hZ11 s11 (Option.some.inj h).symm) (am_sub_cons rfl (am_sub_cons rfl (am_sub_cons rfl (am_sub_cons rfl (am_sub_cons rfl (am_sub_cons rfl am_sub_nil)))))) rfl
    refine am_Ev.weak' (am_loop_ok (G := fun (s2 : Int32 × Int32) => am_Ev sc (d + 1) 118 (10, [(0, .ref 123), (1, .retAddr a0), (2, .int a1), (3, .int a2), (4, .int s1.1), (5, .int s2.1), (6, .int s2.2)], [], am_SH, (f, g)) ((some (.int r)), am_SH, (f, g))) (Z := fun (e5 : Int32 × Int32) => am_Ev sc (d + 1) 118 (28, [(0, .ref 123), (1, .retAddr a0), (2, .int a1), (3, .int a2), (4, .int s1.1), (5, .int e5.1), (6, .int e5.2)], [], am_SH, (f, g)) ((some (.int r)), am_SH, (f, g))) ?_ am_F (s1.2, a1) e5 he5 hK2) (am_sub_cons rfl (am_sub_cons rfl (am_sub_cons rfl (am_sub_cons rfl (am_sub_cons rfl (am_sub_cons rfl (am_sub_cons rfl am_sub_nil))))))) rfl
    intro s2 q2 h hI2 hZ2
    show am_Ev sc (d + 1) 118 (10, [(0, .ref 123), (1, .retAddr a0), (2, .int a1), (3, .int a2), (4, .int s1.1), (5, .int s2.1), (6, .int s2.2)], [], am_SH, (f, g)) ((some (.int r)), am_SH, (f, g))
    refine am_Ev.go hcd 2 (s' := (12, [(0, .ref 123), (1, .retAddr a0), (2, .int a1), (3, .int a2), (4, .int s1.1), (5, .int s2.1), (6, .int s2.2)], [.int a2, .int s2.2], am_SH, (f, g))) rfl ?_
    rcases am_ite h with ⟨c101, h⟩ | ⟨c101, h⟩
    · refine am_Ev.t hcd (c := s2.2 < a2) (s1 := (13, [(0, .ref 123), (1, .retAddr a0), (2, .int a1), (3, .int a2), (4, .int s1.1), (5, .int s2.1), (6, .int s2.2)], [], am_SH, (f, g))) rfl c101 ?_
      refine am_Ev.go hcd 2 (s' := (15, [(0, .ref 123), (1, .retAddr a0), (2, .int a1), (3, .int a2), (4, .int s1.1), (5, .int s2.1), (6, .int s2.2)], [.retAddr a0, .int s2.1], am_SH, (f, g))) rfl ?_
      obtain ⟨c104, h⟩ := am_grd h
      refine am_Ev.jdkt hcd (c := a0 < am_strs.length) (s1 := (16, [(0, .ref 123), (1, .retAddr a0), (2, .int a1), (3, .int a2), (4, .int s1.1), (5, .int s2.1), (6, .int s2.2)], [.int (nI (am_tl a0)), .int s2.1], am_SH, (f, g))) rfl c104 ?_
      rcases am_ite h with ⟨c107, h⟩ | ⟨c107, h⟩
      · refine am_Ev.t hcd (c := s2.1 < (nI (am_tl a0))) (s1 := (17, [(0, .ref 123), (1, .retAddr a0), (2, .int a1), (3, .int a2), (4, .int s1.1), (5, .int s2.1), (6, .int s2.2)], [], am_SH, (f, g))) rfl c107 ?_
        refine am_Ev.go hcd 2 (s' := (19, [(0, .ref 123), (1, .retAddr a0), (2, .int a1), (3, .int a2), (4, .int s1.1), (5, .int s2.1), (6, .int s2.2)], [.int s2.1, .retAddr a0], am_SH, (f, g))) rfl ?_
        obtain ⟨c109, h⟩ := am_grd h
        refine am_Ev.jdkt hcd (c := a0 < am_strs.length ∧ am_in s2.1 (am_tl a0) = true) (s1 := (20, [(0, .ref 123), (1, .retAddr a0), (2, .int a1), (3, .int a2), (4, .int s1.1), (5, .int s2.1), (6, .int s2.2)], [.int (am_tc a0 s2.1.toNatClampNeg)], am_SH, (f, g))) rfl c109 ?_
        refine am_Ev.go hcd 3 (s' := (23, [(0, .ref 123), (1, .retAddr a0), (2, .int a1), (3, .int a2), (4, .int s1.1), (5, .int s2.1), (6, .int s2.2)], [.int s2.2, .ref 124, .int (am_tc a0 s2.1.toNatClampNeg)], am_SH, (f, g))) rfl ?_
        obtain ⟨c112, h⟩ := am_grd h
        refine am_Ev.t hcd (c := am_in s2.2 400 = true) (s1 := (24, [(0, .ref 123), (1, .retAddr a0), (2, .int a1), (3, .int a2), (4, .int s1.1), (5, .int s2.1), (6, .int s2.2)], [.int (f 124 s2.2.toNatClampNeg), .int (am_tc a0 s2.1.toNatClampNeg)], am_SH, (f, g))) rfl c112 ?_
        rcases am_ite h with ⟨c115, h⟩ | ⟨c115, h⟩
        · refine am_Ev.t hcd (c := (am_tc a0 s2.1.toNatClampNeg) = f 124 s2.2.toNatClampNeg) (s1 := (25, [(0, .ref 123), (1, .retAddr a0), (2, .int a1), (3, .int a2), (4, .int s1.1), (5, .int s2.1), (6, .int s2.2)], [], am_SH, (f, g))) rfl c115 ?_
          obtain ⟨t3, Et3, h⟩ := am_let_eq h
          refine am_Ev.go hcd 1 (s' := (26, [(0, .ref 123), (1, .retAddr a0), (2, .int a1), (3, .int a2), (4, .int s1.1), (5, .int t3), (6, .int s2.2)], [], am_SH, (f, g))) (by subst Et3; exact rfl) ?_
          obtain ⟨t4, Et4, h⟩ := am_let_eq h
          refine am_Ev.go hcd 1 (s' := (27, [(0, .ref 123), (1, .retAddr a0), (2, .int a1), (3, .int a2), (4, .int s1.1), (5, .int t3), (6, .int t4)], [], am_SH, (f, g))) (by subst Et4; exact rfl) ?_
          refine am_Ev.go hcd 1 (s' := (10, [(0, .ref 123), (1, .retAddr a0), (2, .int a1), (3, .int a2), (4, .int s1.1), (5, .int t3), (6, .int t4)], [], am_SH, (f, g))) rfl ?_
          exact am_Ev.weak' (hI2 (t3, t4) (Option.some.inj h).symm) (am_sub_cons rfl (am_sub_cons rfl (am_sub_cons rfl (am_sub_cons rfl (am_sub_cons rfl (am_sub_cons rfl (am_sub_cons rfl am_sub_nil))))))) rfl
        · refine am_Ev.f hcd (c := (am_tc a0 s2.1.toNatClampNeg) = f 124 s2.2.toNatClampNeg) (s1 := (28, [(0, .ref 123), (1, .retAddr a0), (2, .int a1), (3, .int a2), (4, .int s1.1), (5, .int s2.1), (6, .int s2.2)], [], am_SH, (f, g))) rfl c115 ?_
          exact am_Ev.weak' (hZ2 (s2.1, s2.2) (Option.some.inj h).symm) (am_sub_cons rfl (am_sub_cons rfl (am_sub_cons rfl (am_sub_cons rfl (am_sub_cons rfl (am_sub_cons rfl (am_sub_cons rfl am_sub_nil))))))) rfl
      · refine am_Ev.f hcd (c := s2.1 < (nI (am_tl a0))) (s1 := (28, [(0, .ref 123), (1, .retAddr a0), (2, .int a1), (3, .int a2), (4, .int s1.1), (5, .int s2.1), (6, .int s2.2)], [], am_SH, (f, g))) rfl c107 ?_
        exact am_Ev.weak' (hZ2 (s2.1, s2.2) (Option.some.inj h).symm) (am_sub_cons rfl (am_sub_cons rfl (am_sub_cons rfl (am_sub_cons rfl (am_sub_cons rfl (am_sub_cons rfl (am_sub_cons rfl am_sub_nil))))))) rfl
    · refine am_Ev.f hcd (c := s2.2 < a2) (s1 := (28, [(0, .ref 123), (1, .retAddr a0), (2, .int a1), (3, .int a2), (4, .int s1.1), (5, .int s2.1), (6, .int s2.2)], [], am_SH, (f, g))) rfl c101 ?_
      exact am_Ev.weak' (hZ2 (s2.1, s2.2) (Option.some.inj h).symm) (am_sub_cons rfl (am_sub_cons rfl (am_sub_cons rfl (am_sub_cons rfl (am_sub_cons rfl (am_sub_cons rfl (am_sub_cons rfl am_sub_nil))))))) rfl
  · refine am_Ev.f hcd (c := s1.2 < (nI (am_tl a0))) (s1 := (56, [(0, .ref 123), (1, .retAddr a0), (2, .int a1), (3, .int a2), (4, .int s1.1), (5, .int s1.2)], [], am_SH, (f, g))) rfl c9 ?_
    refine am_Ev.go hcd 1 (s' := (57, [(0, .ref 123), (1, .retAddr a0), (2, .int a1), (3, .int a2), (4, .int s1.1), (5, .int s1.2)], [.int (-1)], am_SH, (f, g))) rfl ?_
    exact am_Ev.cast (a := ((some (.int (-1))), am_SH, (f, g))) (hZ1 _ (Option.some.inj h).symm) (am_Ev.ret hcd rfl)
def xt_isDigit (a0 : Int32)  : Bool :=
  if a0 < 48 then (
    false)
  else (
    if 57 < a0 then (
      false)
    else (
      true))
set_option maxRecDepth 100000 in
set_option maxHeartbeats 4000000 in
theorem xt_isDigit_ok {sc : Nat × (Nat → Int32)} (d : Nat) (a0 : Int32) (hp : am_H) : am_Ev sc (d) 120 (0, [(0, .int a0)], [], am_SH, hp) ((some (.int (am_b (xt_isDigit a0)))), am_SH, hp) := by
  have hcd : am_code 120 = am_c120 := rfl
  obtain ⟨r, h⟩ : ∃ r, r = xt_isDigit a0 := ⟨_, rfl⟩
  rw [← h]
  unfold xt_isDigit at h
  refine am_Ev.go hcd 2 (s' := (2, [(0, .int a0)], [.int 48, .int a0], am_SH, hp)) rfl ?_
  rcases am_itv h with ⟨c4, h⟩ | ⟨c4, h⟩
  · refine am_Ev.t hcd (c := a0 < 48) (s1 := (8, [(0, .int a0)], [], am_SH, hp)) rfl c4 ?_
    refine am_Ev.go hcd 1 (s' := (9, [(0, .int a0)], [.int 0], am_SH, hp)) rfl ?_
    exact am_Ev.cast (a := ((some (.int (am_b false))), am_SH, hp)) (by subst h; rfl) (am_Ev.ret hcd rfl)
  · refine am_Ev.f hcd (c := a0 < 48) (s1 := (3, [(0, .int a0)], [], am_SH, hp)) rfl c4 ?_
    refine am_Ev.go hcd 2 (s' := (5, [(0, .int a0)], [.int 57, .int a0], am_SH, hp)) rfl ?_
    rcases am_itv h with ⟨c10, h⟩ | ⟨c10, h⟩
    · refine am_Ev.t hcd (c := 57 < a0) (s1 := (8, [(0, .int a0)], [], am_SH, hp)) rfl c10 ?_
      refine am_Ev.go hcd 1 (s' := (9, [(0, .int a0)], [.int 0], am_SH, hp)) rfl ?_
      exact am_Ev.cast (a := ((some (.int (am_b false))), am_SH, hp)) (by subst h; rfl) (am_Ev.ret hcd rfl)
    · refine am_Ev.f hcd (c := 57 < a0) (s1 := (6, [(0, .int a0)], [], am_SH, hp)) rfl c10 ?_
      refine am_Ev.go hcd 2 (s' := (9, [(0, .int a0)], [.int 1], am_SH, hp)) rfl ?_
      exact am_Ev.cast (a := ((some (.int (am_b true))), am_SH, hp)) (by subst h; rfl) (am_Ev.ret hcd rfl)
def xt_endOfDigits (a0 : Int32) (f : (Nat → Nat → Int32)) : Option (Int32) :=
  am_loop (fun (s1 : Int32) => ((
    if s1 < f 123 0 then (
      if am_in s1 400 = true then (
      if (xt_isDigit (f 124 s1.toNatClampNeg)) = true then (
        am_let (s1 + 1 : Int32) fun t3 =>
        some (.inl t3))
      else (
        some (.inr s1))) else none)
    else (
      some (.inr s1))) : Option ((Int32) ⊕ (Int32)))) am_F a0
set_option maxRecDepth 100000 in
set_option maxHeartbeats 4000000 in
theorem xt_endOfDigits_ok {sc : Nat × (Nat → Int32)} (d : Nat) (a0 : Int32) (f g : (Nat → Nat → Int32)) (r : Int32) (h : xt_endOfDigits a0 f = some r) : am_Ev sc (d + 1) 116 (0, [(0, .ref 123), (1, .int a0)], [], am_SH, (f, g)) ((some (.int r)), am_SH, (f, g)) := by
  have hcd : am_code 116 = am_c116 := rfl
  unfold xt_endOfDigits at h
  refine am_Ev.go hcd 2 (s' := (2, [(0, .ref 123), (1, .int a0), (2, .int a0)], [], am_SH, (f, g))) rfl ?_
  refine am_Ev.weak' (am_loop_ok (G := fun (s1 : Int32) => am_Ev sc (d + 1) 116 (2, [(0, .ref 123), (2, .int s1)], [], am_SH, (f, g)) ((some (.int r)), am_SH, (f, g))) (Z := fun (v : Int32) => (((some (.int v)), am_SH, (f, g)) : am_R) = ((some (.int r)), am_SH, (f, g))) ?_ am_F a0 r h rfl) (am_sub_cons rfl (am_sub_cons rfl am_sub_nil)) rfl
  intro s1 q1 h hI1 hZ1
  show am_Ev sc (d + 1) 116 (2, [(0, .ref 123), (2, .int s1)], [], am_SH, (f, g)) ((some (.int r)), am_SH, (f, g))
  refine am_Ev.go hcd 3 (s' := (5, [(0, .ref 123), (2, .int s1)], [.int (f 123 0), .int s1], am_SH, (f, g))) rfl ?_
  rcases am_ite h with ⟨c6, h⟩ | ⟨c6, h⟩
  · refine am_Ev.t hcd (c := s1 < f 123 0) (s1 := (6, [(0, .ref 123), (2, .int s1)], [], am_SH, (f, g))) rfl c6 ?_
    refine am_Ev.go hcd 3 (s' := (9, [(0, .ref 123), (2, .int s1)], [.int s1, .ref 124], am_SH, (f, g))) rfl ?_
    obtain ⟨c9, h⟩ := am_grd h
    refine am_Ev.t hcd (c := am_in s1 400 = true) (s1 := (10, [(0, .ref 123), (2, .int s1)], [.int (f 124 s1.toNatClampNeg)], am_SH, (f, g))) rfl c9 ?_
    refine am_Ev.call hcd (a := 120) (s0 := (0, [(0, .int (f 124 s1.toNatClampNeg))], [], am_SH, (f, g))) (q := ((some (.int (am_b (xt_isDigit (f 124 s1.toNatClampNeg))))), am_SH, (f, g))) (s1 := (11, [(0, .ref 123), (2, .int s1)], [.int (am_b (xt_isDigit (f 124 s1.toNatClampNeg)))], am_SH, (f, g))) rfl rfl (xt_isDigit_ok (d) (f 124 s1.toNatClampNeg) (f, g)) ?_
    rcases am_ite h with ⟨c13, h⟩ | ⟨c13, h⟩
    · refine am_Ev.f hcd (c := am_b (xt_isDigit (f 124 s1.toNatClampNeg)) = 0) (s1 := (12, [(0, .ref 123), (2, .int s1)], [], am_SH, (f, g))) rfl (am_b_t c13) ?_
      obtain ⟨t3, Et3, h⟩ := am_let_eq h
      refine am_Ev.go hcd 1 (s' := (13, [(0, .ref 123), (2, .int t3)], [], am_SH, (f, g))) (by subst Et3; exact rfl) ?_
      refine am_Ev.go hcd 1 (s' := (2, [(0, .ref 123), (2, .int t3)], [], am_SH, (f, g))) rfl ?_
      exact am_Ev.weak' (hI1 t3 (Option.some.inj h).symm) (am_sub_cons rfl (am_sub_cons rfl am_sub_nil)) rfl
    · refine am_Ev.t hcd (c := am_b (xt_isDigit (f 124 s1.toNatClampNeg)) = 0) (s1 := (14, [(0, .ref 123), (2, .int s1)], [], am_SH, (f, g))) rfl (am_b_f c13) ?_
      refine am_Ev.go hcd 1 (s' := (15, [(0, .ref 123), (2, .int s1)], [.int s1], am_SH, (f, g))) rfl ?_
      exact am_Ev.cast (a := ((some (.int s1)), am_SH, (f, g))) (hZ1 _ (Option.some.inj h).symm) (am_Ev.ret hcd rfl)
  · refine am_Ev.f hcd (c := s1 < f 123 0) (s1 := (14, [(0, .ref 123), (2, .int s1)], [], am_SH, (f, g))) rfl c6 ?_
    refine am_Ev.go hcd 1 (s' := (15, [(0, .ref 123), (2, .int s1)], [.int s1], am_SH, (f, g))) rfl ?_
    exact am_Ev.cast (a := ((some (.int s1)), am_SH, (f, g))) (hZ1 _ (Option.some.inj h).symm) (am_Ev.ret hcd rfl)
def xt_number (a0 : Int32) (a1 : Int32) (f : (Nat → Nat → Int32)) : Option (Int32) :=
  am_loop (fun (s1 : Int32 × Int32) => ((
    if s1.2 < a1 then (
      if am_in s1.2 400 = true then (
      am_let (s1.2 + 1 : Int32) fun t2 =>
      some (.inl ((((10 * s1.1) + (f 124 s1.2.toNatClampNeg)) - 48), t2))) else none)
    else (
      some (.inr s1.1))) : Option ((Int32 × Int32) ⊕ (Int32)))) am_F (0, a0)
set_option maxRecDepth 100000 in
set_option maxHeartbeats 4000000 in
theorem xt_number_ok {sc : Nat × (Nat → Int32)} (d : Nat) (a0 : Int32) (a1 : Int32) (f g : (Nat → Nat → Int32)) (r : Int32) (h : xt_number a0 a1 f = some r) : am_Ev sc (d) 117 (0, [(0, .ref 123), (1, .int a0), (2, .int a1)], [], am_SH, (f, g)) ((some (.int r)), am_SH, (f, g)) := by
  have hcd : am_code 117 = am_c117 := rfl
  unfold xt_number at h
  refine am_Ev.go hcd 4 (s' := (4, [(0, .ref 123), (1, .int a0), (2, .int a1), (3, .int 0), (4, .int a0)], [], am_SH, (f, g))) rfl ?_
  refine am_Ev.weak' (am_loop_ok (G := fun (s1 : Int32 × Int32) => am_Ev sc (d) 117 (4, [(0, .ref 123), (2, .int a1), (3, .int s1.1), (4, .int s1.2)], [], am_SH, (f, g)) ((some (.int r)), am_SH, (f, g))) (Z := fun (v : Int32) => (((some (.int v)), am_SH, (f, g)) : am_R) = ((some (.int r)), am_SH, (f, g))) ?_ am_F (0, a0) r h rfl) (am_sub_cons rfl (am_sub_cons rfl (am_sub_cons rfl (am_sub_cons rfl am_sub_nil)))) rfl
  intro s1 q1 h hI1 hZ1
  show am_Ev sc (d) 117 (4, [(0, .ref 123), (2, .int a1), (3, .int s1.1), (4, .int s1.2)], [], am_SH, (f, g)) ((some (.int r)), am_SH, (f, g))
  refine am_Ev.go hcd 2 (s' := (6, [(0, .ref 123), (2, .int a1), (3, .int s1.1), (4, .int s1.2)], [.int a1, .int s1.2], am_SH, (f, g))) rfl ?_
  rcases am_ite h with ⟨c6, h⟩ | ⟨c6, h⟩
  · refine am_Ev.t hcd (c := s1.2 < a1) (s1 := (7, [(0, .ref 123), (2, .int a1), (3, .int s1.1), (4, .int s1.2)], [], am_SH, (f, g))) rfl c6 ?_
    refine am_Ev.go hcd 6 (s' := (13, [(0, .ref 123), (2, .int a1), (3, .int s1.1), (4, .int s1.2)], [.int s1.2, .ref 124, .int (10 * s1.1)], am_SH, (f, g))) rfl ?_
    obtain ⟨c9, h⟩ := am_grd h
    refine am_Ev.t hcd (c := am_in s1.2 400 = true) (s1 := (14, [(0, .ref 123), (2, .int a1), (3, .int s1.1), (4, .int s1.2)], [.int (f 124 s1.2.toNatClampNeg), .int (10 * s1.1)], am_SH, (f, g))) rfl c9 ?_
    obtain ⟨t2, Et2, h⟩ := am_let_eq h
    refine am_Ev.go hcd 5 (s' := (19, [(0, .ref 123), (2, .int a1), (3, .int (((10 * s1.1) + (f 124 s1.2.toNatClampNeg)) - 48)), (4, .int t2)], [], am_SH, (f, g))) (by subst Et2; exact rfl) ?_
    refine am_Ev.go hcd 1 (s' := (4, [(0, .ref 123), (2, .int a1), (3, .int (((10 * s1.1) + (f 124 s1.2.toNatClampNeg)) - 48)), (4, .int t2)], [], am_SH, (f, g))) rfl ?_
    exact am_Ev.weak' (hI1 ((((10 * s1.1) + (f 124 s1.2.toNatClampNeg)) - 48), t2) (Option.some.inj h).symm) (am_sub_cons rfl (am_sub_cons rfl (am_sub_cons rfl (am_sub_cons rfl am_sub_nil)))) rfl
  · refine am_Ev.f hcd (c := s1.2 < a1) (s1 := (20, [(0, .ref 123), (2, .int a1), (3, .int s1.1), (4, .int s1.2)], [], am_SH, (f, g))) rfl c6 ?_
    refine am_Ev.go hcd 1 (s' := (21, [(0, .ref 123), (2, .int a1), (3, .int s1.1), (4, .int s1.2)], [.int s1.1], am_SH, (f, g))) rfl ?_
    exact am_Ev.cast (a := ((some (.int s1.1)), am_SH, (f, g))) (hZ1 _ (Option.some.inj h).symm) (am_Ev.ret hcd rfl)
