def xs_readAny_B (r_readAny : Int32 → (Nat → Nat → Int32) → Option (Bool × (Nat → Nat → Int32))) (r_readCondition : Int32 → (Nat → Nat → Int32) → Option (Bool × (Nat → Nat → Int32))) (a0 : Int32) (f : (Nat → Nat → Int32)) : Option (Bool × (Nat → Nat → Int32)) :=
  (r_readCondition a0 f).bind fun p1 =>
  if p1.1 = true then (
    (am_loop (fun (s2 : Bool × Int32 × (Nat → Nat → Int32)) => ((
      if s2.2.1 < 400 then (
        if (xt_isWord 4 s2.2.2) = true then (
          ((if (xt_isWord 5 s2.2.2) = true then (
              some s2.2.2)
            else (
              if s2.1 = true then (
                (xl_emit_129 20124 s2.2.2).bind fun p5 =>
                some p5)
              else (
                some s2.2.2))) : Option ((Nat → Nat → Int32))).bind fun t6 =>
          am_let ((if s2.1 = true then (
              true)
            else (
              if (xt_isWord 5 s2.2.2) = true then (
                false)
              else (
                true))) : Bool) fun t7 =>
          (xt_advance  t6).bind fun p8 =>
          (r_readCondition a0 p8).bind fun p9 =>
          if p9.1 = true then (
            ((if (xt_isWord 5 s2.2.2) = true then (
                (xl_emit_129 20038 p9.2).bind fun p10 =>
                some p10)
              else (
                some p9.2)) : Option ((Nat → Nat → Int32))).bind fun t11 =>
            am_let (s2.2.1 + 1 : Int32) fun t12 =>
            some (.inl (t7, t12, t11)))
          else (
            some (.inr (.inl (false, p9.2)))))
        else (
          if (xt_isWord 5 s2.2.2) = true then (
            ((if (xt_isWord 5 s2.2.2) = true then (
                some s2.2.2)
              else (
                if s2.1 = true then (
                  (xl_emit_129 20124 s2.2.2).bind fun p15 =>
                  some p15)
                else (
                  some s2.2.2))) : Option ((Nat → Nat → Int32))).bind fun t16 =>
            am_let ((if s2.1 = true then (
                true)
              else (
                if (xt_isWord 5 s2.2.2) = true then (
                  false)
                else (
                  true))) : Bool) fun t17 =>
            (xt_advance  t16).bind fun p18 =>
            (r_readCondition a0 p18).bind fun p19 =>
            if p19.1 = true then (
              ((if (xt_isWord 5 s2.2.2) = true then (
                  (xl_emit_129 20038 p19.2).bind fun p20 =>
                  some p20)
                else (
                  some p19.2)) : Option ((Nat → Nat → Int32))).bind fun t21 =>
              am_let (s2.2.1 + 1 : Int32) fun t22 =>
              some (.inl (t17, t22, t21)))
            else (
              some (.inr (.inl (false, p19.2)))))
          else (
            some (.inr (.inr (s2.1, s2.2.2))))))
      else (
        some (.inr (.inr (s2.1, s2.2.2))))) : Option ((Bool × Int32 × (Nat → Nat → Int32)) ⊕ ((Bool × (Nat → Nat → Int32)) ⊕ (Bool × (Nat → Nat → Int32)))))) am_F (false, 0, p1.2)).bind fun e23 =>
    e23.elim (fun v => some v) fun e24 =>
    if e24.1 = true then (
      (xl_emit_129 20124 e24.2).bind fun p25 =>
      some (true, p25))
    else (
      some (true, e24.2)))
  else (
    some (false, p1.2))
def xs_readCondition_B (r_readAny : Int32 → (Nat → Nat → Int32) → Option (Bool × (Nat → Nat → Int32))) (r_readCondition : Int32 → (Nat → Nat → Int32) → Option (Bool × (Nat → Nat → Int32))) (a0 : Int32) (f : (Nat → Nat → Int32)) : Option (Bool × (Nat → Nat → Int32)) :=
  if (xt_isWord 6 f) = true then (
    if a0 < 8 then (
      if (xt_isWord 6 f) = true then (
        (xt_advance  f).bind fun p3 =>
        (r_readCondition (a0 + 1) p3).bind fun p4 =>
        (xl_emit_129 20033 p4.2).bind fun p5 =>
        some (p4.1, p5))
      else (
        if (xt_isSign 40 f) = true then (
          (xt_advance  f).bind fun p6 =>
          (r_readAny (a0 + 1) p6).bind fun p7 =>
          if p7.1 = true then (
            (xs_takeSign 41 p7.2).bind fun p8 =>
            if p8.1 = true then (
              some (true, p8.2))
            else (
              some (false, p8.2)))
          else (
            some (false, p7.2)))
        else (
          (xs_readSum  f).bind fun p9 =>
          if p9.1 = true then (
            am_let (p9.2 123 2 : Int32) fun t10 =>
            if (xt_isSign 60 p9.2) = true then (
              (xt_advance  p9.2).bind fun p12 =>
              (xs_readSum  p12).bind fun p13 =>
              (xl_emit_129 (20000 + t10) p13.2).bind fun p14 =>
              some (p13.1, p14))
            else (
              if (xt_isSign 61 p9.2) = true then (
                (xt_advance  p9.2).bind fun p16 =>
                (xs_readSum  p16).bind fun p17 =>
                (xl_emit_129 (20000 + t10) p17.2).bind fun p18 =>
                some (p17.1, p18))
              else (
                if (xt_isSign 62 p9.2) = true then (
                  (xt_advance  p9.2).bind fun p20 =>
                  (xs_readSum  p20).bind fun p21 =>
                  (xl_emit_129 (20000 + t10) p21.2).bind fun p22 =>
                  some (p21.1, p22))
                else (
                  am_let (xs_refuse 1 p9.2) fun p23 =>
                  some (p23.1, p23.2)))))
          else (
            some (false, p9.2)))))
    else (
      am_let (xs_refuse 3 f) fun p24 =>
      some (p24.1, p24.2)))
  else (
    if (xt_isSign 40 f) = true then (
      if a0 < 8 then (
        if (xt_isWord 6 f) = true then (
          (xt_advance  f).bind fun p25 =>
          (r_readCondition (a0 + 1) p25).bind fun p26 =>
          (xl_emit_129 20033 p26.2).bind fun p27 =>
          some (p26.1, p27))
        else (
          if (xt_isSign 40 f) = true then (
            (xt_advance  f).bind fun p28 =>
            (r_readAny (a0 + 1) p28).bind fun p29 =>
            if p29.1 = true then (
              (xs_takeSign 41 p29.2).bind fun p30 =>
              if p30.1 = true then (
                some (true, p30.2))
              else (
                some (false, p30.2)))
            else (
              some (false, p29.2)))
          else (
            (xs_readSum  f).bind fun p31 =>
            if p31.1 = true then (
              am_let (p31.2 123 2 : Int32) fun t32 =>
              if (xt_isSign 60 p31.2) = true then (
                (xt_advance  p31.2).bind fun p34 =>
                (xs_readSum  p34).bind fun p35 =>
                (xl_emit_129 (20000 + t32) p35.2).bind fun p36 =>
                some (p35.1, p36))
              else (
                if (xt_isSign 61 p31.2) = true then (
                  (xt_advance  p31.2).bind fun p38 =>
                  (xs_readSum  p38).bind fun p39 =>
                  (xl_emit_129 (20000 + t32) p39.2).bind fun p40 =>
                  some (p39.1, p40))
                else (
                  if (xt_isSign 62 p31.2) = true then (
                    (xt_advance  p31.2).bind fun p42 =>
                    (xs_readSum  p42).bind fun p43 =>
                    (xl_emit_129 (20000 + t32) p43.2).bind fun p44 =>
                    some (p43.1, p44))
                  else (
                    am_let (xs_refuse 1 p31.2) fun p45 =>
                    some (p45.1, p45.2)))))
            else (
              some (false, p31.2)))))
      else (
        am_let (xs_refuse 3 f) fun p46 =>
        some (p46.1, p46.2)))
    else (
      if (xt_isWord 6 f) = true then (
        (xt_advance  f).bind fun p47 =>
        (r_readCondition (a0 + 1) p47).bind fun p48 =>
        (xl_emit_129 20033 p48.2).bind fun p49 =>
        some (p48.1, p49))
      else (
        if (xt_isSign 40 f) = true then (
          (xt_advance  f).bind fun p50 =>
          (r_readAny (a0 + 1) p50).bind fun p51 =>
          if p51.1 = true then (
            (xs_takeSign 41 p51.2).bind fun p52 =>
            if p52.1 = true then (
              some (true, p52.2))
            else (
              some (false, p52.2)))
          else (
            some (false, p51.2)))
        else (
          (xs_readSum  f).bind fun p53 =>
          if p53.1 = true then (
            am_let (p53.2 123 2 : Int32) fun t54 =>
            if (xt_isSign 60 p53.2) = true then (
              (xt_advance  p53.2).bind fun p56 =>
              (xs_readSum  p56).bind fun p57 =>
              (xl_emit_129 (20000 + t54) p57.2).bind fun p58 =>
              some (p57.1, p58))
            else (
              if (xt_isSign 61 p53.2) = true then (
                (xt_advance  p53.2).bind fun p60 =>
                (xs_readSum  p60).bind fun p61 =>
                (xl_emit_129 (20000 + t54) p61.2).bind fun p62 =>
                some (p61.1, p62))
              else (
                if (xt_isSign 62 p53.2) = true then (
                  (xt_advance  p53.2).bind fun p64 =>
                  (xs_readSum  p64).bind fun p65 =>
                  (xl_emit_129 (20000 + t54) p65.2).bind fun p66 =>
                  some (p65.1, p66))
                else (
                  am_let (xs_refuse 1 p53.2) fun p67 =>
                  some (p67.1, p67.2)))))
          else (
            some (false, p53.2))))))
def x_rec : Nat → (Int32 → (Nat → Nat → Int32) → Option (Bool × (Nat → Nat → Int32))) × (Int32 → (Nat → Nat → Int32) → Option (Bool × (Nat → Nat → Int32)))
  | 0 => (fun a0 f => none, fun a0 f => none)
  | n + 1 => (fun (q : (Int32 → (Nat → Nat → Int32) → Option (Bool × (Nat → Nat → Int32))) × (Int32 → (Nat → Nat → Int32) → Option (Bool × (Nat → Nat → Int32)))) => (fun a0 f => xs_readAny_B q.1 q.2 a0 f, fun a0 f => xs_readCondition_B q.1 q.2 a0 f)) (x_rec n)
def xs_readAny (n : Nat) (a0 : Int32) (f : (Nat → Nat → Int32)) : Option (Bool × (Nat → Nat → Int32)) := (x_rec n).1 a0 f
def xs_readCondition (n : Nat) (a0 : Int32) (f : (Nat → Nat → Int32)) : Option (Bool × (Nat → Nat → Int32)) := (x_rec n).2 a0 f
set_option maxRecDepth 100000 in
set_option maxHeartbeats 4000000 in
theorem xs_readAny_Bok {sc : Nat × (Nat → Int32)} (d : Nat) (r_readAny : Int32 → (Nat → Nat → Int32) → Option (Bool × (Nat → Nat → Int32))) (r_readCondition : Int32 → (Nat → Nat → Int32) → Option (Bool × (Nat → Nat → Int32))) (hreadAny : ∀ (a0 : Int32) (f g : (Nat → Nat → Int32)) (r : Bool × (Nat → Nat → Int32)), r_readAny a0 f = some r → am_Ev sc (d + 2) 103 (0, [(0, .ref 128), (1, .int a0)], [], am_SH, (f, g)) ((some (.int (am_b r.1))), am_SH, (r.2, g))) (hreadCondition : ∀ (a0 : Int32) (f g : (Nat → Nat → Int32)) (r : Bool × (Nat → Nat → Int32)), r_readCondition a0 f = some r → am_Ev sc (d + 2) 104 (0, [(0, .ref 128), (1, .int a0)], [], am_SH, (f, g)) ((some (.int (am_b r.1))), am_SH, (r.2, g))) (a0 : Int32) (f g : (Nat → Nat → Int32)) (r : Bool × (Nat → Nat → Int32)) (h : xs_readAny_B r_readAny r_readCondition a0 f = some r) : am_Ev sc (d + 3) 103 (0, [(0, .ref 128), (1, .int a0)], [], am_SH, (f, g)) ((some (.int (am_b r.1))), am_SH, (r.2, g)) := by
  have hcd : am_code 103 = am_c103 := rfl
  unfold xs_readAny_B at h
  refine am_Ev.go hcd 2 (s' := (2, [(0, .ref 128), (1, .int a0)], [.int a0, .ref 128], am_SH, (f, g))) rfl ?_
  obtain ⟨p1, hp1, h⟩ := am_bind_some h
  refine am_Ev.call hcd (a := 104) (s0 := (0, [(0, .ref 128), (1, .int a0)], [], am_SH, (f, g))) (q := ((some (.int (am_b p1.1))), am_SH, (p1.2, g))) (s1 := (3, [(0, .ref 128), (1, .int a0)], [.int (am_b p1.1)], am_SH, (p1.2, g))) rfl rfl (hreadCondition a0 f g p1 hp1) ?_
  rcases am_ite h with ⟨c5, h⟩ | ⟨c5, h⟩
  · refine am_Ev.f hcd (c := am_b p1.1 = 0) (s1 := (6, [(0, .ref 128), (1, .int a0)], [], am_SH, (p1.2, g))) rfl (am_b_t c5) ?_
    refine am_Ev.go hcd 4 (s' := (10, [(0, .ref 128), (1, .int a0), (2, .int 0), (3, .int 0)], [], am_SH, (p1.2, g))) rfl ?_
    obtain ⟨e23, he23, h⟩ := am_bind_some h
    have hK2 : (fun (v : (Bool × (Nat → Nat → Int32)) ⊕ (Bool × (Nat → Nat → Int32))) => v.elim (fun (v : Bool × (Nat → Nat → Int32)) => (((some (.int (am_b v.1))), am_SH, (v.2, g)) : am_R) = ((some (.int (am_b r.1))), am_SH, (r.2, g))) (fun (e24 : Bool × (Nat → Nat → Int32)) => am_Ev sc (d + 3) 103 (61, [(0, .ref 128), (2, .int (am_b e24.1))], [], am_SH, (e24.2, g)) ((some (.int (am_b r.1))), am_SH, (r.2, g)))) e23 := by
      cases e23 with
      | inl v => exact (by cases h; rfl)
      | inr e24 =>
        show am_Ev sc (d + 3) 103 (61, [(0, .ref 128), (2, .int (am_b e24.1))], [], am_SH, (e24.2, g)) ((some (.int (am_b r.1))), am_SH, (r.2, g))
        refine am_Ev.go hcd 1 (s' := (62, [(0, .ref 128), (2, .int (am_b e24.1))], [.int (am_b e24.1)], am_SH, (e24.2, g))) rfl ?_
        rcases am_ite h with ⟨c14, h⟩ | ⟨c14, h⟩
        · refine am_Ev.f hcd (c := am_b e24.1 = 0) (s1 := (63, [(0, .ref 128), (2, .int (am_b e24.1))], [], am_SH, (e24.2, g))) rfl (am_b_t c14) ?_
          refine am_Ev.go hcd 3 (s' := (66, [(0, .ref 128), (2, .int (am_b e24.1))], [.int 20124, .ref 129], am_SH, (e24.2, g))) rfl ?_
          obtain ⟨p25, hp25, h⟩ := am_bind_some h
          refine am_Ev.call hcd (a := 32) (s0 := (0, [(0, .ref 129), (1, .int 20124)], [], am_SH, (e24.2, g))) (q := (none, am_SH, (p25, g))) (s1 := (67, [(0, .ref 128), (2, .int (am_b e24.1))], [], am_SH, (p25, g))) rfl rfl (xl_emit_129_ok (d + 2) 20124 e24.2 g p25 hp25) ?_
          refine am_Ev.go hcd 1 (s' := (68, [(0, .ref 128), (2, .int (am_b e24.1))], [.int 1], am_SH, (p25, g))) rfl ?_
          exact am_Ev.cast (a := ((some (.int (am_b (true, p25).1))), am_SH, ((true, p25).2, g))) (by cases h; rfl) (am_Ev.ret hcd rfl)
        · refine am_Ev.t hcd (c := am_b e24.1 = 0) (s1 := (67, [(0, .ref 128), (2, .int (am_b e24.1))], [], am_SH, (e24.2, g))) rfl (am_b_f c14) ?_
          refine am_Ev.go hcd 1 (s' := (68, [(0, .ref 128), (2, .int (am_b e24.1))], [.int 1], am_SH, (e24.2, g))) rfl ?_
          exact am_Ev.cast (a := ((some (.int (am_b (true, e24.2).1))), am_SH, ((true, e24.2).2, g))) (by cases h; rfl) (am_Ev.ret hcd rfl)
    refine am_Ev.weak' (am_loop_ok (G := fun (s2 : Bool × Int32 × (Nat → Nat → Int32)) => am_Ev sc (d + 3) 103 (10, [(0, .ref 128), (1, .int a0), (2, .int (am_b s2.1)), (3, .int s2.2.1)], [], am_SH, (s2.2.2, g)) ((some (.int (am_b r.1))), am_SH, (r.2, g))) (Z := fun (v : (Bool × (Nat → Nat → Int32)) ⊕ (Bool × (Nat → Nat → Int32))) => v.elim (fun (v : Bool × (Nat → Nat → Int32)) => (((some (.int (am_b v.1))), am_SH, (v.2, g)) : am_R) = ((some (.int (am_b r.1))), am_SH, (r.2, g))) (fun (e24 : Bool × (Nat → Nat → Int32)) => am_Ev sc (d + 3) 103 (61, [(0, .ref 128), (2, .int (am_b e24.1))], [], am_SH, (e24.2, g)) ((some (.int (am_b r.1))), am_SH, (r.2, g)))) ?_ am_F (false, 0, p1.2) e23 he23 hK2) (am_sub_cons rfl (am_sub_cons rfl (am_sub_cons rfl (am_sub_cons rfl am_sub_nil)))) rfl
    intro s2 q2 h hI2 hZ2
    show am_Ev sc (d + 3) 103 (10, [(0, .ref 128), (1, .int a0), (2, .int (am_b s2.1)), (3, .int s2.2.1)], [], am_SH, (s2.2.2, g)) ((some (.int (am_b r.1))), am_SH, (r.2, g))
    refine am_Ev.go hcd 2 (s' := (12, [(0, .ref 128), (1, .int a0), (2, .int (am_b s2.1)), (3, .int s2.2.1)], [.int 400, .int s2.2.1], am_SH, (s2.2.2, g))) rfl ?_
    rcases am_ite h with ⟨c28, h⟩ | ⟨c28, h⟩
    · refine am_Ev.t hcd (c := s2.2.1 < 400) (s1 := (13, [(0, .ref 128), (1, .int a0), (2, .int (am_b s2.1)), (3, .int s2.2.1)], [], am_SH, (s2.2.2, g))) rfl c28 ?_
      refine am_Ev.go hcd 3 (s' := (16, [(0, .ref 128), (1, .int a0), (2, .int (am_b s2.1)), (3, .int s2.2.1)], [.int 4, .ref 123], am_SH, (s2.2.2, g))) rfl ?_
      refine am_Ev.call hcd (a := 112) (s0 := (0, [(0, .ref 123), (1, .int 4)], [], am_SH, (s2.2.2, g))) (q := ((some (.int (am_b (xt_isWord 4 s2.2.2)))), am_SH, (s2.2.2, g))) (s1 := (17, [(0, .ref 128), (1, .int a0), (2, .int (am_b s2.1)), (3, .int s2.2.1)], [.int (am_b (xt_isWord 4 s2.2.2))], am_SH, (s2.2.2, g))) rfl rfl (xt_isWord_ok (d + 2) 4 s2.2.2 g) ?_
      rcases am_ite h with ⟨c33, h⟩ | ⟨c33, h⟩
      · refine am_Ev.f hcd (c := am_b (xt_isWord 4 s2.2.2) = 0) (s1 := (23, [(0, .ref 128), (1, .int a0), (2, .int (am_b s2.1)), (3, .int s2.2.1)], [], am_SH, (s2.2.2, g))) rfl (am_b_t c33) ?_
        refine am_Ev.go hcd 3 (s' := (26, [(0, .ref 128), (1, .int a0), (2, .int (am_b s2.1)), (3, .int s2.2.1)], [.int 5, .ref 123], am_SH, (s2.2.2, g))) rfl ?_
        refine am_Ev.call hcd (a := 112) (s0 := (0, [(0, .ref 123), (1, .int 5)], [], am_SH, (s2.2.2, g))) (q := ((some (.int (am_b (xt_isWord 5 s2.2.2)))), am_SH, (s2.2.2, g))) (s1 := (27, [(0, .ref 128), (1, .int a0), (2, .int (am_b s2.1)), (3, .int s2.2.1)], [.int (am_b (xt_isWord 5 s2.2.2))], am_SH, (s2.2.2, g))) rfl rfl (xt_isWord_ok (d + 2) 5 s2.2.2 g) ?_
        obtain ⟨t6, ht6, kt6⟩ := am_bind_some h
        have hKt6 : am_Ev sc (d + 3) 103 (36, [(0, .ref 128), (1, .int a0), (2, .int (am_b s2.1)), (3, .int s2.2.1), (4, .int (am_b (xt_isWord 5 s2.2.2)))], [], am_SH, (t6, g)) ((some (.int (am_b r.1))), am_SH, (r.2, g)) := by
          have h := kt6
          obtain ⟨t7, ht7, kt7⟩ := am_let_eq h
          have hKt7 : am_Ev sc (d + 3) 103 (43, [(0, .ref 128), (1, .int a0), (3, .int s2.2.1), (4, .int (am_b (xt_isWord 5 s2.2.2)))], [.int (am_b t7)], am_SH, (t6, g)) ((some (.int (am_b r.1))), am_SH, (r.2, g)) := by
            have h := kt7
            refine am_Ev.go hcd 3 (s' := (46, [(0, .ref 128), (1, .int a0), (2, .int (am_b t7)), (3, .int s2.2.1), (4, .int (am_b (xt_isWord 5 s2.2.2)))], [.ref 123], am_SH, (t6, g))) rfl ?_
            obtain ⟨p8, hp8, h⟩ := am_bind_some h
            refine am_Ev.call hcd (a := 111) (s0 := (0, [(0, .ref 123)], [], am_SH, (t6, g))) (q := (none, am_SH, (p8, g))) (s1 := (47, [(0, .ref 128), (1, .int a0), (2, .int (am_b t7)), (3, .int s2.2.1), (4, .int (am_b (xt_isWord 5 s2.2.2)))], [], am_SH, (p8, g))) rfl rfl (xt_advance_ok (d + 2)  t6 g p8 hp8) ?_
            refine am_Ev.go hcd 2 (s' := (49, [(0, .ref 128), (1, .int a0), (2, .int (am_b t7)), (3, .int s2.2.1), (4, .int (am_b (xt_isWord 5 s2.2.2)))], [.int a0, .ref 128], am_SH, (p8, g))) rfl ?_
            obtain ⟨p9, hp9, h⟩ := am_bind_some h
            refine am_Ev.call hcd (a := 104) (s0 := (0, [(0, .ref 128), (1, .int a0)], [], am_SH, (p8, g))) (q := ((some (.int (am_b p9.1))), am_SH, (p9.2, g))) (s1 := (50, [(0, .ref 128), (1, .int a0), (2, .int (am_b t7)), (3, .int s2.2.1), (4, .int (am_b (xt_isWord 5 s2.2.2)))], [.int (am_b p9.1)], am_SH, (p9.2, g))) rfl rfl (hreadCondition a0 p8 g p9 hp9) ?_
            rcases am_ite h with ⟨c49, h⟩ | ⟨c49, h⟩
            · refine am_Ev.f hcd (c := am_b p9.1 = 0) (s1 := (53, [(0, .ref 128), (1, .int a0), (2, .int (am_b t7)), (3, .int s2.2.1), (4, .int (am_b (xt_isWord 5 s2.2.2)))], [], am_SH, (p9.2, g))) rfl (am_b_t c49) ?_
              obtain ⟨t11, ht11, kt11⟩ := am_bind_some h
              have hKt11 : am_Ev sc (d + 3) 103 (59, [(0, .ref 128), (1, .int a0), (2, .int (am_b t7)), (3, .int s2.2.1)], [], am_SH, (t11, g)) ((some (.int (am_b r.1))), am_SH, (r.2, g)) := by
                have h := kt11
                obtain ⟨t12, Et12, h⟩ := am_let_eq h
                refine am_Ev.go hcd 1 (s' := (60, [(0, .ref 128), (1, .int a0), (2, .int (am_b t7)), (3, .int t12)], [], am_SH, (t11, g))) (by subst Et12; exact rfl) ?_
                refine am_Ev.go hcd 1 (s' := (10, [(0, .ref 128), (1, .int a0), (2, .int (am_b t7)), (3, .int t12)], [], am_SH, (t11, g))) rfl ?_
                exact am_Ev.weak' (hI2 (t7, t12, t11) (Option.some.inj h).symm) (am_sub_cons rfl (am_sub_cons rfl (am_sub_cons rfl (am_sub_cons rfl am_sub_nil)))) rfl
              have hLt11 : ∀ tt, tt = t11 → am_Ev sc (d + 3) 103 (59, [(0, .ref 128), (1, .int a0), (2, .int (am_b t7)), (3, .int s2.2.1)], [], am_SH, (tt, g)) ((some (.int (am_b r.1))), am_SH, (r.2, g)) := fun tt htt => by subst htt; exact hKt11
              have h := ht11
              refine am_Ev.go hcd 1 (s' := (54, [(0, .ref 128), (1, .int a0), (2, .int (am_b t7)), (3, .int s2.2.1), (4, .int (am_b (xt_isWord 5 s2.2.2)))], [.int (am_b (xt_isWord 5 s2.2.2))], am_SH, (p9.2, g))) rfl ?_
              rcases am_ite h with ⟨c60, h⟩ | ⟨c60, h⟩
              · refine am_Ev.f hcd (c := am_b (xt_isWord 5 s2.2.2) = 0) (s1 := (55, [(0, .ref 128), (1, .int a0), (2, .int (am_b t7)), (3, .int s2.2.1), (4, .int (am_b (xt_isWord 5 s2.2.2)))], [], am_SH, (p9.2, g))) rfl (am_b_t c60) ?_
                refine am_Ev.go hcd 3 (s' := (58, [(0, .ref 128), (1, .int a0), (2, .int (am_b t7)), (3, .int s2.2.1), (4, .int (am_b (xt_isWord 5 s2.2.2)))], [.int 20038, .ref 129], am_SH, (p9.2, g))) rfl ?_
                obtain ⟨p10, hp10, h⟩ := am_bind_some h
                refine am_Ev.call hcd (a := 32) (s0 := (0, [(0, .ref 129), (1, .int 20038)], [], am_SH, (p9.2, g))) (q := (none, am_SH, (p10, g))) (s1 := (59, [(0, .ref 128), (1, .int a0), (2, .int (am_b t7)), (3, .int s2.2.1), (4, .int (am_b (xt_isWord 5 s2.2.2)))], [], am_SH, (p10, g))) rfl rfl (xl_emit_129_ok (d + 2) 20038 p9.2 g p10 hp10) ?_
                exact am_Ev.weak' (hLt11 p10 (Option.some.inj h)) (am_sub_cons rfl (am_sub_cons rfl (am_sub_cons rfl (am_sub_cons rfl am_sub_nil)))) rfl
              · refine am_Ev.t hcd (c := am_b (xt_isWord 5 s2.2.2) = 0) (s1 := (59, [(0, .ref 128), (1, .int a0), (2, .int (am_b t7)), (3, .int s2.2.1), (4, .int (am_b (xt_isWord 5 s2.2.2)))], [], am_SH, (p9.2, g))) rfl (am_b_f c60) ?_
                exact am_Ev.weak' (hLt11 p9.2 (Option.some.inj h)) (am_sub_cons rfl (am_sub_cons rfl (am_sub_cons rfl (am_sub_cons rfl am_sub_nil)))) rfl
            · refine am_Ev.t hcd (c := am_b p9.1 = 0) (s1 := (51, [(0, .ref 128), (1, .int a0), (2, .int (am_b t7)), (3, .int s2.2.1), (4, .int (am_b (xt_isWord 5 s2.2.2)))], [], am_SH, (p9.2, g))) rfl (am_b_f c49) ?_
              refine am_Ev.go hcd 1 (s' := (52, [(0, .ref 128), (1, .int a0), (2, .int (am_b t7)), (3, .int s2.2.1), (4, .int (am_b (xt_isWord 5 s2.2.2)))], [.int 0], am_SH, (p9.2, g))) rfl ?_
              exact am_Ev.cast (a := ((some (.int (am_b (false, p9.2).1))), am_SH, ((false, p9.2).2, g))) (hZ2 _ (Option.some.inj h).symm) (am_Ev.ret hcd rfl)
          have hLt7 : ∀ tt, tt = t7 → am_Ev sc (d + 3) 103 (43, [(0, .ref 128), (1, .int a0), (3, .int s2.2.1), (4, .int (am_b (xt_isWord 5 s2.2.2)))], [.int (am_b tt)], am_SH, (t6, g)) ((some (.int (am_b r.1))), am_SH, (r.2, g)) := fun tt htt => by subst htt; exact hKt7
          have h := ht7
          refine am_Ev.go hcd 1 (s' := (37, [(0, .ref 128), (1, .int a0), (2, .int (am_b s2.1)), (3, .int s2.2.1), (4, .int (am_b (xt_isWord 5 s2.2.2)))], [.int (am_b s2.1)], am_SH, (t6, g))) rfl ?_
          rcases am_itv h with ⟨c74, h⟩ | ⟨c74, h⟩
          · refine am_Ev.f hcd (c := am_b s2.1 = 0) (s1 := (40, [(0, .ref 128), (1, .int a0), (2, .int (am_b s2.1)), (3, .int s2.2.1), (4, .int (am_b (xt_isWord 5 s2.2.2)))], [], am_SH, (t6, g))) rfl (am_b_t c74) ?_
            refine am_Ev.go hcd 2 (s' := (43, [(0, .ref 128), (1, .int a0), (2, .int (am_b s2.1)), (3, .int s2.2.1), (4, .int (am_b (xt_isWord 5 s2.2.2)))], [.int 1], am_SH, (t6, g))) rfl ?_
            exact am_Ev.weak' (hLt7 true h.symm) (am_sub_cons rfl (am_sub_cons rfl (am_sub_cons rfl (am_sub_cons rfl am_sub_nil)))) rfl
          · refine am_Ev.t hcd (c := am_b s2.1 = 0) (s1 := (38, [(0, .ref 128), (1, .int a0), (2, .int (am_b s2.1)), (3, .int s2.2.1), (4, .int (am_b (xt_isWord 5 s2.2.2)))], [], am_SH, (t6, g))) rfl (am_b_f c74) ?_
            refine am_Ev.go hcd 1 (s' := (39, [(0, .ref 128), (1, .int a0), (2, .int (am_b s2.1)), (3, .int s2.2.1), (4, .int (am_b (xt_isWord 5 s2.2.2)))], [.int (am_b (xt_isWord 5 s2.2.2))], am_SH, (t6, g))) rfl ?_
            rcases am_itv h with ⟨c80, h⟩ | ⟨c80, h⟩
            · refine am_Ev.f hcd (c := am_b (xt_isWord 5 s2.2.2) = 0) (s1 := (42, [(0, .ref 128), (1, .int a0), (2, .int (am_b s2.1)), (3, .int s2.2.1), (4, .int (am_b (xt_isWord 5 s2.2.2)))], [], am_SH, (t6, g))) rfl (am_b_t c80) ?_
              refine am_Ev.go hcd 1 (s' := (43, [(0, .ref 128), (1, .int a0), (2, .int (am_b s2.1)), (3, .int s2.2.1), (4, .int (am_b (xt_isWord 5 s2.2.2)))], [.int 0], am_SH, (t6, g))) rfl ?_
              exact am_Ev.weak' (hLt7 false h.symm) (am_sub_cons rfl (am_sub_cons rfl (am_sub_cons rfl (am_sub_cons rfl am_sub_nil)))) rfl
            · refine am_Ev.t hcd (c := am_b (xt_isWord 5 s2.2.2) = 0) (s1 := (40, [(0, .ref 128), (1, .int a0), (2, .int (am_b s2.1)), (3, .int s2.2.1), (4, .int (am_b (xt_isWord 5 s2.2.2)))], [], am_SH, (t6, g))) rfl (am_b_f c80) ?_
              refine am_Ev.go hcd 2 (s' := (43, [(0, .ref 128), (1, .int a0), (2, .int (am_b s2.1)), (3, .int s2.2.1), (4, .int (am_b (xt_isWord 5 s2.2.2)))], [.int 1], am_SH, (t6, g))) rfl ?_
              exact am_Ev.weak' (hLt7 true h.symm) (am_sub_cons rfl (am_sub_cons rfl (am_sub_cons rfl (am_sub_cons rfl am_sub_nil)))) rfl
        have hLt6 : ∀ tt, tt = t6 → am_Ev sc (d + 3) 103 (36, [(0, .ref 128), (1, .int a0), (2, .int (am_b s2.1)), (3, .int s2.2.1), (4, .int (am_b (xt_isWord 5 s2.2.2)))], [], am_SH, (tt, g)) ((some (.int (am_b r.1))), am_SH, (r.2, g)) := fun tt htt => by subst htt; exact hKt6
        have h := ht6
        refine am_Ev.go hcd 2 (s' := (29, [(0, .ref 128), (1, .int a0), (2, .int (am_b s2.1)), (3, .int s2.2.1), (4, .int (am_b (xt_isWord 5 s2.2.2)))], [.int (am_b (xt_isWord 5 s2.2.2))], am_SH, (s2.2.2, g))) rfl ?_
        rcases am_ite h with ⟨c90, h⟩ | ⟨c90, h⟩
        · refine am_Ev.f hcd (c := am_b (xt_isWord 5 s2.2.2) = 0) (s1 := (36, [(0, .ref 128), (1, .int a0), (2, .int (am_b s2.1)), (3, .int s2.2.1), (4, .int (am_b (xt_isWord 5 s2.2.2)))], [], am_SH, (s2.2.2, g))) rfl (am_b_t c90) ?_
          exact am_Ev.weak' (hLt6 s2.2.2 (Option.some.inj h)) (am_sub_cons rfl (am_sub_cons rfl (am_sub_cons rfl (am_sub_cons rfl (am_sub_cons rfl am_sub_nil))))) rfl
        · refine am_Ev.t hcd (c := am_b (xt_isWord 5 s2.2.2) = 0) (s1 := (30, [(0, .ref 128), (1, .int a0), (2, .int (am_b s2.1)), (3, .int s2.2.1), (4, .int (am_b (xt_isWord 5 s2.2.2)))], [], am_SH, (s2.2.2, g))) rfl (am_b_f c90) ?_
          refine am_Ev.go hcd 1 (s' := (31, [(0, .ref 128), (1, .int a0), (2, .int (am_b s2.1)), (3, .int s2.2.1), (4, .int (am_b (xt_isWord 5 s2.2.2)))], [.int (am_b s2.1)], am_SH, (s2.2.2, g))) rfl ?_
          rcases am_ite h with ⟨c95, h⟩ | ⟨c95, h⟩
          · refine am_Ev.f hcd (c := am_b s2.1 = 0) (s1 := (32, [(0, .ref 128), (1, .int a0), (2, .int (am_b s2.1)), (3, .int s2.2.1), (4, .int (am_b (xt_isWord 5 s2.2.2)))], [], am_SH, (s2.2.2, g))) rfl (am_b_t c95) ?_
            refine am_Ev.go hcd 3 (s' := (35, [(0, .ref 128), (1, .int a0), (2, .int (am_b s2.1)), (3, .int s2.2.1), (4, .int (am_b (xt_isWord 5 s2.2.2)))], [.int 20124, .ref 129], am_SH, (s2.2.2, g))) rfl ?_
            obtain ⟨p5, hp5, h⟩ := am_bind_some h
            refine am_Ev.call hcd (a := 32) (s0 := (0, [(0, .ref 129), (1, .int 20124)], [], am_SH, (s2.2.2, g))) (q := (none, am_SH, (p5, g))) (s1 := (36, [(0, .ref 128), (1, .int a0), (2, .int (am_b s2.1)), (3, .int s2.2.1), (4, .int (am_b (xt_isWord 5 s2.2.2)))], [], am_SH, (p5, g))) rfl rfl (xl_emit_129_ok (d + 2) 20124 s2.2.2 g p5 hp5) ?_
            exact am_Ev.weak' (hLt6 p5 (Option.some.inj h)) (am_sub_cons rfl (am_sub_cons rfl (am_sub_cons rfl (am_sub_cons rfl (am_sub_cons rfl am_sub_nil))))) rfl
          · refine am_Ev.t hcd (c := am_b s2.1 = 0) (s1 := (36, [(0, .ref 128), (1, .int a0), (2, .int (am_b s2.1)), (3, .int s2.2.1), (4, .int (am_b (xt_isWord 5 s2.2.2)))], [], am_SH, (s2.2.2, g))) rfl (am_b_f c95) ?_
            exact am_Ev.weak' (hLt6 s2.2.2 (Option.some.inj h)) (am_sub_cons rfl (am_sub_cons rfl (am_sub_cons rfl (am_sub_cons rfl (am_sub_cons rfl am_sub_nil))))) rfl
      · refine am_Ev.t hcd (c := am_b (xt_isWord 4 s2.2.2) = 0) (s1 := (18, [(0, .ref 128), (1, .int a0), (2, .int (am_b s2.1)), (3, .int s2.2.1)], [], am_SH, (s2.2.2, g))) rfl (am_b_f c33) ?_
        refine am_Ev.go hcd 3 (s' := (21, [(0, .ref 128), (1, .int a0), (2, .int (am_b s2.1)), (3, .int s2.2.1)], [.int 5, .ref 123], am_SH, (s2.2.2, g))) rfl ?_
        refine am_Ev.call hcd (a := 112) (s0 := (0, [(0, .ref 123), (1, .int 5)], [], am_SH, (s2.2.2, g))) (q := ((some (.int (am_b (xt_isWord 5 s2.2.2)))), am_SH, (s2.2.2, g))) (s1 := (22, [(0, .ref 128), (1, .int a0), (2, .int (am_b s2.1)), (3, .int s2.2.1)], [.int (am_b (xt_isWord 5 s2.2.2))], am_SH, (s2.2.2, g))) rfl rfl (xt_isWord_ok (d + 2) 5 s2.2.2 g) ?_
        rcases am_ite h with ⟨c107, h⟩ | ⟨c107, h⟩
        · refine am_Ev.f hcd (c := am_b (xt_isWord 5 s2.2.2) = 0) (s1 := (23, [(0, .ref 128), (1, .int a0), (2, .int (am_b s2.1)), (3, .int s2.2.1)], [], am_SH, (s2.2.2, g))) rfl (am_b_t c107) ?_
          refine am_Ev.go hcd 3 (s' := (26, [(0, .ref 128), (1, .int a0), (2, .int (am_b s2.1)), (3, .int s2.2.1)], [.int 5, .ref 123], am_SH, (s2.2.2, g))) rfl ?_
          refine am_Ev.call hcd (a := 112) (s0 := (0, [(0, .ref 123), (1, .int 5)], [], am_SH, (s2.2.2, g))) (q := ((some (.int (am_b (xt_isWord 5 s2.2.2)))), am_SH, (s2.2.2, g))) (s1 := (27, [(0, .ref 128), (1, .int a0), (2, .int (am_b s2.1)), (3, .int s2.2.1)], [.int (am_b (xt_isWord 5 s2.2.2))], am_SH, (s2.2.2, g))) rfl rfl (xt_isWord_ok (d + 2) 5 s2.2.2 g) ?_
          obtain ⟨t16, ht16, kt16⟩ := am_bind_some h
          have hKt16 : am_Ev sc (d + 3) 103 (36, [(0, .ref 128), (1, .int a0), (2, .int (am_b s2.1)), (3, .int s2.2.1), (4, .int (am_b (xt_isWord 5 s2.2.2)))], [], am_SH, (t16, g)) ((some (.int (am_b r.1))), am_SH, (r.2, g)) := by
            have h := kt16
            obtain ⟨t17, ht17, kt17⟩ := am_let_eq h
            have hKt17 : am_Ev sc (d + 3) 103 (43, [(0, .ref 128), (1, .int a0), (3, .int s2.2.1), (4, .int (am_b (xt_isWord 5 s2.2.2)))], [.int (am_b t17)], am_SH, (t16, g)) ((some (.int (am_b r.1))), am_SH, (r.2, g)) := by
              have h := kt17
              refine am_Ev.go hcd 3 (s' := (46, [(0, .ref 128), (1, .int a0), (2, .int (am_b t17)), (3, .int s2.2.1), (4, .int (am_b (xt_isWord 5 s2.2.2)))], [.ref 123], am_SH, (t16, g))) rfl ?_
              obtain ⟨p18, hp18, h⟩ := am_bind_some h
              refine am_Ev.call hcd (a := 111) (s0 := (0, [(0, .ref 123)], [], am_SH, (t16, g))) (q := (none, am_SH, (p18, g))) (s1 := (47, [(0, .ref 128), (1, .int a0), (2, .int (am_b t17)), (3, .int s2.2.1), (4, .int (am_b (xt_isWord 5 s2.2.2)))], [], am_SH, (p18, g))) rfl rfl (xt_advance_ok (d + 2)  t16 g p18 hp18) ?_
              refine am_Ev.go hcd 2 (s' := (49, [(0, .ref 128), (1, .int a0), (2, .int (am_b t17)), (3, .int s2.2.1), (4, .int (am_b (xt_isWord 5 s2.2.2)))], [.int a0, .ref 128], am_SH, (p18, g))) rfl ?_
              obtain ⟨p19, hp19, h⟩ := am_bind_some h
              refine am_Ev.call hcd (a := 104) (s0 := (0, [(0, .ref 128), (1, .int a0)], [], am_SH, (p18, g))) (q := ((some (.int (am_b p19.1))), am_SH, (p19.2, g))) (s1 := (50, [(0, .ref 128), (1, .int a0), (2, .int (am_b t17)), (3, .int s2.2.1), (4, .int (am_b (xt_isWord 5 s2.2.2)))], [.int (am_b p19.1)], am_SH, (p19.2, g))) rfl rfl (hreadCondition a0 p18 g p19 hp19) ?_
              rcases am_ite h with ⟨c123, h⟩ | ⟨c123, h⟩
              · refine am_Ev.f hcd (c := am_b p19.1 = 0) (s1 := (53, [(0, .ref 128), (1, .int a0), (2, .int (am_b t17)), (3, .int s2.2.1), (4, .int (am_b (xt_isWord 5 s2.2.2)))], [], am_SH, (p19.2, g))) rfl (am_b_t c123) ?_
                obtain ⟨t21, ht21, kt21⟩ := am_bind_some h
                have hKt21 : am_Ev sc (d + 3) 103 (59, [(0, .ref 128), (1, .int a0), (2, .int (am_b t17)), (3, .int s2.2.1)], [], am_SH, (t21, g)) ((some (.int (am_b r.1))), am_SH, (r.2, g)) := by
                  have h := kt21
                  obtain ⟨t22, Et22, h⟩ := am_let_eq h
                  refine am_Ev.go hcd 1 (s' := (60, [(0, .ref 128), (1, .int a0), (2, .int (am_b t17)), (3, .int t22)], [], am_SH, (t21, g))) (by subst Et22; exact rfl) ?_
                  refine am_Ev.go hcd 1 (s' := (10, [(0, .ref 128), (1, .int a0), (2, .int (am_b t17)), (3, .int t22)], [], am_SH, (t21, g))) rfl ?_
                  exact am_Ev.weak' (hI2 (t17, t22, t21) (Option.some.inj h).symm) (am_sub_cons rfl (am_sub_cons rfl (am_sub_cons rfl (am_sub_cons rfl am_sub_nil)))) rfl
                have hLt21 : ∀ tt, tt = t21 → am_Ev sc (d + 3) 103 (59, [(0, .ref 128), (1, .int a0), (2, .int (am_b t17)), (3, .int s2.2.1)], [], am_SH, (tt, g)) ((some (.int (am_b r.1))), am_SH, (r.2, g)) := fun tt htt => by subst htt; exact hKt21
                have h := ht21
                refine am_Ev.go hcd 1 (s' := (54, [(0, .ref 128), (1, .int a0), (2, .int (am_b t17)), (3, .int s2.2.1), (4, .int (am_b (xt_isWord 5 s2.2.2)))], [.int (am_b (xt_isWord 5 s2.2.2))], am_SH, (p19.2, g))) rfl ?_
                rcases am_ite h with ⟨c134, h⟩ | ⟨c134, h⟩
                · refine am_Ev.f hcd (c := am_b (xt_isWord 5 s2.2.2) = 0) (s1 := (55, [(0, .ref 128), (1, .int a0), (2, .int (am_b t17)), (3, .int s2.2.1), (4, .int (am_b (xt_isWord 5 s2.2.2)))], [], am_SH, (p19.2, g))) rfl (am_b_t c134) ?_
                  refine am_Ev.go hcd 3 (s' := (58, [(0, .ref 128), (1, .int a0), (2, .int (am_b t17)), (3, .int s2.2.1), (4, .int (am_b (xt_isWord 5 s2.2.2)))], [.int 20038, .ref 129], am_SH, (p19.2, g))) rfl ?_
                  obtain ⟨p20, hp20, h⟩ := am_bind_some h
                  refine am_Ev.call hcd (a := 32) (s0 := (0, [(0, .ref 129), (1, .int 20038)], [], am_SH, (p19.2, g))) (q := (none, am_SH, (p20, g))) (s1 := (59, [(0, .ref 128), (1, .int a0), (2, .int (am_b t17)), (3, .int s2.2.1), (4, .int (am_b (xt_isWord 5 s2.2.2)))], [], am_SH, (p20, g))) rfl rfl (xl_emit_129_ok (d + 2) 20038 p19.2 g p20 hp20) ?_
                  exact am_Ev.weak' (hLt21 p20 (Option.some.inj h)) (am_sub_cons rfl (am_sub_cons rfl (am_sub_cons rfl (am_sub_cons rfl am_sub_nil)))) rfl
                · refine am_Ev.t hcd (c := am_b (xt_isWord 5 s2.2.2) = 0) (s1 := (59, [(0, .ref 128), (1, .int a0), (2, .int (am_b t17)), (3, .int s2.2.1), (4, .int (am_b (xt_isWord 5 s2.2.2)))], [], am_SH, (p19.2, g))) rfl (am_b_f c134) ?_
                  exact am_Ev.weak' (hLt21 p19.2 (Option.some.inj h)) (am_sub_cons rfl (am_sub_cons rfl (am_sub_cons rfl (am_sub_cons rfl am_sub_nil)))) rfl
              · refine am_Ev.t hcd (c := am_b p19.1 = 0) (s1 := (51, [(0, .ref 128), (1, .int a0), (2, .int (am_b t17)), (3, .int s2.2.1), (4, .int (am_b (xt_isWord 5 s2.2.2)))], [], am_SH, (p19.2, g))) rfl (am_b_f c123) ?_
                refine am_Ev.go hcd 1 (s' := (52, [(0, .ref 128), (1, .int a0), (2, .int (am_b t17)), (3, .int s2.2.1), (4, .int (am_b (xt_isWord 5 s2.2.2)))], [.int 0], am_SH, (p19.2, g))) rfl ?_
                exact am_Ev.cast (a := ((some (.int (am_b (false, p19.2).1))), am_SH, ((false, p19.2).2, g))) (hZ2 _ (Option.some.inj h).symm) (am_Ev.ret hcd rfl)
            have hLt17 : ∀ tt, tt = t17 → am_Ev sc (d + 3) 103 (43, [(0, .ref 128), (1, .int a0), (3, .int s2.2.1), (4, .int (am_b (xt_isWord 5 s2.2.2)))], [.int (am_b tt)], am_SH, (t16, g)) ((some (.int (am_b r.1))), am_SH, (r.2, g)) := fun tt htt => by subst htt; exact hKt17
            have h := ht17
            refine am_Ev.go hcd 1 (s' := (37, [(0, .ref 128), (1, .int a0), (2, .int (am_b s2.1)), (3, .int s2.2.1), (4, .int (am_b (xt_isWord 5 s2.2.2)))], [.int (am_b s2.1)], am_SH, (t16, g))) rfl ?_
            rcases am_itv h with ⟨c148, h⟩ | ⟨c148, h⟩
            · refine am_Ev.f hcd (c := am_b s2.1 = 0) (s1 := (40, [(0, .ref 128), (1, .int a0), (2, .int (am_b s2.1)), (3, .int s2.2.1), (4, .int (am_b (xt_isWord 5 s2.2.2)))], [], am_SH, (t16, g))) rfl (am_b_t c148) ?_
              refine am_Ev.go hcd 2 (s' := (43, [(0, .ref 128), (1, .int a0), (2, .int (am_b s2.1)), (3, .int s2.2.1), (4, .int (am_b (xt_isWord 5 s2.2.2)))], [.int 1], am_SH, (t16, g))) rfl ?_
              exact am_Ev.weak' (hLt17 true h.symm) (am_sub_cons rfl (am_sub_cons rfl (am_sub_cons rfl (am_sub_cons rfl am_sub_nil)))) rfl
            · refine am_Ev.t hcd (c := am_b s2.1 = 0) (s1 := (38, [(0, .ref 128), (1, .int a0), (2, .int (am_b s2.1)), (3, .int s2.2.1), (4, .int (am_b (xt_isWord 5 s2.2.2)))], [], am_SH, (t16, g))) rfl (am_b_f c148) ?_
              refine am_Ev.go hcd 1 (s' := (39, [(0, .ref 128), (1, .int a0), (2, .int (am_b s2.1)), (3, .int s2.2.1), (4, .int (am_b (xt_isWord 5 s2.2.2)))], [.int (am_b (xt_isWord 5 s2.2.2))], am_SH, (t16, g))) rfl ?_
              rcases am_itv h with ⟨c154, h⟩ | ⟨c154, h⟩
              · refine am_Ev.f hcd (c := am_b (xt_isWord 5 s2.2.2) = 0) (s1 := (42, [(0, .ref 128), (1, .int a0), (2, .int (am_b s2.1)), (3, .int s2.2.1), (4, .int (am_b (xt_isWord 5 s2.2.2)))], [], am_SH, (t16, g))) rfl (am_b_t c154) ?_
                refine am_Ev.go hcd 1 (s' := (43, [(0, .ref 128), (1, .int a0), (2, .int (am_b s2.1)), (3, .int s2.2.1), (4, .int (am_b (xt_isWord 5 s2.2.2)))], [.int 0], am_SH, (t16, g))) rfl ?_
                exact am_Ev.weak' (hLt17 false h.symm) (am_sub_cons rfl (am_sub_cons rfl (am_sub_cons rfl (am_sub_cons rfl am_sub_nil)))) rfl
              · refine am_Ev.t hcd (c := am_b (xt_isWord 5 s2.2.2) = 0) (s1 := (40, [(0, .ref 128), (1, .int a0), (2, .int (am_b s2.1)), (3, .int s2.2.1), (4, .int (am_b (xt_isWord 5 s2.2.2)))], [], am_SH, (t16, g))) rfl (am_b_f c154) ?_
                refine am_Ev.go hcd 2 (s' := (43, [(0, .ref 128), (1, .int a0), (2, .int (am_b s2.1)), (3, .int s2.2.1), (4, .int (am_b (xt_isWord 5 s2.2.2)))], [.int 1], am_SH, (t16, g))) rfl ?_
                exact am_Ev.weak' (hLt17 true h.symm) (am_sub_cons rfl (am_sub_cons rfl (am_sub_cons rfl (am_sub_cons rfl am_sub_nil)))) rfl
          have hLt16 : ∀ tt, tt = t16 → am_Ev sc (d + 3) 103 (36, [(0, .ref 128), (1, .int a0), (2, .int (am_b s2.1)), (3, .int s2.2.1), (4, .int (am_b (xt_isWord 5 s2.2.2)))], [], am_SH, (tt, g)) ((some (.int (am_b r.1))), am_SH, (r.2, g)) := fun tt htt => by subst htt; exact hKt16
          have h := ht16
          refine am_Ev.go hcd 2 (s' := (29, [(0, .ref 128), (1, .int a0), (2, .int (am_b s2.1)), (3, .int s2.2.1), (4, .int (am_b (xt_isWord 5 s2.2.2)))], [.int (am_b (xt_isWord 5 s2.2.2))], am_SH, (s2.2.2, g))) rfl ?_
          rcases am_ite h with ⟨c164, h⟩ | ⟨c164, h⟩
          · refine am_Ev.f hcd (c := am_b (xt_isWord 5 s2.2.2) = 0) (s1 := (36, [(0, .ref 128), (1, .int a0), (2, .int (am_b s2.1)), (3, .int s2.2.1), (4, .int (am_b (xt_isWord 5 s2.2.2)))], [], am_SH, (s2.2.2, g))) rfl (am_b_t c164) ?_
            exact am_Ev.weak' (hLt16 s2.2.2 (Option.some.inj h)) (am_sub_cons rfl (am_sub_cons rfl (am_sub_cons rfl (am_sub_cons rfl (am_sub_cons rfl am_sub_nil))))) rfl
          · refine am_Ev.t hcd (c := am_b (xt_isWord 5 s2.2.2) = 0) (s1 := (30, [(0, .ref 128), (1, .int a0), (2, .int (am_b s2.1)), (3, .int s2.2.1), (4, .int (am_b (xt_isWord 5 s2.2.2)))], [], am_SH, (s2.2.2, g))) rfl (am_b_f c164) ?_
            refine am_Ev.go hcd 1 (s' := (31, [(0, .ref 128), (1, .int a0), (2, .int (am_b s2.1)), (3, .int s2.2.1), (4, .int (am_b (xt_isWord 5 s2.2.2)))], [.int (am_b s2.1)], am_SH, (s2.2.2, g))) rfl ?_
            rcases am_ite h with ⟨c169, h⟩ | ⟨c169, h⟩
            · refine am_Ev.f hcd (c := am_b s2.1 = 0) (s1 := (32, [(0, .ref 128), (1, .int a0), (2, .int (am_b s2.1)), (3, .int s2.2.1), (4, .int (am_b (xt_isWord 5 s2.2.2)))], [], am_SH, (s2.2.2, g))) rfl (am_b_t c169) ?_
              refine am_Ev.go hcd 3 (s' := (35, [(0, .ref 128), (1, .int a0), (2, .int (am_b s2.1)), (3, .int s2.2.1), (4, .int (am_b (xt_isWord 5 s2.2.2)))], [.int 20124, .ref 129], am_SH, (s2.2.2, g))) rfl ?_
              obtain ⟨p15, hp15, h⟩ := am_bind_some h
              refine am_Ev.call hcd (a := 32) (s0 := (0, [(0, .ref 129), (1, .int 20124)], [], am_SH, (s2.2.2, g))) (q := (none, am_SH, (p15, g))) (s1 := (36, [(0, .ref 128), (1, .int a0), (2, .int (am_b s2.1)), (3, .int s2.2.1), (4, .int (am_b (xt_isWord 5 s2.2.2)))], [], am_SH, (p15, g))) rfl rfl (xl_emit_129_ok (d + 2) 20124 s2.2.2 g p15 hp15) ?_
              exact am_Ev.weak' (hLt16 p15 (Option.some.inj h)) (am_sub_cons rfl (am_sub_cons rfl (am_sub_cons rfl (am_sub_cons rfl (am_sub_cons rfl am_sub_nil))))) rfl
            · refine am_Ev.t hcd (c := am_b s2.1 = 0) (s1 := (36, [(0, .ref 128), (1, .int a0), (2, .int (am_b s2.1)), (3, .int s2.2.1), (4, .int (am_b (xt_isWord 5 s2.2.2)))], [], am_SH, (s2.2.2, g))) rfl (am_b_f c169) ?_
              exact am_Ev.weak' (hLt16 s2.2.2 (Option.some.inj h)) (am_sub_cons rfl (am_sub_cons rfl (am_sub_cons rfl (am_sub_cons rfl (am_sub_cons rfl am_sub_nil))))) rfl
        · refine am_Ev.t hcd (c := am_b (xt_isWord 5 s2.2.2) = 0) (s1 := (61, [(0, .ref 128), (1, .int a0), (2, .int (am_b s2.1)), (3, .int s2.2.1)], [], am_SH, (s2.2.2, g))) rfl (am_b_f c107) ?_
          exact am_Ev.weak' (hZ2 (.inr (s2.1, s2.2.2)) (Option.some.inj h).symm) (am_sub_cons rfl (am_sub_cons rfl am_sub_nil)) rfl
    · refine am_Ev.f hcd (c := s2.2.1 < 400) (s1 := (61, [(0, .ref 128), (1, .int a0), (2, .int (am_b s2.1)), (3, .int s2.2.1)], [], am_SH, (s2.2.2, g))) rfl c28 ?_
      exact am_Ev.weak' (hZ2 (.inr (s2.1, s2.2.2)) (Option.some.inj h).symm) (am_sub_cons rfl (am_sub_cons rfl am_sub_nil)) rfl
  · refine am_Ev.t hcd (c := am_b p1.1 = 0) (s1 := (4, [(0, .ref 128), (1, .int a0)], [], am_SH, (p1.2, g))) rfl (am_b_f c5) ?_
    refine am_Ev.go hcd 1 (s' := (5, [(0, .ref 128), (1, .int a0)], [.int 0], am_SH, (p1.2, g))) rfl ?_
    exact am_Ev.cast (a := ((some (.int (am_b (false, p1.2).1))), am_SH, ((false, p1.2).2, g))) (by cases h; rfl) (am_Ev.ret hcd rfl)
set_option maxRecDepth 100000 in
set_option maxHeartbeats 4000000 in
theorem xs_readCondition_Bok {sc : Nat × (Nat → Int32)} (d : Nat) (r_readAny : Int32 → (Nat → Nat → Int32) → Option (Bool × (Nat → Nat → Int32))) (r_readCondition : Int32 → (Nat → Nat → Int32) → Option (Bool × (Nat → Nat → Int32))) (hreadAny : ∀ (a0 : Int32) (f g : (Nat → Nat → Int32)) (r : Bool × (Nat → Nat → Int32)), r_readAny a0 f = some r → am_Ev sc (d + 2) 103 (0, [(0, .ref 128), (1, .int a0)], [], am_SH, (f, g)) ((some (.int (am_b r.1))), am_SH, (r.2, g))) (hreadCondition : ∀ (a0 : Int32) (f g : (Nat → Nat → Int32)) (r : Bool × (Nat → Nat → Int32)), r_readCondition a0 f = some r → am_Ev sc (d + 2) 104 (0, [(0, .ref 128), (1, .int a0)], [], am_SH, (f, g)) ((some (.int (am_b r.1))), am_SH, (r.2, g))) (a0 : Int32) (f g : (Nat → Nat → Int32)) (r : Bool × (Nat → Nat → Int32)) (h : xs_readCondition_B r_readAny r_readCondition a0 f = some r) : am_Ev sc (d + 3) 104 (0, [(0, .ref 128), (1, .int a0)], [], am_SH, (f, g)) ((some (.int (am_b r.1))), am_SH, (r.2, g)) := by
  have hcd : am_code 104 = am_c104 := rfl
  unfold xs_readCondition_B at h
  refine am_Ev.go hcd 3 (s' := (3, [(0, .ref 128), (1, .int a0)], [.int 6, .ref 123], am_SH, (f, g))) rfl ?_
  refine am_Ev.call hcd (a := 112) (s0 := (0, [(0, .ref 123), (1, .int 6)], [], am_SH, (f, g))) (q := ((some (.int (am_b (xt_isWord 6 f)))), am_SH, (f, g))) (s1 := (4, [(0, .ref 128), (1, .int a0)], [.int (am_b (xt_isWord 6 f))], am_SH, (f, g))) rfl rfl (xt_isWord_ok (d + 2) 6 f g) ?_
  refine am_Ev.go hcd 4 (s' := (8, [(0, .ref 128), (1, .int a0), (2, .int (am_b (xt_isWord 6 f)))], [.int 40, .ref 123], am_SH, (f, g))) rfl ?_
  refine am_Ev.call hcd (a := 113) (s0 := (0, [(0, .ref 123), (1, .int 40)], [], am_SH, (f, g))) (q := ((some (.int (am_b (xt_isSign 40 f)))), am_SH, (f, g))) (s1 := (9, [(0, .ref 128), (1, .int a0), (2, .int (am_b (xt_isWord 6 f)))], [.int (am_b (xt_isSign 40 f))], am_SH, (f, g))) rfl rfl (xt_isSign_ok (d + 2) 40 f g) ?_
  refine am_Ev.go hcd 2 (s' := (11, [(0, .ref 128), (1, .int a0), (2, .int (am_b (xt_isWord 6 f))), (3, .int (am_b (xt_isSign 40 f)))], [.int (am_b (xt_isWord 6 f))], am_SH, (f, g))) rfl ?_
  rcases am_ite h with ⟨c6, h⟩ | ⟨c6, h⟩
  · refine am_Ev.f hcd (c := am_b (xt_isWord 6 f) = 0) (s1 := (14, [(0, .ref 128), (1, .int a0), (2, .int (am_b (xt_isWord 6 f))), (3, .int (am_b (xt_isSign 40 f)))], [], am_SH, (f, g))) rfl (am_b_t c6) ?_
    refine am_Ev.go hcd 2 (s' := (16, [(0, .ref 128), (1, .int a0), (2, .int (am_b (xt_isWord 6 f))), (3, .int (am_b (xt_isSign 40 f)))], [.int 8, .int a0], am_SH, (f, g))) rfl ?_
    rcases am_ite h with ⟨c9, h⟩ | ⟨c9, h⟩
    · refine am_Ev.t hcd (c := a0 < 8) (s1 := (21, [(0, .ref 128), (1, .int a0), (2, .int (am_b (xt_isWord 6 f))), (3, .int (am_b (xt_isSign 40 f)))], [], am_SH, (f, g))) rfl c9 ?_
      refine am_Ev.go hcd 1 (s' := (22, [(0, .ref 128), (1, .int a0), (2, .int (am_b (xt_isWord 6 f))), (3, .int (am_b (xt_isSign 40 f)))], [.int (am_b (xt_isWord 6 f))], am_SH, (f, g))) rfl ?_
      rcases am_ite h with ⟨c12, h⟩ | ⟨c12, h⟩
      · refine am_Ev.f hcd (c := am_b (xt_isWord 6 f) = 0) (s1 := (23, [(0, .ref 128), (1, .int a0), (2, .int (am_b (xt_isWord 6 f))), (3, .int (am_b (xt_isSign 40 f)))], [], am_SH, (f, g))) rfl (am_b_t c12) ?_
        refine am_Ev.go hcd 2 (s' := (25, [(0, .ref 128), (1, .int a0), (2, .int (am_b (xt_isWord 6 f))), (3, .int (am_b (xt_isSign 40 f)))], [.ref 123], am_SH, (f, g))) rfl ?_
        obtain ⟨p3, hp3, h⟩ := am_bind_some h
        refine am_Ev.call hcd (a := 111) (s0 := (0, [(0, .ref 123)], [], am_SH, (f, g))) (q := (none, am_SH, (p3, g))) (s1 := (26, [(0, .ref 128), (1, .int a0), (2, .int (am_b (xt_isWord 6 f))), (3, .int (am_b (xt_isSign 40 f)))], [], am_SH, (p3, g))) rfl rfl (xt_advance_ok (d + 2)  f g p3 hp3) ?_
        refine am_Ev.go hcd 4 (s' := (30, [(0, .ref 128), (1, .int a0), (2, .int (am_b (xt_isWord 6 f))), (3, .int (am_b (xt_isSign 40 f)))], [.int (a0 + 1), .ref 128], am_SH, (p3, g))) rfl ?_
        obtain ⟨p4, hp4, h⟩ := am_bind_some h
        refine am_Ev.call hcd (a := 104) (s0 := (0, [(0, .ref 128), (1, .int (a0 + 1))], [], am_SH, (p3, g))) (q := ((some (.int (am_b p4.1))), am_SH, (p4.2, g))) (s1 := (31, [(0, .ref 128), (1, .int a0), (2, .int (am_b (xt_isWord 6 f))), (3, .int (am_b (xt_isSign 40 f)))], [.int (am_b p4.1)], am_SH, (p4.2, g))) rfl rfl (hreadCondition (a0 + 1) p3 g p4 hp4) ?_
        refine am_Ev.go hcd 4 (s' := (35, [(0, .ref 128), (1, .int a0), (2, .int (am_b (xt_isWord 6 f))), (3, .int (am_b (xt_isSign 40 f))), (4, .int (am_b p4.1))], [.int 20033, .ref 129], am_SH, (p4.2, g))) rfl ?_
        obtain ⟨p5, hp5, h⟩ := am_bind_some h
        refine am_Ev.call hcd (a := 32) (s0 := (0, [(0, .ref 129), (1, .int 20033)], [], am_SH, (p4.2, g))) (q := (none, am_SH, (p5, g))) (s1 := (36, [(0, .ref 128), (1, .int a0), (2, .int (am_b (xt_isWord 6 f))), (3, .int (am_b (xt_isSign 40 f))), (4, .int (am_b p4.1))], [], am_SH, (p5, g))) rfl rfl (xl_emit_129_ok (d + 2) 20033 p4.2 g p5 hp5) ?_
        refine am_Ev.go hcd 1 (s' := (37, [(0, .ref 128), (1, .int a0), (2, .int (am_b (xt_isWord 6 f))), (3, .int (am_b (xt_isSign 40 f))), (4, .int (am_b p4.1))], [.int (am_b p4.1)], am_SH, (p5, g))) rfl ?_
        exact am_Ev.cast (a := ((some (.int (am_b (p4.1, p5).1))), am_SH, ((p4.1, p5).2, g))) (by cases h; rfl) (am_Ev.retb hcd rfl)
      · refine am_Ev.t hcd (c := am_b (xt_isWord 6 f) = 0) (s1 := (38, [(0, .ref 128), (1, .int a0), (2, .int (am_b (xt_isWord 6 f))), (3, .int (am_b (xt_isSign 40 f)))], [], am_SH, (f, g))) rfl (am_b_f c12) ?_
        refine am_Ev.go hcd 1 (s' := (39, [(0, .ref 128), (1, .int a0), (2, .int (am_b (xt_isWord 6 f))), (3, .int (am_b (xt_isSign 40 f)))], [.int (am_b (xt_isSign 40 f))], am_SH, (f, g))) rfl ?_
        rcases am_ite h with ⟨c27, h⟩ | ⟨c27, h⟩
        · refine am_Ev.f hcd (c := am_b (xt_isSign 40 f) = 0) (s1 := (40, [(0, .ref 128), (1, .int a0), (2, .int (am_b (xt_isWord 6 f))), (3, .int (am_b (xt_isSign 40 f)))], [], am_SH, (f, g))) rfl (am_b_t c27) ?_
          refine am_Ev.go hcd 2 (s' := (42, [(0, .ref 128), (1, .int a0), (2, .int (am_b (xt_isWord 6 f))), (3, .int (am_b (xt_isSign 40 f)))], [.ref 123], am_SH, (f, g))) rfl ?_
          obtain ⟨p6, hp6, h⟩ := am_bind_some h
          refine am_Ev.call hcd (a := 111) (s0 := (0, [(0, .ref 123)], [], am_SH, (f, g))) (q := (none, am_SH, (p6, g))) (s1 := (43, [(0, .ref 128), (1, .int a0), (2, .int (am_b (xt_isWord 6 f))), (3, .int (am_b (xt_isSign 40 f)))], [], am_SH, (p6, g))) rfl rfl (xt_advance_ok (d + 2)  f g p6 hp6) ?_
          refine am_Ev.go hcd 4 (s' := (47, [(0, .ref 128), (1, .int a0), (2, .int (am_b (xt_isWord 6 f))), (3, .int (am_b (xt_isSign 40 f)))], [.int (a0 + 1), .ref 128], am_SH, (p6, g))) rfl ?_
          obtain ⟨p7, hp7, h⟩ := am_bind_some h
          refine am_Ev.call hcd (a := 103) (s0 := (0, [(0, .ref 128), (1, .int (a0 + 1))], [], am_SH, (p6, g))) (q := ((some (.int (am_b p7.1))), am_SH, (p7.2, g))) (s1 := (48, [(0, .ref 128), (1, .int a0), (2, .int (am_b (xt_isWord 6 f))), (3, .int (am_b (xt_isSign 40 f)))], [.int (am_b p7.1)], am_SH, (p7.2, g))) rfl rfl (hreadAny (a0 + 1) p6 g p7 hp7) ?_
          rcases am_ite h with ⟨c36, h⟩ | ⟨c36, h⟩
          · refine am_Ev.f hcd (c := am_b p7.1 = 0) (s1 := (49, [(0, .ref 128), (1, .int a0), (2, .int (am_b (xt_isWord 6 f))), (3, .int (am_b (xt_isSign 40 f)))], [], am_SH, (p7.2, g))) rfl (am_b_t c36) ?_
            refine am_Ev.go hcd 2 (s' := (51, [(0, .ref 128), (1, .int a0), (2, .int (am_b (xt_isWord 6 f))), (3, .int (am_b (xt_isSign 40 f)))], [.int 41, .ref 128], am_SH, (p7.2, g))) rfl ?_
            obtain ⟨p8, hp8, h⟩ := am_bind_some h
            refine am_Ev.call hcd (a := 94) (s0 := (0, [(0, .ref 128), (1, .int 41)], [], am_SH, (p7.2, g))) (q := ((some (.int (am_b p8.1))), am_SH, (p8.2, g))) (s1 := (52, [(0, .ref 128), (1, .int a0), (2, .int (am_b (xt_isWord 6 f))), (3, .int (am_b (xt_isSign 40 f)))], [.int (am_b p8.1)], am_SH, (p8.2, g))) rfl rfl (xs_takeSign_ok (d + 1) 41 p7.2 g p8 hp8) ?_
            rcases am_ite h with ⟨c41, h⟩ | ⟨c41, h⟩
            · refine am_Ev.f hcd (c := am_b p8.1 = 0) (s1 := (53, [(0, .ref 128), (1, .int a0), (2, .int (am_b (xt_isWord 6 f))), (3, .int (am_b (xt_isSign 40 f)))], [], am_SH, (p8.2, g))) rfl (am_b_t c41) ?_
              refine am_Ev.go hcd 2 (s' := (56, [(0, .ref 128), (1, .int a0), (2, .int (am_b (xt_isWord 6 f))), (3, .int (am_b (xt_isSign 40 f)))], [.int 1], am_SH, (p8.2, g))) rfl ?_
              exact am_Ev.cast (a := ((some (.int (am_b (true, p8.2).1))), am_SH, ((true, p8.2).2, g))) (by cases h; rfl) (am_Ev.ret hcd rfl)
            · refine am_Ev.t hcd (c := am_b p8.1 = 0) (s1 := (55, [(0, .ref 128), (1, .int a0), (2, .int (am_b (xt_isWord 6 f))), (3, .int (am_b (xt_isSign 40 f)))], [], am_SH, (p8.2, g))) rfl (am_b_f c41) ?_
              refine am_Ev.go hcd 1 (s' := (56, [(0, .ref 128), (1, .int a0), (2, .int (am_b (xt_isWord 6 f))), (3, .int (am_b (xt_isSign 40 f)))], [.int 0], am_SH, (p8.2, g))) rfl ?_
              exact am_Ev.cast (a := ((some (.int (am_b (false, p8.2).1))), am_SH, ((false, p8.2).2, g))) (by cases h; rfl) (am_Ev.ret hcd rfl)
          · refine am_Ev.t hcd (c := am_b p7.1 = 0) (s1 := (55, [(0, .ref 128), (1, .int a0), (2, .int (am_b (xt_isWord 6 f))), (3, .int (am_b (xt_isSign 40 f)))], [], am_SH, (p7.2, g))) rfl (am_b_f c36) ?_
            refine am_Ev.go hcd 1 (s' := (56, [(0, .ref 128), (1, .int a0), (2, .int (am_b (xt_isWord 6 f))), (3, .int (am_b (xt_isSign 40 f)))], [.int 0], am_SH, (p7.2, g))) rfl ?_
            exact am_Ev.cast (a := ((some (.int (am_b (false, p7.2).1))), am_SH, ((false, p7.2).2, g))) (by cases h; rfl) (am_Ev.ret hcd rfl)
        · refine am_Ev.t hcd (c := am_b (xt_isSign 40 f) = 0) (s1 := (57, [(0, .ref 128), (1, .int a0), (2, .int (am_b (xt_isWord 6 f))), (3, .int (am_b (xt_isSign 40 f)))], [], am_SH, (f, g))) rfl (am_b_f c27) ?_
          refine am_Ev.go hcd 1 (s' := (58, [(0, .ref 128), (1, .int a0), (2, .int (am_b (xt_isWord 6 f))), (3, .int (am_b (xt_isSign 40 f)))], [.ref 128], am_SH, (f, g))) rfl ?_
          obtain ⟨p9, hp9, h⟩ := am_bind_some h
          refine am_Ev.call hcd (a := 105) (s0 := (0, [(0, .ref 128)], [], am_SH, (f, g))) (q := ((some (.int (am_b p9.1))), am_SH, (p9.2, g))) (s1 := (59, [(0, .ref 128), (1, .int a0), (2, .int (am_b (xt_isWord 6 f))), (3, .int (am_b (xt_isSign 40 f)))], [.int (am_b p9.1)], am_SH, (p9.2, g))) rfl rfl (xs_readSum_ok (d)  f g p9 hp9) ?_
          rcases am_ite h with ⟨c55, h⟩ | ⟨c55, h⟩
          · refine am_Ev.f hcd (c := am_b p9.1 = 0) (s1 := (62, [(0, .ref 128), (1, .int a0), (2, .int (am_b (xt_isWord 6 f))), (3, .int (am_b (xt_isSign 40 f)))], [], am_SH, (p9.2, g))) rfl (am_b_t c55) ?_
            obtain ⟨t10, Et10, h⟩ := am_let_eq h
            refine am_Ev.go hcd 4 (s' := (66, [(0, .ref 128), (1, .int a0), (2, .int (am_b (xt_isWord 6 f))), (3, .int (am_b (xt_isSign 40 f))), (4, .int t10)], [], am_SH, (p9.2, g))) (by subst Et10; exact rfl) ?_
            refine am_Ev.go hcd 3 (s' := (69, [(0, .ref 128), (1, .int a0), (2, .int (am_b (xt_isWord 6 f))), (3, .int (am_b (xt_isSign 40 f))), (4, .int t10)], [.int 60, .ref 123], am_SH, (p9.2, g))) rfl ?_
            refine am_Ev.call hcd (a := 113) (s0 := (0, [(0, .ref 123), (1, .int 60)], [], am_SH, (p9.2, g))) (q := ((some (.int (am_b (xt_isSign 60 p9.2)))), am_SH, (p9.2, g))) (s1 := (70, [(0, .ref 128), (1, .int a0), (2, .int (am_b (xt_isWord 6 f))), (3, .int (am_b (xt_isSign 40 f))), (4, .int t10)], [.int (am_b (xt_isSign 60 p9.2))], am_SH, (p9.2, g))) rfl rfl (xt_isSign_ok (d + 2) 60 p9.2 g) ?_
            rcases am_ite h with ⟨c61, h⟩ | ⟨c61, h⟩
            · refine am_Ev.f hcd (c := am_b (xt_isSign 60 p9.2) = 0) (s1 := (85, [(0, .ref 128), (1, .int a0), (2, .int (am_b (xt_isWord 6 f))), (3, .int (am_b (xt_isSign 40 f))), (4, .int t10)], [], am_SH, (p9.2, g))) rfl (am_b_t c61) ?_
              refine am_Ev.go hcd 2 (s' := (87, [(0, .ref 128), (1, .int a0), (2, .int (am_b (xt_isWord 6 f))), (3, .int (am_b (xt_isSign 40 f))), (4, .int t10)], [.ref 123], am_SH, (p9.2, g))) rfl ?_
              obtain ⟨p12, hp12, h⟩ := am_bind_some h
              refine am_Ev.call hcd (a := 111) (s0 := (0, [(0, .ref 123)], [], am_SH, (p9.2, g))) (q := (none, am_SH, (p12, g))) (s1 := (88, [(0, .ref 128), (1, .int a0), (2, .int (am_b (xt_isWord 6 f))), (3, .int (am_b (xt_isSign 40 f))), (4, .int t10)], [], am_SH, (p12, g))) rfl rfl (xt_advance_ok (d + 2)  p9.2 g p12 hp12) ?_
              refine am_Ev.go hcd 1 (s' := (89, [(0, .ref 128), (1, .int a0), (2, .int (am_b (xt_isWord 6 f))), (3, .int (am_b (xt_isSign 40 f))), (4, .int t10)], [.ref 128], am_SH, (p12, g))) rfl ?_
              obtain ⟨p13, hp13, h⟩ := am_bind_some h
              refine am_Ev.call hcd (a := 105) (s0 := (0, [(0, .ref 128)], [], am_SH, (p12, g))) (q := ((some (.int (am_b p13.1))), am_SH, (p13.2, g))) (s1 := (90, [(0, .ref 128), (1, .int a0), (2, .int (am_b (xt_isWord 6 f))), (3, .int (am_b (xt_isSign 40 f))), (4, .int t10)], [.int (am_b p13.1)], am_SH, (p13.2, g))) rfl rfl (xs_readSum_ok (d)  p12 g p13 hp13) ?_
              refine am_Ev.go hcd 6 (s' := (96, [(0, .ref 128), (1, .int a0), (2, .int (am_b (xt_isWord 6 f))), (3, .int (am_b (xt_isSign 40 f))), (4, .int t10), (5, .int (am_b p13.1))], [.int (20000 + t10), .ref 129], am_SH, (p13.2, g))) rfl ?_
              obtain ⟨p14, hp14, h⟩ := am_bind_some h
              refine am_Ev.call hcd (a := 32) (s0 := (0, [(0, .ref 129), (1, .int (20000 + t10))], [], am_SH, (p13.2, g))) (q := (none, am_SH, (p14, g))) (s1 := (97, [(0, .ref 128), (1, .int a0), (2, .int (am_b (xt_isWord 6 f))), (3, .int (am_b (xt_isSign 40 f))), (4, .int t10), (5, .int (am_b p13.1))], [], am_SH, (p14, g))) rfl rfl (xl_emit_129_ok (d + 2) (20000 + t10) p13.2 g p14 hp14) ?_
              refine am_Ev.go hcd 1 (s' := (98, [(0, .ref 128), (1, .int a0), (2, .int (am_b (xt_isWord 6 f))), (3, .int (am_b (xt_isSign 40 f))), (4, .int t10), (5, .int (am_b p13.1))], [.int (am_b p13.1)], am_SH, (p14, g))) rfl ?_
              exact am_Ev.cast (a := ((some (.int (am_b (p13.1, p14).1))), am_SH, ((p13.1, p14).2, g))) (by cases h; rfl) (am_Ev.retb hcd rfl)
            · refine am_Ev.t hcd (c := am_b (xt_isSign 60 p9.2) = 0) (s1 := (71, [(0, .ref 128), (1, .int a0), (2, .int (am_b (xt_isWord 6 f))), (3, .int (am_b (xt_isSign 40 f))), (4, .int t10)], [], am_SH, (p9.2, g))) rfl (am_b_f c61) ?_
              refine am_Ev.go hcd 3 (s' := (74, [(0, .ref 128), (1, .int a0), (2, .int (am_b (xt_isWord 6 f))), (3, .int (am_b (xt_isSign 40 f))), (4, .int t10)], [.int 61, .ref 123], am_SH, (p9.2, g))) rfl ?_
              refine am_Ev.call hcd (a := 113) (s0 := (0, [(0, .ref 123), (1, .int 61)], [], am_SH, (p9.2, g))) (q := ((some (.int (am_b (xt_isSign 61 p9.2)))), am_SH, (p9.2, g))) (s1 := (75, [(0, .ref 128), (1, .int a0), (2, .int (am_b (xt_isWord 6 f))), (3, .int (am_b (xt_isSign 40 f))), (4, .int t10)], [.int (am_b (xt_isSign 61 p9.2))], am_SH, (p9.2, g))) rfl rfl (xt_isSign_ok (d + 2) 61 p9.2 g) ?_
              rcases am_ite h with ⟨c77, h⟩ | ⟨c77, h⟩
              · refine am_Ev.f hcd (c := am_b (xt_isSign 61 p9.2) = 0) (s1 := (85, [(0, .ref 128), (1, .int a0), (2, .int (am_b (xt_isWord 6 f))), (3, .int (am_b (xt_isSign 40 f))), (4, .int t10)], [], am_SH, (p9.2, g))) rfl (am_b_t c77) ?_
                refine am_Ev.go hcd 2 (s' := (87, [(0, .ref 128), (1, .int a0), (2, .int (am_b (xt_isWord 6 f))), (3, .int (am_b (xt_isSign 40 f))), (4, .int t10)], [.ref 123], am_SH, (p9.2, g))) rfl ?_
                obtain ⟨p16, hp16, h⟩ := am_bind_some h
                refine am_Ev.call hcd (a := 111) (s0 := (0, [(0, .ref 123)], [], am_SH, (p9.2, g))) (q := (none, am_SH, (p16, g))) (s1 := (88, [(0, .ref 128), (1, .int a0), (2, .int (am_b (xt_isWord 6 f))), (3, .int (am_b (xt_isSign 40 f))), (4, .int t10)], [], am_SH, (p16, g))) rfl rfl (xt_advance_ok (d + 2)  p9.2 g p16 hp16) ?_
                refine am_Ev.go hcd 1 (s' := (89, [(0, .ref 128), (1, .int a0), (2, .int (am_b (xt_isWord 6 f))), (3, .int (am_b (xt_isSign 40 f))), (4, .int t10)], [.ref 128], am_SH, (p16, g))) rfl ?_
                obtain ⟨p17, hp17, h⟩ := am_bind_some h
                refine am_Ev.call hcd (a := 105) (s0 := (0, [(0, .ref 128)], [], am_SH, (p16, g))) (q := ((some (.int (am_b p17.1))), am_SH, (p17.2, g))) (s1 := (90, [(0, .ref 128), (1, .int a0), (2, .int (am_b (xt_isWord 6 f))), (3, .int (am_b (xt_isSign 40 f))), (4, .int t10)], [.int (am_b p17.1)], am_SH, (p17.2, g))) rfl rfl (xs_readSum_ok (d)  p16 g p17 hp17) ?_
                refine am_Ev.go hcd 6 (s' := (96, [(0, .ref 128), (1, .int a0), (2, .int (am_b (xt_isWord 6 f))), (3, .int (am_b (xt_isSign 40 f))), (4, .int t10), (5, .int (am_b p17.1))], [.int (20000 + t10), .ref 129], am_SH, (p17.2, g))) rfl ?_
                obtain ⟨p18, hp18, h⟩ := am_bind_some h
                refine am_Ev.call hcd (a := 32) (s0 := (0, [(0, .ref 129), (1, .int (20000 + t10))], [], am_SH, (p17.2, g))) (q := (none, am_SH, (p18, g))) (s1 := (97, [(0, .ref 128), (1, .int a0), (2, .int (am_b (xt_isWord 6 f))), (3, .int (am_b (xt_isSign 40 f))), (4, .int t10), (5, .int (am_b p17.1))], [], am_SH, (p18, g))) rfl rfl (xl_emit_129_ok (d + 2) (20000 + t10) p17.2 g p18 hp18) ?_
                refine am_Ev.go hcd 1 (s' := (98, [(0, .ref 128), (1, .int a0), (2, .int (am_b (xt_isWord 6 f))), (3, .int (am_b (xt_isSign 40 f))), (4, .int t10), (5, .int (am_b p17.1))], [.int (am_b p17.1)], am_SH, (p18, g))) rfl ?_
                exact am_Ev.cast (a := ((some (.int (am_b (p17.1, p18).1))), am_SH, ((p17.1, p18).2, g))) (by cases h; rfl) (am_Ev.retb hcd rfl)
              · refine am_Ev.t hcd (c := am_b (xt_isSign 61 p9.2) = 0) (s1 := (76, [(0, .ref 128), (1, .int a0), (2, .int (am_b (xt_isWord 6 f))), (3, .int (am_b (xt_isSign 40 f))), (4, .int t10)], [], am_SH, (p9.2, g))) rfl (am_b_f c77) ?_
                refine am_Ev.go hcd 3 (s' := (79, [(0, .ref 128), (1, .int a0), (2, .int (am_b (xt_isWord 6 f))), (3, .int (am_b (xt_isSign 40 f))), (4, .int t10)], [.int 62, .ref 123], am_SH, (p9.2, g))) rfl ?_
                refine am_Ev.call hcd (a := 113) (s0 := (0, [(0, .ref 123), (1, .int 62)], [], am_SH, (p9.2, g))) (q := ((some (.int (am_b (xt_isSign 62 p9.2)))), am_SH, (p9.2, g))) (s1 := (80, [(0, .ref 128), (1, .int a0), (2, .int (am_b (xt_isWord 6 f))), (3, .int (am_b (xt_isSign 40 f))), (4, .int t10)], [.int (am_b (xt_isSign 62 p9.2))], am_SH, (p9.2, g))) rfl rfl (xt_isSign_ok (d + 2) 62 p9.2 g) ?_
                rcases am_ite h with ⟨c93, h⟩ | ⟨c93, h⟩
                · refine am_Ev.f hcd (c := am_b (xt_isSign 62 p9.2) = 0) (s1 := (85, [(0, .ref 128), (1, .int a0), (2, .int (am_b (xt_isWord 6 f))), (3, .int (am_b (xt_isSign 40 f))), (4, .int t10)], [], am_SH, (p9.2, g))) rfl (am_b_t c93) ?_
                  refine am_Ev.go hcd 2 (s' := (87, [(0, .ref 128), (1, .int a0), (2, .int (am_b (xt_isWord 6 f))), (3, .int (am_b (xt_isSign 40 f))), (4, .int t10)], [.ref 123], am_SH, (p9.2, g))) rfl ?_
                  obtain ⟨p20, hp20, h⟩ := am_bind_some h
                  refine am_Ev.call hcd (a := 111) (s0 := (0, [(0, .ref 123)], [], am_SH, (p9.2, g))) (q := (none, am_SH, (p20, g))) (s1 := (88, [(0, .ref 128), (1, .int a0), (2, .int (am_b (xt_isWord 6 f))), (3, .int (am_b (xt_isSign 40 f))), (4, .int t10)], [], am_SH, (p20, g))) rfl rfl (xt_advance_ok (d + 2)  p9.2 g p20 hp20) ?_
                  refine am_Ev.go hcd 1 (s' := (89, [(0, .ref 128), (1, .int a0), (2, .int (am_b (xt_isWord 6 f))), (3, .int (am_b (xt_isSign 40 f))), (4, .int t10)], [.ref 128], am_SH, (p20, g))) rfl ?_
                  obtain ⟨p21, hp21, h⟩ := am_bind_some h
                  refine am_Ev.call hcd (a := 105) (s0 := (0, [(0, .ref 128)], [], am_SH, (p20, g))) (q := ((some (.int (am_b p21.1))), am_SH, (p21.2, g))) (s1 := (90, [(0, .ref 128), (1, .int a0), (2, .int (am_b (xt_isWord 6 f))), (3, .int (am_b (xt_isSign 40 f))), (4, .int t10)], [.int (am_b p21.1)], am_SH, (p21.2, g))) rfl rfl (xs_readSum_ok (d)  p20 g p21 hp21) ?_
                  refine am_Ev.go hcd 6 (s' := (96, [(0, .ref 128), (1, .int a0), (2, .int (am_b (xt_isWord 6 f))), (3, .int (am_b (xt_isSign 40 f))), (4, .int t10), (5, .int (am_b p21.1))], [.int (20000 + t10), .ref 129], am_SH, (p21.2, g))) rfl ?_
                  obtain ⟨p22, hp22, h⟩ := am_bind_some h
                  refine am_Ev.call hcd (a := 32) (s0 := (0, [(0, .ref 129), (1, .int (20000 + t10))], [], am_SH, (p21.2, g))) (q := (none, am_SH, (p22, g))) (s1 := (97, [(0, .ref 128), (1, .int a0), (2, .int (am_b (xt_isWord 6 f))), (3, .int (am_b (xt_isSign 40 f))), (4, .int t10), (5, .int (am_b p21.1))], [], am_SH, (p22, g))) rfl rfl (xl_emit_129_ok (d + 2) (20000 + t10) p21.2 g p22 hp22) ?_
                  refine am_Ev.go hcd 1 (s' := (98, [(0, .ref 128), (1, .int a0), (2, .int (am_b (xt_isWord 6 f))), (3, .int (am_b (xt_isSign 40 f))), (4, .int t10), (5, .int (am_b p21.1))], [.int (am_b p21.1)], am_SH, (p22, g))) rfl ?_
                  exact am_Ev.cast (a := ((some (.int (am_b (p21.1, p22).1))), am_SH, ((p21.1, p22).2, g))) (by cases h; rfl) (am_Ev.retb hcd rfl)
                · refine am_Ev.t hcd (c := am_b (xt_isSign 62 p9.2) = 0) (s1 := (81, [(0, .ref 128), (1, .int a0), (2, .int (am_b (xt_isWord 6 f))), (3, .int (am_b (xt_isSign 40 f))), (4, .int t10)], [], am_SH, (p9.2, g))) rfl (am_b_f c93) ?_
                  refine am_Ev.go hcd 2 (s' := (83, [(0, .ref 128), (1, .int a0), (2, .int (am_b (xt_isWord 6 f))), (3, .int (am_b (xt_isSign 40 f))), (4, .int t10)], [.int 1, .ref 128], am_SH, (p9.2, g))) rfl ?_
                  obtain ⟨p23, Ep23, h⟩ := am_let_eq h
                  refine am_Ev.call hcd (a := 92) (s0 := (0, [(0, .ref 128), (1, .int 1)], [], am_SH, (p9.2, g))) (q := ((some (.int (am_b p23.1))), am_SH, (p23.2, g))) (s1 := (84, [(0, .ref 128), (1, .int a0), (2, .int (am_b (xt_isWord 6 f))), (3, .int (am_b (xt_isSign 40 f))), (4, .int t10)], [.int (am_b p23.1)], am_SH, (p23.2, g))) rfl rfl (by subst Ep23; exact xs_refuse_ok (d + 2) 1 p9.2 g) ?_
                  exact am_Ev.cast (a := ((some (.int (am_b (p23.1, p23.2).1))), am_SH, ((p23.1, p23.2).2, g))) (by cases h; rfl) (am_Ev.retb hcd rfl)
          · refine am_Ev.t hcd (c := am_b p9.1 = 0) (s1 := (60, [(0, .ref 128), (1, .int a0), (2, .int (am_b (xt_isWord 6 f))), (3, .int (am_b (xt_isSign 40 f)))], [], am_SH, (p9.2, g))) rfl (am_b_f c55) ?_
            refine am_Ev.go hcd 1 (s' := (61, [(0, .ref 128), (1, .int a0), (2, .int (am_b (xt_isWord 6 f))), (3, .int (am_b (xt_isSign 40 f)))], [.int 0], am_SH, (p9.2, g))) rfl ?_
            exact am_Ev.cast (a := ((some (.int (am_b (false, p9.2).1))), am_SH, ((false, p9.2).2, g))) (by cases h; rfl) (am_Ev.ret hcd rfl)
    · refine am_Ev.f hcd (c := a0 < 8) (s1 := (17, [(0, .ref 128), (1, .int a0), (2, .int (am_b (xt_isWord 6 f))), (3, .int (am_b (xt_isSign 40 f)))], [], am_SH, (f, g))) rfl c9 ?_
      refine am_Ev.go hcd 2 (s' := (19, [(0, .ref 128), (1, .int a0), (2, .int (am_b (xt_isWord 6 f))), (3, .int (am_b (xt_isSign 40 f)))], [.int 3, .ref 128], am_SH, (f, g))) rfl ?_
      obtain ⟨p24, Ep24, h⟩ := am_let_eq h
      refine am_Ev.call hcd (a := 92) (s0 := (0, [(0, .ref 128), (1, .int 3)], [], am_SH, (f, g))) (q := ((some (.int (am_b p24.1))), am_SH, (p24.2, g))) (s1 := (20, [(0, .ref 128), (1, .int a0), (2, .int (am_b (xt_isWord 6 f))), (3, .int (am_b (xt_isSign 40 f)))], [.int (am_b p24.1)], am_SH, (p24.2, g))) rfl rfl (by subst Ep24; exact xs_refuse_ok (d + 2) 3 f g) ?_
      exact am_Ev.cast (a := ((some (.int (am_b (p24.1, p24.2).1))), am_SH, ((p24.1, p24.2).2, g))) (by cases h; rfl) (am_Ev.retb hcd rfl)
  · refine am_Ev.t hcd (c := am_b (xt_isWord 6 f) = 0) (s1 := (12, [(0, .ref 128), (1, .int a0), (2, .int (am_b (xt_isWord 6 f))), (3, .int (am_b (xt_isSign 40 f)))], [], am_SH, (f, g))) rfl (am_b_f c6) ?_
    refine am_Ev.go hcd 1 (s' := (13, [(0, .ref 128), (1, .int a0), (2, .int (am_b (xt_isWord 6 f))), (3, .int (am_b (xt_isSign 40 f)))], [.int (am_b (xt_isSign 40 f))], am_SH, (f, g))) rfl ?_
    rcases am_ite h with ⟨c120, h⟩ | ⟨c120, h⟩
    · refine am_Ev.f hcd (c := am_b (xt_isSign 40 f) = 0) (s1 := (14, [(0, .ref 128), (1, .int a0), (2, .int (am_b (xt_isWord 6 f))), (3, .int (am_b (xt_isSign 40 f)))], [], am_SH, (f, g))) rfl (am_b_t c120) ?_
      refine am_Ev.go hcd 2 (s' := (16, [(0, .ref 128), (1, .int a0), (2, .int (am_b (xt_isWord 6 f))), (3, .int (am_b (xt_isSign 40 f)))], [.int 8, .int a0], am_SH, (f, g))) rfl ?_
      rcases am_ite h with ⟨c123, h⟩ | ⟨c123, h⟩
      · refine am_Ev.t hcd (c := a0 < 8) (s1 := (21, [(0, .ref 128), (1, .int a0), (2, .int (am_b (xt_isWord 6 f))), (3, .int (am_b (xt_isSign 40 f)))], [], am_SH, (f, g))) rfl c123 ?_
        refine am_Ev.go hcd 1 (s' := (22, [(0, .ref 128), (1, .int a0), (2, .int (am_b (xt_isWord 6 f))), (3, .int (am_b (xt_isSign 40 f)))], [.int (am_b (xt_isWord 6 f))], am_SH, (f, g))) rfl ?_
        rcases am_ite h with ⟨c126, h⟩ | ⟨c126, h⟩
        · refine am_Ev.f hcd (c := am_b (xt_isWord 6 f) = 0) (s1 := (23, [(0, .ref 128), (1, .int a0), (2, .int (am_b (xt_isWord 6 f))), (3, .int (am_b (xt_isSign 40 f)))], [], am_SH, (f, g))) rfl (am_b_t c126) ?_
          refine am_Ev.go hcd 2 (s' := (25, [(0, .ref 128), (1, .int a0), (2, .int (am_b (xt_isWord 6 f))), (3, .int (am_b (xt_isSign 40 f)))], [.ref 123], am_SH, (f, g))) rfl ?_
          obtain ⟨p25, hp25, h⟩ := am_bind_some h
          refine am_Ev.call hcd (a := 111) (s0 := (0, [(0, .ref 123)], [], am_SH, (f, g))) (q := (none, am_SH, (p25, g))) (s1 := (26, [(0, .ref 128), (1, .int a0), (2, .int (am_b (xt_isWord 6 f))), (3, .int (am_b (xt_isSign 40 f)))], [], am_SH, (p25, g))) rfl rfl (xt_advance_ok (d + 2)  f g p25 hp25) ?_
          refine am_Ev.go hcd 4 (s' := (30, [(0, .ref 128), (1, .int a0), (2, .int (am_b (xt_isWord 6 f))), (3, .int (am_b (xt_isSign 40 f)))], [.int (a0 + 1), .ref 128], am_SH, (p25, g))) rfl ?_
          obtain ⟨p26, hp26, h⟩ := am_bind_some h
          refine am_Ev.call hcd (a := 104) (s0 := (0, [(0, .ref 128), (1, .int (a0 + 1))], [], am_SH, (p25, g))) (q := ((some (.int (am_b p26.1))), am_SH, (p26.2, g))) (s1 := (31, [(0, .ref 128), (1, .int a0), (2, .int (am_b (xt_isWord 6 f))), (3, .int (am_b (xt_isSign 40 f)))], [.int (am_b p26.1)], am_SH, (p26.2, g))) rfl rfl (hreadCondition (a0 + 1) p25 g p26 hp26) ?_
          refine am_Ev.go hcd 4 (s' := (35, [(0, .ref 128), (1, .int a0), (2, .int (am_b (xt_isWord 6 f))), (3, .int (am_b (xt_isSign 40 f))), (4, .int (am_b p26.1))], [.int 20033, .ref 129], am_SH, (p26.2, g))) rfl ?_
          obtain ⟨p27, hp27, h⟩ := am_bind_some h
          refine am_Ev.call hcd (a := 32) (s0 := (0, [(0, .ref 129), (1, .int 20033)], [], am_SH, (p26.2, g))) (q := (none, am_SH, (p27, g))) (s1 := (36, [(0, .ref 128), (1, .int a0), (2, .int (am_b (xt_isWord 6 f))), (3, .int (am_b (xt_isSign 40 f))), (4, .int (am_b p26.1))], [], am_SH, (p27, g))) rfl rfl (xl_emit_129_ok (d + 2) 20033 p26.2 g p27 hp27) ?_
          refine am_Ev.go hcd 1 (s' := (37, [(0, .ref 128), (1, .int a0), (2, .int (am_b (xt_isWord 6 f))), (3, .int (am_b (xt_isSign 40 f))), (4, .int (am_b p26.1))], [.int (am_b p26.1)], am_SH, (p27, g))) rfl ?_
          exact am_Ev.cast (a := ((some (.int (am_b (p26.1, p27).1))), am_SH, ((p26.1, p27).2, g))) (by cases h; rfl) (am_Ev.retb hcd rfl)
        · refine am_Ev.t hcd (c := am_b (xt_isWord 6 f) = 0) (s1 := (38, [(0, .ref 128), (1, .int a0), (2, .int (am_b (xt_isWord 6 f))), (3, .int (am_b (xt_isSign 40 f)))], [], am_SH, (f, g))) rfl (am_b_f c126) ?_
          refine am_Ev.go hcd 1 (s' := (39, [(0, .ref 128), (1, .int a0), (2, .int (am_b (xt_isWord 6 f))), (3, .int (am_b (xt_isSign 40 f)))], [.int (am_b (xt_isSign 40 f))], am_SH, (f, g))) rfl ?_
          rcases am_ite h with ⟨c141, h⟩ | ⟨c141, h⟩
          · refine am_Ev.f hcd (c := am_b (xt_isSign 40 f) = 0) (s1 := (40, [(0, .ref 128), (1, .int a0), (2, .int (am_b (xt_isWord 6 f))), (3, .int (am_b (xt_isSign 40 f)))], [], am_SH, (f, g))) rfl (am_b_t c141) ?_
            refine am_Ev.go hcd 2 (s' := (42, [(0, .ref 128), (1, .int a0), (2, .int (am_b (xt_isWord 6 f))), (3, .int (am_b (xt_isSign 40 f)))], [.ref 123], am_SH, (f, g))) rfl ?_
            obtain ⟨p28, hp28, h⟩ := am_bind_some h
            refine am_Ev.call hcd (a := 111) (s0 := (0, [(0, .ref 123)], [], am_SH, (f, g))) (q := (none, am_SH, (p28, g))) (s1 := (43, [(0, .ref 128), (1, .int a0), (2, .int (am_b (xt_isWord 6 f))), (3, .int (am_b (xt_isSign 40 f)))], [], am_SH, (p28, g))) rfl rfl (xt_advance_ok (d + 2)  f g p28 hp28) ?_
            refine am_Ev.go hcd 4 (s' := (47, [(0, .ref 128), (1, .int a0), (2, .int (am_b (xt_isWord 6 f))), (3, .int (am_b (xt_isSign 40 f)))], [.int (a0 + 1), .ref 128], am_SH, (p28, g))) rfl ?_
            obtain ⟨p29, hp29, h⟩ := am_bind_some h
            refine am_Ev.call hcd (a := 103) (s0 := (0, [(0, .ref 128), (1, .int (a0 + 1))], [], am_SH, (p28, g))) (q := ((some (.int (am_b p29.1))), am_SH, (p29.2, g))) (s1 := (48, [(0, .ref 128), (1, .int a0), (2, .int (am_b (xt_isWord 6 f))), (3, .int (am_b (xt_isSign 40 f)))], [.int (am_b p29.1)], am_SH, (p29.2, g))) rfl rfl (hreadAny (a0 + 1) p28 g p29 hp29) ?_
            rcases am_ite h with ⟨c150, h⟩ | ⟨c150, h⟩
            · refine am_Ev.f hcd (c := am_b p29.1 = 0) (s1 := (49, [(0, .ref 128), (1, .int a0), (2, .int (am_b (xt_isWord 6 f))), (3, .int (am_b (xt_isSign 40 f)))], [], am_SH, (p29.2, g))) rfl (am_b_t c150) ?_
              refine am_Ev.go hcd 2 (s' := (51, [(0, .ref 128), (1, .int a0), (2, .int (am_b (xt_isWord 6 f))), (3, .int (am_b (xt_isSign 40 f)))], [.int 41, .ref 128], am_SH, (p29.2, g))) rfl ?_
              obtain ⟨p30, hp30, h⟩ := am_bind_some h
              refine am_Ev.call hcd (a := 94) (s0 := (0, [(0, .ref 128), (1, .int 41)], [], am_SH, (p29.2, g))) (q := ((some (.int (am_b p30.1))), am_SH, (p30.2, g))) (s1 := (52, [(0, .ref 128), (1, .int a0), (2, .int (am_b (xt_isWord 6 f))), (3, .int (am_b (xt_isSign 40 f)))], [.int (am_b p30.1)], am_SH, (p30.2, g))) rfl rfl (xs_takeSign_ok (d + 1) 41 p29.2 g p30 hp30) ?_
              rcases am_ite h with ⟨c155, h⟩ | ⟨c155, h⟩
              · refine am_Ev.f hcd (c := am_b p30.1 = 0) (s1 := (53, [(0, .ref 128), (1, .int a0), (2, .int (am_b (xt_isWord 6 f))), (3, .int (am_b (xt_isSign 40 f)))], [], am_SH, (p30.2, g))) rfl (am_b_t c155) ?_
                refine am_Ev.go hcd 2 (s' := (56, [(0, .ref 128), (1, .int a0), (2, .int (am_b (xt_isWord 6 f))), (3, .int (am_b (xt_isSign 40 f)))], [.int 1], am_SH, (p30.2, g))) rfl ?_
                exact am_Ev.cast (a := ((some (.int (am_b (true, p30.2).1))), am_SH, ((true, p30.2).2, g))) (by cases h; rfl) (am_Ev.ret hcd rfl)
              · refine am_Ev.t hcd (c := am_b p30.1 = 0) (s1 := (55, [(0, .ref 128), (1, .int a0), (2, .int (am_b (xt_isWord 6 f))), (3, .int (am_b (xt_isSign 40 f)))], [], am_SH, (p30.2, g))) rfl (am_b_f c155) ?_
                refine am_Ev.go hcd 1 (s' := (56, [(0, .ref 128), (1, .int a0), (2, .int (am_b (xt_isWord 6 f))), (3, .int (am_b (xt_isSign 40 f)))], [.int 0], am_SH, (p30.2, g))) rfl ?_
                exact am_Ev.cast (a := ((some (.int (am_b (false, p30.2).1))), am_SH, ((false, p30.2).2, g))) (by cases h; rfl) (am_Ev.ret hcd rfl)
            · refine am_Ev.t hcd (c := am_b p29.1 = 0) (s1 := (55, [(0, .ref 128), (1, .int a0), (2, .int (am_b (xt_isWord 6 f))), (3, .int (am_b (xt_isSign 40 f)))], [], am_SH, (p29.2, g))) rfl (am_b_f c150) ?_
              refine am_Ev.go hcd 1 (s' := (56, [(0, .ref 128), (1, .int a0), (2, .int (am_b (xt_isWord 6 f))), (3, .int (am_b (xt_isSign 40 f)))], [.int 0], am_SH, (p29.2, g))) rfl ?_
              exact am_Ev.cast (a := ((some (.int (am_b (false, p29.2).1))), am_SH, ((false, p29.2).2, g))) (by cases h; rfl) (am_Ev.ret hcd rfl)
          · refine am_Ev.t hcd (c := am_b (xt_isSign 40 f) = 0) (s1 := (57, [(0, .ref 128), (1, .int a0), (2, .int (am_b (xt_isWord 6 f))), (3, .int (am_b (xt_isSign 40 f)))], [], am_SH, (f, g))) rfl (am_b_f c141) ?_
            refine am_Ev.go hcd 1 (s' := (58, [(0, .ref 128), (1, .int a0), (2, .int (am_b (xt_isWord 6 f))), (3, .int (am_b (xt_isSign 40 f)))], [.ref 128], am_SH, (f, g))) rfl ?_
            obtain ⟨p31, hp31, h⟩ := am_bind_some h
            refine am_Ev.call hcd (a := 105) (s0 := (0, [(0, .ref 128)], [], am_SH, (f, g))) (q := ((some (.int (am_b p31.1))), am_SH, (p31.2, g))) (s1 := (59, [(0, .ref 128), (1, .int a0), (2, .int (am_b (xt_isWord 6 f))), (3, .int (am_b (xt_isSign 40 f)))], [.int (am_b p31.1)], am_SH, (p31.2, g))) rfl rfl (xs_readSum_ok (d)  f g p31 hp31) ?_
            rcases am_ite h with ⟨c169, h⟩ | ⟨c169, h⟩
            · refine am_Ev.f hcd (c := am_b p31.1 = 0) (s1 := (62, [(0, .ref 128), (1, .int a0), (2, .int (am_b (xt_isWord 6 f))), (3, .int (am_b (xt_isSign 40 f)))], [], am_SH, (p31.2, g))) rfl (am_b_t c169) ?_
              obtain ⟨t32, Et32, h⟩ := am_let_eq h
              refine am_Ev.go hcd 4 (s' := (66, [(0, .ref 128), (1, .int a0), (2, .int (am_b (xt_isWord 6 f))), (3, .int (am_b (xt_isSign 40 f))), (4, .int t32)], [], am_SH, (p31.2, g))) (by subst Et32; exact rfl) ?_
              refine am_Ev.go hcd 3 (s' := (69, [(0, .ref 128), (1, .int a0), (2, .int (am_b (xt_isWord 6 f))), (3, .int (am_b (xt_isSign 40 f))), (4, .int t32)], [.int 60, .ref 123], am_SH, (p31.2, g))) rfl ?_
              refine am_Ev.call hcd (a := 113) (s0 := (0, [(0, .ref 123), (1, .int 60)], [], am_SH, (p31.2, g))) (q := ((some (.int (am_b (xt_isSign 60 p31.2)))), am_SH, (p31.2, g))) (s1 := (70, [(0, .ref 128), (1, .int a0), (2, .int (am_b (xt_isWord 6 f))), (3, .int (am_b (xt_isSign 40 f))), (4, .int t32)], [.int (am_b (xt_isSign 60 p31.2))], am_SH, (p31.2, g))) rfl rfl (xt_isSign_ok (d + 2) 60 p31.2 g) ?_
              rcases am_ite h with ⟨c175, h⟩ | ⟨c175, h⟩
              · refine am_Ev.f hcd (c := am_b (xt_isSign 60 p31.2) = 0) (s1 := (85, [(0, .ref 128), (1, .int a0), (2, .int (am_b (xt_isWord 6 f))), (3, .int (am_b (xt_isSign 40 f))), (4, .int t32)], [], am_SH, (p31.2, g))) rfl (am_b_t c175) ?_
                refine am_Ev.go hcd 2 (s' := (87, [(0, .ref 128), (1, .int a0), (2, .int (am_b (xt_isWord 6 f))), (3, .int (am_b (xt_isSign 40 f))), (4, .int t32)], [.ref 123], am_SH, (p31.2, g))) rfl ?_
                obtain ⟨p34, hp34, h⟩ := am_bind_some h
                refine am_Ev.call hcd (a := 111) (s0 := (0, [(0, .ref 123)], [], am_SH, (p31.2, g))) (q := (none, am_SH, (p34, g))) (s1 := (88, [(0, .ref 128), (1, .int a0), (2, .int (am_b (xt_isWord 6 f))), (3, .int (am_b (xt_isSign 40 f))), (4, .int t32)], [], am_SH, (p34, g))) rfl rfl (xt_advance_ok (d + 2)  p31.2 g p34 hp34) ?_
                refine am_Ev.go hcd 1 (s' := (89, [(0, .ref 128), (1, .int a0), (2, .int (am_b (xt_isWord 6 f))), (3, .int (am_b (xt_isSign 40 f))), (4, .int t32)], [.ref 128], am_SH, (p34, g))) rfl ?_
                obtain ⟨p35, hp35, h⟩ := am_bind_some h
                refine am_Ev.call hcd (a := 105) (s0 := (0, [(0, .ref 128)], [], am_SH, (p34, g))) (q := ((some (.int (am_b p35.1))), am_SH, (p35.2, g))) (s1 := (90, [(0, .ref 128), (1, .int a0), (2, .int (am_b (xt_isWord 6 f))), (3, .int (am_b (xt_isSign 40 f))), (4, .int t32)], [.int (am_b p35.1)], am_SH, (p35.2, g))) rfl rfl (xs_readSum_ok (d)  p34 g p35 hp35) ?_
                refine am_Ev.go hcd 6 (s' := (96, [(0, .ref 128), (1, .int a0), (2, .int (am_b (xt_isWord 6 f))), (3, .int (am_b (xt_isSign 40 f))), (4, .int t32), (5, .int (am_b p35.1))], [.int (20000 + t32), .ref 129], am_SH, (p35.2, g))) rfl ?_
                obtain ⟨p36, hp36, h⟩ := am_bind_some h
                refine am_Ev.call hcd (a := 32) (s0 := (0, [(0, .ref 129), (1, .int (20000 + t32))], [], am_SH, (p35.2, g))) (q := (none, am_SH, (p36, g))) (s1 := (97, [(0, .ref 128), (1, .int a0), (2, .int (am_b (xt_isWord 6 f))), (3, .int (am_b (xt_isSign 40 f))), (4, .int t32), (5, .int (am_b p35.1))], [], am_SH, (p36, g))) rfl rfl (xl_emit_129_ok (d + 2) (20000 + t32) p35.2 g p36 hp36) ?_
                refine am_Ev.go hcd 1 (s' := (98, [(0, .ref 128), (1, .int a0), (2, .int (am_b (xt_isWord 6 f))), (3, .int (am_b (xt_isSign 40 f))), (4, .int t32), (5, .int (am_b p35.1))], [.int (am_b p35.1)], am_SH, (p36, g))) rfl ?_
                exact am_Ev.cast (a := ((some (.int (am_b (p35.1, p36).1))), am_SH, ((p35.1, p36).2, g))) (by cases h; rfl) (am_Ev.retb hcd rfl)
              · refine am_Ev.t hcd (c := am_b (xt_isSign 60 p31.2) = 0) (s1 := (71, [(0, .ref 128), (1, .int a0), (2, .int (am_b (xt_isWord 6 f))), (3, .int (am_b (xt_isSign 40 f))), (4, .int t32)], [], am_SH, (p31.2, g))) rfl (am_b_f c175) ?_
                refine am_Ev.go hcd 3 (s' := (74, [(0, .ref 128), (1, .int a0), (2, .int (am_b (xt_isWord 6 f))), (3, .int (am_b (xt_isSign 40 f))), (4, .int t32)], [.int 61, .ref 123], am_SH, (p31.2, g))) rfl ?_
                refine am_Ev.call hcd (a := 113) (s0 := (0, [(0, .ref 123), (1, .int 61)], [], am_SH, (p31.2, g))) (q := ((some (.int (am_b (xt_isSign 61 p31.2)))), am_SH, (p31.2, g))) (s1 := (75, [(0, .ref 128), (1, .int a0), (2, .int (am_b (xt_isWord 6 f))), (3, .int (am_b (xt_isSign 40 f))), (4, .int t32)], [.int (am_b (xt_isSign 61 p31.2))], am_SH, (p31.2, g))) rfl rfl (xt_isSign_ok (d + 2) 61 p31.2 g) ?_
                rcases am_ite h with ⟨c191, h⟩ | ⟨c191, h⟩
                · refine am_Ev.f hcd (c := am_b (xt_isSign 61 p31.2) = 0) (s1 := (85, [(0, .ref 128), (1, .int a0), (2, .int (am_b (xt_isWord 6 f))), (3, .int (am_b (xt_isSign 40 f))), (4, .int t32)], [], am_SH, (p31.2, g))) rfl (am_b_t c191) ?_
                  refine am_Ev.go hcd 2 (s' := (87, [(0, .ref 128), (1, .int a0), (2, .int (am_b (xt_isWord 6 f))), (3, .int (am_b (xt_isSign 40 f))), (4, .int t32)], [.ref 123], am_SH, (p31.2, g))) rfl ?_
                  obtain ⟨p38, hp38, h⟩ := am_bind_some h
                  refine am_Ev.call hcd (a := 111) (s0 := (0, [(0, .ref 123)], [], am_SH, (p31.2, g))) (q := (none, am_SH, (p38, g))) (s1 := (88, [(0, .ref 128), (1, .int a0), (2, .int (am_b (xt_isWord 6 f))), (3, .int (am_b (xt_isSign 40 f))), (4, .int t32)], [], am_SH, (p38, g))) rfl rfl (xt_advance_ok (d + 2)  p31.2 g p38 hp38) ?_
                  refine am_Ev.go hcd 1 (s' := (89, [(0, .ref 128), (1, .int a0), (2, .int (am_b (xt_isWord 6 f))), (3, .int (am_b (xt_isSign 40 f))), (4, .int t32)], [.ref 128], am_SH, (p38, g))) rfl ?_
                  obtain ⟨p39, hp39, h⟩ := am_bind_some h
                  refine am_Ev.call hcd (a := 105) (s0 := (0, [(0, .ref 128)], [], am_SH, (p38, g))) (q := ((some (.int (am_b p39.1))), am_SH, (p39.2, g))) (s1 := (90, [(0, .ref 128), (1, .int a0), (2, .int (am_b (xt_isWord 6 f))), (3, .int (am_b (xt_isSign 40 f))), (4, .int t32)], [.int (am_b p39.1)], am_SH, (p39.2, g))) rfl rfl (xs_readSum_ok (d)  p38 g p39 hp39) ?_
                  refine am_Ev.go hcd 6 (s' := (96, [(0, .ref 128), (1, .int a0), (2, .int (am_b (xt_isWord 6 f))), (3, .int (am_b (xt_isSign 40 f))), (4, .int t32), (5, .int (am_b p39.1))], [.int (20000 + t32), .ref 129], am_SH, (p39.2, g))) rfl ?_
                  obtain ⟨p40, hp40, h⟩ := am_bind_some h
                  refine am_Ev.call hcd (a := 32) (s0 := (0, [(0, .ref 129), (1, .int (20000 + t32))], [], am_SH, (p39.2, g))) (q := (none, am_SH, (p40, g))) (s1 := (97, [(0, .ref 128), (1, .int a0), (2, .int (am_b (xt_isWord 6 f))), (3, .int (am_b (xt_isSign 40 f))), (4, .int t32), (5, .int (am_b p39.1))], [], am_SH, (p40, g))) rfl rfl (xl_emit_129_ok (d + 2) (20000 + t32) p39.2 g p40 hp40) ?_
                  refine am_Ev.go hcd 1 (s' := (98, [(0, .ref 128), (1, .int a0), (2, .int (am_b (xt_isWord 6 f))), (3, .int (am_b (xt_isSign 40 f))), (4, .int t32), (5, .int (am_b p39.1))], [.int (am_b p39.1)], am_SH, (p40, g))) rfl ?_
                  exact am_Ev.cast (a := ((some (.int (am_b (p39.1, p40).1))), am_SH, ((p39.1, p40).2, g))) (by cases h; rfl) (am_Ev.retb hcd rfl)
                · refine am_Ev.t hcd (c := am_b (xt_isSign 61 p31.2) = 0) (s1 := (76, [(0, .ref 128), (1, .int a0), (2, .int (am_b (xt_isWord 6 f))), (3, .int (am_b (xt_isSign 40 f))), (4, .int t32)], [], am_SH, (p31.2, g))) rfl (am_b_f c191) ?_
                  refine am_Ev.go hcd 3 (s' := (79, [(0, .ref 128), (1, .int a0), (2, .int (am_b (xt_isWord 6 f))), (3, .int (am_b (xt_isSign 40 f))), (4, .int t32)], [.int 62, .ref 123], am_SH, (p31.2, g))) rfl ?_
                  refine am_Ev.call hcd (a := 113) (s0 := (0, [(0, .ref 123), (1, .int 62)], [], am_SH, (p31.2, g))) (q := ((some (.int (am_b (xt_isSign 62 p31.2)))), am_SH, (p31.2, g))) (s1 := (80, [(0, .ref 128), (1, .int a0), (2, .int (am_b (xt_isWord 6 f))), (3, .int (am_b (xt_isSign 40 f))), (4, .int t32)], [.int (am_b (xt_isSign 62 p31.2))], am_SH, (p31.2, g))) rfl rfl (xt_isSign_ok (d + 2) 62 p31.2 g) ?_
                  rcases am_ite h with ⟨c207, h⟩ | ⟨c207, h⟩
                  · refine am_Ev.f hcd (c := am_b (xt_isSign 62 p31.2) = 0) (s1 := (85, [(0, .ref 128), (1, .int a0), (2, .int (am_b (xt_isWord 6 f))), (3, .int (am_b (xt_isSign 40 f))), (4, .int t32)], [], am_SH, (p31.2, g))) rfl (am_b_t c207) ?_
                    refine am_Ev.go hcd 2 (s' := (87, [(0, .ref 128), (1, .int a0), (2, .int (am_b (xt_isWord 6 f))), (3, .int (am_b (xt_isSign 40 f))), (4, .int t32)], [.ref 123], am_SH, (p31.2, g))) rfl ?_
                    obtain ⟨p42, hp42, h⟩ := am_bind_some h
                    refine am_Ev.call hcd (a := 111) (s0 := (0, [(0, .ref 123)], [], am_SH, (p31.2, g))) (q := (none, am_SH, (p42, g))) (s1 := (88, [(0, .ref 128), (1, .int a0), (2, .int (am_b (xt_isWord 6 f))), (3, .int (am_b (xt_isSign 40 f))), (4, .int t32)], [], am_SH, (p42, g))) rfl rfl (xt_advance_ok (d + 2)  p31.2 g p42 hp42) ?_
                    refine am_Ev.go hcd 1 (s' := (89, [(0, .ref 128), (1, .int a0), (2, .int (am_b (xt_isWord 6 f))), (3, .int (am_b (xt_isSign 40 f))), (4, .int t32)], [.ref 128], am_SH, (p42, g))) rfl ?_
                    obtain ⟨p43, hp43, h⟩ := am_bind_some h
                    refine am_Ev.call hcd (a := 105) (s0 := (0, [(0, .ref 128)], [], am_SH, (p42, g))) (q := ((some (.int (am_b p43.1))), am_SH, (p43.2, g))) (s1 := (90, [(0, .ref 128), (1, .int a0), (2, .int (am_b (xt_isWord 6 f))), (3, .int (am_b (xt_isSign 40 f))), (4, .int t32)], [.int (am_b p43.1)], am_SH, (p43.2, g))) rfl rfl (xs_readSum_ok (d)  p42 g p43 hp43) ?_
                    refine am_Ev.go hcd 6 (s' := (96, [(0, .ref 128), (1, .int a0), (2, .int (am_b (xt_isWord 6 f))), (3, .int (am_b (xt_isSign 40 f))), (4, .int t32), (5, .int (am_b p43.1))], [.int (20000 + t32), .ref 129], am_SH, (p43.2, g))) rfl ?_
                    obtain ⟨p44, hp44, h⟩ := am_bind_some h
                    refine am_Ev.call hcd (a := 32) (s0 := (0, [(0, .ref 129), (1, .int (20000 + t32))], [], am_SH, (p43.2, g))) (q := (none, am_SH, (p44, g))) (s1 := (97, [(0, .ref 128), (1, .int a0), (2, .int (am_b (xt_isWord 6 f))), (3, .int (am_b (xt_isSign 40 f))), (4, .int t32), (5, .int (am_b p43.1))], [], am_SH, (p44, g))) rfl rfl (xl_emit_129_ok (d + 2) (20000 + t32) p43.2 g p44 hp44) ?_
                    refine am_Ev.go hcd 1 (s' := (98, [(0, .ref 128), (1, .int a0), (2, .int (am_b (xt_isWord 6 f))), (3, .int (am_b (xt_isSign 40 f))), (4, .int t32), (5, .int (am_b p43.1))], [.int (am_b p43.1)], am_SH, (p44, g))) rfl ?_
                    exact am_Ev.cast (a := ((some (.int (am_b (p43.1, p44).1))), am_SH, ((p43.1, p44).2, g))) (by cases h; rfl) (am_Ev.retb hcd rfl)
                  · refine am_Ev.t hcd (c := am_b (xt_isSign 62 p31.2) = 0) (s1 := (81, [(0, .ref 128), (1, .int a0), (2, .int (am_b (xt_isWord 6 f))), (3, .int (am_b (xt_isSign 40 f))), (4, .int t32)], [], am_SH, (p31.2, g))) rfl (am_b_f c207) ?_
                    refine am_Ev.go hcd 2 (s' := (83, [(0, .ref 128), (1, .int a0), (2, .int (am_b (xt_isWord 6 f))), (3, .int (am_b (xt_isSign 40 f))), (4, .int t32)], [.int 1, .ref 128], am_SH, (p31.2, g))) rfl ?_
                    obtain ⟨p45, Ep45, h⟩ := am_let_eq h
                    refine am_Ev.call hcd (a := 92) (s0 := (0, [(0, .ref 128), (1, .int 1)], [], am_SH, (p31.2, g))) (q := ((some (.int (am_b p45.1))), am_SH, (p45.2, g))) (s1 := (84, [(0, .ref 128), (1, .int a0), (2, .int (am_b (xt_isWord 6 f))), (3, .int (am_b (xt_isSign 40 f))), (4, .int t32)], [.int (am_b p45.1)], am_SH, (p45.2, g))) rfl rfl (by subst Ep45; exact xs_refuse_ok (d + 2) 1 p31.2 g) ?_
                    exact am_Ev.cast (a := ((some (.int (am_b (p45.1, p45.2).1))), am_SH, ((p45.1, p45.2).2, g))) (by cases h; rfl) (am_Ev.retb hcd rfl)
            · refine am_Ev.t hcd (c := am_b p31.1 = 0) (s1 := (60, [(0, .ref 128), (1, .int a0), (2, .int (am_b (xt_isWord 6 f))), (3, .int (am_b (xt_isSign 40 f)))], [], am_SH, (p31.2, g))) rfl (am_b_f c169) ?_
              refine am_Ev.go hcd 1 (s' := (61, [(0, .ref 128), (1, .int a0), (2, .int (am_b (xt_isWord 6 f))), (3, .int (am_b (xt_isSign 40 f)))], [.int 0], am_SH, (p31.2, g))) rfl ?_
              exact am_Ev.cast (a := ((some (.int (am_b (false, p31.2).1))), am_SH, ((false, p31.2).2, g))) (by cases h; rfl) (am_Ev.ret hcd rfl)
      · refine am_Ev.f hcd (c := a0 < 8) (s1 := (17, [(0, .ref 128), (1, .int a0), (2, .int (am_b (xt_isWord 6 f))), (3, .int (am_b (xt_isSign 40 f)))], [], am_SH, (f, g))) rfl c123 ?_
        refine am_Ev.go hcd 2 (s' := (19, [(0, .ref 128), (1, .int a0), (2, .int (am_b (xt_isWord 6 f))), (3, .int (am_b (xt_isSign 40 f)))], [.int 3, .ref 128], am_SH, (f, g))) rfl ?_
        obtain ⟨p46, Ep46, h⟩ := am_let_eq h
        refine am_Ev.call hcd (a := 92) (s0 := (0, [(0, .ref 128), (1, .int 3)], [], am_SH, (f, g))) (q := ((some (.int (am_b p46.1))), am_SH, (p46.2, g))) (s1 := (20, [(0, .ref 128), (1, .int a0), (2, .int (am_b (xt_isWord 6 f))), (3, .int (am_b (xt_isSign 40 f)))], [.int (am_b p46.1)], am_SH, (p46.2, g))) rfl rfl (by subst Ep46; exact xs_refuse_ok (d + 2) 3 f g) ?_
        exact am_Ev.cast (a := ((some (.int (am_b (p46.1, p46.2).1))), am_SH, ((p46.1, p46.2).2, g))) (by cases h; rfl) (am_Ev.retb hcd rfl)
    · refine am_Ev.t hcd (c := am_b (xt_isSign 40 f) = 0) (s1 := (21, [(0, .ref 128), (1, .int a0), (2, .int (am_b (xt_isWord 6 f))), (3, .int (am_b (xt_isSign 40 f)))], [], am_SH, (f, g))) rfl (am_b_f c120) ?_
      refine am_Ev.go hcd 1 (s' := (22, [(0, .ref 128), (1, .int a0), (2, .int (am_b (xt_isWord 6 f))), (3, .int (am_b (xt_isSign 40 f)))], [.int (am_b (xt_isWord 6 f))], am_SH, (f, g))) rfl ?_
      rcases am_ite h with ⟨c234, h⟩ | ⟨c234, h⟩
      · refine am_Ev.f hcd (c := am_b (xt_isWord 6 f) = 0) (s1 := (23, [(0, .ref 128), (1, .int a0), (2, .int (am_b (xt_isWord 6 f))), (3, .int (am_b (xt_isSign 40 f)))], [], am_SH, (f, g))) rfl (am_b_t c234) ?_
        refine am_Ev.go hcd 2 (s' := (25, [(0, .ref 128), (1, .int a0), (2, .int (am_b (xt_isWord 6 f))), (3, .int (am_b (xt_isSign 40 f)))], [.ref 123], am_SH, (f, g))) rfl ?_
        obtain ⟨p47, hp47, h⟩ := am_bind_some h
        refine am_Ev.call hcd (a := 111) (s0 := (0, [(0, .ref 123)], [], am_SH, (f, g))) (q := (none, am_SH, (p47, g))) (s1 := (26, [(0, .ref 128), (1, .int a0), (2, .int (am_b (xt_isWord 6 f))), (3, .int (am_b (xt_isSign 40 f)))], [], am_SH, (p47, g))) rfl rfl (xt_advance_ok (d + 2)  f g p47 hp47) ?_
        refine am_Ev.go hcd 4 (s' := (30, [(0, .ref 128), (1, .int a0), (2, .int (am_b (xt_isWord 6 f))), (3, .int (am_b (xt_isSign 40 f)))], [.int (a0 + 1), .ref 128], am_SH, (p47, g))) rfl ?_
        obtain ⟨p48, hp48, h⟩ := am_bind_some h
        refine am_Ev.call hcd (a := 104) (s0 := (0, [(0, .ref 128), (1, .int (a0 + 1))], [], am_SH, (p47, g))) (q := ((some (.int (am_b p48.1))), am_SH, (p48.2, g))) (s1 := (31, [(0, .ref 128), (1, .int a0), (2, .int (am_b (xt_isWord 6 f))), (3, .int (am_b (xt_isSign 40 f)))], [.int (am_b p48.1)], am_SH, (p48.2, g))) rfl rfl (hreadCondition (a0 + 1) p47 g p48 hp48) ?_
        refine am_Ev.go hcd 4 (s' := (35, [(0, .ref 128), (1, .int a0), (2, .int (am_b (xt_isWord 6 f))), (3, .int (am_b (xt_isSign 40 f))), (4, .int (am_b p48.1))], [.int 20033, .ref 129], am_SH, (p48.2, g))) rfl ?_
        obtain ⟨p49, hp49, h⟩ := am_bind_some h
        refine am_Ev.call hcd (a := 32) (s0 := (0, [(0, .ref 129), (1, .int 20033)], [], am_SH, (p48.2, g))) (q := (none, am_SH, (p49, g))) (s1 := (36, [(0, .ref 128), (1, .int a0), (2, .int (am_b (xt_isWord 6 f))), (3, .int (am_b (xt_isSign 40 f))), (4, .int (am_b p48.1))], [], am_SH, (p49, g))) rfl rfl (xl_emit_129_ok (d + 2) 20033 p48.2 g p49 hp49) ?_
        refine am_Ev.go hcd 1 (s' := (37, [(0, .ref 128), (1, .int a0), (2, .int (am_b (xt_isWord 6 f))), (3, .int (am_b (xt_isSign 40 f))), (4, .int (am_b p48.1))], [.int (am_b p48.1)], am_SH, (p49, g))) rfl ?_
        exact am_Ev.cast (a := ((some (.int (am_b (p48.1, p49).1))), am_SH, ((p48.1, p49).2, g))) (by cases h; rfl) (am_Ev.retb hcd rfl)
      · refine am_Ev.t hcd (c := am_b (xt_isWord 6 f) = 0) (s1 := (38, [(0, .ref 128), (1, .int a0), (2, .int (am_b (xt_isWord 6 f))), (3, .int (am_b (xt_isSign 40 f)))], [], am_SH, (f, g))) rfl (am_b_f c234) ?_
        refine am_Ev.go hcd 1 (s' := (39, [(0, .ref 128), (1, .int a0), (2, .int (am_b (xt_isWord 6 f))), (3, .int (am_b (xt_isSign 40 f)))], [.int (am_b (xt_isSign 40 f))], am_SH, (f, g))) rfl ?_
        rcases am_ite h with ⟨c249, h⟩ | ⟨c249, h⟩
        · refine am_Ev.f hcd (c := am_b (xt_isSign 40 f) = 0) (s1 := (40, [(0, .ref 128), (1, .int a0), (2, .int (am_b (xt_isWord 6 f))), (3, .int (am_b (xt_isSign 40 f)))], [], am_SH, (f, g))) rfl (am_b_t c249) ?_
          refine am_Ev.go hcd 2 (s' := (42, [(0, .ref 128), (1, .int a0), (2, .int (am_b (xt_isWord 6 f))), (3, .int (am_b (xt_isSign 40 f)))], [.ref 123], am_SH, (f, g))) rfl ?_
          obtain ⟨p50, hp50, h⟩ := am_bind_some h
          refine am_Ev.call hcd (a := 111) (s0 := (0, [(0, .ref 123)], [], am_SH, (f, g))) (q := (none, am_SH, (p50, g))) (s1 := (43, [(0, .ref 128), (1, .int a0), (2, .int (am_b (xt_isWord 6 f))), (3, .int (am_b (xt_isSign 40 f)))], [], am_SH, (p50, g))) rfl rfl (xt_advance_ok (d + 2)  f g p50 hp50) ?_
          refine am_Ev.go hcd 4 (s' := (47, [(0, .ref 128), (1, .int a0), (2, .int (am_b (xt_isWord 6 f))), (3, .int (am_b (xt_isSign 40 f)))], [.int (a0 + 1), .ref 128], am_SH, (p50, g))) rfl ?_
          obtain ⟨p51, hp51, h⟩ := am_bind_some h
          refine am_Ev.call hcd (a := 103) (s0 := (0, [(0, .ref 128), (1, .int (a0 + 1))], [], am_SH, (p50, g))) (q := ((some (.int (am_b p51.1))), am_SH, (p51.2, g))) (s1 := (48, [(0, .ref 128), (1, .int a0), (2, .int (am_b (xt_isWord 6 f))), (3, .int (am_b (xt_isSign 40 f)))], [.int (am_b p51.1)], am_SH, (p51.2, g))) rfl rfl (hreadAny (a0 + 1) p50 g p51 hp51) ?_
          rcases am_ite h with ⟨c258, h⟩ | ⟨c258, h⟩
          · refine am_Ev.f hcd (c := am_b p51.1 = 0) (s1 := (49, [(0, .ref 128), (1, .int a0), (2, .int (am_b (xt_isWord 6 f))), (3, .int (am_b (xt_isSign 40 f)))], [], am_SH, (p51.2, g))) rfl (am_b_t c258) ?_
            refine am_Ev.go hcd 2 (s' := (51, [(0, .ref 128), (1, .int a0), (2, .int (am_b (xt_isWord 6 f))), (3, .int (am_b (xt_isSign 40 f)))], [.int 41, .ref 128], am_SH, (p51.2, g))) rfl ?_
            obtain ⟨p52, hp52, h⟩ := am_bind_some h
            refine am_Ev.call hcd (a := 94) (s0 := (0, [(0, .ref 128), (1, .int 41)], [], am_SH, (p51.2, g))) (q := ((some (.int (am_b p52.1))), am_SH, (p52.2, g))) (s1 := (52, [(0, .ref 128), (1, .int a0), (2, .int (am_b (xt_isWord 6 f))), (3, .int (am_b (xt_isSign 40 f)))], [.int (am_b p52.1)], am_SH, (p52.2, g))) rfl rfl (xs_takeSign_ok (d + 1) 41 p51.2 g p52 hp52) ?_
            rcases am_ite h with ⟨c263, h⟩ | ⟨c263, h⟩
            · refine am_Ev.f hcd (c := am_b p52.1 = 0) (s1 := (53, [(0, .ref 128), (1, .int a0), (2, .int (am_b (xt_isWord 6 f))), (3, .int (am_b (xt_isSign 40 f)))], [], am_SH, (p52.2, g))) rfl (am_b_t c263) ?_
              refine am_Ev.go hcd 2 (s' := (56, [(0, .ref 128), (1, .int a0), (2, .int (am_b (xt_isWord 6 f))), (3, .int (am_b (xt_isSign 40 f)))], [.int 1], am_SH, (p52.2, g))) rfl ?_
              exact am_Ev.cast (a := ((some (.int (am_b (true, p52.2).1))), am_SH, ((true, p52.2).2, g))) (by cases h; rfl) (am_Ev.ret hcd rfl)
            · refine am_Ev.t hcd (c := am_b p52.1 = 0) (s1 := (55, [(0, .ref 128), (1, .int a0), (2, .int (am_b (xt_isWord 6 f))), (3, .int (am_b (xt_isSign 40 f)))], [], am_SH, (p52.2, g))) rfl (am_b_f c263) ?_
              refine am_Ev.go hcd 1 (s' := (56, [(0, .ref 128), (1, .int a0), (2, .int (am_b (xt_isWord 6 f))), (3, .int (am_b (xt_isSign 40 f)))], [.int 0], am_SH, (p52.2, g))) rfl ?_
              exact am_Ev.cast (a := ((some (.int (am_b (false, p52.2).1))), am_SH, ((false, p52.2).2, g))) (by cases h; rfl) (am_Ev.ret hcd rfl)
          · refine am_Ev.t hcd (c := am_b p51.1 = 0) (s1 := (55, [(0, .ref 128), (1, .int a0), (2, .int (am_b (xt_isWord 6 f))), (3, .int (am_b (xt_isSign 40 f)))], [], am_SH, (p51.2, g))) rfl (am_b_f c258) ?_
            refine am_Ev.go hcd 1 (s' := (56, [(0, .ref 128), (1, .int a0), (2, .int (am_b (xt_isWord 6 f))), (3, .int (am_b (xt_isSign 40 f)))], [.int 0], am_SH, (p51.2, g))) rfl ?_
            exact am_Ev.cast (a := ((some (.int (am_b (false, p51.2).1))), am_SH, ((false, p51.2).2, g))) (by cases h; rfl) (am_Ev.ret hcd rfl)
        · refine am_Ev.t hcd (c := am_b (xt_isSign 40 f) = 0) (s1 := (57, [(0, .ref 128), (1, .int a0), (2, .int (am_b (xt_isWord 6 f))), (3, .int (am_b (xt_isSign 40 f)))], [], am_SH, (f, g))) rfl (am_b_f c249) ?_
          refine am_Ev.go hcd 1 (s' := (58, [(0, .ref 128), (1, .int a0), (2, .int (am_b (xt_isWord 6 f))), (3, .int (am_b (xt_isSign 40 f)))], [.ref 128], am_SH, (f, g))) rfl ?_
          obtain ⟨p53, hp53, h⟩ := am_bind_some h
          refine am_Ev.call hcd (a := 105) (s0 := (0, [(0, .ref 128)], [], am_SH, (f, g))) (q := ((some (.int (am_b p53.1))), am_SH, (p53.2, g))) (s1 := (59, [(0, .ref 128), (1, .int a0), (2, .int (am_b (xt_isWord 6 f))), (3, .int (am_b (xt_isSign 40 f)))], [.int (am_b p53.1)], am_SH, (p53.2, g))) rfl rfl (xs_readSum_ok (d)  f g p53 hp53) ?_
          rcases am_ite h with ⟨c277, h⟩ | ⟨c277, h⟩
          · refine am_Ev.f hcd (c := am_b p53.1 = 0) (s1 := (62, [(0, .ref 128), (1, .int a0), (2, .int (am_b (xt_isWord 6 f))), (3, .int (am_b (xt_isSign 40 f)))], [], am_SH, (p53.2, g))) rfl (am_b_t c277) ?_
            obtain ⟨t54, Et54, h⟩ := am_let_eq h
            refine am_Ev.go hcd 4 (s' := (66, [(0, .ref 128), (1, .int a0), (2, .int (am_b (xt_isWord 6 f))), (3, .int (am_b (xt_isSign 40 f))), (4, .int t54)], [], am_SH, (p53.2, g))) (by subst Et54; exact rfl) ?_
            refine am_Ev.go hcd 3 (s' := (69, [(0, .ref 128), (1, .int a0), (2, .int (am_b (xt_isWord 6 f))), (3, .int (am_b (xt_isSign 40 f))), (4, .int t54)], [.int 60, .ref 123], am_SH, (p53.2, g))) rfl ?_
            refine am_Ev.call hcd (a := 113) (s0 := (0, [(0, .ref 123), (1, .int 60)], [], am_SH, (p53.2, g))) (q := ((some (.int (am_b (xt_isSign 60 p53.2)))), am_SH, (p53.2, g))) (s1 := (70, [(0, .ref 128), (1, .int a0), (2, .int (am_b (xt_isWord 6 f))), (3, .int (am_b (xt_isSign 40 f))), (4, .int t54)], [.int (am_b (xt_isSign 60 p53.2))], am_SH, (p53.2, g))) rfl rfl (xt_isSign_ok (d + 2) 60 p53.2 g) ?_
            rcases am_ite h with ⟨c283, h⟩ | ⟨c283, h⟩
            · refine am_Ev.f hcd (c := am_b (xt_isSign 60 p53.2) = 0) (s1 := (85, [(0, .ref 128), (1, .int a0), (2, .int (am_b (xt_isWord 6 f))), (3, .int (am_b (xt_isSign 40 f))), (4, .int t54)], [], am_SH, (p53.2, g))) rfl (am_b_t c283) ?_
              refine am_Ev.go hcd 2 (s' := (87, [(0, .ref 128), (1, .int a0), (2, .int (am_b (xt_isWord 6 f))), (3, .int (am_b (xt_isSign 40 f))), (4, .int t54)], [.ref 123], am_SH, (p53.2, g))) rfl ?_
              obtain ⟨p56, hp56, h⟩ := am_bind_some h
              refine am_Ev.call hcd (a := 111) (s0 := (0, [(0, .ref 123)], [], am_SH, (p53.2, g))) (q := (none, am_SH, (p56, g))) (s1 := (88, [(0, .ref 128), (1, .int a0), (2, .int (am_b (xt_isWord 6 f))), (3, .int (am_b (xt_isSign 40 f))), (4, .int t54)], [], am_SH, (p56, g))) rfl rfl (xt_advance_ok (d + 2)  p53.2 g p56 hp56) ?_
              refine am_Ev.go hcd 1 (s' := (89, [(0, .ref 128), (1, .int a0), (2, .int (am_b (xt_isWord 6 f))), (3, .int (am_b (xt_isSign 40 f))), (4, .int t54)], [.ref 128], am_SH, (p56, g))) rfl ?_
              obtain ⟨p57, hp57, h⟩ := am_bind_some h
              refine am_Ev.call hcd (a := 105) (s0 := (0, [(0, .ref 128)], [], am_SH, (p56, g))) (q := ((some (.int (am_b p57.1))), am_SH, (p57.2, g))) (s1 := (90, [(0, .ref 128), (1, .int a0), (2, .int (am_b (xt_isWord 6 f))), (3, .int (am_b (xt_isSign 40 f))), (4, .int t54)], [.int (am_b p57.1)], am_SH, (p57.2, g))) rfl rfl (xs_readSum_ok (d)  p56 g p57 hp57) ?_
              refine am_Ev.go hcd 6 (s' := (96, [(0, .ref 128), (1, .int a0), (2, .int (am_b (xt_isWord 6 f))), (3, .int (am_b (xt_isSign 40 f))), (4, .int t54), (5, .int (am_b p57.1))], [.int (20000 + t54), .ref 129], am_SH, (p57.2, g))) rfl ?_
              obtain ⟨p58, hp58, h⟩ := am_bind_some h
              refine am_Ev.call hcd (a := 32) (s0 := (0, [(0, .ref 129), (1, .int (20000 + t54))], [], am_SH, (p57.2, g))) (q := (none, am_SH, (p58, g))) (s1 := (97, [(0, .ref 128), (1, .int a0), (2, .int (am_b (xt_isWord 6 f))), (3, .int (am_b (xt_isSign 40 f))), (4, .int t54), (5, .int (am_b p57.1))], [], am_SH, (p58, g))) rfl rfl (xl_emit_129_ok (d + 2) (20000 + t54) p57.2 g p58 hp58) ?_
              refine am_Ev.go hcd 1 (s' := (98, [(0, .ref 128), (1, .int a0), (2, .int (am_b (xt_isWord 6 f))), (3, .int (am_b (xt_isSign 40 f))), (4, .int t54), (5, .int (am_b p57.1))], [.int (am_b p57.1)], am_SH, (p58, g))) rfl ?_
              exact am_Ev.cast (a := ((some (.int (am_b (p57.1, p58).1))), am_SH, ((p57.1, p58).2, g))) (by cases h; rfl) (am_Ev.retb hcd rfl)
            · refine am_Ev.t hcd (c := am_b (xt_isSign 60 p53.2) = 0) (s1 := (71, [(0, .ref 128), (1, .int a0), (2, .int (am_b (xt_isWord 6 f))), (3, .int (am_b (xt_isSign 40 f))), (4, .int t54)], [], am_SH, (p53.2, g))) rfl (am_b_f c283) ?_
              refine am_Ev.go hcd 3 (s' := (74, [(0, .ref 128), (1, .int a0), (2, .int (am_b (xt_isWord 6 f))), (3, .int (am_b (xt_isSign 40 f))), (4, .int t54)], [.int 61, .ref 123], am_SH, (p53.2, g))) rfl ?_
              refine am_Ev.call hcd (a := 113) (s0 := (0, [(0, .ref 123), (1, .int 61)], [], am_SH, (p53.2, g))) (q := ((some (.int (am_b (xt_isSign 61 p53.2)))), am_SH, (p53.2, g))) (s1 := (75, [(0, .ref 128), (1, .int a0), (2, .int (am_b (xt_isWord 6 f))), (3, .int (am_b (xt_isSign 40 f))), (4, .int t54)], [.int (am_b (xt_isSign 61 p53.2))], am_SH, (p53.2, g))) rfl rfl (xt_isSign_ok (d + 2) 61 p53.2 g) ?_
              rcases am_ite h with ⟨c299, h⟩ | ⟨c299, h⟩
              · refine am_Ev.f hcd (c := am_b (xt_isSign 61 p53.2) = 0) (s1 := (85, [(0, .ref 128), (1, .int a0), (2, .int (am_b (xt_isWord 6 f))), (3, .int (am_b (xt_isSign 40 f))), (4, .int t54)], [], am_SH, (p53.2, g))) rfl (am_b_t c299) ?_
                refine am_Ev.go hcd 2 (s' := (87, [(0, .ref 128), (1, .int a0), (2, .int (am_b (xt_isWord 6 f))), (3, .int (am_b (xt_isSign 40 f))), (4, .int t54)], [.ref 123], am_SH, (p53.2, g))) rfl ?_
                obtain ⟨p60, hp60, h⟩ := am_bind_some h
                refine am_Ev.call hcd (a := 111) (s0 := (0, [(0, .ref 123)], [], am_SH, (p53.2, g))) (q := (none, am_SH, (p60, g))) (s1 := (88, [(0, .ref 128), (1, .int a0), (2, .int (am_b (xt_isWord 6 f))), (3, .int (am_b (xt_isSign 40 f))), (4, .int t54)], [], am_SH, (p60, g))) rfl rfl (xt_advance_ok (d + 2)  p53.2 g p60 hp60) ?_
                refine am_Ev.go hcd 1 (s' := (89, [(0, .ref 128), (1, .int a0), (2, .int (am_b (xt_isWord 6 f))), (3, .int (am_b (xt_isSign 40 f))), (4, .int t54)], [.ref 128], am_SH, (p60, g))) rfl ?_
                obtain ⟨p61, hp61, h⟩ := am_bind_some h
                refine am_Ev.call hcd (a := 105) (s0 := (0, [(0, .ref 128)], [], am_SH, (p60, g))) (q := ((some (.int (am_b p61.1))), am_SH, (p61.2, g))) (s1 := (90, [(0, .ref 128), (1, .int a0), (2, .int (am_b (xt_isWord 6 f))), (3, .int (am_b (xt_isSign 40 f))), (4, .int t54)], [.int (am_b p61.1)], am_SH, (p61.2, g))) rfl rfl (xs_readSum_ok (d)  p60 g p61 hp61) ?_
                refine am_Ev.go hcd 6 (s' := (96, [(0, .ref 128), (1, .int a0), (2, .int (am_b (xt_isWord 6 f))), (3, .int (am_b (xt_isSign 40 f))), (4, .int t54), (5, .int (am_b p61.1))], [.int (20000 + t54), .ref 129], am_SH, (p61.2, g))) rfl ?_
                obtain ⟨p62, hp62, h⟩ := am_bind_some h
                refine am_Ev.call hcd (a := 32) (s0 := (0, [(0, .ref 129), (1, .int (20000 + t54))], [], am_SH, (p61.2, g))) (q := (none, am_SH, (p62, g))) (s1 := (97, [(0, .ref 128), (1, .int a0), (2, .int (am_b (xt_isWord 6 f))), (3, .int (am_b (xt_isSign 40 f))), (4, .int t54), (5, .int (am_b p61.1))], [], am_SH, (p62, g))) rfl rfl (xl_emit_129_ok (d + 2) (20000 + t54) p61.2 g p62 hp62) ?_
                refine am_Ev.go hcd 1 (s' := (98, [(0, .ref 128), (1, .int a0), (2, .int (am_b (xt_isWord 6 f))), (3, .int (am_b (xt_isSign 40 f))), (4, .int t54), (5, .int (am_b p61.1))], [.int (am_b p61.1)], am_SH, (p62, g))) rfl ?_
                exact am_Ev.cast (a := ((some (.int (am_b (p61.1, p62).1))), am_SH, ((p61.1, p62).2, g))) (by cases h; rfl) (am_Ev.retb hcd rfl)
              · refine am_Ev.t hcd (c := am_b (xt_isSign 61 p53.2) = 0) (s1 := (76, [(0, .ref 128), (1, .int a0), (2, .int (am_b (xt_isWord 6 f))), (3, .int (am_b (xt_isSign 40 f))), (4, .int t54)], [], am_SH, (p53.2, g))) rfl (am_b_f c299) ?_
                refine am_Ev.go hcd 3 (s' := (79, [(0, .ref 128), (1, .int a0), (2, .int (am_b (xt_isWord 6 f))), (3, .int (am_b (xt_isSign 40 f))), (4, .int t54)], [.int 62, .ref 123], am_SH, (p53.2, g))) rfl ?_
                refine am_Ev.call hcd (a := 113) (s0 := (0, [(0, .ref 123), (1, .int 62)], [], am_SH, (p53.2, g))) (q := ((some (.int (am_b (xt_isSign 62 p53.2)))), am_SH, (p53.2, g))) (s1 := (80, [(0, .ref 128), (1, .int a0), (2, .int (am_b (xt_isWord 6 f))), (3, .int (am_b (xt_isSign 40 f))), (4, .int t54)], [.int (am_b (xt_isSign 62 p53.2))], am_SH, (p53.2, g))) rfl rfl (xt_isSign_ok (d + 2) 62 p53.2 g) ?_
                rcases am_ite h with ⟨c315, h⟩ | ⟨c315, h⟩
                · refine am_Ev.f hcd (c := am_b (xt_isSign 62 p53.2) = 0) (s1 := (85, [(0, .ref 128), (1, .int a0), (2, .int (am_b (xt_isWord 6 f))), (3, .int (am_b (xt_isSign 40 f))), (4, .int t54)], [], am_SH, (p53.2, g))) rfl (am_b_t c315) ?_
                  refine am_Ev.go hcd 2 (s' := (87, [(0, .ref 128), (1, .int a0), (2, .int (am_b (xt_isWord 6 f))), (3, .int (am_b (xt_isSign 40 f))), (4, .int t54)], [.ref 123], am_SH, (p53.2, g))) rfl ?_
                  obtain ⟨p64, hp64, h⟩ := am_bind_some h
                  refine am_Ev.call hcd (a := 111) (s0 := (0, [(0, .ref 123)], [], am_SH, (p53.2, g))) (q := (none, am_SH, (p64, g))) (s1 := (88, [(0, .ref 128), (1, .int a0), (2, .int (am_b (xt_isWord 6 f))), (3, .int (am_b (xt_isSign 40 f))), (4, .int t54)], [], am_SH, (p64, g))) rfl rfl (xt_advance_ok (d + 2)  p53.2 g p64 hp64) ?_
                  refine am_Ev.go hcd 1 (s' := (89, [(0, .ref 128), (1, .int a0), (2, .int (am_b (xt_isWord 6 f))), (3, .int (am_b (xt_isSign 40 f))), (4, .int t54)], [.ref 128], am_SH, (p64, g))) rfl ?_
                  obtain ⟨p65, hp65, h⟩ := am_bind_some h
                  refine am_Ev.call hcd (a := 105) (s0 := (0, [(0, .ref 128)], [], am_SH, (p64, g))) (q := ((some (.int (am_b p65.1))), am_SH, (p65.2, g))) (s1 := (90, [(0, .ref 128), (1, .int a0), (2, .int (am_b (xt_isWord 6 f))), (3, .int (am_b (xt_isSign 40 f))), (4, .int t54)], [.int (am_b p65.1)], am_SH, (p65.2, g))) rfl rfl (xs_readSum_ok (d)  p64 g p65 hp65) ?_
                  refine am_Ev.go hcd 6 (s' := (96, [(0, .ref 128), (1, .int a0), (2, .int (am_b (xt_isWord 6 f))), (3, .int (am_b (xt_isSign 40 f))), (4, .int t54), (5, .int (am_b p65.1))], [.int (20000 + t54), .ref 129], am_SH, (p65.2, g))) rfl ?_
                  obtain ⟨p66, hp66, h⟩ := am_bind_some h
                  refine am_Ev.call hcd (a := 32) (s0 := (0, [(0, .ref 129), (1, .int (20000 + t54))], [], am_SH, (p65.2, g))) (q := (none, am_SH, (p66, g))) (s1 := (97, [(0, .ref 128), (1, .int a0), (2, .int (am_b (xt_isWord 6 f))), (3, .int (am_b (xt_isSign 40 f))), (4, .int t54), (5, .int (am_b p65.1))], [], am_SH, (p66, g))) rfl rfl (xl_emit_129_ok (d + 2) (20000 + t54) p65.2 g p66 hp66) ?_
                  refine am_Ev.go hcd 1 (s' := (98, [(0, .ref 128), (1, .int a0), (2, .int (am_b (xt_isWord 6 f))), (3, .int (am_b (xt_isSign 40 f))), (4, .int t54), (5, .int (am_b p65.1))], [.int (am_b p65.1)], am_SH, (p66, g))) rfl ?_
                  exact am_Ev.cast (a := ((some (.int (am_b (p65.1, p66).1))), am_SH, ((p65.1, p66).2, g))) (by cases h; rfl) (am_Ev.retb hcd rfl)
                · refine am_Ev.t hcd (c := am_b (xt_isSign 62 p53.2) = 0) (s1 := (81, [(0, .ref 128), (1, .int a0), (2, .int (am_b (xt_isWord 6 f))), (3, .int (am_b (xt_isSign 40 f))), (4, .int t54)], [], am_SH, (p53.2, g))) rfl (am_b_f c315) ?_
                  refine am_Ev.go hcd 2 (s' := (83, [(0, .ref 128), (1, .int a0), (2, .int (am_b (xt_isWord 6 f))), (3, .int (am_b (xt_isSign 40 f))), (4, .int t54)], [.int 1, .ref 128], am_SH, (p53.2, g))) rfl ?_
                  obtain ⟨p67, Ep67, h⟩ := am_let_eq h
                  refine am_Ev.call hcd (a := 92) (s0 := (0, [(0, .ref 128), (1, .int 1)], [], am_SH, (p53.2, g))) (q := ((some (.int (am_b p67.1))), am_SH, (p67.2, g))) (s1 := (84, [(0, .ref 128), (1, .int a0), (2, .int (am_b (xt_isWord 6 f))), (3, .int (am_b (xt_isSign 40 f))), (4, .int t54)], [.int (am_b p67.1)], am_SH, (p67.2, g))) rfl rfl (by subst Ep67; exact xs_refuse_ok (d + 2) 1 p53.2 g) ?_
                  exact am_Ev.cast (a := ((some (.int (am_b (p67.1, p67.2).1))), am_SH, ((p67.1, p67.2).2, g))) (by cases h; rfl) (am_Ev.retb hcd rfl)
          · refine am_Ev.t hcd (c := am_b p53.1 = 0) (s1 := (60, [(0, .ref 128), (1, .int a0), (2, .int (am_b (xt_isWord 6 f))), (3, .int (am_b (xt_isSign 40 f)))], [], am_SH, (p53.2, g))) rfl (am_b_f c277) ?_
            refine am_Ev.go hcd 1 (s' := (61, [(0, .ref 128), (1, .int a0), (2, .int (am_b (xt_isWord 6 f))), (3, .int (am_b (xt_isSign 40 f)))], [.int 0], am_SH, (p53.2, g))) rfl ?_
            exact am_Ev.cast (a := ((some (.int (am_b (false, p53.2).1))), am_SH, ((false, p53.2).2, g))) (by cases h; rfl) (am_Ev.ret hcd rfl)
set_option maxHeartbeats 4000000 in
theorem x_rec_ok {sc : Nat × (Nat → Int32)} (d : Nat) : ∀ n : Nat, (∀ (a0 : Int32) (f g : (Nat → Nat → Int32)) (r : Bool × (Nat → Nat → Int32)), xs_readAny n a0 f = some r → am_Ev sc (d + n + 2) 103 (0, [(0, .ref 128), (1, .int a0)], [], am_SH, (f, g)) ((some (.int (am_b r.1))), am_SH, (r.2, g))) ∧ (∀ (a0 : Int32) (f g : (Nat → Nat → Int32)) (r : Bool × (Nat → Nat → Int32)), xs_readCondition n a0 f = some r → am_Ev sc (d + n + 2) 104 (0, [(0, .ref 128), (1, .int a0)], [], am_SH, (f, g)) ((some (.int (am_b r.1))), am_SH, (r.2, g))) := by
  intro n
  induction n with
  | zero => exact ⟨fun _ f g r h => (by cases h), fun _ f g r h => (by cases h)⟩
  | succ n ih =>
    obtain ⟨i0, i1⟩ := ih
    exact ⟨fun a0 f g r h => xs_readAny_Bok (d + n) _ _ i0 i1 a0 f g r h, fun a0 f g r h => xs_readCondition_Bok (d + n) _ _ i0 i1 a0 f g r h⟩
theorem xs_readAny_ok {sc : Nat × (Nat → Int32)} (d n : Nat) (a0 : Int32) (f g : (Nat → Nat → Int32)) (r : Bool × (Nat → Nat → Int32)) (h : xs_readAny n a0 f = some r) : am_Ev sc (d + n + 2) 103 (0, [(0, .ref 128), (1, .int a0)], [], am_SH, (f, g)) ((some (.int (am_b r.1))), am_SH, (r.2, g)) := (x_rec_ok d n).1 a0 f g r h
theorem xs_readCondition_ok {sc : Nat × (Nat → Int32)} (d n : Nat) (a0 : Int32) (f g : (Nat → Nat → Int32)) (r : Bool × (Nat → Nat → Int32)) (h : xs_readCondition n a0 f = some r) : am_Ev sc (d + n + 2) 104 (0, [(0, .ref 128), (1, .int a0)], [], am_SH, (f, g)) ((some (.int (am_b r.1))), am_SH, (r.2, g)) := (x_rec_ok d n).2 a0 f g r h
