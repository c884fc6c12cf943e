def xm_steadyFrom_45 (a0 : Int32) (a1 : Int32) (f : (Nat → Nat → Int32)) : Option (Int32) :=
  if am_in a0 24 = true then (
  am_let (f 46 a0.toNatClampNeg : Int32) fun t1 =>
  am_loop (fun (s2 : Int32 × Int32 × Int32) => ((
    if s2.2.2 < f 45 0 then (
      if am_in s2.2.2 24 = true then (
      am_let ((am_min s2.1 (f 46 s2.2.2.toNatClampNeg)) : Int32) fun t3 =>
      if am_in s2.2.2 24 = true then (
      am_let ((am_max s2.2.1 (f 46 s2.2.2.toNatClampNeg)) : Int32) fun t4 =>
      if a1 < (t4 - t3) then (
        some (.inr (s2.2.2 - a0)))
      else (
        am_let (s2.2.2 + 1 : Int32) fun t5 =>
        some (.inl (t3, t4, t5)))) else none) else none)
    else (
      some (.inr ((f 45 0) - a0)))) : Option ((Int32 × Int32 × Int32) ⊕ (Int32)))) am_F (t1, t1, a0)) else none
def xm_steadiest_45 (a0 : Int32) (a1 : Int32) (f : (Nat → Nat → Int32)) : Option (Int32) :=
  (am_loop (fun (s1 : Int32 × Int32 × Int32) => ((
    if s1.2.2 < f 45 0 then (
      (xm_steadyFrom_45 s1.2.2 a0 f).bind fun p2 =>
      am_let ((if s1.1 < p2 then (
          (p2, s1.2.2))
        else (
          (s1.1, s1.2.1))) : Int32 × Int32) fun t3 =>
      am_let (s1.2.2 + 1 : Int32) fun t4 =>
      some (.inl (t3.1, t3.2, t4)))
    else (
      some (.inr (s1.1, s1.2.1)))) : Option ((Int32 × Int32 × Int32) ⊕ (Int32 × Int32)))) am_F (0, (-1), 0)).bind fun e5 =>
  if a1 = 0 then (
    some e5.1)
  else (
    some e5.2)
def x_steady (a0 : Int32) (a1 : Int32) (f : (Nat → Nat → Int32)) : Option (Int32) :=
  if (x_within a0 0 99) = true then (
    if (x_within a1 0 1) = true then (
      (xm_steadiest_45 a0 a1 f).bind fun p3 =>
      some p3)
    else (
      some (-1)))
  else (
    some (-1))
def xm_quietWays (a0 : Int32) (a1 : Int32) (f : (Nat → Nat → Int32)) : Option (Int32 × (Nat → Nat → Int32)) :=
  if am_in 0 6 = true ∧ ((1 : Int32).toInt64).toInt32.toInt64 = ((1 : Int32).toInt64) then (
  am_let (am_up f 154 0 (((1 : Int32).toInt64).toInt32) : Nat → Nat → Int32) fun f1 =>
  (am_loop (fun (s2 : Int32 × (Nat → Nat → Int32)) => ((
    if s2.1 < a1 then (
      if am_in s2.1 6 = true ∧ ((0 : Int32).toInt64).toInt32.toInt64 = ((0 : Int32).toInt64) then (
      am_let (am_up s2.2 154 s2.1.toNatClampNeg (((0 : Int32).toInt64).toInt32) : Nat → Nat → Int32) fun f3 =>
      am_let (s2.1 + 1 : Int32) fun t4 =>
      some (.inl (t4, f3))) else none)
    else (
      some (.inr s2.2))) : Option ((Int32 × (Nat → Nat → Int32)) ⊕ ((Nat → Nat → Int32))))) am_F (1, f1)).bind fun e5 =>
  am_let (((1 : Int32).toInt64) : Int64) fun t6 =>
  am_loop (fun (s7 : Int64 × Int32 × (Nat → Nat → Int32)) => ((
    if s7.2.1 < a0 then (
      am_let ((a1 - 1) : Int32) fun t8 =>
      (am_loop (fun (s9 : Int32 × (Nat → Nat → Int32)) => ((
        if 0 < s9.1 then (
          if am_in (s9.1 - 1) 6 = true then (
          if am_in s9.1 6 = true ∧ ((s9.2 154 (s9.1 - 1).toNatClampNeg).toInt64).toInt32.toInt64 = ((s9.2 154 (s9.1 - 1).toNatClampNeg).toInt64) then (
          am_let (am_up s9.2 154 s9.1.toNatClampNeg (((s9.2 154 (s9.1 - 1).toNatClampNeg).toInt64).toInt32) : Nat → Nat → Int32) fun f10 =>
          am_let (s9.1 + (-1) : Int32) fun t11 =>
          some (.inl (t11, f10))) else none) else none)
        else (
          some (.inr s9.2))) : Option ((Int32 × (Nat → Nat → Int32)) ⊕ ((Nat → Nat → Int32))))) am_F (t8, s7.2.2)).bind fun e12 =>
      if am_in 0 6 = true ∧ s7.1.toInt32.toInt64 = s7.1 then (
      am_let (am_up e12 154 0 (s7.1.toInt32) : Nat → Nat → Int32) fun f13 =>
      am_let (((0 : Int32).toInt64) : Int64) fun t14 =>
      (am_loop (fun (s15 : Int64 × Int32) => ((
        if s15.2 < a1 then (
          if am_in s15.2 6 = true then (
          am_let (((s15.1 + ((f13 154 s15.2.toNatClampNeg).toInt64)) - (s15.1 + ((f13 154 s15.2.toNatClampNeg).toInt64)) / ((1000000007 : Int32).toInt64) * ((1000000007 : Int32).toInt64)) : Int64) fun t16 =>
          am_let (s15.2 + 1 : Int32) fun t17 =>
          some (.inl (t16, t17))) else none)
        else (
          some (.inr s15.1))) : Option ((Int64 × Int32) ⊕ (Int64)))) am_F (t14, 0)).bind fun e18 =>
      am_let (s7.2.1 + 1 : Int32) fun t19 =>
      some (.inl (e18, t19, f13))) else none)
    else (
      some (.inr ((s7.1.toInt32), s7.2.2)))) : Option ((Int64 × Int32 × (Nat → Nat → Int32)) ⊕ (Int32 × (Nat → Nat → Int32))))) am_F (t6, 0, e5)) else none
def x_quiet (a0 : Int32) (a1 : Int32) (f : (Nat → Nat → Int32)) : Option (Int32 × (Nat → Nat → Int32)) :=
  if (x_within a0 0 60) = true then (
    if (x_within a1 1 5) = true then (
      (xm_quietWays a0 a1 f).bind fun p3 =>
      some (p3.1, p3.2))
    else (
      some ((-1), f)))
  else (
    some ((-1), f))
def xr_clearAll_48 (f : (Nat → Nat → Int32)) : Int32 × (Nat → Nat → Int32) :=
  am_let (am_up f 48 0 0 : Nat → Nat → Int32) fun f1 =>
  (f1 48 0, f1)
def xr_append_48 (a0 : Int32) (a1 : Int32) (f : (Nat → Nat → Int32)) : Option (Int32 × (Nat → Nat → Int32)) :=
  if f 48 0 < (nI 8) then (
    if am_in (f 48 0) 8 = true then (
    am_let (am_up f 49 (f 48 0).toNatClampNeg a0 : Nat → Nat → Int32) fun f1 =>
    if am_in (f1 48 0) 8 = true then (
    am_let (am_up f1 50 (f1 48 0).toNatClampNeg a1 : Nat → Nat → Int32) fun f2 =>
    am_let (am_up f2 48 0 ((f2 48 0) + 1) : Nat → Nat → Int32) fun f3 =>
    some (f3 48 0, f3)) else none) else none)
  else (
    some ((-1), f))
def x_dog (a0 : Int32) (f : (Nat → Nat → Int32)) : Option (Int32 × (Nat → Nat → Int32)) :=
  if a0 = (-1) then (
    am_let (xr_clearAll_48  f) fun p1 =>
    some (p1.1, p1.2))
  else (
    if (x_within a0 1 9999) = true then (
      (xr_append_48 a0 0 f).bind fun p3 =>
      some (p3.1, p3.2))
    else (
      some ((-1), f)))
def xm_letterCount (a0 : Int32)  : Int32 :=
  if 999 < a0 then (
    4)
  else (
    if 99 < a0 then (
      3)
    else (
      if 9 < a0 then (
        2)
      else (
        1)))
def xm_beginning (a0 : Int32) (a1 : Int32)  : Option (Int32) :=
  am_let ((xm_letterCount a0) : Int32) fun t2 =>
  am_loop (fun (s3 : Int32 × Int32) => ((
    if a1 < s3.2 then (
      am_let ((s3.1 / 10) : Int32) fun t4 =>
      am_let (s3.2 + (-1) : Int32) fun t5 =>
      some (.inl (t4, t5)))
    else (
      some (.inr s3.1))) : Option ((Int32 × Int32) ⊕ (Int32)))) am_F (a0, t2)
def xm_sharedLetters (a0 : Int32) (a1 : Int32)  : Option (Int32) :=
  am_let ((am_min (xm_letterCount a0) (xm_letterCount a1)) : Int32) fun t3 =>
  am_loop (fun (s4 : Int32) => ((
    if t3 < s4 then (
      some (.inr t3))
    else (
      (xm_beginning a0 s4).bind fun p5 =>
      (xm_beginning a1 s4).bind fun p6 =>
      if p5 = p6 then (
        am_let (s4 + 1 : Int32) fun t7 =>
        some (.inl t7))
      else (
        some (.inr (s4 - 1))))) : Option ((Int32) ⊕ (Int32)))) am_F 1
def xm_lettersNeeded_48 (f : (Nat → Nat → Int32)) : Option (Int32) :=
  am_loop (fun (s1 : Int32 × Int32) => ((
    if s1.2 < f 48 0 then (
      (am_loop (fun (s2 : Int32 × Int32) => ((
        if s2.2 < s1.2 then (
          if am_in s1.2 8 = true then (
          if am_in s2.2 8 = true then (
          if f 49 s1.2.toNatClampNeg = f 49 s2.2.toNatClampNeg then (
            some (.inr (.inl (-1))))
          else (
            if am_in s1.2 8 = true then (
            if am_in s2.2 8 = true then (
            (xm_sharedLetters (f 49 s1.2.toNatClampNeg) (f 49 s2.2.toNatClampNeg)).bind fun p3 =>
            am_let ((am_max s2.1 (1 + p3)) : Int32) fun t4 =>
            am_let (s2.2 + 1 : Int32) fun t5 =>
            some (.inl (t4, t5))) else none) else none)) else none) else none)
        else (
          some (.inr (.inr s2.1)))) : Option ((Int32 × Int32) ⊕ ((Int32) ⊕ (Int32))))) am_F (s1.1, 0)).bind fun e6 =>
      e6.elim (fun v => some (.inr v)) fun e7 =>
      am_let (s1.2 + 1 : Int32) fun t8 =>
      some (.inl (e7, t8)))
    else (
      some (.inr s1.1))) : Option ((Int32 × Int32) ⊕ (Int32)))) am_F (0, 0)
def xm_isHead (a0 : Int32) (a1 : Int32) (f : (Nat → Nat → Int32)) : Option (Bool) :=
  am_loop (fun (s1 : Int32) => ((
    if s1 < a1 then (
      if am_in s1 32 = true then (
      if f 155 s1.toNatClampNeg = a0 then (
        some (.inr true))
      else (
        am_let (s1 + 1 : Int32) fun t2 =>
        some (.inl t2))) else none)
    else (
      some (.inr false))) : Option ((Int32) ⊕ (Bool)))) am_F 0
def xm_beginnings_48 (f : (Nat → Nat → Int32)) : Option (Int32 × (Nat → Nat → Int32)) :=
  am_loop (fun (s1 : Int32 × Int32 × (Nat → Nat → Int32)) => ((
    if s1.2.1 < s1.2.2 48 0 then (
      if am_in s1.2.1 8 = true then (
      am_let (s1.2.2 49 s1.2.1.toNatClampNeg : Int32) fun t2 =>
      (am_loop (fun (s3 : Int32 × Int32 × Int32 × (Nat → Nat → Int32)) => ((
        if s3.2.2.1 < 4 then (
          if 0 < s3.2.1 then (
            ((if s3.1 < (nI 32) then (
                (xm_isHead s3.2.1 s3.1 s3.2.2.2).bind fun p4 =>
                if p4 = true then (
                  some (s3.1, s3.2.2.2))
                else (
                  if am_in s3.1 32 = true then (
                  am_let (am_up s3.2.2.2 155 s3.1.toNatClampNeg s3.2.1 : Nat → Nat → Int32) fun f5 =>
                  am_let (s3.1 + 1 : Int32) fun t6 =>
                  some (t6, f5)) else none))
              else (
                some (s3.1, s3.2.2.2))) : Option (Int32 × (Nat → Nat → Int32))).bind fun t7 =>
            am_let ((s3.2.1 / 10) : Int32) fun t8 =>
            am_let (s3.2.2.1 + 1 : Int32) fun t9 =>
            some (.inl (t7.1, t8, t9, t7.2)))
          else (
            some (.inr (s3.1, s3.2.2.2))))
        else (
          some (.inr (s3.1, s3.2.2.2)))) : Option ((Int32 × Int32 × Int32 × (Nat → Nat → Int32)) ⊕ (Int32 × (Nat → Nat → Int32))))) am_F (s1.1, t2, 0, s1.2.2)).bind fun e10 =>
      am_let (s1.2.1 + 1 : Int32) fun t11 =>
      some (.inl (e10.1, t11, e10.2))) else none)
    else (
      some (.inr (s1.1, s1.2.2)))) : Option ((Int32 × Int32 × (Nat → Nat → Int32)) ⊕ (Int32 × (Nat → Nat → Int32))))) am_F (0, 0, f)
def x_dogs (a0 : Int32) (f : (Nat → Nat → Int32)) : Option (Int32 × (Nat → Nat → Int32)) :=
  if a0 = 0 then (
    (xm_lettersNeeded_48  f).bind fun p1 =>
    some (p1, f))
  else (
    if a0 = 1 then (
      (xm_beginnings_48  f).bind fun p2 =>
      some (p2.1, p2.2))
    else (
      some ((-1), f)))
def xr_clearAll_51 (f : (Nat → Nat → Int32)) : Int32 × (Nat → Nat → Int32) :=
  am_let (am_up f 51 0 0 : Nat → Nat → Int32) fun f1 =>
  (f1 51 0, f1)
def xr_append_51 (a0 : Int32) (a1 : Int32) (f : (Nat → Nat → Int32)) : Option (Int32 × (Nat → Nat → Int32)) :=
  if f 51 0 < (nI 8) then (
    if am_in (f 51 0) 8 = true then (
    am_let (am_up f 52 (f 51 0).toNatClampNeg a0 : Nat → Nat → Int32) fun f1 =>
    if am_in (f1 51 0) 8 = true then (
    am_let (am_up f1 53 (f1 51 0).toNatClampNeg a1 : Nat → Nat → Int32) fun f2 =>
    am_let (am_up f2 51 0 ((f2 51 0) + 1) : Nat → Nat → Int32) fun f3 =>
    some (f3 51 0, f3)) else none) else none)
  else (
    some ((-1), f))
def x_juror (a0 : Int32) (f : (Nat → Nat → Int32)) : Option (Int32 × (Nat → Nat → Int32)) :=
  if a0 = (-1) then (
    am_let (xr_clearAll_51  f) fun p1 =>
    some (p1.1, p1.2))
  else (
    if (x_within a0 1 20) = true then (
      (xr_append_51 a0 0 f).bind fun p3 =>
      some (p3.1, p3.2))
    else (
      some ((-1), f)))
def xm_weightOf_51 (a0 : Int32) (f : (Nat → Nat → Int32)) : Option (Int32) :=
  am_loop (fun (s1 : Int32 × Int32) => ((
    if s1.2 < f 51 0 then (
      ((if ((a0 >>> (s1.2 &&& 31)) &&& 1) = 1 then (
          if am_in s1.2 8 = true then (
          am_let ((s1.1 + (f 52 s1.2.toNatClampNeg)) : Int32) fun t2 =>
          some t2) else none)
        else (
          some s1.1)) : Option (Int32)).bind fun t3 =>
      am_let (s1.2 + 1 : Int32) fun t4 =>
      some (.inl (t3, t4)))
    else (
      some (.inr s1.1))) : Option ((Int32 × Int32) ⊕ (Int32)))) am_F (0, 0)
def xm_fewestEnough_51 (a0 : Int32) (f : (Nat → Nat → Int32)) : Option (Int32) :=
  am_loop (fun (s1 : Int32 × Int32) => ((
    if s1.2 < (1 <<< ((f 51 0) &&& 31)) then (
      am_let ((if s1.1 = (-1) then (
          true)
        else (
          if (ji_bitCount s1.2) < (ji_bitCount s1.1) then (
            true)
          else (
            false))) : Bool) fun t4 =>
      ((if t4 = true then (
          (xm_weightOf_51 s1.2 f).bind fun p5 =>
          if p5 < a0 then (
            some s1.1)
          else (
            some s1.2))
        else (
          some s1.1)) : Option (Int32)).bind fun t6 =>
      am_let (s1.2 + 1 : Int32) fun t7 =>
      some (.inl (t6, t7)))
    else (
      some (.inr s1.1))) : Option ((Int32 × Int32) ⊕ (Int32)))) am_F ((-1), 0)
def xr_has_51 (a0 : Int32) (f : (Nat → Nat → Int32)) : Bool :=
  if a0 < 0 then (
    false)
  else (
    if a0 < f 51 0 then (
      true)
    else (
      false))
def xm_turns_51 (a0 : Int32) (a1 : Int32) (f : (Nat → Nat → Int32)) : Option (Int32) :=
  am_loop (fun (s1 : Int32 × Int32) => ((
    if s1.2 < (1 <<< ((f 51 0) &&& 31)) then (
      ((if ((s1.2 >>> (a1 &&& 31)) &&& 1) = 1 then (
          some s1.1)
        else (
          (xm_weightOf_51 s1.2 f).bind fun p2 =>
          if p2 < a0 then (
            if am_in a1 8 = true then (
            if (p2 + (f 52 a1.toNatClampNeg)) < a0 then (
              some s1.1)
            else (
              am_let (s1.1 + 1 : Int32) fun t3 =>
              some t3)) else none)
          else (
            some s1.1))) : Option (Int32)).bind fun t4 =>
      am_let (s1.2 + 1 : Int32) fun t5 =>
      some (.inl (t4, t5)))
    else (
      some (.inr s1.1))) : Option ((Int32 × Int32) ⊕ (Int32)))) am_F (0, 0)
def x_jury (a0 : Int32) (a1 : Int32) (f : (Nat → Nat → Int32)) : Option (Int32) :=
  if (x_within a0 1 160) = true then (
    if a1 = (-1) then (
      (xm_fewestEnough_51 a0 f).bind fun p2 =>
      some p2)
    else (
      if (xr_has_51 a1 f) = true then (
        (xm_turns_51 a0 a1 f).bind fun p4 =>
        some p4)
      else (
        some (-1))))
  else (
    some (-1))
def xc_takeFrom_56_2 (f : (Nat → Nat → Int32)) : (Nat → Nat → Int32) :=
  am_let (am_up f 56 0 (f 2 0) : Nat → Nat → Int32) fun f1 =>
  am_let (am_up f1 56 1 (f1 2 1) : Nat → Nat → Int32) fun f2 =>
  am_let (am_up f2 56 2 (f2 2 2) : Nat → Nat → Int32) fun f3 =>
  am_let (am_up f3 56 3 (f3 2 3) : Nat → Nat → Int32) fun f4 =>
  am_let (am_up f4 56 4 (f4 2 4) : Nat → Nat → Int32) fun f5 =>
  am_let (am_up f5 56 5 (f5 2 5) : Nat → Nat → Int32) fun f6 =>
  am_let (am_cp f6 3 0 57 0 6 : Nat → Nat → Int32) fun f7 =>
  am_let (am_cp f7 4 0 58 0 6 : Nat → Nat → Int32) fun f8 =>
  am_let (am_cp f8 5 0 59 0 6 : Nat → Nat → Int32) fun f9 =>
  am_let (am_cp f9 6 0 60 0 6 : Nat → Nat → Int32) fun f10 =>
  am_let (am_cp f10 7 0 61 0 6 : Nat → Nat → Int32) fun f11 =>
  am_let (am_cp f11 8 0 62 0 12 : Nat → Nat → Int32) fun f12 =>
  am_let (am_cp f12 9 0 63 0 12 : Nat → Nat → Int32) fun f13 =>
  am_let (am_cp f13 10 0 64 0 12 : Nat → Nat → Int32) fun f14 =>
  am_let (am_cp f14 11 0 65 0 12 : Nat → Nat → Int32) fun f15 =>
  f15
def xk_takeFrom_66_12 (f : (Nat → Nat → Int32)) : (Nat → Nat → Int32) :=
  am_let (am_cp f 13 0 67 0 600 : Nat → Nat → Int32) fun f1 =>
  f1
def xl_takeFrom_68_14 (f : (Nat → Nat → Int32)) : (Nat → Nat → Int32) :=
  am_let (am_up f 68 0 (f 14 0) : Nat → Nat → Int32) fun f1 =>
  am_let (am_up f1 68 1 (f1 14 1) : Nat → Nat → Int32) fun f2 =>
  am_let (am_cp f2 15 0 69 0 400 : Nat → Nat → Int32) fun f3 =>
  am_let (am_cp f3 16 0 70 0 16 : Nat → Nat → Int32) fun f4 =>
  am_let (am_cp f4 17 0 71 0 16 : Nat → Nat → Int32) fun f5 =>
  am_let (am_cp f5 18 0 72 0 16 : Nat → Nat → Int32) fun f6 =>
  am_let (am_cp f6 19 0 73 0 16 : Nat → Nat → Int32) fun f7 =>
  f7
def xw_takeFrom_74_20 (f : (Nat → Nat → Int32)) : (Nat → Nat → Int32) :=
  am_let (am_up f 74 0 (f 20 0) : Nat → Nat → Int32) fun f1 =>
  am_let (am_cp f1 21 0 75 0 16 : Nat → Nat → Int32) fun f2 =>
  am_let (am_cp f2 22 0 76 0 16 : Nat → Nat → Int32) fun f3 =>
  am_let (am_cp f3 23 0 77 0 16 : Nat → Nat → Int32) fun f4 =>
  am_let (am_cp f4 24 0 78 0 16 : Nat → Nat → Int32) fun f5 =>
  f5
def xn_takeFrom_79_25 (f : (Nat → Nat → Int32)) : (Nat → Nat → Int32) :=
  am_let (am_up f 79 0 (f 25 0) : Nat → Nat → Int32) fun f1 =>
  am_let (am_cp f1 26 0 80 0 256 : Nat → Nat → Int32) fun f2 =>
  f2
def xr_takeFrom_81_27 (f : (Nat → Nat → Int32)) : (Nat → Nat → Int32) :=
  am_let (am_up f 81 0 (f 27 0) : Nat → Nat → Int32) fun f1 =>
  am_let (am_cp f1 28 0 82 0 8 : Nat → Nat → Int32) fun f2 =>
  am_let (am_cp f2 29 0 83 0 8 : Nat → Nat → Int32) fun f3 =>
  f3
def xr_takeFrom_84_30 (f : (Nat → Nat → Int32)) : (Nat → Nat → Int32) :=
  am_let (am_up f 84 0 (f 30 0) : Nat → Nat → Int32) fun f1 =>
  am_let (am_cp f1 31 0 85 0 6 : Nat → Nat → Int32) fun f2 =>
  am_let (am_cp f2 32 0 86 0 6 : Nat → Nat → Int32) fun f3 =>
  f3
def xr_takeFrom_87_33 (f : (Nat → Nat → Int32)) : (Nat → Nat → Int32) :=
  am_let (am_up f 87 0 (f 33 0) : Nat → Nat → Int32) fun f1 =>
  am_let (am_cp f1 34 0 88 0 4 : Nat → Nat → Int32) fun f2 =>
  am_let (am_cp f2 35 0 89 0 4 : Nat → Nat → Int32) fun f3 =>
  f3
def xr_takeFrom_90_36 (f : (Nat → Nat → Int32)) : (Nat → Nat → Int32) :=
  am_let (am_up f 90 0 (f 36 0) : Nat → Nat → Int32) fun f1 =>
  am_let (am_cp f1 37 0 91 0 6 : Nat → Nat → Int32) fun f2 =>
  am_let (am_cp f2 38 0 92 0 6 : Nat → Nat → Int32) fun f3 =>
  f3
def xr_takeFrom_93_39 (f : (Nat → Nat → Int32)) : (Nat → Nat → Int32) :=
  am_let (am_up f 93 0 (f 39 0) : Nat → Nat → Int32) fun f1 =>
  am_let (am_cp f1 40 0 94 0 4 : Nat → Nat → Int32) fun f2 =>
  am_let (am_cp f2 41 0 95 0 4 : Nat → Nat → Int32) fun f3 =>
  f3
def xr_takeFrom_96_42 (f : (Nat → Nat → Int32)) : (Nat → Nat → Int32) :=
  am_let (am_up f 96 0 (f 42 0) : Nat → Nat → Int32) fun f1 =>
  am_let (am_cp f1 43 0 97 0 8 : Nat → Nat → Int32) fun f2 =>
  am_let (am_cp f2 44 0 98 0 8 : Nat → Nat → Int32) fun f3 =>
  f3
def xr_takeFrom_99_45 (f : (Nat → Nat → Int32)) : (Nat → Nat → Int32) :=
  am_let (am_up f 99 0 (f 45 0) : Nat → Nat → Int32) fun f1 =>
  am_let (am_cp f1 46 0 100 0 24 : Nat → Nat → Int32) fun f2 =>
  am_let (am_cp f2 47 0 101 0 24 : Nat → Nat → Int32) fun f3 =>
  f3
def xr_takeFrom_102_48 (f : (Nat → Nat → Int32)) : (Nat → Nat → Int32) :=
  am_let (am_up f 102 0 (f 48 0) : Nat → Nat → Int32) fun f1 =>
  am_let (am_cp f1 49 0 103 0 8 : Nat → Nat → Int32) fun f2 =>
  am_let (am_cp f2 50 0 104 0 8 : Nat → Nat → Int32) fun f3 =>
  f3
def xr_takeFrom_105_51 (f : (Nat → Nat → Int32)) : (Nat → Nat → Int32) :=
  am_let (am_up f 105 0 (f 51 0) : Nat → Nat → Int32) fun f1 =>
  am_let (am_cp f1 52 0 106 0 8 : Nat → Nat → Int32) fun f2 =>
  am_let (am_cp f2 53 0 107 0 8 : Nat → Nat → Int32) fun f3 =>
  f3
def xo_takeFrom_55_1 (f : (Nat → Nat → Int32)) : (Nat → Nat → Int32) :=
  am_let (xc_takeFrom_56_2  f) fun p1 =>
  am_let (xk_takeFrom_66_12  p1) fun p2 =>
  am_let (xl_takeFrom_68_14  p2) fun p3 =>
  am_let (xw_takeFrom_74_20  p3) fun p4 =>
  am_let (xn_takeFrom_79_25  p4) fun p5 =>
  am_let (xr_takeFrom_81_27  p5) fun p6 =>
  am_let (xr_takeFrom_84_30  p6) fun p7 =>
  am_let (xr_takeFrom_87_33  p7) fun p8 =>
  am_let (xr_takeFrom_90_36  p8) fun p9 =>
  am_let (xr_takeFrom_93_39  p9) fun p10 =>
  am_let (xr_takeFrom_96_42  p10) fun p11 =>
  am_let (xr_takeFrom_99_45  p11) fun p12 =>
  am_let (xr_takeFrom_102_48  p12) fun p13 =>
  am_let (xr_takeFrom_105_51  p13) fun p14 =>
  am_let (am_cp p14 54 0 108 0 8 : Nat → Nat → Int32) fun f15 =>
  f15
def xc_takeFrom_2_56 (f : (Nat → Nat → Int32)) : (Nat → Nat → Int32) :=
  am_let (am_up f 2 0 (f 56 0) : Nat → Nat → Int32) fun f1 =>
  am_let (am_up f1 2 1 (f1 56 1) : Nat → Nat → Int32) fun f2 =>
  am_let (am_up f2 2 2 (f2 56 2) : Nat → Nat → Int32) fun f3 =>
  am_let (am_up f3 2 3 (f3 56 3) : Nat → Nat → Int32) fun f4 =>
  am_let (am_up f4 2 4 (f4 56 4) : Nat → Nat → Int32) fun f5 =>
  am_let (am_up f5 2 5 (f5 56 5) : Nat → Nat → Int32) fun f6 =>
  am_let (am_cp f6 57 0 3 0 6 : Nat → Nat → Int32) fun f7 =>
  am_let (am_cp f7 58 0 4 0 6 : Nat → Nat → Int32) fun f8 =>
  am_let (am_cp f8 59 0 5 0 6 : Nat → Nat → Int32) fun f9 =>
  am_let (am_cp f9 60 0 6 0 6 : Nat → Nat → Int32) fun f10 =>
  am_let (am_cp f10 61 0 7 0 6 : Nat → Nat → Int32) fun f11 =>
  am_let (am_cp f11 62 0 8 0 12 : Nat → Nat → Int32) fun f12 =>
  am_let (am_cp f12 63 0 9 0 12 : Nat → Nat → Int32) fun f13 =>
  am_let (am_cp f13 64 0 10 0 12 : Nat → Nat → Int32) fun f14 =>
  am_let (am_cp f14 65 0 11 0 12 : Nat → Nat → Int32) fun f15 =>
  f15
def xk_takeFrom_12_66 (f : (Nat → Nat → Int32)) : (Nat → Nat → Int32) :=
  am_let (am_cp f 67 0 13 0 600 : Nat → Nat → Int32) fun f1 =>
  f1
def xl_takeFrom_14_68 (f : (Nat → Nat → Int32)) : (Nat → Nat → Int32) :=
  am_let (am_up f 14 0 (f 68 0) : Nat → Nat → Int32) fun f1 =>
  am_let (am_up f1 14 1 (f1 68 1) : Nat → Nat → Int32) fun f2 =>
  am_let (am_cp f2 69 0 15 0 400 : Nat → Nat → Int32) fun f3 =>
  am_let (am_cp f3 70 0 16 0 16 : Nat → Nat → Int32) fun f4 =>
  am_let (am_cp f4 71 0 17 0 16 : Nat → Nat → Int32) fun f5 =>
  am_let (am_cp f5 72 0 18 0 16 : Nat → Nat → Int32) fun f6 =>
  am_let (am_cp f6 73 0 19 0 16 : Nat → Nat → Int32) fun f7 =>
  f7
def xw_takeFrom_20_74 (f : (Nat → Nat → Int32)) : (Nat → Nat → Int32) :=
  am_let (am_up f 20 0 (f 74 0) : Nat → Nat → Int32) fun f1 =>
  am_let (am_cp f1 75 0 21 0 16 : Nat → Nat → Int32) fun f2 =>
  am_let (am_cp f2 76 0 22 0 16 : Nat → Nat → Int32) fun f3 =>
  am_let (am_cp f3 77 0 23 0 16 : Nat → Nat → Int32) fun f4 =>
  am_let (am_cp f4 78 0 24 0 16 : Nat → Nat → Int32) fun f5 =>
  f5
def xn_takeFrom_25_79 (f : (Nat → Nat → Int32)) : (Nat → Nat → Int32) :=
  am_let (am_up f 25 0 (f 79 0) : Nat → Nat → Int32) fun f1 =>
  am_let (am_cp f1 80 0 26 0 256 : Nat → Nat → Int32) fun f2 =>
  f2
def xr_takeFrom_27_81 (f : (Nat → Nat → Int32)) : (Nat → Nat → Int32) :=
  am_let (am_up f 27 0 (f 81 0) : Nat → Nat → Int32) fun f1 =>
  am_let (am_cp f1 82 0 28 0 8 : Nat → Nat → Int32) fun f2 =>
  am_let (am_cp f2 83 0 29 0 8 : Nat → Nat → Int32) fun f3 =>
  f3
def xr_takeFrom_30_84 (f : (Nat → Nat → Int32)) : (Nat → Nat → Int32) :=
  am_let (am_up f 30 0 (f 84 0) : Nat → Nat → Int32) fun f1 =>
  am_let (am_cp f1 85 0 31 0 6 : Nat → Nat → Int32) fun f2 =>
  am_let (am_cp f2 86 0 32 0 6 : Nat → Nat → Int32) fun f3 =>
  f3
def xr_takeFrom_33_87 (f : (Nat → Nat → Int32)) : (Nat → Nat → Int32) :=
  am_let (am_up f 33 0 (f 87 0) : Nat → Nat → Int32) fun f1 =>
  am_let (am_cp f1 88 0 34 0 4 : Nat → Nat → Int32) fun f2 =>
  am_let (am_cp f2 89 0 35 0 4 : Nat → Nat → Int32) fun f3 =>
  f3
def xr_takeFrom_36_90 (f : (Nat → Nat → Int32)) : (Nat → Nat → Int32) :=
  am_let (am_up f 36 0 (f 90 0) : Nat → Nat → Int32) fun f1 =>
  am_let (am_cp f1 91 0 37 0 6 : Nat → Nat → Int32) fun f2 =>
  am_let (am_cp f2 92 0 38 0 6 : Nat → Nat → Int32) fun f3 =>
  f3
def xr_takeFrom_39_93 (f : (Nat → Nat → Int32)) : (Nat → Nat → Int32) :=
  am_let (am_up f 39 0 (f 93 0) : Nat → Nat → Int32) fun f1 =>
  am_let (am_cp f1 94 0 40 0 4 : Nat → Nat → Int32) fun f2 =>
  am_let (am_cp f2 95 0 41 0 4 : Nat → Nat → Int32) fun f3 =>
  f3
def xr_takeFrom_42_96 (f : (Nat → Nat → Int32)) : (Nat → Nat → Int32) :=
  am_let (am_up f 42 0 (f 96 0) : Nat → Nat → Int32) fun f1 =>
  am_let (am_cp f1 97 0 43 0 8 : Nat → Nat → Int32) fun f2 =>
  am_let (am_cp f2 98 0 44 0 8 : Nat → Nat → Int32) fun f3 =>
  f3
def xr_takeFrom_45_99 (f : (Nat → Nat → Int32)) : (Nat → Nat → Int32) :=
  am_let (am_up f 45 0 (f 99 0) : Nat → Nat → Int32) fun f1 =>
  am_let (am_cp f1 100 0 46 0 24 : Nat → Nat → Int32) fun f2 =>
  am_let (am_cp f2 101 0 47 0 24 : Nat → Nat → Int32) fun f3 =>
  f3
def xr_takeFrom_48_102 (f : (Nat → Nat → Int32)) : (Nat → Nat → Int32) :=
  am_let (am_up f 48 0 (f 102 0) : Nat → Nat → Int32) fun f1 =>
  am_let (am_cp f1 103 0 49 0 8 : Nat → Nat → Int32) fun f2 =>
  am_let (am_cp f2 104 0 50 0 8 : Nat → Nat → Int32) fun f3 =>
  f3
def xr_takeFrom_51_105 (f : (Nat → Nat → Int32)) : (Nat → Nat → Int32) :=
  am_let (am_up f 51 0 (f 105 0) : Nat → Nat → Int32) fun f1 =>
  am_let (am_cp f1 106 0 52 0 8 : Nat → Nat → Int32) fun f2 =>
  am_let (am_cp f2 107 0 53 0 8 : Nat → Nat → Int32) fun f3 =>
  f3
def xo_takeFrom_1_55 (f : (Nat → Nat → Int32)) : (Nat → Nat → Int32) :=
  am_let (xc_takeFrom_2_56  f) fun p1 =>
  am_let (xk_takeFrom_12_66  p1) fun p2 =>
  am_let (xl_takeFrom_14_68  p2) fun p3 =>
  am_let (xw_takeFrom_20_74  p3) fun p4 =>
  am_let (xn_takeFrom_25_79  p4) fun p5 =>
  am_let (xr_takeFrom_27_81  p5) fun p6 =>
  am_let (xr_takeFrom_30_84  p6) fun p7 =>
  am_let (xr_takeFrom_33_87  p7) fun p8 =>
  am_let (xr_takeFrom_36_90  p8) fun p9 =>
  am_let (xr_takeFrom_39_93  p9) fun p10 =>
  am_let (xr_takeFrom_42_96  p10) fun p11 =>
  am_let (xr_takeFrom_45_99  p11) fun p12 =>
  am_let (xr_takeFrom_48_102  p12) fun p13 =>
  am_let (xr_takeFrom_51_105  p13) fun p14 =>
  am_let (am_cp p14 108 0 54 0 8 : Nat → Nat → Int32) fun f15 =>
  f15
def x_image (a0 : Bool) (f : (Nat → Nat → Int32)) : Bool × (Nat → Nat → Int32) :=
  if a0 = true then (
    am_let (xo_takeFrom_55_1  f) fun p1 =>
    am_let (am_up p1 0 2 1 : Nat → Nat → Int32) fun f2 =>
    (true, f2))
  else (
    if f 0 2 = 0 then (
      (false, f))
    else (
      am_let (xo_takeFrom_1_55  f) fun p3 =>
      am_let (x_forgetPasts  p3) fun p4 =>
      (true, p4)))
def xc_whoHaveGlasses_2 (f : (Nat → Nat → Int32)) : Option (Int32) :=
  am_loop (fun (s1 : Int32 × Int32) => ((
    if s1.2 < f 2 0 then (
      if am_in s1.2 6 = true then (
      ((if f 5 s1.2.toNatClampNeg = (-1) then (
          some s1.1)
        else (
          if am_in s1.2 6 = true then (
          am_let ((s1.1 ||| (1 <<< ((f 5 s1.2.toNatClampNeg) &&& 31))) : Int32) fun t2 =>
          some t2) else none)) : Option (Int32)).bind fun t3 =>
      am_let (s1.2 + 1 : Int32) fun t4 =>
      some (.inl (t3, t4))) else none)
    else (
      some (.inr s1.1))) : Option ((Int32 × Int32) ⊕ (Int32)))) am_F (0, 0)
def x_look (a0 : Int32) (f : (Nat → Nat → Int32)) : Option (Int32) :=
  if a0 = 0 then (
    some (f 2 0))
  else if a0 = 1 then (
    some (f 2 1))
  else if a0 = 2 then (
    some (f 2 2))
  else if a0 = 3 then (
    (xc_whoHaveGlasses_2  f).bind fun p1 =>
    some p1)
  else if a0 = 4 then (
    some (f 2 4))
  else if a0 = 5 then (
    some (f 2 3))
  else if a0 = 6 then (
    some (f 14 0))
  else if a0 = 7 then (
    some (f 20 0))
  else if a0 = 8 then (
    some (f 25 0))
  else if a0 = 9 then (
    some (f 2 5))
  else if a0 = 10 then (
    some (f 0 4))
  else (some (-1))
def m_forgets (f : (Nat → Nat → Int32)) : (Nat → Nat → Int32) :=
  am_let (am_up f 216 4 0 : Nat → Nat → Int32) fun f1 =>
  f1
def m_state (a0 : Int32) (f : (Nat → Nat → Int32)) : Int32 × (Nat → Nat → Int32) :=
  am_let (f 217 1 : Int32) fun t1 =>
  am_let (am_up f 217 1 a0 : Nat → Nat → Int32) fun f2 =>
  am_let (m_forgets  f2) fun p3 =>
  (t1, p3)
def m_isIn (a0 : Int32) (a1 : Int32) (a2 : Int32)  : Bool :=
  if a0 < a1 then (
    false)
  else (
    if a2 < a0 then (
      false)
    else (
      true))
def m_glass (a0 : Int32) (f : (Nat → Nat → Int32)) : Option (Int32 × (Nat → Nat → Int32)) :=
  if (m_isIn a0 0 99) = true then (
    if f 217 69 = 6 then (
      some ((-1), f))
    else (
      am_let (f 217 69 : Int32) fun t2 =>
      if am_in (3 + t2) 2008 = true then (
      am_let (am_up f 217 (3 + t2).toNatClampNeg a0 : Nat → Nat → Int32) fun f3 =>
      if am_in (9 + t2) 2008 = true then (
      am_let (am_up f3 217 (9 + t2).toNatClampNeg 300 : Nat → Nat → Int32) fun f4 =>
      if am_in (15 + t2) 2008 = true then (
      am_let (am_up f4 217 (15 + t2).toNatClampNeg (-1) : Nat → Nat → Int32) fun f5 =>
      if am_in (21 + t2) 2008 = true then (
      am_let (am_up f5 217 (21 + t2).toNatClampNeg (-1) : Nat → Nat → Int32) fun f6 =>
      am_let (am_up f6 217 69 ((f6 217 69) + 1) : Nat → Nat → Int32) fun f7 =>
      am_let (m_forgets  f7) fun p8 =>
      some (t2, p8)) else none) else none) else none) else none))
  else (
    some ((-1), f))
def m_witness (a0 : Int32) (f : (Nat → Nat → Int32)) : Option (Int32 × (Nat → Nat → Int32)) :=
  if (m_isIn a0 0 9) = true then (
    if f 217 70 = 12 then (
      some ((-1), f))
    else (
      if am_in (33 + (f 217 70)) 2008 = true then (
      am_let (am_up f 217 (33 + (f 217 70)).toNatClampNeg a0 : Nat → Nat → Int32) fun f2 =>
      am_let (am_up f2 217 70 ((f2 217 70) + 1) : Nat → Nat → Int32) fun f3 =>
      am_let (m_forgets  f3) fun p4 =>
      some (((p4 217 70) - 1), p4)) else none))
  else (
    some ((-1), f))
def m_isGlass (a0 : Int32) (f : (Nat → Nat → Int32)) : Bool :=
  (m_isIn a0 0 ((f 217 69) - 1))
def m_isWitness (a0 : Int32) (f : (Nat → Nat → Int32)) : Bool :=
  (m_isIn a0 0 ((f 217 70) - 1))
def m_set (a0 : Int32) (a1 : Int32) (a2 : Int32) (f : (Nat → Nat → Int32)) : Option (Bool × (Nat → Nat → Int32)) :=
  am_let ((if a0 = 0 then (
      if (m_isGlass a1 f) = true then (
        if (m_isIn a2 0 99) = true then (
          true)
        else (
          false))
      else (
        false))
    else (
      if a0 = 1 then (
        if (m_isGlass a1 f) = true then (
          if (m_isIn a2 300 420) = true then (
            true)
          else (
            false))
        else (
          false))
      else (
        if a0 = 2 then (
          if (m_isWitness a1 f) = true then (
            if (m_isIn a2 0 9) = true then (
              true)
            else (
              false))
          else (
            false))
        else (
          false)))) : Bool) fun t7 =>
  if t7 = true then (
    am_let ((if a0 = 0 then (
        (3 + a1))
      else (
        if a0 = 1 then (
          (9 + a1))
        else (
          (33 + a1)))) : Int32) fun t8 =>
    if am_in t8 2008 = true then (
    am_let (am_up f 217 t8.toNatClampNeg a2 : Nat → Nat → Int32) fun f9 =>
    am_let (m_forgets  f9) fun p10 =>
    some (true, p10)) else none)
  else (
    some (false, f))
def m_glassOf (a0 : Int32) (f : (Nat → Nat → Int32)) : Option (Int32) :=
  (am_loop (fun (s1 : Int32) => ((
    if s1 < f 217 69 then (
      if am_in (15 + s1) 2008 = true then (
      if f 217 (15 + s1).toNatClampNeg = a0 then (
        some (.inr s1))
      else (
        am_let (s1 + 1 : Int32) fun t2 =>
        some (.inl t2))) else none)
    else (
      some (.inr s1))) : Option ((Int32) ⊕ (Int32)))) am_F 0).bind fun e3 =>
  if e3 < f 217 69 then (
    some e3)
  else (
    some (-1))
def m_canBeUnder (a0 : Int32) (a1 : Int32) (f : (Nat → Nat → Int32)) : Option (Bool) :=
  if am_in (15 + a0) 2008 = true then (
  if f 217 (15 + a0).toNatClampNeg = (-1) then (
    (m_glassOf a1 f).bind fun p1 =>
    if p1 = (-1) then (
      some true)
    else (
      some false))
  else (
    some false)) else none
def m_isTopic (a0 : Int32)  : Bool :=
  (m_isIn a0 0 15)
def m_canAct (a0 : Int32) (a1 : Int32) (a2 : Int32) (f : (Nat → Nat → Int32)) : Option (Bool) :=
  if (m_isGlass a1 f) = true then (
    if a0 = 0 then (
      if (m_isWitness a2 f) = true then (
        (m_canBeUnder a1 a2 f).bind fun p3 =>
        if p3 = true then (
          some true)
        else (
          some false))
      else (
        some false))
    else if a0 = 1 then (
      if am_in (15 + a1) 2008 = true then (
      if f 217 (15 + a1).toNatClampNeg = (-1) then (
        some false)
      else (
        some true)) else none)
    else if a0 = 2 then (
      if (m_isTopic a2) = true then (
        if am_in (21 + a1) 2008 = true then (
        if f 217 (21 + a1).toNatClampNeg = a2 then (
          some false)
        else (
          some true)) else none)
      else (
        some false))
    else if a0 = 3 then (
      if am_in (9 + a1) 2008 = true then (
      if 300 < f 217 (9 + a1).toNatClampNeg then (
        some true)
      else (
        some false)) else none)
    else (if a0 = 4 then (
        if am_in (3 + a1) 2008 = true then (
        if 0 < f 217 (3 + a1).toNatClampNeg then (
          some true)
        else (
          some false)) else none)
      else (
        some false)))
  else (
    some false)
def m_keeps (f : (Nat → Nat → Int32)) : Option ((Nat → Nat → Int32)) :=
  ((if f 216 4 = 6 then (
      (am_loop (fun (s1 : Int32 × (Nat → Nat → Int32)) => ((
        if s1.1 < 345 then (
          if am_in (s1.1 + 69) 414 = true then (
          if am_in s1.1 414 = true then (
          am_let (am_up s1.2 219 s1.1.toNatClampNeg (s1.2 219 (s1.1 + 69).toNatClampNeg) : Nat → Nat → Int32) fun f2 =>
          am_let (s1.1 + 1 : Int32) fun t3 =>
          some (.inl (t3, f2))) else none) else none)
        else (
          some (.inr s1.2))) : Option ((Int32 × (Nat → Nat → Int32)) ⊕ ((Nat → Nat → Int32))))) am_F (0, f)).bind fun e4 =>
      am_let (am_up e4 216 4 ((e4 216 4) - 1) : Nat → Nat → Int32) fun f5 =>
      some f5)
    else (
      some f)) : Option ((Nat → Nat → Int32))).bind fun t6 =>
  (am_loop (fun (s7 : Int32 × (Nat → Nat → Int32)) => ((
    if s7.1 < 69 then (
      if am_in s7.1 2008 = true then (
      if am_in ((69 * (s7.2 216 4)) + s7.1) 414 = true then (
      am_let (am_up s7.2 219 ((69 * (s7.2 216 4)) + s7.1).toNatClampNeg (s7.2 217 s7.1.toNatClampNeg) : Nat → Nat → Int32) fun f8 =>
      am_let (s7.1 + 1 : Int32) fun t9 =>
      some (.inl (t9, f8))) else none) else none)
    else (
      some (.inr s7.2))) : Option ((Int32 × (Nat → Nat → Int32)) ⊕ ((Nat → Nat → Int32))))) am_F (0, t6)).bind fun e10 =>
  am_let (am_up e10 216 4 ((e10 216 4) + 1) : Nat → Nat → Int32) fun f11 =>
  am_let (am_up f11 216 26 1 : Nat → Nat → Int32) fun f12 =>
  some f12
def m_notes (a0 : Int32) (a1 : Int32) (a2 : Int32) (f : (Nat → Nat → Int32)) : Option ((Nat → Nat → Int32)) :=
  if f 216 26 = 0 then (
    some f)
  else (
    if f 217 2 = 150 then (
      some f)
    else (
      am_let ((524 + (4 * (f 217 2))) : Int32) fun t1 =>
      if am_in t1 2008 = true then (
      am_let (am_up f 217 t1.toNatClampNeg (f 217 0) : Nat → Nat → Int32) fun f2 =>
      if am_in (t1 + 1) 2008 = true then (
      am_let (am_up f2 217 (t1 + 1).toNatClampNeg a0 : Nat → Nat → Int32) fun f3 =>
      if am_in (t1 + 2) 2008 = true then (
      am_let (am_up f3 217 (t1 + 2).toNatClampNeg a1 : Nat → Nat → Int32) fun f4 =>
      if am_in (t1 + 3) 2008 = true then (
      am_let (am_up f4 217 (t1 + 3).toNatClampNeg a2 : Nat → Nat → Int32) fun f5 =>
      am_let (am_up f5 217 2 ((f5 217 2) + 1) : Nat → Nat → Int32) fun f6 =>
      some f6) else none) else none) else none) else none))
def m_putsUnder (a0 : Int32) (a1 : Int32) (f : (Nat → Nat → Int32)) : Option ((Nat → Nat → Int32)) :=
  (m_canBeUnder a0 a1 f).bind fun p1 =>
  if p1 = true then (
    if am_in (15 + a0) 2008 = true then (
    am_let (am_up f 217 (15 + a0).toNatClampNeg a1 : Nat → Nat → Int32) fun f2 =>
    if am_in (45 + a1) 2008 = true then (
    if am_in (45 + a1) 2008 = true then (
    am_let (am_up f2 217 (45 + a1).toNatClampNeg ((f2 217 (45 + a1).toNatClampNeg) + 1) : Nat → Nat → Int32) fun f3 =>
    (m_notes 0 a0 a1 f3).bind fun p4 =>
    some p4) else none) else none) else none)
  else (
    some f)
def m_takesOut (a0 : Int32) (f : (Nat → Nat → Int32)) : Option ((Nat → Nat → Int32)) :=
  if am_in (15 + a0) 2008 = true then (
  if f 217 (15 + a0).toNatClampNeg = (-1) then (
    some f)
  else (
    if am_in (15 + a0) 2008 = true then (
    (m_notes 1 a0 (f 217 (15 + a0).toNatClampNeg) f).bind fun p1 =>
    if am_in (15 + a0) 2008 = true then (
    am_let (am_up p1 217 (15 + a0).toNatClampNeg (-1) : Nat → Nat → Int32) fun f2 =>
    some f2) else none) else none)) else none
def m_act (a0 : Int32) (a1 : Int32) (a2 : Int32) (f : (Nat → Nat → Int32)) : Option (Bool × (Nat → Nat → Int32)) :=
  (m_canAct a0 a1 a2 f).bind fun p1 =>
  if p1 = true then (
    (m_keeps  f).bind fun p2 =>
    ((if a0 = 0 then (
        (m_putsUnder a1 a2 p2).bind fun p3 =>
        some p3)
      else (
        some p2)) : Option ((Nat → Nat → Int32))).bind fun t4 =>
    ((if a0 = 1 then (
        (m_takesOut a1 t4).bind fun p5 =>
        some p5)
      else (
        some t4)) : Option ((Nat → Nat → Int32))).bind fun t6 =>
    ((if a0 = 2 then (
        if am_in (21 + a1) 2008 = true then (
        am_let (am_up t6 217 (21 + a1).toNatClampNeg a2 : Nat → Nat → Int32) fun f7 =>
        some f7) else none)
      else (
        some t6)) : Option ((Nat → Nat → Int32))).bind fun t8 =>
    ((if a0 = 3 then (
        if am_in (9 + a1) 2008 = true then (
        am_let (am_up t8 217 (9 + a1).toNatClampNeg 300 : Nat → Nat → Int32) fun f9 =>
        some f9) else none)
      else (
        some t8)) : Option ((Nat → Nat → Int32))).bind fun t10 =>
    if a0 = 4 then (
      if am_in (3 + a1) 2008 = true then (
      am_let (am_up t10 217 (3 + a1).toNatClampNeg 0 : Nat → Nat → Int32) fun f11 =>
      some (true, f11)) else none)
    else (
      some (true, t10)))
  else (
    some (false, f))
def m_walks (f : (Nat → Nat → Int32)) : Option ((Nat → Nat → Int32)) :=
  am_loop (fun (s1 : Int32 × (Nat → Nat → Int32)) => ((
    if s1.1 < s1.2 217 72 then (
      am_let ((343 + (4 * s1.1)) : Int32) fun t2 =>
      if am_in (t2 + 1) 2008 = true then (
      am_let (s1.2 217 (t2 + 1).toNatClampNeg : Int32) fun t3 =>
      if am_in t2 2008 = true then (
      ((if s1.2 217 t2.toNatClampNeg = s1.2 217 0 then (
          if am_in (t2 + 2) 2008 = true then (
          if s1.2 217 (t2 + 2).toNatClampNeg = 9 then (
            if am_in (t2 + 3) 2008 = true then (
            if am_in (21 + t3) 2008 = true then (
            am_let (am_up s1.2 217 (21 + t3).toNatClampNeg (s1.2 217 (t2 + 3).toNatClampNeg) : Nat → Nat → Int32) fun f4 =>
            some f4) else none) else none)
          else if s1.2 217 (t2 + 2).toNatClampNeg = 10 then (
            if am_in (21 + t3) 2008 = true then (
            am_let (am_up s1.2 217 (21 + t3).toNatClampNeg (-1) : Nat → Nat → Int32) fun f5 =>
            some f5) else none)
          else if s1.2 217 (t2 + 2).toNatClampNeg = 11 then (
            if am_in (9 + t3) 2008 = true then (
            am_let (am_up s1.2 217 (9 + t3).toNatClampNeg 300 : Nat → Nat → Int32) fun f6 =>
            some f6) else none)
          else if s1.2 217 (t2 + 2).toNatClampNeg = 12 then (
            if am_in (3 + t3) 2008 = true then (
            am_let (am_up s1.2 217 (3 + t3).toNatClampNeg 0 : Nat → Nat → Int32) fun f7 =>
            some f7) else none)
          else if s1.2 217 (t2 + 2).toNatClampNeg = 13 then (
            if am_in (t2 + 3) 2008 = true then (
            (m_putsUnder t3 (s1.2 217 (t2 + 3).toNatClampNeg) s1.2).bind fun p8 =>
            some p8) else none)
          else ((m_takesOut t3 s1.2).bind fun p9 =>
            some p9)) else none)
        else (
          some s1.2)) : Option ((Nat → Nat → Int32))).bind fun t10 =>
      am_let (s1.1 + 1 : Int32) fun t11 =>
      some (.inl (t11, t10))) else none) else none)
    else (
      some (.inr s1.2))) : Option ((Int32 × (Nat → Nat → Int32)) ⊕ ((Nat → Nat → Int32))))) am_F (0, f)
def m_nearness (a0 : Int32) (a1 : Int32) (f : (Nat → Nat → Int32)) : Option (Int32) :=
  if am_in ((87 + (16 * a0)) + a1) 2008 = true then (
  some (f 217 ((87 + (16 * a0)) + a1).toNatClampNeg)) else none
def m_greater (a0 : Int32) (a1 : Int32)  : Int32 :=
  if a1 < a0 then (
    a0)
  else (
    a1)
def m_nearnessOf (a0 : Int32) (a1 : Int32) (f : (Nat → Nat → Int32)) : Option (Int32) :=
  if a1 = (-1) then (
    some 0)
  else (
    if ((a0 >>> (a1 &&& 31)) &&& 1) = 1 then (
      some 10)
    else (
      am_loop (fun (s1 : Int32 × Int32) => ((
        if s1.2 < 16 then (
          ((if ((a0 >>> (s1.2 &&& 31)) &&& 1) = 1 then (
              (m_nearness s1.2 a1 f).bind fun p2 =>
              am_let ((m_greater s1.1 p2) : Int32) fun t4 =>
              some t4)
            else (
              some s1.1)) : Option (Int32)).bind fun t5 =>
          am_let (s1.2 + 1 : Int32) fun t6 =>
          some (.inl (t5, t6)))
        else (
          some (.inr s1.1))) : Option ((Int32 × Int32) ⊕ (Int32)))) am_F (0, 0)))
def m_nearOf (a0 : Int32) (a1 : Int32) (f : (Nat → Nat → Int32)) : Option (Int32) :=
  if am_in (15 + a0) 2008 = true then (
  if f 217 (15 + a0).toNatClampNeg = (-1) then (
    some 0)
  else (
    if am_in (15 + a0) 2008 = true then (
    if am_in (75 + (f 217 (15 + a0).toNatClampNeg)) 2008 = true then (
    (m_nearnessOf (f 217 (75 + (f 217 (15 + a0).toNatClampNeg)).toNatClampNeg) a1 f).bind fun p1 =>
    some p1) else none) else none)) else none
def m_bitsOf (a0 : Int32)  : Option (Int32) :=
  am_loop (fun (s1 : Int32 × Int32) => ((
    if 0 < s1.2 then (
      am_let ((s1.1 + (s1.2 &&& 1)) : Int32) fun t2 =>
      am_let ((s1.2 >>> (1 &&& 31)) : Int32) fun t3 =>
      some (.inl (t2, t3)))
    else (
      some (.inr s1.1))) : Option ((Int32 × Int32) ⊕ (Int32)))) am_F (0, a0)
def m_asks (a0 : Int32) (a1 : Int32) (f : (Nat → Nat → Int32)) : Option ((Nat → Nat → Int32)) :=
  if am_in (15 + a0) 2008 = true then (
  am_let (f 217 (15 + a0).toNatClampNeg : Int32) fun t1 =>
  (m_nearOf a0 a1 f).bind fun p2 =>
  am_let (am_up f 226 1 p2 : Nat → Nat → Int32) fun f3 =>
  ((if t1 = (-1) then (
      some 0)
    else (
      if am_in (33 + t1) 2008 = true then (
      some (f3 217 (33 + t1).toNatClampNeg)) else none)) : Option (Int32)).bind fun t4 =>
  am_let (am_up f3 226 2 t4 : Nat → Nat → Int32) fun f5 =>
  if am_in (9 + a0) 2008 = true then (
  am_let (am_up f5 226 3 (f5 217 (9 + a0).toNatClampNeg) : Nat → Nat → Int32) fun f6 =>
  if am_in (3 + a0) 2008 = true then (
  am_let (am_up f6 226 4 (f6 217 (3 + a0).toNatClampNeg) : Nat → Nat → Int32) fun f7 =>
  am_let ((if a1 = (-1) then (
      false)
    else (
      true)) : Bool) fun t8 =>
  am_let (am_up f7 226 5 (am_b t8) : Nat → Nat → Int32) fun f9 =>
  ((if t1 = (-1) then (
      some 0)
    else (
      if am_in (75 + t1) 2008 = true then (
      (m_bitsOf (f9 217 (75 + t1).toNatClampNeg)).bind fun p10 =>
      some p10) else none)) : Option (Int32)).bind fun t11 =>
  am_let (am_up f9 226 6 t11 : Nat → Nat → Int32) fun f12 =>
  ((if t1 = (-1) then (
      some 0)
    else (
      if am_in (45 + t1) 2008 = true then (
      some (f12 217 (45 + t1).toNatClampNeg)) else none)) : Option (Int32)).bind fun t13 =>
  am_let (am_up f12 226 7 t13 : Nat → Nat → Int32) fun f14 =>
  if am_in (27 + a0) 2008 = true then (
  am_let (am_up f14 226 8 (f14 217 (27 + a0).toNatClampNeg) : Nat → Nat → Int32) fun f15 =>
  am_let (am_up f15 226 9 a0 : Nat → Nat → Int32) fun f16 =>
  am_let (am_up f16 226 10 (f16 217 0) : Nat → Nat → Int32) fun f17 =>
  some f17) else none) else none) else none) else none
def m_both (a0 : Int32) (a1 : Int32) (a2 : Int32)  : Int32 :=
  if a0 = 23 then (
    (a1 + a2))
  else if a0 = 24 then (
    (a1 - a2))
  else if a0 = 25 then (
    (a1 * a2))
  else if a0 = 27 then (
    if a1 < a2 then (
      1)
    else (
      0))
  else if a0 = 28 then (
    if a1 = a2 then (
      1)
    else (
      0))
  else if a0 = 29 then (
    if a2 < a1 then (
      1)
    else (
      0))
  else if a0 = 31 then (
    (a1 &&& a2))
  else ((a1 ||| a2))
