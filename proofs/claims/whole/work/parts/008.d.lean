def m_quiet (a0 : Int32) (a1 : Int32) (f : (Nat → Nat → Int32)) : Option (Int32 × (Nat → Nat → Int32)) :=
  if (m_isIn a0 0 60) = true then (
    if (m_isIn a1 1 5) = true then (
      (am_loop (fun (s3 : Int32 × (Nat → Nat → Int32)) => ((
        if s3.1 < 5 then (
          am_let ((if s3.1 = 0 then (
              true)
            else (
              false)) : Bool) fun t4 =>
          if am_in s3.1 5 = true then (
          am_let (am_up s3.2 235 s3.1.toNatClampNeg (am_b t4) : Nat → Nat → Int32) fun f5 =>
          am_let (s3.1 + 1 : Int32) fun t6 =>
          some (.inl (t6, f5))) else none)
        else (
          some (.inr s3.2))) : Option ((Int32 × (Nat → Nat → Int32)) ⊕ ((Nat → Nat → Int32))))) am_F (0, f)).bind fun e7 =>
      (am_loop (fun (s8 : Int32 × (Nat → Nat → Int32)) => ((
        if s8.1 < a0 then (
          (am_loop (fun (s9 : Int32 × Int32) => ((
            if s9.2 < a1 then (
              if am_in s9.2 5 = true then (
              am_let (((s9.1 + (s8.2 235 s9.2.toNatClampNeg)) - (s9.1 + (s8.2 235 s9.2.toNatClampNeg)) / 1000000007 * 1000000007) : Int32) fun t10 =>
              am_let (s9.2 + 1 : Int32) fun t11 =>
              some (.inl (t10, t11))) else none)
            else (
              some (.inr s9.1))) : Option ((Int32 × Int32) ⊕ (Int32)))) am_F (0, 0)).bind fun e12 =>
          am_let ((a1 - 1) : Int32) fun t13 =>
          (am_loop (fun (s14 : Int32 × (Nat → Nat → Int32)) => ((
            if 0 < s14.1 then (
              if am_in (s14.1 - 1) 5 = true then (
              if am_in s14.1 5 = true then (
              am_let (am_up s14.2 235 s14.1.toNatClampNeg (s14.2 235 (s14.1 - 1).toNatClampNeg) : Nat → Nat → Int32) fun f15 =>
              am_let (s14.1 + (-1) : Int32) fun t16 =>
              some (.inl (t16, f15))) else none) else none)
            else (
              some (.inr s14.2))) : Option ((Int32 × (Nat → Nat → Int32)) ⊕ ((Nat → Nat → Int32))))) am_F (t13, s8.2)).bind fun e17 =>
          am_let (am_up e17 235 0 e12 : Nat → Nat → Int32) fun f18 =>
          am_let (s8.1 + 1 : Int32) fun t19 =>
          some (.inl (t19, f18)))
        else (
          some (.inr s8.2))) : Option ((Int32 × (Nat → Nat → Int32)) ⊕ ((Nat → Nat → Int32))))) am_F (0, e7)).bind fun e20 =>
      am_loop (fun (s21 : Int32 × Int32) => ((
        if s21.2 < a1 then (
          if am_in s21.2 5 = true then (
          am_let (((s21.1 + (e20 235 s21.2.toNatClampNeg)) - (s21.1 + (e20 235 s21.2.toNatClampNeg)) / 1000000007 * 1000000007) : Int32) fun t22 =>
          am_let (s21.2 + 1 : Int32) fun t23 =>
          some (.inl (t22, t23))) else none)
        else (
          some (.inr (s21.1, e20)))) : Option ((Int32 × Int32) ⊕ (Int32 × (Nat → Nat → Int32))))) am_F (0, 0))
    else (
      some ((-1), f)))
  else (
    some ((-1), f))
def m_dog (a0 : Int32) (f : (Nat → Nat → Int32)) : Option (Int32 × (Nat → Nat → Int32)) :=
  if a0 = (-1) then (
    (m_endsRow 506 f).bind fun p1 =>
    some (p1.1, p1.2))
  else (
    if (m_isIn a0 1 9999) = true then (
      (m_tellsOne 506 8 a0 f).bind fun p3 =>
      some (p3.1, p3.2))
    else (
      some ((-1), f)))
def m_lettersOf (a0 : Int32)  : Int32 :=
  if 999 < a0 then (
    4)
  else (
    if 99 < a0 then (
      3)
    else (
      if 9 < a0 then (
        2)
      else (
        1)))
def m_firstOf (a0 : Int32) (a1 : Int32) (f : (Nat → Nat → Int32)) : Option (Int32) :=
  if am_in (507 + a0) 2008 = true then (
  am_let (f 217 (507 + a0).toNatClampNeg : Int32) fun t1 =>
  am_let ((m_lettersOf t1) : Int32) fun t3 =>
  if t3 < a1 then (
    some (100000 + t1))
  else (
    am_loop (fun (s4 : Int32 × Int32) => ((
      if a1 < s4.2 then (
        am_let ((s4.1 / 10) : Int32) fun t5 =>
        am_let (s4.2 + (-1) : Int32) fun t6 =>
        some (.inl (t5, t6)))
      else (
        some (.inr s4.1))) : Option ((Int32 × Int32) ⊕ (Int32)))) am_F (t1, t3))) else none
def m_newOf (a0 : Int32) (f : (Nat → Nat → Int32)) : Option (Int32) :=
  am_loop (fun (s1 : Int32 × Int32) => ((
    if am_in (507 + a0) 2008 = true then (
    if (m_lettersOf (f 217 (507 + a0).toNatClampNeg)) < s1.2 then (
      some (.inr s1.1))
    else (
      (am_loop (fun (s3 : Int32 × Int32) => ((
        if s3.2 < a0 then (
          (m_firstOf s3.2 s1.2 f).bind fun p4 =>
          (m_firstOf a0 s1.2 f).bind fun p5 =>
          am_let ((if p4 = p5 then (
              false)
            else (
              true)) : Bool) fun t6 =>
          am_let ((s3.1 &&& (am_b t6)) : Int32) fun t7 =>
          am_let (s3.2 + 1 : Int32) fun t8 =>
          some (.inl (t7, t8)))
        else (
          some (.inr s3.1))) : Option ((Int32 × Int32) ⊕ (Int32)))) am_F (1, 0)).bind fun e9 =>
      am_let ((if e9 = 0 then (
          false)
        else (
          true)) : Bool) fun t10 =>
      am_let ((s1.1 + (am_b t10)) : Int32) fun t11 =>
      am_let (s1.2 + 1 : Int32) fun t12 =>
      some (.inl (t11, t12)))) else none) : Option ((Int32 × Int32) ⊕ (Int32)))) am_F (0, 1)
def m_areApartBy (a0 : Int32) (f : (Nat → Nat → Int32)) : Option (Bool) :=
  am_loop (fun (s1 : Int32) => ((
    if s1 < f 217 506 then (
      (am_loop (fun (s2 : Int32) => ((
        if s2 < s1 then (
          (m_firstOf s1 a0 f).bind fun p3 =>
          (m_firstOf s2 a0 f).bind fun p4 =>
          if p3 = p4 then (
            some (.inr (.inl false)))
          else (
            am_let (s2 + 1 : Int32) fun t5 =>
            some (.inl t5)))
        else (
          some (.inr (.inr ())))) : Option ((Int32) ⊕ ((Bool) ⊕ (Unit))))) am_F 0).bind fun e6 =>
      e6.elim (fun v => some (.inr v)) fun e7 =>
      am_let (s1 + 1 : Int32) fun t8 =>
      some (.inl t8))
    else (
      some (.inr true))) : Option ((Int32) ⊕ (Bool)))) am_F 0
def m_dogs (a0 : Int32) (f : (Nat → Nat → Int32)) : Option (Int32) :=
  if (m_isIn a0 0 1) = true then (
    if a0 = 1 then (
      am_loop (fun (s2 : Int32 × Int32) => ((
        if s2.2 < f 217 506 then (
          (m_newOf s2.2 f).bind fun p3 =>
          am_let ((s2.1 + p3) : Int32) fun t4 =>
          am_let (s2.2 + 1 : Int32) fun t5 =>
          some (.inl (t4, t5)))
        else (
          some (.inr s2.1))) : Option ((Int32 × Int32) ⊕ (Int32)))) am_F (0, 0))
    else (
      if f 217 506 < 2 then (
        some 0)
      else (
        am_loop (fun (s7 : Int32) => ((
          if s7 < 6 then (
            (m_areApartBy s7 f).bind fun p8 =>
            if p8 = true then (
              some (.inr s7))
            else (
              am_let (s7 + 1 : Int32) fun t9 =>
              some (.inl t9)))
          else (
            some (.inr (-1)))) : Option ((Int32) ⊕ (Int32)))) am_F 1)))
  else (
    some (-1))
def m_juror (a0 : Int32) (f : (Nat → Nat → Int32)) : Option (Int32 × (Nat → Nat → Int32)) :=
  if a0 = (-1) then (
    (m_endsRow 515 f).bind fun p1 =>
    some (p1.1, p1.2))
  else (
    if (m_isIn a0 1 20) = true then (
      (m_tellsOne 515 8 a0 f).bind fun p3 =>
      some (p3.1, p3.2))
    else (
      some ((-1), f)))
def m_weightOf (a0 : Int32) (f : (Nat → Nat → Int32)) : Option (Int32) :=
  am_loop (fun (s1 : Int32 × Int32) => ((
    if s1.2 < f 217 515 then (
      ((if ((a0 >>> (s1.2 &&& 31)) &&& 1) = 1 then (
          if am_in (516 + s1.2) 2008 = true then (
          some (f 217 (516 + s1.2).toNatClampNeg)) else none)
        else (
          some 0)) : Option (Int32)).bind fun t2 =>
      am_let ((s1.1 + t2) : Int32) fun t3 =>
      am_let (s1.2 + 1 : Int32) fun t4 =>
      some (.inl (t3, t4)))
    else (
      some (.inr s1.1))) : Option ((Int32 × Int32) ⊕ (Int32)))) am_F (0, 0)
def m_jury (a0 : Int32) (a1 : Int32) (f : (Nat → Nat → Int32)) : Option (Int32) :=
  if (m_isIn a0 1 160) = true then (
    if (m_isIn a1 (-1) ((f 217 515) - 1)) = true then (
      (am_loop (fun (s3 : Int32 × Int32 × Int32) => ((
        if s3.2.2 < (1 <<< ((f 217 515) &&& 31)) then (
          (m_weightOf s3.2.2 f).bind fun p4 =>
          ((if a1 = (-1) then (
              some s3.1)
            else (
              if ((s3.2.2 >>> (a1 &&& 31)) &&& 1) = 0 then (
                if p4 < a0 then (
                  if am_in (516 + a1) 2008 = true then (
                  if (p4 + (f 217 (516 + a1).toNatClampNeg)) < a0 then (
                    some s3.1)
                  else (
                    am_let (s3.1 + 1 : Int32) fun t5 =>
                    some t5)) else none)
                else (
                  some s3.1))
              else (
                some s3.1))) : Option (Int32)).bind fun t6 =>
          ((if p4 < a0 then (
              some s3.2.1)
            else (
              if s3.2.1 = (-1) then (
                some s3.2.2)
              else (
                (m_bitsOf s3.2.2).bind fun p7 =>
                (m_bitsOf s3.2.1).bind fun p8 =>
                if p7 < p8 then (
                  some s3.2.2)
                else (
                  some s3.2.1)))) : Option (Int32)).bind fun t9 =>
          am_let (s3.2.2 + 1 : Int32) fun t10 =>
          some (.inl (t6, t9, t10)))
        else (
          some (.inr (s3.1, s3.2.1)))) : Option ((Int32 × Int32 × Int32) ⊕ (Int32 × Int32)))) am_F (0, (-1), 0)).bind fun e11 =>
      if a1 = (-1) then (
        some e11.2)
      else (
        some e11.1))
    else (
      some (-1)))
  else (
    some (-1))
def m_undo (f : (Nat → Nat → Int32)) : Option (Bool × (Nat → Nat → Int32)) :=
  if f 216 4 = 0 then (
    some (false, f))
  else (
    am_let (am_up f 216 4 ((f 216 4) - 1) : Nat → Nat → Int32) fun f1 =>
    am_loop (fun (s2 : Int32 × (Nat → Nat → Int32)) => ((
      if s2.1 < 69 then (
        if am_in ((69 * (s2.2 216 4)) + s2.1) 414 = true then (
        if am_in s2.1 2008 = true then (
        am_let (am_up s2.2 217 s2.1.toNatClampNeg (s2.2 219 ((69 * (s2.2 216 4)) + s2.1).toNatClampNeg) : Nat → Nat → Int32) fun f3 =>
        am_let (s2.1 + 1 : Int32) fun t4 =>
        some (.inl (t4, f3))) else none) else none)
      else (
        some (.inr (true, s2.2)))) : Option ((Int32 × (Nat → Nat → Int32)) ⊕ (Bool × (Nat → Nat → Int32))))) am_F (0, f1))
def m_image (a0 : Bool) (f : (Nat → Nat → Int32)) : Option (Bool × (Nat → Nat → Int32)) :=
  if a0 = true then (
    (am_loop (fun (s1 : Int32 × (Nat → Nat → Int32)) => ((
      if s1.1 < (nI 2008) then (
        ((if a0 = true then (
            if am_in s1.1 2008 = true then (
            if am_in s1.1 2008 = true then (
            am_let (am_up s1.2 218 s1.1.toNatClampNeg (s1.2 217 s1.1.toNatClampNeg) : Nat → Nat → Int32) fun f2 =>
            some f2) else none) else none)
          else (
            if am_in s1.1 2008 = true then (
            if am_in s1.1 2008 = true then (
            am_let (am_up s1.2 217 s1.1.toNatClampNeg (s1.2 218 s1.1.toNatClampNeg) : Nat → Nat → Int32) fun f3 =>
            some f3) else none) else none)) : Option ((Nat → Nat → Int32))).bind fun t4 =>
        am_let (s1.1 + 1 : Int32) fun t5 =>
        some (.inl (t5, t4)))
      else (
        some (.inr s1.2))) : Option ((Int32 × (Nat → Nat → Int32)) ⊕ ((Nat → Nat → Int32))))) am_F (0, f)).bind fun e6 =>
    am_let ((if a0 = true then (
        e6)
      else (
        am_let (m_forgets  e6) fun p7 =>
        p7)) : (Nat → Nat → Int32)) fun t8 =>
    am_let (am_up t8 216 5 1 : Nat → Nat → Int32) fun f9 =>
    some (true, f9))
  else (
    if f 216 5 = 0 then (
      some (false, f))
    else (
      (am_loop (fun (s10 : Int32 × (Nat → Nat → Int32)) => ((
        if s10.1 < (nI 2008) then (
          ((if a0 = true then (
              if am_in s10.1 2008 = true then (
              if am_in s10.1 2008 = true then (
              am_let (am_up s10.2 218 s10.1.toNatClampNeg (s10.2 217 s10.1.toNatClampNeg) : Nat → Nat → Int32) fun f11 =>
              some f11) else none) else none)
            else (
              if am_in s10.1 2008 = true then (
              if am_in s10.1 2008 = true then (
              am_let (am_up s10.2 217 s10.1.toNatClampNeg (s10.2 218 s10.1.toNatClampNeg) : Nat → Nat → Int32) fun f12 =>
              some f12) else none) else none)) : Option ((Nat → Nat → Int32))).bind fun t13 =>
          am_let (s10.1 + 1 : Int32) fun t14 =>
          some (.inl (t14, t13)))
        else (
          some (.inr s10.2))) : Option ((Int32 × (Nat → Nat → Int32)) ⊕ ((Nat → Nat → Int32))))) am_F (0, f)).bind fun e15 =>
      am_let ((if a0 = true then (
          e15)
        else (
          am_let (m_forgets  e15) fun p16 =>
          p16)) : (Nat → Nat → Int32)) fun t17 =>
      am_let (am_up t17 216 5 1 : Nat → Nat → Int32) fun f18 =>
      some (true, f18)))
def m_haveGlasses (f : (Nat → Nat → Int32)) : Option (Int32) :=
  am_loop (fun (s1 : Int32 × Int32) => ((
    if s1.2 < f 217 69 then (
      if am_in (15 + s1.2) 2008 = true then (
      ((if f 217 (15 + s1.2).toNatClampNeg = (-1) then (
          some 0)
        else (
          if am_in (15 + s1.2) 2008 = true then (
          some (1 <<< ((f 217 (15 + s1.2).toNatClampNeg) &&& 31))) else none)) : Option (Int32)).bind fun t2 =>
      am_let ((s1.1 ||| t2) : Int32) fun t3 =>
      am_let (s1.2 + 1 : Int32) fun t4 =>
      some (.inl (t3, t4))) else none)
    else (
      some (.inr s1.1))) : Option ((Int32 × Int32) ⊕ (Int32)))) am_F (0, 0)
def m_look (a0 : Int32) (f : (Nat → Nat → Int32)) : Option (Int32) :=
  if a0 = 0 then (
    some (f 217 69))
  else if a0 = 1 then (
    some (f 217 70))
  else if a0 = 2 then (
    some (f 217 0))
  else if a0 = 3 then (
    (m_haveGlasses  f).bind fun p1 =>
    some p1)
  else if a0 = 4 then (
    some (f 217 2))
  else if a0 = 5 then (
    some (f 217 1))
  else if a0 = 6 then (
    some (f 217 71))
  else if a0 = 7 then (
    some (f 217 72))
  else if a0 = 8 then (
    some (f 217 73))
  else if a0 = 9 then (
    some (f 217 74))
  else if a0 = 10 then (
    some (f 216 4))
  else (some (-1))
