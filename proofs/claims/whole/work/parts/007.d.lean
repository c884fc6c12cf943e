def m_text (a0 : Int32) (f : (Nat → Nat → Int32)) : Option (Int32 × (Nat → Nat → Int32)) :=
  am_let (am_up f 216 23 0 : Nat → Nat → Int32) fun f1 =>
  am_let (am_up f1 216 25 (-1) : Nat → Nat → Int32) fun f2 =>
  if (m_isIn a0 0 3) = true then (
    am_let (am_up f2 216 21 0 : Nat → Nat → Int32) fun f4 =>
    am_let (am_up f4 216 17 0 : Nat → Nat → Int32) fun f5 =>
    am_let (am_up f5 216 12 a0 : Nat → Nat → Int32) fun f6 =>
    (m_next0  f6).bind fun p7 =>
    ((if a0 = 0 then (
        (m_readsLaw  p7).bind fun p8 =>
        some (p8.1, p8.2))
      else (
        (m_readsRows  p7).bind fun p9 =>
        some (p9.1, p9.2))) : Option (Bool × (Nat → Nat → Int32))).bind fun t10 =>
    am_let (am_up t10.2 216 16 0 : Nat → Nat → Int32) fun f11 =>
    if t10.1 = true then (
      (m_putsText a0 f11).bind fun p12 =>
      some (p12.1, p12.2))
    else (
      am_let (am_up f11 216 23 (f11 216 21) : Nat → Nat → Int32) fun f13 =>
      am_let (am_up f13 216 25 (f13 216 22) : Nat → Nat → Int32) fun f14 =>
      some ((-1), f14)))
  else (
    am_let (am_up f2 216 16 0 : Nat → Nat → Int32) fun f15 =>
    some ((-1), f15))
def m_fault (a0 : Int32) (f : (Nat → Nat → Int32)) : Int32 :=
  if a0 = 0 then (
    f 216 23)
  else (
    if a0 = 1 then (
      f 216 25)
    else (
      (-1)))
def m_of (a0 : Int32) (a1 : Int32) (f : (Nat → Nat → Int32)) : Option (Int32 × (Nat → Nat → Int32)) :=
  if (m_isGlass a0 f) = true then (
    if a1 = 0 then (
      if am_in (3 + a0) 2008 = true then (
      some (f 217 (3 + a0).toNatClampNeg, f)) else none)
    else if a1 = 1 then (
      if am_in (9 + a0) 2008 = true then (
      some (f 217 (9 + a0).toNatClampNeg, f)) else none)
    else if a1 = 2 then (
      if am_in (15 + a0) 2008 = true then (
      some (f 217 (15 + a0).toNatClampNeg, f)) else none)
    else if a1 = 3 then (
      if am_in (21 + a0) 2008 = true then (
      some (f 217 (21 + a0).toNatClampNeg, f)) else none)
    else if a1 = 4 then (
      if am_in (27 + a0) 2008 = true then (
      some (f 217 (27 + a0).toNatClampNeg, f)) else none)
    else if a1 = 5 then (
      if am_in (21 + a0) 2008 = true then (
      (m_warmsOf a0 (f 217 (21 + a0).toNatClampNeg) f).bind fun p2 =>
      some (p2.1, p2.2)) else none)
    else if a1 = 6 then (
      (m_slipsOf a0 f).bind fun p3 =>
      some (p3.1, p3.2))
    else if a1 = 7 then (
      (m_coolsOf a0 f).bind fun p4 =>
      some (p4.1, p4.2))
    else if a1 = 8 then (
      if am_in (21 + a0) 2008 = true then (
      (m_nearOf a0 (f 217 (21 + a0).toNatClampNeg) f).bind fun p5 =>
      some (p5, f)) else none)
    else (some ((-2), f)))
  else (
    some ((-2), f))
def m_who (a0 : Int32) (a1 : Int32) (f : (Nat → Nat → Int32)) : Option (Int32) :=
  if (m_isWitness a0 f) = true then (
    if (m_isTopic (a1 - 10)) = true then (
      if am_in (75 + a0) 2008 = true then (
      (m_nearnessOf (f 217 (75 + a0).toNatClampNeg) (a1 - 10) f).bind fun p3 =>
      some p3) else none)
    else (
      if a1 = 0 then (
        if am_in (33 + a0) 2008 = true then (
        some (f 217 (33 + a0).toNatClampNeg)) else none)
      else if a1 = 1 then (
        if am_in (75 + a0) 2008 = true then (
        some (f 217 (75 + a0).toNatClampNeg)) else none)
      else if a1 = 2 then (
        if am_in (45 + a0) 2008 = true then (
        some (f 217 (45 + a0).toNatClampNeg)) else none)
      else if a1 = 3 then (
        if am_in (57 + a0) 2008 = true then (
        some (f 217 (57 + a0).toNatClampNeg)) else none)
      else if a1 = 4 then (
        (m_glassOf a0 f).bind fun p4 =>
        some p4)
      else (some (-2))))
  else (
    some (-2))
def m_near (a0 : Int32) (a1 : Int32) (f : (Nat → Nat → Int32)) : Option (Int32) :=
  if (m_isTopic a0) = true then (
    if (m_isTopic a1) = true then (
      (m_nearness a0 a1 f).bind fun p3 =>
      some p3)
    else (
      some (-1)))
  else (
    some (-1))
def m_book (a0 : Int32) (a1 : Int32) (f : (Nat → Nat → Int32)) : Option (Int32) :=
  if (m_isIn a0 0 ((f 217 2) - 1)) = true then (
    if (m_isIn a1 0 3) = true then (
      if am_in ((524 + (4 * a0)) + a1) 2008 = true then (
      some (f 217 ((524 + (4 * a0)) + a1).toNatClampNeg)) else none)
    else (
      some (-1)))
  else (
    some (-1))
def m_thinks (f : (Nat → Nat → Int32)) : Option ((Nat → Nat → Int32)) :=
  (am_loop (fun (s1 : Int32 × (Nat → Nat → Int32)) => ((
    if s1.1 < 69 then (
      if am_in s1.1 2008 = true then (
      if am_in s1.1 69 = true then (
      am_let (am_up s1.2 220 s1.1.toNatClampNeg (s1.2 217 s1.1.toNatClampNeg) : Nat → Nat → Int32) fun f2 =>
      am_let (s1.1 + 1 : Int32) fun t3 =>
      some (.inl (t3, f2))) else none) else none)
    else (
      some (.inr s1.2))) : Option ((Int32 × (Nat → Nat → Int32)) ⊕ ((Nat → Nat → Int32))))) am_F (0, f)).bind fun e4 =>
  am_let (am_up e4 216 26 0 : Nat → Nat → Int32) fun f5 =>
  some f5
def m_together (a0 : Int32) (a1 : Int32) (f : (Nat → Nat → Int32)) : Option (Int32) :=
  am_loop (fun (s1 : Int32 × Int32) => ((
    if s1.2 < a1 then (
      if am_in (a0 + s1.2) 2008 = true then (
      am_let ((s1.1 + (f 217 (a0 + s1.2).toNatClampNeg)) : Int32) fun t2 =>
      am_let (s1.2 + 1 : Int32) fun t3 =>
      some (.inl (t2, t3))) else none)
    else (
      some (.inr s1.1))) : Option ((Int32 × Int32) ⊕ (Int32)))) am_F (0, 0)
def m_putsBack (f : (Nat → Nat → Int32)) : Option ((Nat → Nat → Int32)) :=
  am_loop (fun (s1 : Int32 × (Nat → Nat → Int32)) => ((
    if s1.1 < 69 then (
      if am_in s1.1 69 = true then (
      if am_in s1.1 2008 = true then (
      am_let (am_up s1.2 217 s1.1.toNatClampNeg (s1.2 220 s1.1.toNatClampNeg) : Nat → Nat → Int32) fun f2 =>
      am_let (s1.1 + 1 : Int32) fun t3 =>
      some (.inl (t3, f2))) else none) else none)
    else (
      some (.inr s1.2))) : Option ((Int32 × (Nat → Nat → Int32)) ⊕ ((Nat → Nat → Int32))))) am_F (0, f)
def m_goes (a0 : Int32) (a1 : Int32) (f : (Nat → Nat → Int32)) : Option (Int32 × (Nat → Nat → Int32)) :=
  if (m_isIn a0 1 60) = true then (
    if (m_isIn a1 0 3) = true then (
      (m_thinks  f).bind fun p3 =>
      (am_loop (fun (s4 : Int32 × (Nat → Nat → Int32)) => ((
        if s4.1 < a0 then (
          (m_goesBy  s4.2).bind fun p5 =>
          am_let (s4.1 + 1 : Int32) fun t6 =>
          some (.inl (t6, p5.2)))
        else (
          some (.inr s4.2))) : Option ((Int32 × (Nat → Nat → Int32)) ⊕ ((Nat → Nat → Int32))))) am_F (0, p3)).bind fun e7 =>
      ((if a1 = 3 then (
          (m_together 57 (e7 217 70) e7).bind fun p8 =>
          some p8)
        else (
          am_let ((if a1 = 0 then (
              9)
            else (
              if a1 = 1 then (
                27)
              else (
                3))) : Int32) fun t9 =>
          (m_together t9 (e7 217 69) e7).bind fun p10 =>
          some p10)) : Option (Int32)).bind fun t11 =>
      (m_putsBack  e7).bind fun p12 =>
      some (t11, p12))
    else (
      some ((-1), f)))
  else (
    some ((-1), f))
def m_top (a0 : Int32) (f : (Nat → Nat → Int32)) : Option (Int32 × (Nat → Nat → Int32)) :=
  if (m_isGlass a0 f) = true then (
    (m_thinks  f).bind fun p2 =>
    (am_loop (fun (s3 : Int32 × (Nat → Nat → Int32)) => ((
      if s3.1 < 60 then (
        if am_in (27 + a0) 2008 = true then (
        if am_in (27 + a0) 69 = true then (
        if s3.2 217 (27 + a0).toNatClampNeg = s3.2 220 (27 + a0).toNatClampNeg then (
          (m_goesBy  s3.2).bind fun p4 =>
          am_let (s3.1 + 1 : Int32) fun t5 =>
          some (.inl (t5, p4.2)))
        else (
          some (.inr (s3.1, s3.2)))) else none) else none)
      else (
        some (.inr (s3.1, s3.2)))) : Option ((Int32 × (Nat → Nat → Int32)) ⊕ (Int32 × (Nat → Nat → Int32))))) am_F (0, p2)).bind fun e6 =>
    if am_in (27 + a0) 2008 = true then (
    if am_in (27 + a0) 69 = true then (
    am_let ((if e6.2 220 (27 + a0).toNatClampNeg < e6.2 217 (27 + a0).toNatClampNeg then (
        true)
      else (
        false)) : Bool) fun t7 =>
    (m_putsBack  e6.2).bind fun p8 =>
    if t7 = true then (
      some (e6.1, p8))
    else (
      some ((-1), p8))) else none) else none)
  else (
    some ((-1), f))
def m_hottest (a0 : Int32) (a1 : Int32) (f : (Nat → Nat → Int32)) : Option (Int32 × (Nat → Nat → Int32)) :=
  if (m_isGlass a0 f) = true then (
    if am_in (15 + a0) 2008 = true then (
    if f 217 (15 + a0).toNatClampNeg = (-1) then (
      some ((-1), f))
    else (
      if (m_isIn a1 0 1) = true then (
        (am_loop (fun (s3 : Int32 × Int32 × (Nat → Nat → Int32)) => ((
          if s3.2.1 < 16 then (
            (m_warmsOf a0 s3.2.1 s3.2.2).bind fun p4 =>
            (m_warmsOf a0 s3.1 p4.2).bind fun p5 =>
            am_let ((if p5.1 < p4.1 then (
                s3.2.1)
              else (
                s3.1)) : Int32) fun t6 =>
            am_let (s3.2.1 + 1 : Int32) fun t7 =>
            some (.inl (t6, t7, p5.2)))
          else (
            some (.inr (s3.1, s3.2.2)))) : Option ((Int32 × Int32 × (Nat → Nat → Int32)) ⊕ (Int32 × (Nat → Nat → Int32))))) am_F (0, 1, f)).bind fun e8 =>
        if a1 = 0 then (
          some (e8.1, e8.2))
        else (
          (m_warmsOf a0 e8.1 e8.2).bind fun p9 =>
          some (p9.1, p9.2)))
      else (
        some ((-1), f)))) else none)
  else (
    some ((-1), f))
def m_endsRow (a0 : Int32) (f : (Nat → Nat → Int32)) : Option (Int32 × (Nat → Nat → Int32)) :=
  if am_in a0 2008 = true then (
  am_let (am_up f 217 a0.toNatClampNeg 0 : Nat → Nat → Int32) fun f1 =>
  some (0, f1)) else none
def m_tellsTwo (a0 : Int32) (a1 : Int32) (a2 : Int32) (a3 : Int32) (f : (Nat → Nat → Int32)) : Option (Int32 × (Nat → Nat → Int32)) :=
  if am_in a0 2008 = true then (
  if f 217 a0.toNatClampNeg = a1 then (
    some ((-1), f))
  else (
    if am_in a0 2008 = true then (
    if am_in ((a0 + 1) + (2 * (f 217 a0.toNatClampNeg))) 2008 = true then (
    am_let (am_up f 217 ((a0 + 1) + (2 * (f 217 a0.toNatClampNeg))).toNatClampNeg a2 : Nat → Nat → Int32) fun f1 =>
    if am_in a0 2008 = true then (
    if am_in ((a0 + 2) + (2 * (f1 217 a0.toNatClampNeg))) 2008 = true then (
    am_let (am_up f1 217 ((a0 + 2) + (2 * (f1 217 a0.toNatClampNeg))).toNatClampNeg a3 : Nat → Nat → Int32) fun f2 =>
    if am_in a0 2008 = true then (
    if am_in a0 2008 = true then (
    am_let (am_up f2 217 a0.toNatClampNeg ((f2 217 a0.toNatClampNeg) + 1) : Nat → Nat → Int32) fun f3 =>
    if am_in a0 2008 = true then (
    some (f3 217 a0.toNatClampNeg, f3)) else none) else none) else none) else none) else none) else none) else none)) else none
def m_warmth (a0 : Int32) (a1 : Int32) (f : (Nat → Nat → Int32)) : Option (Int32 × (Nat → Nat → Int32)) :=
  if a0 = (-1) then (
    (m_endsRow 407 f).bind fun p1 =>
    some (p1.1, p1.2))
  else (
    if (m_isTopic a0) = true then (
      if (m_isIn a1 0 10) = true then (
        (m_tellsTwo 407 8 a0 a1 f).bind fun p4 =>
        some (p4.1, p4.2))
      else (
        some ((-1), f)))
    else (
      some ((-1), f)))
def m_fitsAll (a0 : Int32) (f : (Nat → Nat → Int32)) : Option (Bool) :=
  am_loop (fun (s1 : Int32) => ((
    if s1 < f 217 407 then (
      if am_in (408 + (2 * s1)) 2008 = true then (
      (m_nearnessOf a0 (f 217 (408 + (2 * s1)).toNatClampNeg) f).bind fun p2 =>
      if am_in (409 + (2 * s1)) 2008 = true then (
      if p2 = f 217 (409 + (2 * s1)).toNatClampNeg then (
        am_let (s1 + 1 : Int32) fun t3 =>
        some (.inl t3))
      else (
        some (.inr false))) else none) else none)
    else (
      some (.inr true))) : Option ((Int32) ⊕ (Bool)))) am_F 0
def m_fits (a0 : Int32) (a1 : Int32) (f : (Nat → Nat → Int32)) : Option (Int32) :=
  if (m_isIn a0 1 3) = true then (
    if (m_isIn a1 0 1) = true then (
      (am_loop (fun (s3 : Int32 × Int32 × Int32) => ((
        if 0 < s3.2.2 then (
          (m_bitsOf s3.2.2).bind fun p4 =>
          ((if p4 = a0 then (
              (m_fitsAll s3.2.2 f).bind fun p5 =>
              if p5 = true then (
                am_let (s3.1 + 1 : Int32) fun t6 =>
                some (t6, s3.2.2))
              else (
                some (s3.1, s3.2.1)))
            else (
              some (s3.1, s3.2.1))) : Option (Int32 × Int32)).bind fun t7 =>
          am_let (s3.2.2 + (-1) : Int32) fun t8 =>
          some (.inl (t7.1, t7.2, t8)))
        else (
          some (.inr (s3.1, s3.2.1)))) : Option ((Int32 × Int32 × Int32) ⊕ (Int32 × Int32)))) am_F (0, (-1), 65535)).bind fun e9 =>
      if a1 = 0 then (
        some e9.1)
      else (
        some e9.2))
    else (
      some (-1)))
  else (
    some (-1))
def m_wordsBy (a0 : Int32) (a1 : Int32) (a2 : Int32) (f : (Nat → Nat → Int32)) : Option (Int32 × (Nat → Nat → Int32)) :=
  (am_loop (fun (s1 : Int32 × (Nat → Nat → Int32)) => ((
    if s1.1 < 11 then (
      if am_in s1.1 11 = true then (
      am_let (am_up s1.2 229 s1.1.toNatClampNeg 0 : Nat → Nat → Int32) fun f2 =>
      am_let (s1.1 + 1 : Int32) fun t3 =>
      some (.inl (t3, f2))) else none)
    else (
      some (.inr s1.2))) : Option ((Int32 × (Nat → Nat → Int32)) ⊕ ((Nat → Nat → Int32))))) am_F (0, f)).bind fun e4 =>
  (am_loop (fun (s5 : Int32 × (Nat → Nat → Int32)) => ((
    if s5.1 < a1 then (
      ((if ((a0 >>> (s5.1 &&& 31)) &&& 1) = 1 then (
          if am_in s5.1 8 = true then (
          (m_nearnessOf (1 <<< ((s5.2 227 s5.1.toNatClampNeg) &&& 31)) a2 s5.2).bind fun p6 =>
          if am_in p6 11 = true then (
          if am_in p6 11 = true then (
          am_let (am_up s5.2 229 p6.toNatClampNeg ((s5.2 229 p6.toNatClampNeg) ||| (1 <<< (s5.1 &&& 31))) : Nat → Nat → Int32) fun f7 =>
          some f7) else none) else none) else none)
        else (
          some s5.2)) : Option ((Nat → Nat → Int32))).bind fun t8 =>
      am_let (s5.1 + 1 : Int32) fun t9 =>
      some (.inl (t9, t8)))
    else (
      some (.inr s5.2))) : Option ((Int32 × (Nat → Nat → Int32)) ⊕ ((Nat → Nat → Int32))))) am_F (0, e4)).bind fun e10 =>
  (am_loop (fun (s11 : Int32 × Int32) => ((
    if s11.2 < 11 then (
      if am_in s11.2 11 = true then (
      ((if e10 229 s11.2.toNatClampNeg = a0 then (
          some 100000000)
        else (
          if am_in s11.2 11 = true then (
          if e10 229 s11.2.toNatClampNeg = 0 then (
            some s11.1)
          else (
            if am_in s11.2 11 = true then (
            if am_in (e10 229 s11.2.toNatClampNeg) 256 = true then (
            some (m_greater s11.1 (e10 228 (e10 229 s11.2.toNatClampNeg).toNatClampNeg))) else none) else none)) else none)) : Option (Int32)).bind fun t13 =>
      am_let (s11.2 + 1 : Int32) fun t14 =>
      some (.inl (t13, t14))) else none)
    else (
      some (.inr s11.1))) : Option ((Int32 × Int32) ⊕ (Int32)))) am_F (0, 0)).bind fun e15 =>
  if e15 < 100000000 then (
    some ((e15 + 1), e10))
  else (
    some (100000000, e10))
def m_bestWord (a0 : Int32) (a1 : Int32) (f : (Nat → Nat → Int32)) : Option (Int32 × (Nat → Nat → Int32)) :=
  am_loop (fun (s1 : Int32 × Int32 × (Nat → Nat → Int32)) => ((
    if s1.2.1 < 16 then (
      (m_wordsBy a0 a1 s1.2.1 s1.2.2).bind fun p2 =>
      (m_wordsBy a0 a1 s1.1 p2.2).bind fun p3 =>
      am_let ((if p2.1 < p3.1 then (
          s1.2.1)
        else (
          s1.1)) : Int32) fun t4 =>
      am_let (s1.2.1 + 1 : Int32) fun t5 =>
      some (.inl (t4, t5, p3.2)))
    else (
      some (.inr (s1.1, s1.2.2)))) : Option ((Int32 × Int32 × (Nat → Nat → Int32)) ⊕ (Int32 × (Nat → Nat → Int32))))) am_F (0, 1, f)
def m_words (a0 : Int32) (a1 : Int32) (f : (Nat → Nat → Int32)) : Option (Int32 × (Nat → Nat → Int32)) :=
  if (m_isIn a0 0 65535) = true then (
    (m_bitsOf a0).bind fun p2 =>
    if 8 < p2 then (
      some ((-1), f))
    else (
      if (m_isIn a1 0 1) = true then (
        (am_loop (fun (s4 : Int32 × Int32 × (Nat → Nat → Int32)) => ((
          if s4.2.1 < 16 then (
            ((if ((a0 >>> (s4.2.1 &&& 31)) &&& 1) = 0 then (
                some (s4.1, s4.2.2))
              else (
                if am_in s4.1 8 = true then (
                am_let (am_up s4.2.2 227 s4.1.toNatClampNeg s4.2.1 : Nat → Nat → Int32) fun f5 =>
                am_let (s4.1 + 1 : Int32) fun t6 =>
                some (t6, f5)) else none)) : Option (Int32 × (Nat → Nat → Int32))).bind fun t7 =>
            am_let (s4.2.1 + 1 : Int32) fun t8 =>
            some (.inl (t7.1, t8, t7.2)))
          else (
            some (.inr (s4.1, s4.2.2)))) : Option ((Int32 × Int32 × (Nat → Nat → Int32)) ⊕ (Int32 × (Nat → Nat → Int32))))) am_F (0, 0, f)).bind fun e9 =>
        if e9.1 < 2 then (
          if e9.1 = 1 then (
            if a1 = 0 then (
              some (0, e9.2))
            else (
              some ((-1), e9.2)))
          else (
            some ((-1), e9.2)))
        else (
          (am_loop (fun (s10 : Int32 × (Nat → Nat → Int32)) => ((
            if s10.1 < (1 <<< (e9.1 &&& 31)) then (
              (m_bitsOf s10.1).bind fun p11 =>
              ((if p11 = 1 then (
                  some (0, s10.2))
                else (
                  (m_bestWord s10.1 e9.1 s10.2).bind fun p12 =>
                  (m_wordsBy s10.1 e9.1 p12.1 p12.2).bind fun p13 =>
                  some (p13.1, p13.2))) : Option (Int32 × (Nat → Nat → Int32))).bind fun t14 =>
              if am_in s10.1 256 = true then (
              am_let (am_up t14.2 228 s10.1.toNatClampNeg t14.1 : Nat → Nat → Int32) fun f15 =>
              am_let (s10.1 + 1 : Int32) fun t16 =>
              some (.inl (t16, f15))) else none)
            else (
              some (.inr s10.2))) : Option ((Int32 × (Nat → Nat → Int32)) ⊕ ((Nat → Nat → Int32))))) am_F (1, e9.2)).bind fun e17 =>
          if a1 = 0 then (
            if am_in ((1 <<< (e9.1 &&& 31)) - 1) 256 = true then (
            some (e17 228 ((1 <<< (e9.1 &&& 31)) - 1).toNatClampNeg, e17)) else none)
          else (
            (m_bestWord ((1 <<< (e9.1 &&& 31)) - 1) e9.1 e17).bind fun p18 =>
            some (p18.1, p18.2))))
      else (
        some ((-1), f))))
  else (
    some ((-1), f))
def m_world (a0 : Int32) (a1 : Int32) (f : (Nat → Nat → Int32)) : Option (Int32 × (Nat → Nat → Int32)) :=
  if a0 = (-1) then (
    (m_endsRow 424 f).bind fun p1 =>
    some (p1.1, p1.2))
  else (
    if (m_isIn a0 1 9) = true then (
      if (m_isIn a1 0 255) = true then (
        (m_tellsTwo 424 6 a0 a1 f).bind fun p4 =>
        some (p4.1, p4.2))
      else (
        some ((-1), f)))
    else (
      some ((-1), f)))
def m_likely (a0 : Int32) (a1 : Int32) (a2 : Int32) (f : (Nat → Nat → Int32)) : Option (Int32) :=
  if am_in (425 + (2 * a0)) 2008 = true then (
  am_let (f 217 (425 + (2 * a0)).toNatClampNeg : Int32) fun t1 =>
  if am_in (426 + (2 * a0)) 2008 = true then (
  am_let (((f 217 (426 + (2 * a0)).toNatClampNeg) ^^^ a2) : Int32) fun t2 =>
  am_loop (fun (s3 : Int32 × Int32) => ((
    if s3.2 < 8 then (
      am_let ((if ((t2 >>> (s3.2 &&& 31)) &&& 1) = 1 then (
          1)
        else (
          (a1 - 1))) : Int32) fun t4 =>
      am_let ((s3.1 * t4) : Int32) fun t5 =>
      am_let (s3.2 + 1 : Int32) fun t6 =>
      some (.inl (t5, t6)))
    else (
      some (.inr s3.1))) : Option ((Int32 × Int32) ⊕ (Int32)))) am_F (t1, 0)) else none) else none
def m_common (a0 : Int32) (a1 : Int32)  : Option (Int32) :=
  am_loop (fun (s1 : Int32 × Int32) => ((
    if s1.2 = 0 then (
      some (.inr s1.1))
    else (
      if s1.2 = 0 then none else
      am_let ((s1.1 - s1.1 / s1.2 * s1.2) : Int32) fun t2 =>
      some (.inl (s1.2, t2)))) : Option ((Int32 × Int32) ⊕ (Int32)))) am_F (a0, a1)
def m_sure (a0 : Int32) (a1 : Int32) (a2 : Int32) (f : (Nat → Nat → Int32)) : Option (Int32) :=
  am_let ((a1 / 256) : Int32) fun t1 =>
  if (m_isIn a0 0 ((f 217 424) - 1)) = true then (
    if a1 < 0 then (
      some (-1))
    else (
      if (m_isIn t1 2 8) = true then (
        if (m_isIn a2 0 1) = true then (
          (am_loop (fun (s5 : Int32 × Int32) => ((
            if s5.2 < f 217 424 then (
              (m_likely s5.2 t1 (a1 - a1 / 256 * 256) f).bind fun p6 =>
              am_let ((s5.1 + p6) : Int32) fun t7 =>
              am_let (s5.2 + 1 : Int32) fun t8 =>
              some (.inl (t7, t8)))
            else (
              some (.inr s5.1))) : Option ((Int32 × Int32) ⊕ (Int32)))) am_F (0, 0)).bind fun e9 =>
          (m_likely a0 t1 (a1 - a1 / 256 * 256) f).bind fun p10 =>
          (m_common p10 e9).bind fun p11 =>
          if a2 = 0 then (
            if p11 = 0 then none else
            some (p10 / p11))
          else (
            if p11 = 0 then none else
            some (e9 / p11)))
        else (
          some (-1)))
      else (
        some (-1))))
  else (
    some (-1))
def m_point (a0 : Int32) (a1 : Int32) (f : (Nat → Nat → Int32)) : Option (Int32 × (Nat → Nat → Int32)) :=
  if a0 = (-1) then (
    (m_endsRow 437 f).bind fun p1 =>
    some (p1.1, p1.2))
  else (
    if (m_isIn a0 0 9) = true then (
      if (m_isIn a1 (-99) 99) = true then (
        (m_tellsTwo 437 4 a0 a1 f).bind fun p4 =>
        some (p4.1, p4.2))
      else (
        some ((-1), f)))
    else (
      some ((-1), f)))
def m_unitAt (a0 : Int32) (a1 : Int32) (f : (Nat → Nat → Int32)) : Option (Int32) :=
  if a0 = 0 then (
    if am_in (438 + (2 * a1)) 2008 = true then (
    some (f 217 (438 + (2 * a1)).toNatClampNeg)) else none)
  else (
    some a0)
def m_joined (a0 : Int32) (a1 : Int32) (a2 : Int32)  : Int32 :=
  if a1 = 0 then (
    (a0 + a2))
  else (
    if a1 = 1 then (
      (a0 - a2))
    else (
      (a0 * a2)))
def m_makes (a0 : Int32) (a1 : Int32) (a2 : Int32) (a3 : Int32) (f : (Nat → Nat → Int32)) : Option (Bool) :=
  am_loop (fun (s1 : Bool × Int32) => ((
    if s1.2 < f 217 437 then (
      if s1.1 = true then (
        (m_unitAt (a1 / 100) s1.2 f).bind fun p2 =>
        (m_unitAt ((a1 / 10) - (a1 / 10) / 10 * 10) s1.2 f).bind fun p3 =>
        (m_unitAt (a1 - a1 / 10 * 10) s1.2 f).bind fun p4 =>
        am_let ((if a0 = 2 then (
            am_let ((m_joined p2 (a2 - a2 / 3 * 3) p3) : Int32) fun t6 =>
            t6)
          else (
            p2)) : Int32) fun t7 =>
        am_let ((if a0 = 3 then (
            am_let ((if a3 = 0 then (
                (m_joined (m_joined p2 (a2 - a2 / 3 * 3) p3) (a2 / 3) p4))
              else (
                (m_joined p2 (a2 - a2 / 3 * 3) (m_joined p3 (a2 / 3) p4)))) : Int32) fun t12 =>
            t12)
          else (
            t7)) : Int32) fun t13 =>
        if am_in (439 + (2 * s1.2)) 2008 = true then (
        am_let ((if t13 = f 217 (439 + (2 * s1.2)).toNatClampNeg then (
            true)
          else (
            false)) : Bool) fun t14 =>
        am_let (s1.2 + 1 : Int32) fun t15 =>
        some (.inl (t14, t15))) else none)
      else (
        some (.inr s1.1)))
    else (
      some (.inr s1.1))) : Option ((Bool × Int32) ⊕ (Bool)))) am_F (true, 0)
def m_makesAny (a0 : Int32) (f : (Nat → Nat → Int32)) : Option (Bool) :=
  am_loop (fun (s1 : Int32) => ((
    if s1 < 1000 then (
      (am_loop (fun (s2 : Int32) => ((
        if s2 < 9 then (
          (m_makes a0 s1 s2 0 f).bind fun p3 =>
          if p3 = true then (
            some (.inr (.inl true)))
          else (
            (m_makes a0 s1 s2 1 f).bind fun p4 =>
            if p4 = true then (
              some (.inr (.inl true)))
            else (
              am_let (s2 + 1 : Int32) fun t5 =>
              some (.inl t5))))
        else (
          some (.inr (.inr ())))) : Option ((Int32) ⊕ ((Bool) ⊕ (Unit))))) am_F 0).bind fun e6 =>
      e6.elim (fun v => some (.inr v)) fun e7 =>
      am_let (s1 + 1 : Int32) fun t8 =>
      some (.inl t8))
    else (
      some (.inr false))) : Option ((Int32) ⊕ (Bool)))) am_F 0
def m_term (f : (Nat → Nat → Int32)) : Option (Int32) :=
  am_loop (fun (s1 : Int32) => ((
    if s1 < 4 then (
      (m_makesAny s1 f).bind fun p2 =>
      if p2 = true then (
        some (.inr s1))
      else (
        am_let (s1 + 1 : Int32) fun t3 =>
        some (.inl t3)))
    else (
      some (.inr (-1)))) : Option ((Int32) ⊕ (Int32)))) am_F 1
def m_saying (a0 : Int32) (a1 : Int32) (f : (Nat → Nat → Int32)) : Option (Int32 × (Nat → Nat → Int32)) :=
  if a0 = (-1) then (
    (m_endsRow 446 f).bind fun p1 =>
    some (p1.1, p1.2))
  else (
    if (m_isIn a0 0 3) = true then (
      if 1 < a0 then (
        (m_tellsTwo 446 6 a0 a1 f).bind fun p3 =>
        some (p3.1, p3.2))
      else (
        if (m_isIn a1 1 50) = true then (
          (m_tellsTwo 446 6 a0 a1 f).bind fun p5 =>
          some (p5.1, p5.2))
        else (
          some ((-1), f))))
    else (
      some ((-1), f)))
def m_heatBy (a0 : Int32) (a1 : Int32) (f : (Nat → Nat → Int32)) : Option (Int32) :=
  if am_in (448 + (2 * a0)) 2008 = true then (
  am_let (f 217 (448 + (2 * a0)).toNatClampNeg : Int32) fun t1 =>
  if am_in (447 + (2 * a0)) 2008 = true then (
  if f 217 (447 + (2 * a0)).toNatClampNeg = 0 then (
    some (a1 - t1))
  else if f 217 (447 + (2 * a0)).toNatClampNeg = 1 then (
    some (a1 + t1))
  else if f 217 (447 + (2 * a0)).toNatClampNeg = 2 then (
    some (a1 / 2))
  else (some (2 * a1))) else none) else none
def m_cool (a0 : Int32) (a1 : Int32) (f : (Nat → Nat → Int32)) : Option (Int32 × (Nat → Nat → Int32)) :=
  if (m_isIn a0 0 99) = true then (
    if (m_isIn a1 0 99) = true then (
      (am_loop (fun (s3 : Int32 × (Nat → Nat → Int32)) => ((
        if s3.1 < 100 then (
          if am_in s3.1 100 = true then (
          am_let (am_up s3.2 230 s3.1.toNatClampNeg (-1) : Nat → Nat → Int32) fun f4 =>
          am_let (s3.1 + 1 : Int32) fun t5 =>
          some (.inl (t5, f4))) else none)
        else (
          some (.inr s3.2))) : Option ((Int32 × (Nat → Nat → Int32)) ⊕ ((Nat → Nat → Int32))))) am_F (0, f)).bind fun e6 =>
      if am_in a0 100 = true then (
      am_let (am_up e6 230 a0.toNatClampNeg 0 : Nat → Nat → Int32) fun f7 =>
      am_let (am_up f7 231 0 a0 : Nat → Nat → Int32) fun f8 =>
      (am_loop (fun (s9 : Int32 × Int32 × (Nat → Nat → Int32)) => ((
        if s9.2.1 < s9.1 then (
          (am_loop (fun (s10 : Int32 × Int32 × (Nat → Nat → Int32)) => ((
            if s10.2.1 < s10.2.2 217 446 then (
              if am_in s9.2.1 100 = true then (
              (m_heatBy s10.2.1 (s10.2.2 231 s9.2.1.toNatClampNeg) s10.2.2).bind fun p11 =>
              ((if (m_isIn p11 0 99) = true then (
                  if am_in p11 100 = true then (
                  if s10.2.2 230 p11.toNatClampNeg = (-1) then (
                    if am_in s9.2.1 100 = true then (
                    if am_in (s10.2.2 231 s9.2.1.toNatClampNeg) 100 = true then (
                    if am_in p11 100 = true then (
                    am_let (am_up s10.2.2 230 p11.toNatClampNeg ((s10.2.2 230 (s10.2.2 231 s9.2.1.toNatClampNeg).toNatClampNeg) + 1) : Nat → Nat → Int32) fun f13 =>
                    if am_in s10.1 100 = true then (
                    am_let (am_up f13 231 s10.1.toNatClampNeg p11 : Nat → Nat → Int32) fun f14 =>
                    am_let (s10.1 + 1 : Int32) fun t15 =>
                    some (t15, f14)) else none) else none) else none) else none)
                  else (
                    some (s10.1, s10.2.2))) else none)
                else (
                  some (s10.1, s10.2.2))) : Option (Int32 × (Nat → Nat → Int32))).bind fun t16 =>
              am_let (s10.2.1 + 1 : Int32) fun t17 =>
              some (.inl (t16.1, t17, t16.2))) else none)
            else (
              some (.inr (s10.1, s10.2.2)))) : Option ((Int32 × Int32 × (Nat → Nat → Int32)) ⊕ (Int32 × (Nat → Nat → Int32))))) am_F (s9.1, 0, s9.2.2)).bind fun e18 =>
          am_let (s9.2.1 + 1 : Int32) fun t19 =>
          some (.inl (e18.1, t19, e18.2)))
        else (
          some (.inr s9.2.2))) : Option ((Int32 × Int32 × (Nat → Nat → Int32)) ⊕ ((Nat → Nat → Int32))))) am_F (1, 0, f8)).bind fun e20 =>
      if am_in a1 100 = true then (
      some (e20 230 a1.toNatClampNeg, e20)) else none) else none)
    else (
      some ((-1), f)))
  else (
    some ((-1), f))
def m_tellsOne (a0 : Int32) (a1 : Int32) (a2 : Int32) (f : (Nat → Nat → Int32)) : Option (Int32 × (Nat → Nat → Int32)) :=
  if am_in a0 2008 = true then (
  if f 217 a0.toNatClampNeg = a1 then (
    some ((-1), f))
  else (
    if am_in a0 2008 = true then (
    if am_in ((a0 + 1) + (f 217 a0.toNatClampNeg)) 2008 = true then (
    am_let (am_up f 217 ((a0 + 1) + (f 217 a0.toNatClampNeg)).toNatClampNeg a2 : Nat → Nat → Int32) fun f1 =>
    if am_in a0 2008 = true then (
    if am_in a0 2008 = true then (
    am_let (am_up f1 217 a0.toNatClampNeg ((f1 217 a0.toNatClampNeg) + 1) : Nat → Nat → Int32) fun f2 =>
    if am_in a0 2008 = true then (
    some (f2 217 a0.toNatClampNeg, f2)) else none) else none) else none) else none) else none)) else none
def m_coal (a0 : Int32) (f : (Nat → Nat → Int32)) : Option (Int32 × (Nat → Nat → Int32)) :=
  if a0 = (-1) then (
    (m_endsRow 459 f).bind fun p1 =>
    some (p1.1, p1.2))
  else (
    if (m_isIn a0 1 40) = true then (
      (m_tellsOne 459 4 a0 f).bind fun p3 =>
      some (p3.1, p3.2))
    else (
      some ((-1), f)))
def m_layWorth (f : (Nat → Nat → Int32)) : Option ((Nat → Nat → Int32)) :=
  am_loop (fun (s1 : Int32 × (Nat → Nat → Int32)) => ((
    if s1.1 < 41 then (
      am_let (((0 : Int32).toInt64) : Int64) fun t2 =>
      (am_loop (fun (s3 : Int64 × Int32) => ((
        if (2 * s3.2) < s1.1 then (
          if am_in s3.2 41 = true then (
          if am_in (s1.1 - s3.2) 41 = true then (
          am_let ((s3.1 ||| (((1 : Int32).toInt64) <<< (((s1.2 232 s3.2.toNatClampNeg) ^^^ (s1.2 232 (s1.1 - s3.2).toNatClampNeg)).toInt64 &&& 63))) : Int64) fun t4 =>
          am_let (s3.2 + 1 : Int32) fun t5 =>
          some (.inl (t4, t5))) else none) else none)
        else (
          some (.inr s3.1))) : Option ((Int64 × Int32) ⊕ (Int64)))) am_F (t2, 1)).bind fun e6 =>
      (am_loop (fun (s7 : Int32) => ((
        if (am_lcmp ((e6 >>> (s7.toInt64 &&& 63)) &&& ((1 : Int32).toInt64)) ((1 : Int32).toInt64)) = 0 then (
          am_let (s7 + 1 : Int32) fun t8 =>
          some (.inl t8))
        else (
          some (.inr s7))) : Option ((Int32) ⊕ (Int32)))) am_F 0).bind fun e9 =>
      if am_in s1.1 41 = true then (
      am_let (am_up s1.2 232 s1.1.toNatClampNeg e9 : Nat → Nat → Int32) fun f10 =>
      am_let (s1.1 + 1 : Int32) fun t11 =>
      some (.inl (t11, f10))) else none)
    else (
      some (.inr s1.2))) : Option ((Int32 × (Nat → Nat → Int32)) ⊕ ((Nat → Nat → Int32))))) am_F (0, f)
def m_coals (a0 : Int32) (f : (Nat → Nat → Int32)) : Option (Int32 × (Nat → Nat → Int32)) :=
  if (m_isIn a0 0 1) = true then (
    (m_layWorth  f).bind fun p2 =>
    (am_loop (fun (s3 : Int32 × Int32) => ((
      if s3.2 < p2 217 459 then (
        if am_in (460 + s3.2) 2008 = true then (
        if am_in (p2 217 (460 + s3.2).toNatClampNeg) 41 = true then (
        am_let ((s3.1 ^^^ (p2 232 (p2 217 (460 + s3.2).toNatClampNeg).toNatClampNeg)) : Int32) fun t4 =>
        am_let (s3.2 + 1 : Int32) fun t5 =>
        some (.inl (t4, t5))) else none) else none)
      else (
        some (.inr s3.1))) : Option ((Int32 × Int32) ⊕ (Int32)))) am_F (0, 0)).bind fun e6 =>
    (am_loop (fun (s7 : Int32) => ((
      if s7 < p2 217 459 then (
        if am_in (460 + s7) 2008 = true then (
        am_let (p2 217 (460 + s7).toNatClampNeg : Int32) fun t8 =>
        (am_loop (fun (s9 : Int32) => ((
          if (2 * s9) < t8 then (
            if am_in t8 41 = true then (
            if am_in s9 41 = true then (
            if am_in (t8 - s9) 41 = true then (
            if (((e6 ^^^ (p2 232 t8.toNatClampNeg)) ^^^ (p2 232 s9.toNatClampNeg)) ^^^ (p2 232 (t8 - s9).toNatClampNeg)) = 0 then (
              am_let ((if a0 = 0 then (
                  s7)
                else (
                  s9)) : Int32) fun t10 =>
              some (.inr (.inl (t10, p2))))
            else (
              am_let (s9 + 1 : Int32) fun t11 =>
              some (.inl t11))) else none) else none) else none)
          else (
            some (.inr (.inr ())))) : Option ((Int32) ⊕ ((Int32 × (Nat → Nat → Int32)) ⊕ (Unit))))) am_F 1).bind fun e12 =>
        e12.elim (fun v => some (.inr (.inl v))) fun e13 =>
        am_let (s7 + 1 : Int32) fun t14 =>
        some (.inl t14)) else none)
      else (
        some (.inr (.inr ())))) : Option ((Int32) ⊕ ((Int32 × (Nat → Nat → Int32)) ⊕ (Unit))))) am_F 0).bind fun e15 =>
    e15.elim (fun v => some v) fun e16 =>
    some ((-1), p2))
  else (
    some ((-1), f))
def m_shown (a0 : Int32) (f : (Nat → Nat → Int32)) : Option (Int32 × (Nat → Nat → Int32)) :=
  if a0 = (-1) then (
    (m_endsRow 464 f).bind fun p1 =>
    some (p1.1, p1.2))
  else (
    if (m_isIn a0 0 65535) = true then (
      (m_tellsOne 464 8 a0 f).bind fun p3 =>
      some (p3.1, p3.2))
    else (
      some ((-1), f)))
def m_laidOn (a0 : Int32) (f : (Nat → Nat → Int32)) : Option (Int32) :=
  am_loop (fun (s1 : Int32 × Int32) => ((
    if s1.2 < f 217 464 then (
      ((if ((a0 >>> (s1.2 &&& 31)) &&& 1) = 1 then (
          if am_in (465 + s1.2) 2008 = true then (
          some (f 217 (465 + s1.2).toNatClampNeg)) else none)
        else (
          some 0)) : Option (Int32)).bind fun t2 =>
      am_let ((s1.1 ^^^ t2) : Int32) fun t3 =>
      am_let (s1.2 + 1 : Int32) fun t4 =>
      some (.inl (t3, t4)))
    else (
      some (.inr s1.1))) : Option ((Int32 × Int32) ⊕ (Int32)))) am_F (0, 0)
def m_rank (f : (Nat → Nat → Int32)) : Option (Int32) :=
  (am_loop (fun (s1 : Int32 × Int32) => ((
    if s1.2 < (1 <<< ((f 217 464) &&& 31)) then (
      (m_laidOn s1.2 f).bind fun p2 =>
      am_let ((if p2 = 0 then (
          true)
        else (
          false)) : Bool) fun t3 =>
      am_let ((s1.1 + (am_b t3)) : Int32) fun t4 =>
      am_let (s1.2 + 1 : Int32) fun t5 =>
      some (.inl (t4, t5)))
    else (
      some (.inr s1.1))) : Option ((Int32 × Int32) ⊕ (Int32)))) am_F (0, 0)).bind fun e6 =>
  am_let (f 217 464 : Int32) fun t7 =>
  am_loop (fun (s8 : Int32 × Int32) => ((
    if 1 < s8.1 then (
      am_let ((s8.1 / 2) : Int32) fun t9 =>
      am_let (s8.2 + (-1) : Int32) fun t10 =>
      some (.inl (t9, t10)))
    else (
      some (.inr s8.2))) : Option ((Int32 × Int32) ⊕ (Int32)))) am_F (e6, t7)
def m_fewestFor (a0 : Int32) (f : (Nat → Nat → Int32)) : Option (Int32) :=
  am_loop (fun (s1 : Int32 × Int32) => ((
    if s1.2 < (1 <<< ((f 217 464) &&& 31)) then (
      (m_laidOn s1.2 f).bind fun p2 =>
      ((if p2 = a0 then (
          if s1.1 = (-1) then (
            (m_bitsOf s1.2).bind fun p3 =>
            some p3)
          else (
            (m_bitsOf s1.2).bind fun p4 =>
            if p4 < s1.1 then (
              (m_bitsOf s1.2).bind fun p5 =>
              some p5)
            else (
              some s1.1)))
        else (
          some s1.1)) : Option (Int32)).bind fun t6 =>
      am_let (s1.2 + 1 : Int32) fun t7 =>
      some (.inl (t6, t7)))
    else (
      some (.inr s1.1))) : Option ((Int32 × Int32) ⊕ (Int32)))) am_F ((-1), 0)
def m_show (a0 : Int32) (a1 : Int32) (f : (Nat → Nat → Int32)) : Option (Int32) :=
  if (m_isIn a1 0 2) = true then (
    if 0 < a1 then (
      if (m_isIn a0 0 65535) = true then (
        if a1 = 0 then (
          (m_rank  f).bind fun p3 =>
          some p3)
        else (
          if a1 = 2 then (
            (m_fewestFor a0 f).bind fun p4 =>
            some p4)
          else (
            (m_fewestFor a0 f).bind fun p5 =>
            if p5 = (-1) then (
              some 0)
            else (
              some 1))))
      else (
        some (-1)))
    else (
      if a1 = 0 then (
        (m_rank  f).bind fun p6 =>
        some p6)
      else (
        if a1 = 2 then (
          (m_fewestFor a0 f).bind fun p7 =>
          some p7)
        else (
          (m_fewestFor a0 f).bind fun p8 =>
          if p8 = (-1) then (
            some 0)
          else (
            some 1)))))
  else (
    some (-1))
def m_cost (a0 : Int32) (a1 : Int32) (f : (Nat → Nat → Int32)) : Option (Bool × (Nat → Nat → Int32)) :=
  if (m_isIn a0 0 7) = true then (
    if (m_isIn a1 0 99) = true then (
      if am_in (473 + a0) 2008 = true then (
      am_let (am_up f 217 (473 + a0).toNatClampNeg a1 : Nat → Nat → Int32) fun f3 =>
      some (true, f3)) else none)
    else (
      some (false, f)))
  else (
    some (false, f))
def m_keptFor (a0 : Int32) (a1 : Int32) (f : (Nat → Nat → Int32)) : Option (Int32) :=
  am_loop (fun (s1 : Int32 × Int32) => ((
    if s1.2 < a0 then (
      if am_in (473 + s1.2) 2008 = true then (
      am_let ((s1.1 + (f 217 (473 + s1.2).toNatClampNeg)) : Int32) fun t2 =>
      am_let (s1.2 + 1 : Int32) fun t3 =>
      some (.inl (t2, t3))) else none)
    else (
      some (.inr s1.1))) : Option ((Int32 × Int32) ⊕ (Int32)))) am_F (a1, 0)
def m_change (a0 : Int32) (a1 : Int32) (a2 : Int32) (f : (Nat → Nat → Int32)) : Option (Int32 × (Nat → Nat → Int32)) :=
  if (m_isIn a0 1 40) = true then (
    if (m_isIn a1 0 99) = true then (
      if (m_isIn a2 0 1) = true then (
        am_let (am_up f 233 0 0 : Nat → Nat → Int32) fun f4 =>
        (am_loop (fun (s5 : Int32 × Int32 × (Nat → Nat → Int32)) => ((
          if a0 < s5.2.1 then (
            some (.inr (s5.1, s5.2.2)))
          else (
            if am_in s5.2.1 41 = true then (
            am_let (am_up s5.2.2 233 s5.2.1.toNatClampNeg 100000000 : Nat → Nat → Int32) fun f6 =>
            (am_loop (fun (s7 : Int32 × Int32 × (Nat → Nat → Int32)) => ((
              if (m_lesser 8 s5.2.1) < s7.2.1 then (
                some (.inr (s7.1, s7.2.2)))
              else (
                (m_keptFor s7.2.1 a1 s7.2.2).bind fun p9 =>
                if am_in (s5.2.1 - s7.2.1) 41 = true then (
                am_let ((p9 + (s7.2.2 233 (s5.2.1 - s7.2.1).toNatClampNeg)) : Int32) fun t10 =>
                if am_in s5.2.1 41 = true then (
                ((if t10 < s7.2.2 233 s5.2.1.toNatClampNeg then (
                    if am_in s5.2.1 41 = true then (
                    am_let (am_up s7.2.2 233 s5.2.1.toNatClampNeg t10 : Nat → Nat → Int32) fun f11 =>
                    some (s7.2.1, f11)) else none)
                  else (
                    some (s7.1, s7.2.2))) : Option (Int32 × (Nat → Nat → Int32))).bind fun t12 =>
                am_let (s7.2.1 + 1 : Int32) fun t13 =>
                some (.inl (t12.1, t13, t12.2))) else none) else none)) : Option ((Int32 × Int32 × (Nat → Nat → Int32)) ⊕ (Int32 × (Nat → Nat → Int32))))) am_F (s5.1, 1, f6)).bind fun e14 =>
            am_let (s5.2.1 + 1 : Int32) fun t15 =>
            some (.inl (e14.1, t15, e14.2))) else none)) : Option ((Int32 × Int32 × (Nat → Nat → Int32)) ⊕ (Int32 × (Nat → Nat → Int32))))) am_F (0, 1, f4)).bind fun e16 =>
        if a2 = 0 then (
          if am_in a0 41 = true then (
          some (e16.2 233 a0.toNatClampNeg, e16.2)) else none)
        else (
          some (e16.1, e16.2)))
      else (
        some ((-1), f)))
    else (
      some ((-1), f)))
  else (
    some ((-1), f))
def m_askedFor (a0 : Int32) (a1 : Int32) (a2 : Int32) (f : (Nat → Nat → Int32)) : Option (Int32) :=
  if am_in (((42 * a0) + a2) - 1) 1764 = true then (
  if am_in ((42 * (a2 + 1)) + a1) 1764 = true then (
  some (a2 + (m_greater (f 234 (((42 * a0) + a2) - 1).toNatClampNeg) (f 234 ((42 * (a2 + 1)) + a1).toNatClampNeg)))) else none) else none
def m_bestAsked (a0 : Int32) (a1 : Int32) (f : (Nat → Nat → Int32)) : Option (Int32) :=
  am_let ((a0 + 1) : Int32) fun t1 =>
  am_loop (fun (s2 : Int32 × Int32) => ((
    if a1 < s2.2 then (
      some (.inr s2.1))
    else (
      (m_askedFor a0 a1 s2.2 f).bind fun p3 =>
      (m_askedFor a0 a1 s2.1 f).bind fun p4 =>
      am_let ((if p3 < p4 then (
          s2.2)
        else (
          s2.1)) : Int32) fun t5 =>
      am_let (s2.2 + 1 : Int32) fun t6 =>
      some (.inl (t5, t6)))) : Option ((Int32 × Int32) ⊕ (Int32)))) am_F (a0, t1)
def m_dear (a0 : Int32) (a1 : Int32) (f : (Nat → Nat → Int32)) : Option (Int32 × (Nat → Nat → Int32)) :=
  if (m_isIn a0 1 40) = true then (
    if (m_isIn a1 0 1) = true then (
      (am_loop (fun (s3 : Int32 × (Nat → Nat → Int32)) => ((
        if s3.1 < 1764 then (
          if am_in s3.1 1764 = true then (
          am_let (am_up s3.2 234 s3.1.toNatClampNeg 0 : Nat → Nat → Int32) fun f4 =>
          am_let (s3.1 + 1 : Int32) fun t5 =>
          some (.inl (t5, f4))) else none)
        else (
          some (.inr s3.2))) : Option ((Int32 × (Nat → Nat → Int32)) ⊕ ((Nat → Nat → Int32))))) am_F (0, f)).bind fun e6 =>
      (am_loop (fun (s7 : Int32 × (Nat → Nat → Int32)) => ((
        if s7.1 < a0 then (
          (am_loop (fun (s8 : Int32 × (Nat → Nat → Int32)) => ((
            if a0 < (s8.1 + s7.1) then (
              some (.inr s8.2))
            else (
              (m_bestAsked s8.1 (s8.1 + s7.1) s8.2).bind fun p9 =>
              (m_askedFor s8.1 (s8.1 + s7.1) p9 s8.2).bind fun p10 =>
              if am_in (((42 * s8.1) + s8.1) + s7.1) 1764 = true then (
              am_let (am_up s8.2 234 (((42 * s8.1) + s8.1) + s7.1).toNatClampNeg p10 : Nat → Nat → Int32) fun f11 =>
              am_let (s8.1 + 1 : Int32) fun t12 =>
              some (.inl (t12, f11))) else none)) : Option ((Int32 × (Nat → Nat → Int32)) ⊕ ((Nat → Nat → Int32))))) am_F (1, s7.2)).bind fun e13 =>
          am_let (s7.1 + 1 : Int32) fun t14 =>
          some (.inl (t14, e13)))
        else (
          some (.inr s7.2))) : Option ((Int32 × (Nat → Nat → Int32)) ⊕ ((Nat → Nat → Int32))))) am_F (1, e6)).bind fun e15 =>
      if a1 = 0 then (
        if am_in (42 + a0) 1764 = true then (
        some (e15 234 (42 + a0).toNatClampNeg, e15)) else none)
      else (
        if a0 = 1 then (
          some ((-1), e15))
        else (
          (m_bestAsked 1 a0 e15).bind fun p16 =>
          some (p16, e15))))
    else (
      some ((-1), f)))
  else (
    some ((-1), f))
def m_reading (a0 : Int32) (f : (Nat → Nat → Int32)) : Option (Int32 × (Nat → Nat → Int32)) :=
  if a0 = (-1) then (
    (m_endsRow 481 f).bind fun p1 =>
    some (p1.1, p1.2))
  else (
    if (m_isIn a0 0 99) = true then (
      (m_tellsOne 481 24 a0 f).bind fun p3 =>
      some (p3.1, p3.2))
    else (
      some ((-1), f)))
def m_steadyFrom (a0 : Int32) (a1 : Int32) (f : (Nat → Nat → Int32)) : Option (Int32) :=
  if am_in (482 + a0) 2008 = true then (
  am_let (f 217 (482 + a0).toNatClampNeg : Int32) fun t1 =>
  am_loop (fun (s2 : Int32 × Int32 × Int32) => ((
    if (a0 + s2.2.2) < f 217 481 then (
      if am_in ((482 + a0) + s2.2.2) 2008 = true then (
      am_let ((m_lesser s2.1 (f 217 ((482 + a0) + s2.2.2).toNatClampNeg)) : Int32) fun t4 =>
      if am_in ((482 + a0) + s2.2.2) 2008 = true then (
      am_let ((m_greater s2.2.1 (f 217 ((482 + a0) + s2.2.2).toNatClampNeg)) : Int32) fun t6 =>
      if a1 < (t6 - t4) then (
        some (.inr s2.2.2))
      else (
        am_let (s2.2.2 + 1 : Int32) fun t7 =>
        some (.inl (t4, t6, t7)))) else none) else none)
    else (
      some (.inr s2.2.2))) : Option ((Int32 × Int32 × Int32) ⊕ (Int32)))) am_F (t1, t1, 0)) else none
def m_steady (a0 : Int32) (a1 : Int32) (f : (Nat → Nat → Int32)) : Option (Int32) :=
  if (m_isIn a0 0 99) = true then (
    if (m_isIn a1 0 1) = true then (
      (am_loop (fun (s3 : Int32 × Int32 × Int32) => ((
        if s3.2.2 < f 217 481 then (
          (m_steadyFrom s3.2.2 a0 f).bind fun p4 =>
          ((if s3.1 < p4 then (
              (m_steadyFrom s3.2.2 a0 f).bind fun p5 =>
              some (p5, s3.2.2))
            else (
              some (s3.1, s3.2.1))) : Option (Int32 × Int32)).bind fun t6 =>
          am_let (s3.2.2 + 1 : Int32) fun t7 =>
          some (.inl (t6.1, t6.2, t7)))
        else (
          some (.inr (s3.1, s3.2.1)))) : Option ((Int32 × Int32 × Int32) ⊕ (Int32 × Int32)))) am_F (0, (-1), 0)).bind fun e8 =>
      if a1 = 0 then (
        some e8.1)
      else (
        some e8.2))
    else (
      some (-1)))
  else (
    some (-1))
