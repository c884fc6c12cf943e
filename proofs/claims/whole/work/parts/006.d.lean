def m_comesTo (a0 : Int32) (a1 : Int32) (f : (Nat → Nat → Int32)) : Option (Int32 × (Nat → Nat → Int32)) :=
  (am_loop (fun (s1 : Int32 × Int32 × (Nat → Nat → Int32)) => ((
    if s1.2.1 < a1 then (
      if am_in (1188 + (2 * s1.2.1)) 2008 = true then (
      am_let (s1.2.2 217 (1188 + (2 * s1.2.1)).toNatClampNeg : Int32) fun t2 =>
      if am_in ((1188 + (2 * s1.2.1)) + 1) 2008 = true then (
      am_let (s1.2.2 217 ((1188 + (2 * s1.2.1)) + 1).toNatClampNeg : Int32) fun t3 =>
      ((if t2 < 23 then (
          ((if t2 = 0 then (
              some t3)
            else (
              if am_in t2 11 = true then (
              some (s1.2.2 226 t2.toNatClampNeg)) else none)) : Option (Int32)).bind fun t4 =>
          if am_in s1.1 420 = true then (
          am_let (am_up s1.2.2 225 s1.1.toNatClampNeg t4 : Nat → Nat → Int32) fun f5 =>
          am_let (s1.1 + 1 : Int32) fun t6 =>
          some (t6, f5)) else none)
        else (
          if t2 = 26 then (
            if am_in (s1.1 - 1) 420 = true then (
            if t3 = 0 then none else
            if am_in (s1.1 - 1) 420 = true then (
            am_let (am_up s1.2.2 225 (s1.1 - 1).toNatClampNeg ((s1.2.2 225 (s1.1 - 1).toNatClampNeg) / t3) : Nat → Nat → Int32) fun f7 =>
            some (s1.1, f7)) else none) else none)
          else (
            if t2 = 30 then (
              if am_in (s1.1 - 1) 420 = true then (
              if am_in (s1.1 - 1) 420 = true then (
              am_let (am_up s1.2.2 225 (s1.1 - 1).toNatClampNeg (1 - (s1.2.2 225 (s1.1 - 1).toNatClampNeg)) : Nat → Nat → Int32) fun f8 =>
              some (s1.1, f8)) else none) else none)
            else (
              am_let (s1.1 + (-1) : Int32) fun t9 =>
              if am_in (t9 - 1) 420 = true then (
              if am_in t9 420 = true then (
              if am_in (t9 - 1) 420 = true then (
              am_let (am_up s1.2.2 225 (t9 - 1).toNatClampNeg (m_both t2 (s1.2.2 225 (t9 - 1).toNatClampNeg) (s1.2.2 225 t9.toNatClampNeg)) : Nat → Nat → Int32) fun f11 =>
              some (t9, f11)) else none) else none) else none)))) : Option (Int32 × (Nat → Nat → Int32))).bind fun t12 =>
      am_let (s1.2.1 + 1 : Int32) fun t13 =>
      some (.inl (t12.1, t13, t12.2))) else none) else none)
    else (
      some (.inr s1.2.2))) : Option ((Int32 × Int32 × (Nat → Nat → Int32)) ⊕ ((Nat → Nat → Int32))))) am_F (0, a0, f)).bind fun e14 =>
  some (e14 225 0, e14)
def m_isSo (a0 : Int32) (f : (Nat → Nat → Int32)) : Option (Bool × (Nat → Nat → Int32)) :=
  if am_in (1156 + a0) 2008 = true then (
  if am_in (1140 + a0) 2008 = true then (
  if f 217 (1156 + a0).toNatClampNeg = f 217 (1140 + a0).toNatClampNeg then (
    some (true, f))
  else (
    if am_in (1140 + a0) 2008 = true then (
    if am_in (1156 + a0) 2008 = true then (
    (m_comesTo (f 217 (1140 + a0).toNatClampNeg) (f 217 (1156 + a0).toNatClampNeg) f).bind fun p1 =>
    if p1.1 = 1 then (
      some (true, p1.2))
    else (
      some (false, p1.2))) else none) else none)) else none) else none
def m_lesser (a0 : Int32) (a1 : Int32)  : Int32 :=
  if a0 < a1 then (
    a0)
  else (
    a1)
def m_lawSays (a0 : Int32) (a1 : Int32) (a2 : Int32) (f : (Nat → Nat → Int32)) : Option (Int32 × (Nat → Nat → Int32)) :=
  (am_loop (fun (s1 : Int32 × (Nat → Nat → Int32)) => ((
    if s1.1 < s1.2 217 71 then (
      if am_in (1172 + s1.1) 2008 = true then (
      if s1.2 217 (1172 + s1.1).toNatClampNeg = a0 then (
        (m_isSo s1.1 s1.2).bind fun p2 =>
        if p2.1 = true then (
          some (.inr (s1.1, p2.2)))
        else (
          am_let (s1.1 + 1 : Int32) fun t3 =>
          some (.inl (t3, p2.2))))
      else (
        am_let (s1.1 + 1 : Int32) fun t4 =>
        some (.inl (t4, s1.2)))) else none)
    else (
      some (.inr (s1.1, s1.2)))) : Option ((Int32 × (Nat → Nat → Int32)) ⊕ (Int32 × (Nat → Nat → Int32))))) am_F (0, f)).bind fun e5 =>
  ((if e5.1 < e5.2 217 71 then (
      if am_in (1124 + e5.1) 2008 = true then (
      if am_in (1140 + e5.1) 2008 = true then (
      (m_comesTo (e5.2 217 (1124 + e5.1).toNatClampNeg) (e5.2 217 (1140 + e5.1).toNatClampNeg) e5.2).bind fun p6 =>
      some (p6.1, p6.2)) else none) else none)
    else (
      some (a1, e5.2))) : Option (Int32 × (Nat → Nat → Int32))).bind fun t7 =>
  some ((m_greater 0 (m_lesser a2 t7.1)), t7.2)
def m_slipsOf (a0 : Int32) (f : (Nat → Nat → Int32)) : Option (Int32 × (Nat → Nat → Int32)) :=
  if am_in (21 + a0) 2008 = true then (
  (m_asks a0 (f 217 (21 + a0).toNatClampNeg) f).bind fun p1 =>
  (m_lawSays 21 0 1000 p1).bind fun p2 =>
  some (p2.1, p2.2)) else none
def m_draw (a0 : Int32) (f : (Nat → Nat → Int32)) : Option (Int32 × (Nat → Nat → Int32)) :=
  am_let (am_up f 217 1 ((1664525 * (f 217 1)) + 1013904223) : Nat → Nat → Int32) fun f1 =>
  if a0 = 0 then none else
  some (((((f1 217 1).toUInt32 >>> ((8 : Int32).toUInt32 &&& Int32.toUInt32 31)).toInt32) - (((f1 217 1).toUInt32 >>> ((8 : Int32).toUInt32 &&& Int32.toUInt32 31)).toInt32) / a0 * a0), f1)
def m_falls (a0 : Int32) (f : (Nat → Nat → Int32)) : Option (Bool × (Nat → Nat → Int32)) :=
  if 0 < a0 then (
    if f 216 26 = 0 then (
      if a0 < 500 then (
        some (false, f))
      else (
        some (true, f)))
    else (
      (m_draw 1000 f).bind fun p1 =>
      if p1.1 < a0 then (
        some (true, p1.2))
      else (
        some (false, p1.2))))
  else (
    some (false, f))
def m_coolsOf (a0 : Int32) (f : (Nat → Nat → Int32)) : Option (Int32 × (Nat → Nat → Int32)) :=
  if am_in (21 + a0) 2008 = true then (
  (m_asks a0 (f 217 (21 + a0).toNatClampNeg) f).bind fun p1 =>
  (m_lawSays 22 5 99 p1).bind fun p2 =>
  some (p2.1, p2.2)) else none
def m_warmsOf (a0 : Int32) (a1 : Int32) (f : (Nat → Nat → Int32)) : Option (Int32 × (Nat → Nat → Int32)) :=
  (m_asks a0 a1 f).bind fun p1 =>
  (m_lawSays 20 ((3 * (p1 226 1)) - (2 * (p1 226 2))) 99 p1).bind fun p2 =>
  some (p2.1, p2.2)
def m_isRead (a0 : Int32) (f : (Nat → Nat → Int32)) : Option (Bool × (Nat → Nat → Int32)) :=
  if am_in (15 + a0) 2008 = true then (
  am_let (f 217 (15 + a0).toNatClampNeg : Int32) fun t1 =>
  if t1 = (-1) then (
    some (false, f))
  else (
    (m_slipsOf a0 f).bind fun p2 =>
    (m_falls p2.1 p2.2).bind fun p3 =>
    if p3.1 = true then (
      if am_in (9 + a0) 2008 = true then (
      (m_notes 3 a0 (p3.2 217 (9 + a0).toNatClampNeg) p3.2).bind fun p4 =>
      if am_in (9 + a0) 2008 = true then (
      am_let (am_up p4 217 (9 + a0).toNatClampNeg 300 : Nat → Nat → Int32) fun f5 =>
      some (false, f5)) else none) else none)
    else (
      if am_in (21 + a0) 2008 = true then (
      am_let (p3.2 217 (21 + a0).toNatClampNeg : Int32) fun t6 =>
      ((if t6 = (-1) then (
          if am_in (9 + a0) 2008 = true then (
          (m_coolsOf a0 p3.2).bind fun p7 =>
          if am_in (9 + a0) 2008 = true then (
          am_let (am_up p7.2 217 (9 + a0).toNatClampNeg (m_greater 300 ((p3.2 217 (9 + a0).toNatClampNeg) - p7.1)) : Nat → Nat → Int32) fun f9 =>
          some f9) else none) else none)
        else (
          (m_warmsOf a0 t6 p3.2).bind fun p10 =>
          if am_in (9 + a0) 2008 = true then (
          if am_in (9 + a0) 2008 = true then (
          am_let (am_up p10.2 217 (9 + a0).toNatClampNeg ((p10.2 217 (9 + a0).toNatClampNeg) + p10.1) : Nat → Nat → Int32) fun f11 =>
          ((if 0 < p10.1 then (
              (m_notes 2 a0 p10.1 f11).bind fun p12 =>
              some p12)
            else (
              some f11)) : Option ((Nat → Nat → Int32))).bind fun t13 =>
          (m_nearOf a0 t6 t13).bind fun p14 =>
          if 0 < p14 then (
            if am_in (3 + a0) 2008 = true then (
            if am_in (3 + a0) 2008 = true then (
            am_let (am_up t13 217 (3 + a0).toNatClampNeg (m_lesser 99 ((t13 217 (3 + a0).toNatClampNeg) + 1)) : Nat → Nat → Int32) fun f16 =>
            some f16) else none) else none)
          else (
            some t13)) else none) else none)) : Option ((Nat → Nat → Int32))).bind fun t17 =>
      if am_in (9 + a0) 2008 = true then (
      if 420 < t17 217 (9 + a0).toNatClampNeg then (
        if am_in (9 + a0) 2008 = true then (
        am_let (am_up t17 217 (9 + a0).toNatClampNeg 420 : Nat → Nat → Int32) fun f18 =>
        if am_in (27 + a0) 2008 = true then (
        if am_in (27 + a0) 2008 = true then (
        am_let (am_up f18 217 (27 + a0).toNatClampNeg ((f18 217 (27 + a0).toNatClampNeg) + 1) : Nat → Nat → Int32) fun f19 =>
        if am_in (57 + t1) 2008 = true then (
        if am_in (57 + t1) 2008 = true then (
        am_let (am_up f19 217 (57 + t1).toNatClampNeg ((f19 217 (57 + t1).toNatClampNeg) + 1) : Nat → Nat → Int32) fun f20 =>
        if am_in (15 + a0) 2008 = true then (
        am_let (am_up f20 217 (15 + a0).toNatClampNeg (-1) : Nat → Nat → Int32) fun f21 =>
        (m_notes 4 a0 t1 f21).bind fun p22 =>
        some (true, p22)) else none) else none) else none) else none) else none) else none)
      else (
        some (false, t17))) else none) else none))) else none
def m_goesBy (f : (Nat → Nat → Int32)) : Option (Int32 × (Nat → Nat → Int32)) :=
  (m_walks  f).bind fun p1 =>
  (am_loop (fun (s2 : Int32 × Int32 × (Nat → Nat → Int32)) => ((
    if s2.2.1 < s2.2.2 217 69 then (
      (m_isRead s2.2.1 s2.2.2).bind fun p3 =>
      am_let ((if p3.1 = true then (
          true)
        else (
          false)) : Bool) fun t4 =>
      am_let ((s2.1 + (am_b t4)) : Int32) fun t5 =>
      am_let (s2.2.1 + 1 : Int32) fun t6 =>
      some (.inl (t5, t6, p3.2)))
    else (
      some (.inr (s2.1, s2.2.2)))) : Option ((Int32 × Int32 × (Nat → Nat → Int32)) ⊕ (Int32 × (Nat → Nat → Int32))))) am_F (0, 0, p1)).bind fun e7 =>
  (am_loop (fun (s8 : Int32 × (Nat → Nat → Int32)) => ((
    if s8.1 < s8.2 217 69 then (
      if am_in (21 + s8.1) 2008 = true then (
      am_let (am_up s8.2 217 (21 + s8.1).toNatClampNeg (-1) : Nat → Nat → Int32) fun f9 =>
      am_let (s8.1 + 1 : Int32) fun t10 =>
      some (.inl (t10, f9))) else none)
    else (
      some (.inr s8.2))) : Option ((Int32 × (Nat → Nat → Int32)) ⊕ ((Nat → Nat → Int32))))) am_F (0, e7.2)).bind fun e11 =>
  am_let (am_up e11 217 0 ((e11 217 0) + 1) : Nat → Nat → Int32) fun f12 =>
  some (e7.1, f12)
def m_minutes (a0 : Int32) (f : (Nat → Nat → Int32)) : Option (Int32 × (Nat → Nat → Int32)) :=
  if (m_isIn a0 1 60) = true then (
    if 9999 < ((f 217 0) + a0) then (
      some ((-1), f))
    else (
      am_loop (fun (s2 : Int32 × Int32 × (Nat → Nat → Int32)) => ((
        if s2.2.1 < a0 then (
          (m_keeps  s2.2.2).bind fun p3 =>
          (m_goesBy  p3).bind fun p4 =>
          am_let ((s2.1 + p4.1) : Int32) fun t5 =>
          am_let (s2.2.1 + 1 : Int32) fun t6 =>
          some (.inl (t5, t6, p4.2)))
        else (
          some (.inr (s2.1, s2.2.2)))) : Option ((Int32 × Int32 × (Nat → Nat → Int32)) ⊕ (Int32 × (Nat → Nat → Int32))))) am_F (0, 0, f)))
  else (
    some ((-1), f))
def m_feed (a0 : Int32) (a1 : Int32) (a2 : Int32) (a3 : Int32) (a4 : Int32) (f : (Nat → Nat → Int32)) : Option (Int32 × (Nat → Nat → Int32)) :=
  if 400 < ((f 216 16) + 20) then (
    some ((-1), f))
  else (
    am_loop (fun (s1 : Int32 × (Nat → Nat → Int32)) => ((
      if s1.1 < 20 then (
        am_let ((if s1.1 < 4 then (
            a0)
          else (
            if s1.1 < 8 then (
              a1)
            else (
              if s1.1 < 12 then (
                a2)
              else (
                if s1.1 < 16 then (
                  a3)
                else (
                  a4))))) : Int32) fun t2 =>
        if am_in (s1.2 216 16) 400 = true then (
        am_let (am_up s1.2 224 (s1.2 216 16).toNatClampNeg ((t2 >>> ((24 - (8 * (s1.1 - s1.1 / 4 * 4))) &&& 31)) &&& 255) : Nat → Nat → Int32) fun f3 =>
        am_let (am_up f3 216 16 ((f3 216 16) + 1) : Nat → Nat → Int32) fun f4 =>
        am_let (s1.1 + 1 : Int32) fun t5 =>
        some (.inl (t5, f4))) else none)
      else (
        some (.inr (s1.2 216 16, s1.2)))) : Option ((Int32 × (Nat → Nat → Int32)) ⊕ (Int32 × (Nat → Nat → Int32))))) am_F (0, f))
def m_end (a0 : Int32) (f : (Nat → Nat → Int32)) : Bool × (Nat → Nat → Int32) :=
  if (m_isIn a0 0 (f 216 16)) = true then (
    am_let (am_up f 216 16 a0 : Nat → Nat → Int32) fun f2 =>
    (true, f2))
  else (
    (false, f))
def m_see (a0 : Int32) (f : (Nat → Nat → Int32)) : Option (Int32) :=
  if a0 < f 216 16 then (
    if am_in a0 400 = true then (
    some (f 224 a0.toNatClampNeg)) else none)
  else (
    some (-1))
def m_isLetter (a0 : Int32)  : Bool :=
  if (m_isIn a0 97 122) = true then (
    true)
  else (
    if (m_isIn a0 65 90) = true then (
      true)
    else (
      false))
def m_is (a0 : Nat) (f : (Nat → Nat → Int32)) : Option (Bool) :=
  if a0 < am_strs.length then (
  am_let ((if ((f 216 17) - (f 216 19)) = (nI (am_tl a0)) then (
      true)
    else (
      false)) : Bool) fun t1 =>
  am_loop (fun (s2 : Bool × Int32) => ((
    if a0 < am_strs.length then (
    if s2.2 < (nI (am_tl a0)) then (
      if s2.1 = true then (
        if am_in ((f 216 19) + s2.2) 400 = true then (
        if a0 < am_strs.length ∧ am_in s2.2 (am_tl a0) = true then (
        am_let ((if f 224 ((f 216 19) + s2.2).toNatClampNeg = (am_tc a0 s2.2.toNatClampNeg) then (
            true)
          else (
            false)) : Bool) fun t3 =>
        am_let (s2.2 + 1 : Int32) fun t4 =>
        some (.inl (t3, t4))) else none) else none)
      else (
        some (.inr s2.1)))
    else (
      some (.inr s2.1))) else none) : Option ((Bool × Int32) ⊕ (Bool)))) am_F (t1, 0)) else none
def m_asked (f : (Nat → Nat → Int32)) : Option (Int32) :=
  (m_is 11 f).bind fun p1 =>
  if p1 = true then (
    some 41)
  else (
    (m_is 12 f).bind fun p2 =>
    if p2 = true then (
      some 42)
    else (
      (m_is 13 f).bind fun p3 =>
      if p3 = true then (
        some 43)
      else (
        (m_is 14 f).bind fun p4 =>
        if p4 = true then (
          some 44)
        else (
          (m_is 15 f).bind fun p5 =>
          if p5 = true then (
            some 45)
          else (
            (m_is 16 f).bind fun p6 =>
            if p6 = true then (
              some 46)
            else (
              (m_is 17 f).bind fun p7 =>
              if p7 = true then (
                some 47)
              else (
                (m_is 18 f).bind fun p8 =>
                if p8 = true then (
                  some 48)
                else (
                  (m_is 19 f).bind fun p9 =>
                  if p9 = true then (
                    some 49)
                  else (
                    (m_is 20 f).bind fun p10 =>
                    if p10 = true then (
                      some 50)
                    else (
                      some 1))))))))))
def m_lawWord (f : (Nat → Nat → Int32)) : Option (Int32) :=
  (m_is 4 f).bind fun p1 =>
  if p1 = true then (
    some 3)
  else (
    (m_is 5 f).bind fun p2 =>
    if p2 = true then (
      some 4)
    else (
      (m_is 6 f).bind fun p3 =>
      if p3 = true then (
        some 5)
      else (
        (m_is 7 f).bind fun p4 =>
        if p4 = true then (
          some 6)
        else (
          (m_is 8 f).bind fun p5 =>
          if p5 = true then (
            some 20)
          else (
            (m_is 9 f).bind fun p6 =>
            if p6 = true then (
              some 21)
            else (
              (m_is 10 f).bind fun p7 =>
              if p7 = true then (
                some 22)
              else (
                (m_asked  f).bind fun p8 =>
                some p8)))))))
def m_walkWord (f : (Nat → Nat → Int32)) : Option (Int32) :=
  (m_is 21 f).bind fun p1 =>
  if p1 = true then (
    some 7)
  else (
    (m_is 19 f).bind fun p2 =>
    if p2 = true then (
      some 8)
    else (
      (m_is 22 f).bind fun p3 =>
      if p3 = true then (
        some 9)
      else (
        (m_is 23 f).bind fun p4 =>
        if p4 = true then (
          some 10)
        else (
          (m_is 24 f).bind fun p5 =>
          if p5 = true then (
            some 11)
          else (
            (m_is 25 f).bind fun p6 =>
            if p6 = true then (
              some 12)
            else (
              (m_is 26 f).bind fun p7 =>
              if p7 = true then (
                some 13)
              else (
                (m_is 27 f).bind fun p8 =>
                if p8 = true then (
                  some 14)
                else (
                  some 1))))))))
def m_wordOf (f : (Nat → Nat → Int32)) : Option (Int32) :=
  if f 216 12 = 0 then (
    (m_lawWord  f).bind fun p1 =>
    some p1)
  else if f 216 12 = 1 then (
    (m_walkWord  f).bind fun p2 =>
    some p2)
  else if f 216 12 = 2 then (
    (m_is 28 f).bind fun p3 =>
    if p3 = true then (
      some 15)
    else (
      (m_is 11 f).bind fun p4 =>
      if p4 = true then (
        some 16)
      else (
        some 1)))
  else ((m_is 29 f).bind fun p5 =>
    if p5 = true then (
      some 17)
    else (
      (m_is 16 f).bind fun p6 =>
      if p6 = true then (
        some 18)
      else (
        some 1)))
def m_isDigit (a0 : Int32)  : Bool :=
  (m_isIn a0 48 57)
def m_next0 (f : (Nat → Nat → Int32)) : Option ((Nat → Nat → Int32)) :=
  (am_loop (fun (s1 : (Nat → Nat → Int32)) => ((
    (m_see (s1 216 17) s1).bind fun p2 =>
    if p2 = 32 then (
      am_let (am_up s1 216 17 ((s1 216 17) + 1) : Nat → Nat → Int32) fun f3 =>
      some (.inl f3))
    else (
      (m_see (s1 216 17) s1).bind fun p4 =>
      if p4 = 10 then (
        am_let (am_up s1 216 17 ((s1 216 17) + 1) : Nat → Nat → Int32) fun f5 =>
        some (.inl f5))
      else (
        some (.inr s1)))) : Option (((Nat → Nat → Int32)) ⊕ ((Nat → Nat → Int32))))) am_F f).bind fun e6 =>
  am_let (am_up e6 216 19 (e6 216 17) : Nat → Nat → Int32) fun f7 =>
  (m_see (f7 216 17) f7).bind fun p8 =>
  if p8 = (-1) then (
    am_let (am_up f7 216 18 0 : Nat → Nat → Int32) fun f9 =>
    some f9)
  else (
    if (m_isLetter p8) = true then (
      (am_loop (fun (s11 : (Nat → Nat → Int32)) => ((
        (m_see (s11 216 17) s11).bind fun p12 =>
        if (m_isLetter p12) = true then (
          am_let (am_up s11 216 17 ((s11 216 17) + 1) : Nat → Nat → Int32) fun f14 =>
          some (.inl f14))
        else (
          some (.inr s11))) : Option (((Nat → Nat → Int32)) ⊕ ((Nat → Nat → Int32))))) am_F f7).bind fun e15 =>
      (m_wordOf  e15).bind fun p16 =>
      am_let (am_up e15 216 18 p16 : Nat → Nat → Int32) fun f17 =>
      some f17)
    else (
      if (m_isDigit p8) = true then (
        am_let (am_up f7 216 20 0 : Nat → Nat → Int32) fun f19 =>
        (am_loop (fun (s20 : (Nat → Nat → Int32)) => ((
          (m_see (s20 216 17) s20).bind fun p21 =>
          if (m_isDigit p21) = true then (
            ((if s20 216 17 < ((s20 216 19) + 4) then (
                (m_see (s20 216 17) s20).bind fun p23 =>
                am_let (am_up s20 216 20 (((10 * (s20 216 20)) + p23) - 48) : Nat → Nat → Int32) fun f24 =>
                some f24)
              else (
                some s20)) : Option ((Nat → Nat → Int32))).bind fun t25 =>
            am_let (am_up t25 216 17 ((t25 216 17) + 1) : Nat → Nat → Int32) fun f26 =>
            some (.inl f26))
          else (
            some (.inr s20))) : Option (((Nat → Nat → Int32)) ⊕ ((Nat → Nat → Int32))))) am_F f19).bind fun e27 =>
        am_let ((if ((e27 216 17) - (e27 216 19)) < 5 then (
            2)
          else (
            1)) : Int32) fun t28 =>
        am_let (am_up e27 216 18 t28 : Nat → Nat → Int32) fun f29 =>
        some f29)
      else (
        am_let (am_up f7 216 17 ((f7 216 17) + 1) : Nat → Nat → Int32) fun f30 =>
        am_let ((if p8 = 59 then (
            true)
          else (
            if p8 = 43 then (
              true)
            else (
              if p8 = 45 then (
                true)
              else (
                if p8 = 42 then (
                  true)
                else (
                  if p8 = 47 then (
                    true)
                  else (
                    if p8 = 40 then (
                      true)
                    else (
                      if p8 = 41 then (
                        true)
                      else (
                        if p8 = 60 then (
                          true)
                        else (
                          if p8 = 61 then (
                            true)
                          else (
                            if p8 = 62 then (
                              true)
                            else (
                              false))))))))))) : Bool) fun t31 =>
        am_let ((if t31 = true then (
            (100 + p8))
          else (
            1)) : Int32) fun t32 =>
        am_let (am_up f30 216 18 t32 : Nat → Nat → Int32) fun f33 =>
        some f33)))
def m_bad (a0 : Int32) (f : (Nat → Nat → Int32)) : Bool × (Nat → Nat → Int32) :=
  am_let (am_up f 216 21 a0 : Nat → Nat → Int32) fun f1 =>
  am_let (am_up f1 216 22 (f1 216 19) : Nat → Nat → Int32) fun f2 =>
  (false, f2)
def m_lay (a0 : Int32) (a1 : Int32) (f : (Nat → Nat → Int32)) : Option ((Nat → Nat → Int32)) :=
  if am_in (2 * (f 216 14)) 820 = true then (
  am_let (am_up f 222 (2 * (f 216 14)).toNatClampNeg a0 : Nat → Nat → Int32) fun f1 =>
  if am_in ((2 * (f1 216 14)) + 1) 820 = true then (
  am_let (am_up f1 222 ((2 * (f1 216 14)) + 1).toNatClampNeg a1 : Nat → Nat → Int32) fun f2 =>
  am_let (am_up f2 216 14 ((f2 216 14) + 1) : Nat → Nat → Int32) fun f3 =>
  some f3) else none) else none
def m_unit (f : (Nat → Nat → Int32)) : Option (Bool × (Nat → Nat → Int32)) :=
  am_let ((m_isIn (f 216 18) 41 50) : Bool) fun t2 =>
  if f 216 18 = 2 then (
    am_let ((if t2 = true then (
        ((f 216 18) - 40))
      else (
        0)) : Int32) fun t3 =>
    (m_lay t3 (f 216 20) f).bind fun p4 =>
    (m_next0  p4).bind fun p5 =>
    some (true, p5))
  else (
    if t2 = true then (
      am_let ((if t2 = true then (
          ((f 216 18) - 40))
        else (
          0)) : Int32) fun t6 =>
      (m_lay t6 (f 216 20) f).bind fun p7 =>
      (m_next0  p7).bind fun p8 =>
      some (true, p8))
    else (
      am_let (m_bad 1 f) fun p9 =>
      some (p9.1, p9.2)))
def m_product (f : (Nat → Nat → Int32)) : Option (Bool × (Nat → Nat → Int32)) :=
  (m_unit  f).bind fun p1 =>
  if p1.1 = true then (
    (am_loop (fun (s2 : (Nat → Nat → Int32)) => ((
      if s2 216 18 = 142 then (
        am_let ((if s2 216 18 = 147 then (
            true)
          else (
            false)) : Bool) fun t3 =>
        (m_next0  s2).bind fun p4 =>
        if t3 = true then (
          am_let (p4 216 20 : Int32) fun t5 =>
          if p4 216 18 = 2 then (
            if t5 = 0 then (
              am_let (m_bad 2 p4) fun p6 =>
              some (.inr (.inl (p6.1, p6.2))))
            else (
              (m_next0  p4).bind fun p7 =>
              (m_lay 26 t5 p7).bind fun p8 =>
              some (.inl p8)))
          else (
            am_let (m_bad 1 p4) fun p9 =>
            some (.inr (.inl (p9.1, p9.2)))))
        else (
          (m_unit  p4).bind fun p10 =>
          if p10.1 = true then (
            (m_lay 25 0 p10.2).bind fun p11 =>
            some (.inl p11))
          else (
            some (.inr (.inl (false, p10.2))))))
      else (
        if s2 216 18 = 147 then (
          am_let ((if s2 216 18 = 147 then (
              true)
            else (
              false)) : Bool) fun t12 =>
          (m_next0  s2).bind fun p13 =>
          if t12 = true then (
            am_let (p13 216 20 : Int32) fun t14 =>
            if p13 216 18 = 2 then (
              if t14 = 0 then (
                am_let (m_bad 2 p13) fun p15 =>
                some (.inr (.inl (p15.1, p15.2))))
              else (
                (m_next0  p13).bind fun p16 =>
                (m_lay 26 t14 p16).bind fun p17 =>
                some (.inl p17)))
            else (
              am_let (m_bad 1 p13) fun p18 =>
              some (.inr (.inl (p18.1, p18.2)))))
          else (
            (m_unit  p13).bind fun p19 =>
            if p19.1 = true then (
              (m_lay 25 0 p19.2).bind fun p20 =>
              some (.inl p20))
            else (
              some (.inr (.inl (false, p19.2))))))
        else (
          some (.inr (.inr s2))))) : Option (((Nat → Nat → Int32)) ⊕ ((Bool × (Nat → Nat → Int32)) ⊕ ((Nat → Nat → Int32)))))) am_F p1.2).bind fun e21 =>
    e21.elim (fun v => some v) fun e22 =>
    some (true, e22))
  else (
    some (false, p1.2))
def m_sumUp (f : (Nat → Nat → Int32)) : Option (Bool × (Nat → Nat → Int32)) :=
  (m_product  f).bind fun p1 =>
  if p1.1 = true then (
    am_loop (fun (s2 : (Nat → Nat → Int32)) => ((
      if s2 216 18 = 143 then (
        am_let ((if s2 216 18 = 143 then (
            23)
          else (
            24)) : Int32) fun t3 =>
        (m_next0  s2).bind fun p4 =>
        (m_product  p4).bind fun p5 =>
        if p5.1 = true then (
          (m_lay t3 0 p5.2).bind fun p6 =>
          some (.inl p6))
        else (
          some (.inr (false, p5.2))))
      else (
        if s2 216 18 = 145 then (
          am_let ((if s2 216 18 = 143 then (
              23)
            else (
              24)) : Int32) fun t7 =>
          (m_next0  s2).bind fun p8 =>
          (m_product  p8).bind fun p9 =>
          if p9.1 = true then (
            (m_lay t7 0 p9.2).bind fun p10 =>
            some (.inl p10))
          else (
            some (.inr (false, p9.2))))
        else (
          some (.inr (true, s2))))) : Option (((Nat → Nat → Int32)) ⊕ (Bool × (Nat → Nat → Int32))))) am_F p1.2)
  else (
    some (false, p1.2))
def m_opens (f : (Nat → Nat → Int32)) : Option (Bool × (Nat → Nat → Int32)) :=
  if f 216 24 = 8 then (
    am_let (m_bad 3 f) fun p1 =>
    some (p1.1, p1.2))
  else (
    am_let (am_up f 216 24 ((f 216 24) + 1) : Nat → Nat → Int32) fun f2 =>
    (m_next0  f2).bind fun p3 =>
    some (true, p3))
def m_need (a0 : Int32) (f : (Nat → Nat → Int32)) : Option (Bool × (Nat → Nat → Int32)) :=
  if f 216 18 = a0 then (
    (m_next0  f).bind fun p1 =>
    some (true, p1))
  else (
    am_let (m_bad 1 f) fun p2 =>
    some (p2.1, p2.2))
def m_any_B (r_any : (Nat → Nat → Int32) → Option (Bool × (Nat → Nat → Int32))) (r_every : (Nat → Nat → Int32) → Option (Bool × (Nat → Nat → Int32))) (r_oneTest : (Nat → Nat → Int32) → Option (Bool × (Nat → Nat → Int32))) (f : (Nat → Nat → Int32)) : Option (Bool × (Nat → Nat → Int32)) :=
  (r_every  f).bind fun p1 =>
  if p1.1 = true then (
    am_loop (fun (s2 : (Nat → Nat → Int32)) => ((
      if s2 216 18 = 4 then (
        (m_next0  s2).bind fun p3 =>
        (r_every  p3).bind fun p4 =>
        if p4.1 = true then (
          (m_lay 32 0 p4.2).bind fun p5 =>
          some (.inl p5))
        else (
          some (.inr (false, p4.2))))
      else (
        some (.inr (true, s2)))) : Option (((Nat → Nat → Int32)) ⊕ (Bool × (Nat → Nat → Int32))))) am_F p1.2)
  else (
    some (false, p1.2))
def m_every_B (r_any : (Nat → Nat → Int32) → Option (Bool × (Nat → Nat → Int32))) (r_every : (Nat → Nat → Int32) → Option (Bool × (Nat → Nat → Int32))) (r_oneTest : (Nat → Nat → Int32) → Option (Bool × (Nat → Nat → Int32))) (f : (Nat → Nat → Int32)) : Option (Bool × (Nat → Nat → Int32)) :=
  (r_oneTest  f).bind fun p1 =>
  if p1.1 = true then (
    am_loop (fun (s2 : (Nat → Nat → Int32)) => ((
      if s2 216 18 = 5 then (
        (m_next0  s2).bind fun p3 =>
        (r_oneTest  p3).bind fun p4 =>
        if p4.1 = true then (
          (m_lay 31 0 p4.2).bind fun p5 =>
          some (.inl p5))
        else (
          some (.inr (false, p4.2))))
      else (
        some (.inr (true, s2)))) : Option (((Nat → Nat → Int32)) ⊕ (Bool × (Nat → Nat → Int32))))) am_F p1.2)
  else (
    some (false, p1.2))
def m_oneTest_B (r_any : (Nat → Nat → Int32) → Option (Bool × (Nat → Nat → Int32))) (r_every : (Nat → Nat → Int32) → Option (Bool × (Nat → Nat → Int32))) (r_oneTest : (Nat → Nat → Int32) → Option (Bool × (Nat → Nat → Int32))) (f : (Nat → Nat → Int32)) : Option (Bool × (Nat → Nat → Int32)) :=
  if f 216 18 = 6 then (
    (m_opens  f).bind fun p1 =>
    if p1.1 = true then (
      (r_oneTest  p1.2).bind fun p2 =>
      if p2.1 = true then (
        am_let (am_up p2.2 216 24 ((p2.2 216 24) - 1) : Nat → Nat → Int32) fun f3 =>
        (m_lay 30 0 f3).bind fun p4 =>
        some (true, p4))
      else (
        some (false, p2.2)))
    else (
      some (false, p1.2)))
  else (
    if f 216 18 = 140 then (
      (m_opens  f).bind fun p5 =>
      if p5.1 = true then (
        (r_any  p5.2).bind fun p6 =>
        if p6.1 = true then (
          (m_need 141 p6.2).bind fun p7 =>
          if p7.1 = true then (
            am_let (am_up p7.2 216 24 ((p7.2 216 24) - 1) : Nat → Nat → Int32) fun f8 =>
            some (true, f8))
          else (
            some (false, p7.2)))
        else (
          some (false, p6.2)))
      else (
        some (false, p5.2)))
    else (
      (m_sumUp  f).bind fun p9 =>
      if p9.1 = true then (
        am_let ((if p9.2 216 18 = 160 then (
            27)
          else (
            if p9.2 216 18 = 161 then (
              28)
            else (
              if p9.2 216 18 = 162 then (
                29)
              else (
                (-1))))) : Int32) fun t10 =>
        if t10 = (-1) then (
          am_let (m_bad 1 p9.2) fun p11 =>
          some (p11.1, p11.2))
        else (
          (m_next0  p9.2).bind fun p12 =>
          (m_sumUp  p12).bind fun p13 =>
          if p13.1 = true then (
            (m_lay t10 0 p13.2).bind fun p14 =>
            some (true, p14))
          else (
            some (false, p13.2))))
      else (
        some (false, p9.2))))
def m_rec : Nat → ((Nat → Nat → Int32) → Option (Bool × (Nat → Nat → Int32))) × ((Nat → Nat → Int32) → Option (Bool × (Nat → Nat → Int32))) × ((Nat → Nat → Int32) → Option (Bool × (Nat → Nat → Int32)))
  | 0 => (fun f => none, fun f => none, fun f => none)
  | n + 1 => (fun (q : ((Nat → Nat → Int32) → Option (Bool × (Nat → Nat → Int32))) × ((Nat → Nat → Int32) → Option (Bool × (Nat → Nat → Int32))) × ((Nat → Nat → Int32) → Option (Bool × (Nat → Nat → Int32)))) => (fun f => m_any_B q.1 q.2.1 q.2.2  f, fun f => m_every_B q.1 q.2.1 q.2.2  f, fun f => m_oneTest_B q.1 q.2.1 q.2.2  f)) (m_rec n)
def m_any (n : Nat) (f : (Nat → Nat → Int32)) : Option (Bool × (Nat → Nat → Int32)) := (m_rec n).1  f
def m_every (n : Nat) (f : (Nat → Nat → Int32)) : Option (Bool × (Nat → Nat → Int32)) := (m_rec n).2.1  f
def m_oneTest (n : Nat) (f : (Nat → Nat → Int32)) : Option (Bool × (Nat → Nat → Int32)) := (m_rec n).2.2  f
def m_aLine (f : (Nat → Nat → Int32)) : Option (Bool × (Nat → Nat → Int32)) :=
  if (m_isIn (f 216 18) 20 22) = true then (
    if f 216 13 = 16 then (
      am_let (m_bad 3 f) fun p2 =>
      some (p2.1, p2.2))
    else (
      am_let (am_up f 216 24 0 : Nat → Nat → Int32) fun f3 =>
      if am_in ((4 * (f3 216 13)) + 3) 64 = true then (
      am_let (am_up f3 221 ((4 * (f3 216 13)) + 3).toNatClampNeg (f3 216 18) : Nat → Nat → Int32) fun f4 =>
      (m_next0  f4).bind fun p5 =>
      if am_in (4 * (p5 216 13)) 64 = true then (
      am_let (am_up p5 221 (4 * (p5 216 13)).toNatClampNeg (p5 216 14) : Nat → Nat → Int32) fun f6 =>
      (m_sumUp  f6).bind fun p7 =>
      if p7.1 = true then (
        if am_in ((4 * (p7.2 216 13)) + 1) 64 = true then (
        am_let (am_up p7.2 221 ((4 * (p7.2 216 13)) + 1).toNatClampNeg (p7.2 216 14) : Nat → Nat → Int32) fun f8 =>
        if f8 216 18 = 3 then (
          (m_next0  f8).bind fun p9 =>
          (m_any 40  p9).bind fun p10 =>
          if p10.1 = true then (
            if am_in ((4 * (p10.2 216 13)) + 2) 64 = true then (
            am_let (am_up p10.2 221 ((4 * (p10.2 216 13)) + 2).toNatClampNeg (p10.2 216 14) : Nat → Nat → Int32) fun f11 =>
            (m_need 159 f11).bind fun p12 =>
            some (p12.1, p12.2)) else none)
          else (
            some (false, p10.2)))
        else (
          if am_in ((4 * (f8 216 13)) + 2) 64 = true then (
          am_let (am_up f8 221 ((4 * (f8 216 13)) + 2).toNatClampNeg (f8 216 14) : Nat → Nat → Int32) fun f13 =>
          (m_need 159 f13).bind fun p14 =>
          some (p14.1, p14.2)) else none)) else none)
      else (
        some (false, p7.2))) else none) else none))
  else (
    am_let (m_bad 1 f) fun p15 =>
    some (p15.1, p15.2))
def m_readsLaw (f : (Nat → Nat → Int32)) : Option (Bool × (Nat → Nat → Int32)) :=
  am_let (am_up f 216 13 0 : Nat → Nat → Int32) fun f1 =>
  am_let (am_up f1 216 14 0 : Nat → Nat → Int32) fun f2 =>
  am_loop (fun (s3 : Bool × (Nat → Nat → Int32)) => ((
    if s3.1 = true then (
      if s3.2 216 18 = 0 then (
        some (.inr (s3.1, s3.2)))
      else (
        (m_aLine  s3.2).bind fun p4 =>
        am_let ((if p4.1 = true then (
            true)
          else (
            false)) : Bool) fun t5 =>
        am_let (am_up p4.2 216 13 ((p4.2 216 13) + (am_b t5)) : Nat → Nat → Int32) fun f6 =>
        some (.inl (p4.1, f6))))
    else (
      some (.inr (s3.1, s3.2)))) : Option ((Bool × (Nat → Nat → Int32)) ⊕ (Bool × (Nat → Nat → Int32))))) am_F (true, f2)
def m_number (a0 : Int32) (a1 : Int32) (a2 : Int32) (f : (Nat → Nat → Int32)) : Option (Bool × (Nat → Nat → Int32)) :=
  if f 216 18 = 2 then (
    if (m_isIn (f 216 20) a1 a2) = true then (
      if am_in a0 264 = true then (
      am_let (am_up f 223 a0.toNatClampNeg (f 216 20) : Nat → Nat → Int32) fun f2 =>
      (m_next0  f2).bind fun p3 =>
      some (true, p3)) else none)
    else (
      am_let (m_bad 2 f) fun p4 =>
      some (p4.1, p4.2)))
  else (
    am_let (m_bad 1 f) fun p5 =>
    some (p5.1, p5.2))
def m_told (a0 : Int32) (a1 : Int32) (a2 : Int32) (a3 : Int32) (f : (Nat → Nat → Int32)) : Option (Bool × (Nat → Nat → Int32)) :=
  (m_need a1 f).bind fun p1 =>
  if p1.1 = true then (
    (m_number a0 a2 a3 p1.2).bind fun p2 =>
    if p2.1 = true then (
      some (true, p2.2))
    else (
      some (false, p2.2)))
  else (
    some (false, p1.2))
def m_aWalk (f : (Nat → Nat → Int32)) : Option (Bool × (Nat → Nat → Int32)) :=
  am_let ((4 * (f 216 15)) : Int32) fun t1 =>
  (m_told t1 7 0 999 f).bind fun p2 =>
  if p2.1 = true then (
    (m_told (t1 + 1) 8 0 ((p2.2 217 69) - 1) p2.2).bind fun p3 =>
    if p3.1 = true then (
      am_let (p3.2 216 18 : Int32) fun t4 =>
      if (m_isIn t4 9 14) = true then (
        if am_in (t1 + 2) 264 = true then (
        am_let (am_up p3.2 223 (t1 + 2).toNatClampNeg t4 : Nat → Nat → Int32) fun f6 =>
        (m_next0  f6).bind fun p7 =>
        if t4 = 9 then (
          (m_number (t1 + 3) 0 15 p7).bind fun p8 =>
          some (p8.1, p8.2))
        else (
          if t4 = 13 then (
            (m_number (t1 + 3) 0 ((p7 217 70) - 1) p7).bind fun p9 =>
            if p9.1 = true then (
              some (true, p9.2))
            else (
              some (false, p9.2)))
          else (
            some (true, p7)))) else none)
      else (
        am_let (m_bad 1 p3.2) fun p10 =>
        some (p10.1, p10.2)))
    else (
      some (false, p3.2)))
  else (
    some (false, p2.2))
def m_aNearness (f : (Nat → Nat → Int32)) : Option (Bool × (Nat → Nat → Int32)) :=
  (m_told 260 15 0 15 f).bind fun p1 =>
  if p1.1 = true then (
    (m_need 16 p1.2).bind fun p2 =>
    if p2.1 = true then (
      if p2.2 216 18 = 2 then (
        if p2.2 216 20 = p2.2 223 260 then (
          am_let (m_bad 2 p2.2) fun p3 =>
          some (p3.1, p3.2))
        else (
          (m_number 261 0 15 p2.2).bind fun p4 =>
          if p4.1 = true then (
            (m_number 262 1 9 p4.2).bind fun p5 =>
            if p5.1 = true then (
              am_let (p5.2 223 260 : Int32) fun t6 =>
              am_let (p5.2 223 261 : Int32) fun t7 =>
              if am_in ((16 * t6) + t7) 264 = true then (
              if am_in ((16 * t6) + t7) 264 = true then (
              am_let (am_up p5.2 223 ((16 * t6) + t7).toNatClampNeg (m_greater (p5.2 223 ((16 * t6) + t7).toNatClampNeg) (p5.2 223 262)) : Nat → Nat → Int32) fun f9 =>
              if am_in ((16 * t6) + t7) 264 = true then (
              if am_in ((16 * t7) + t6) 264 = true then (
              am_let (am_up f9 223 ((16 * t7) + t6).toNatClampNeg (f9 223 ((16 * t6) + t7).toNatClampNeg) : Nat → Nat → Int32) fun f10 =>
              some (true, f10)) else none) else none) else none) else none)
            else (
              some (false, p5.2)))
          else (
            some (false, p4.2))))
      else (
        (m_number 261 0 15 p2.2).bind fun p11 =>
        if p11.1 = true then (
          (m_number 262 1 9 p11.2).bind fun p12 =>
          if p12.1 = true then (
            am_let (p12.2 223 260 : Int32) fun t13 =>
            am_let (p12.2 223 261 : Int32) fun t14 =>
            if am_in ((16 * t13) + t14) 264 = true then (
            if am_in ((16 * t13) + t14) 264 = true then (
            am_let (am_up p12.2 223 ((16 * t13) + t14).toNatClampNeg (m_greater (p12.2 223 ((16 * t13) + t14).toNatClampNeg) (p12.2 223 262)) : Nat → Nat → Int32) fun f16 =>
            if am_in ((16 * t13) + t14) 264 = true then (
            if am_in ((16 * t14) + t13) 264 = true then (
            am_let (am_up f16 223 ((16 * t14) + t13).toNatClampNeg (f16 223 ((16 * t13) + t14).toNatClampNeg) : Nat → Nat → Int32) fun f17 =>
            some (true, f17)) else none) else none) else none) else none)
          else (
            some (false, p12.2)))
        else (
          some (false, p11.2))))
    else (
      some (false, p2.2)))
  else (
    some (false, p1.2))
def m_aSecret (f : (Nat → Nat → Int32)) : Option (Bool × (Nat → Nat → Int32)) :=
  (m_told 260 17 0 ((f 217 70) - 1) f).bind fun p1 =>
  if p1.1 = true then (
    (m_told 261 18 0 15 p1.2).bind fun p2 =>
    if p2.1 = true then (
      am_let ((1 <<< ((p2.2 223 261) &&& 31)) : Int32) fun t3 =>
      (am_loop (fun (s4 : Int32 × Int32 × (Nat → Nat → Int32)) => ((
        if s4.2.2 216 18 = 2 then (
          if (m_isIn (s4.2.2 216 20) 0 15) = true then (
            if s4.2.1 = 6 then (
              am_let (m_bad 3 s4.2.2) fun p6 =>
              some (.inr (.inl (p6.1, p6.2))))
            else (
              am_let (s4.2.1 + 1 : Int32) fun t7 =>
              am_let ((s4.1 ||| (1 <<< ((s4.2.2 216 20) &&& 31))) : Int32) fun t8 =>
              (m_next0  s4.2.2).bind fun p9 =>
              some (.inl (t8, t7, p9))))
          else (
            am_let (m_bad 2 s4.2.2) fun p10 =>
            some (.inr (.inl (p10.1, p10.2)))))
        else (
          some (.inr (.inr (s4.1, s4.2.2))))) : Option ((Int32 × Int32 × (Nat → Nat → Int32)) ⊕ ((Bool × (Nat → Nat → Int32)) ⊕ (Int32 × (Nat → Nat → Int32)))))) am_F (t3, 1, p2.2)).bind fun e11 =>
      e11.elim (fun v => some v) fun e12 =>
      if am_in (e12.2 223 260) 264 = true then (
      am_let (am_up e12.2 223 (e12.2 223 260).toNatClampNeg e12.1 : Nat → Nat → Int32) fun f13 =>
      some (true, f13)) else none)
    else (
      some (false, p2.2)))
  else (
    some (false, p1.2))
def m_aRow (f : (Nat → Nat → Int32)) : Option (Bool × (Nat → Nat → Int32)) :=
  if f 216 12 = 1 then (
    (m_aWalk  f).bind fun p1 =>
    if p1.1 = true then (
      (m_need 159 p1.2).bind fun p2 =>
      if p2.1 = true then (
        some (true, p2.2))
      else (
        some (false, p2.2)))
    else (
      some (false, p1.2)))
  else (
    if f 216 12 = 2 then (
      (m_aNearness  f).bind fun p3 =>
      if p3.1 = true then (
        (m_need 159 p3.2).bind fun p4 =>
        if p4.1 = true then (
          some (true, p4.2))
        else (
          some (false, p4.2)))
      else (
        some (false, p3.2)))
    else (
      (m_aSecret  f).bind fun p5 =>
      if p5.1 = true then (
        (m_need 159 p5.2).bind fun p6 =>
        if p6.1 = true then (
          some (true, p6.2))
        else (
          some (false, p6.2)))
      else (
        some (false, p5.2))))
def m_readsRows (f : (Nat → Nat → Int32)) : Option (Bool × (Nat → Nat → Int32)) :=
  am_let (am_up f 216 15 0 : Nat → Nat → Int32) fun f1 =>
  (am_loop (fun (s2 : Int32 × (Nat → Nat → Int32)) => ((
    if s2.1 < 256 then (
      if am_in s2.1 264 = true then (
      am_let (am_up s2.2 223 s2.1.toNatClampNeg 0 : Nat → Nat → Int32) fun f3 =>
      am_let (s2.1 + 1 : Int32) fun t4 =>
      some (.inl (t4, f3))) else none)
    else (
      some (.inr s2.2))) : Option ((Int32 × (Nat → Nat → Int32)) ⊕ ((Nat → Nat → Int32))))) am_F (0, f1)).bind fun e5 =>
  am_let ((if e5 216 12 = 1 then (
      7)
    else (
      if e5 216 12 = 2 then (
        15)
      else (
        17))) : Int32) fun t6 =>
  (am_loop (fun (s7 : Bool × (Nat → Nat → Int32)) => ((
    if s7.1 = true then (
      if s7.2 216 18 = 0 then (
        some (.inr (.inr (s7.1, s7.2))))
      else (
        if s7.2 216 18 = t6 then (
          if s7.2 216 15 = 16 then (
            am_let (m_bad 3 s7.2) fun p8 =>
            some (.inr (.inl (p8.1, p8.2))))
          else (
            (m_aRow  s7.2).bind fun p9 =>
            am_let ((if p9.1 = true then (
                true)
              else (
                false)) : Bool) fun t10 =>
            am_let (am_up p9.2 216 15 ((p9.2 216 15) + (am_b t10)) : Nat → Nat → Int32) fun f11 =>
            some (.inl (p9.1, f11))))
        else (
          am_let (m_bad 1 s7.2) fun p12 =>
          some (.inr (.inl (p12.1, p12.2))))))
    else (
      some (.inr (.inr (s7.1, s7.2))))) : Option ((Bool × (Nat → Nat → Int32)) ⊕ ((Bool × (Nat → Nat → Int32)) ⊕ (Bool × (Nat → Nat → Int32)))))) am_F (true, e5)).bind fun e13 =>
  e13.elim (fun v => some v) fun e14 =>
  some (e14.1, e14.2)
def m_putsLaw (f : (Nat → Nat → Int32)) : Option (Int32 × (Nat → Nat → Int32)) :=
  am_let (am_up f 217 71 (f 216 13) : Nat → Nat → Int32) fun f1 =>
  (am_loop (fun (s2 : Int32 × (Nat → Nat → Int32)) => ((
    if s2.1 < s2.2 216 13 then (
      if am_in (4 * s2.1) 64 = true then (
      if am_in (1124 + s2.1) 2008 = true then (
      am_let (am_up s2.2 217 (1124 + s2.1).toNatClampNeg (s2.2 221 (4 * s2.1).toNatClampNeg) : Nat → Nat → Int32) fun f3 =>
      if am_in ((4 * s2.1) + 1) 64 = true then (
      if am_in (1140 + s2.1) 2008 = true then (
      am_let (am_up f3 217 (1140 + s2.1).toNatClampNeg (f3 221 ((4 * s2.1) + 1).toNatClampNeg) : Nat → Nat → Int32) fun f4 =>
      if am_in ((4 * s2.1) + 2) 64 = true then (
      if am_in (1156 + s2.1) 2008 = true then (
      am_let (am_up f4 217 (1156 + s2.1).toNatClampNeg (f4 221 ((4 * s2.1) + 2).toNatClampNeg) : Nat → Nat → Int32) fun f5 =>
      if am_in ((4 * s2.1) + 3) 64 = true then (
      if am_in (1172 + s2.1) 2008 = true then (
      am_let (am_up f5 217 (1172 + s2.1).toNatClampNeg (f5 221 ((4 * s2.1) + 3).toNatClampNeg) : Nat → Nat → Int32) fun f6 =>
      am_let (s2.1 + 1 : Int32) fun t7 =>
      some (.inl (t7, f6))) else none) else none) else none) else none) else none) else none) else none) else none)
    else (
      some (.inr s2.2))) : Option ((Int32 × (Nat → Nat → Int32)) ⊕ ((Nat → Nat → Int32))))) am_F (0, f1)).bind fun e8 =>
  am_loop (fun (s9 : Int32 × (Nat → Nat → Int32)) => ((
    if s9.1 < (2 * (s9.2 216 14)) then (
      if am_in s9.1 820 = true then (
      if am_in (1188 + s9.1) 2008 = true then (
      am_let (am_up s9.2 217 (1188 + s9.1).toNatClampNeg (s9.2 222 s9.1.toNatClampNeg) : Nat → Nat → Int32) fun f10 =>
      am_let (s9.1 + 1 : Int32) fun t11 =>
      some (.inl (t11, f10))) else none) else none)
    else (
      some (.inr (s9.2 216 13, s9.2)))) : Option ((Int32 × (Nat → Nat → Int32)) ⊕ (Int32 × (Nat → Nat → Int32))))) am_F (0, e8)
def m_puts (a0 : Int32) (a1 : Int32) (a2 : Int32) (f : (Nat → Nat → Int32)) : Option (Int32 × (Nat → Nat → Int32)) :=
  if am_in a0 2008 = true then (
  am_let (am_up f 217 a0.toNatClampNeg (f 216 15) : Nat → Nat → Int32) fun f1 =>
  am_loop (fun (s2 : Int32 × (Nat → Nat → Int32)) => ((
    if s2.1 < a2 then (
      if am_in s2.1 264 = true then (
      if am_in (a1 + s2.1) 2008 = true then (
      am_let (am_up s2.2 217 (a1 + s2.1).toNatClampNeg (s2.2 223 s2.1.toNatClampNeg) : Nat → Nat → Int32) fun f3 =>
      am_let (s2.1 + 1 : Int32) fun t4 =>
      some (.inl (t4, f3))) else none) else none)
    else (
      some (.inr (s2.2 216 15, s2.2)))) : Option ((Int32 × (Nat → Nat → Int32)) ⊕ (Int32 × (Nat → Nat → Int32))))) am_F (0, f1)) else none
def m_putsText (a0 : Int32) (f : (Nat → Nat → Int32)) : Option (Int32 × (Nat → Nat → Int32)) :=
  if a0 = 0 then (
    (m_putsLaw  f).bind fun p1 =>
    some (p1.1, p1.2))
  else (
    if a0 = 2 then (
      (m_puts 73 87 256 f).bind fun p2 =>
      some (p2.1, p2.2))
    else (
      am_let (m_forgets  f) fun p3 =>
      if a0 = 1 then (
        (m_puts 72 343 (4 * (p3 216 15)) p3).bind fun p4 =>
        some (p4.1, p4.2))
      else (
        (m_puts 74 75 12 p3).bind fun p5 =>
        some (p5.1, p5.2))))
