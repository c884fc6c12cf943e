def x_forgetPasts (f : (Nat → Nat → Int32)) : (Nat → Nat → Int32) :=
  am_let (am_up f 0 4 0 : Nat → Nat → Int32) fun f1 =>
  f1
def x_state (a0 : Int32) (f : (Nat → Nat → Int32)) : Int32 × (Nat → Nat → Int32) :=
  am_let (f 2 3 : Int32) fun t1 =>
  am_let (am_up f 2 3 a0 : Nat → Nat → Int32) fun f2 =>
  am_let (x_forgetPasts  f2) fun p3 =>
  (t1, p3)
def x_within (a0 : Int32) (a1 : Int32) (a2 : Int32)  : Bool :=
  if a0 < a1 then (
    false)
  else (
    if a2 < a0 then (
      false)
    else (
      true))
def xc_addGlass_2 (a0 : Int32) (f : (Nat → Nat → Int32)) : Option (Int32 × (Nat → Nat → Int32)) :=
  am_let (f 2 0 : Int32) fun t1 =>
  if am_in t1 6 = true then (
  am_let (am_up f 3 t1.toNatClampNeg a0 : Nat → Nat → Int32) fun f2 =>
  if am_in t1 6 = true then (
  am_let (am_up f2 4 t1.toNatClampNeg 300 : Nat → Nat → Int32) fun f3 =>
  if am_in t1 6 = true then (
  am_let (am_up f3 5 t1.toNatClampNeg (-1) : Nat → Nat → Int32) fun f4 =>
  if am_in t1 6 = true then (
  am_let (am_up f4 6 t1.toNatClampNeg (-1) : Nat → Nat → Int32) fun f5 =>
  if am_in t1 6 = true then (
  am_let (am_up f5 7 t1.toNatClampNeg 0 : Nat → Nat → Int32) fun f6 =>
  am_let (am_up f6 2 0 ((f6 2 0) + 1) : Nat → Nat → Int32) fun f7 =>
  some (t1, f7)) else none) else none) else none) else none) else none
def x_glass (a0 : Int32) (f : (Nat → Nat → Int32)) : Option (Int32 × (Nat → Nat → Int32)) :=
  if (x_within a0 0 99) = true then (
    if f 2 0 < 6 then (
      am_let (x_forgetPasts  f) fun p2 =>
      (xc_addGlass_2 a0 p2).bind fun p3 =>
      some (p3.1, p3.2))
    else (
      some ((-1), f)))
  else (
    some ((-1), f))
def xc_addWitness_2 (a0 : Int32) (f : (Nat → Nat → Int32)) : Option (Int32 × (Nat → Nat → Int32)) :=
  am_let (f 2 1 : Int32) fun t1 =>
  if am_in t1 12 = true then (
  am_let (am_up f 8 t1.toNatClampNeg a0 : Nat → Nat → Int32) fun f2 =>
  if am_in t1 12 = true then (
  am_let (am_up f2 9 t1.toNatClampNeg 0 : Nat → Nat → Int32) fun f3 =>
  if am_in t1 12 = true then (
  am_let (am_up f3 10 t1.toNatClampNeg 0 : Nat → Nat → Int32) fun f4 =>
  if am_in t1 12 = true then (
  am_let (am_up f4 11 t1.toNatClampNeg 0 : Nat → Nat → Int32) fun f5 =>
  am_let (am_up f5 2 1 ((f5 2 1) + 1) : Nat → Nat → Int32) fun f6 =>
  some (t1, f6)) else none) else none) else none) else none
def x_witness (a0 : Int32) (f : (Nat → Nat → Int32)) : Option (Int32 × (Nat → Nat → Int32)) :=
  if (x_within a0 0 9) = true then (
    if f 2 1 < 12 then (
      am_let (x_forgetPasts  f) fun p2 =>
      (xc_addWitness_2 a0 p2).bind fun p3 =>
      some (p3.1, p3.2))
    else (
      some ((-1), f)))
  else (
    some ((-1), f))
def xc_hasGlass_2 (a0 : Int32) (f : (Nat → Nat → Int32)) : Bool :=
  if a0 < 0 then (
    false)
  else (
    if a0 < f 2 0 then (
      true)
    else (
      false))
def xc_hasWitness_2 (a0 : Int32) (f : (Nat → Nat → Int32)) : Bool :=
  if a0 < 0 then (
    false)
  else (
    if a0 < f 2 1 then (
      true)
    else (
      false))
def x_set (a0 : Int32) (a1 : Int32) (a2 : Int32) (f : (Nat → Nat → Int32)) : Option (Bool × (Nat → Nat → Int32)) :=
  if a0 = 0 then (
    if (xc_hasGlass_2 a1 f) = true then (
      if (x_within a2 0 99) = true then (
        if am_in a1 6 = true then (
        am_let (am_up f 3 a1.toNatClampNeg a2 : Nat → Nat → Int32) fun f3 =>
        am_let (x_forgetPasts  f3) fun p4 =>
        some (true, p4)) else none)
      else (
        if a0 = 1 then (
          if (xc_hasGlass_2 a1 f) = true then (
            if (x_within a2 300 420) = true then (
              if am_in a1 6 = true then (
              am_let (am_up f 4 a1.toNatClampNeg a2 : Nat → Nat → Int32) fun f7 =>
              am_let (x_forgetPasts  f7) fun p8 =>
              some (true, p8)) else none)
            else (
              if a0 = 2 then (
                if (xc_hasWitness_2 a1 f) = true then (
                  if (x_within a2 0 9) = true then (
                    if am_in a1 12 = true then (
                    am_let (am_up f 8 a1.toNatClampNeg a2 : Nat → Nat → Int32) fun f11 =>
                    am_let (x_forgetPasts  f11) fun p12 =>
                    some (true, p12)) else none)
                  else (
                    some (false, f)))
                else (
                  some (false, f)))
              else (
                some (false, f))))
          else (
            if a0 = 2 then (
              if (xc_hasWitness_2 a1 f) = true then (
                if (x_within a2 0 9) = true then (
                  if am_in a1 12 = true then (
                  am_let (am_up f 8 a1.toNatClampNeg a2 : Nat → Nat → Int32) fun f15 =>
                  am_let (x_forgetPasts  f15) fun p16 =>
                  some (true, p16)) else none)
                else (
                  some (false, f)))
              else (
                some (false, f)))
            else (
              some (false, f))))
        else (
          if a0 = 2 then (
            if (xc_hasWitness_2 a1 f) = true then (
              if (x_within a2 0 9) = true then (
                if am_in a1 12 = true then (
                am_let (am_up f 8 a1.toNatClampNeg a2 : Nat → Nat → Int32) fun f19 =>
                am_let (x_forgetPasts  f19) fun p20 =>
                some (true, p20)) else none)
              else (
                some (false, f)))
            else (
              some (false, f)))
          else (
            some (false, f)))))
    else (
      if a0 = 1 then (
        if (xc_hasGlass_2 a1 f) = true then (
          if (x_within a2 300 420) = true then (
            if am_in a1 6 = true then (
            am_let (am_up f 4 a1.toNatClampNeg a2 : Nat → Nat → Int32) fun f23 =>
            am_let (x_forgetPasts  f23) fun p24 =>
            some (true, p24)) else none)
          else (
            if a0 = 2 then (
              if (xc_hasWitness_2 a1 f) = true then (
                if (x_within a2 0 9) = true then (
                  if am_in a1 12 = true then (
                  am_let (am_up f 8 a1.toNatClampNeg a2 : Nat → Nat → Int32) fun f27 =>
                  am_let (x_forgetPasts  f27) fun p28 =>
                  some (true, p28)) else none)
                else (
                  some (false, f)))
              else (
                some (false, f)))
            else (
              some (false, f))))
        else (
          if a0 = 2 then (
            if (xc_hasWitness_2 a1 f) = true then (
              if (x_within a2 0 9) = true then (
                if am_in a1 12 = true then (
                am_let (am_up f 8 a1.toNatClampNeg a2 : Nat → Nat → Int32) fun f31 =>
                am_let (x_forgetPasts  f31) fun p32 =>
                some (true, p32)) else none)
              else (
                some (false, f)))
            else (
              some (false, f)))
          else (
            some (false, f))))
      else (
        if a0 = 2 then (
          if (xc_hasWitness_2 a1 f) = true then (
            if (x_within a2 0 9) = true then (
              if am_in a1 12 = true then (
              am_let (am_up f 8 a1.toNatClampNeg a2 : Nat → Nat → Int32) fun f35 =>
              am_let (x_forgetPasts  f35) fun p36 =>
              some (true, p36)) else none)
            else (
              some (false, f)))
          else (
            some (false, f)))
        else (
          some (false, f)))))
  else (
    if a0 = 1 then (
      if (xc_hasGlass_2 a1 f) = true then (
        if (x_within a2 300 420) = true then (
          if am_in a1 6 = true then (
          am_let (am_up f 4 a1.toNatClampNeg a2 : Nat → Nat → Int32) fun f39 =>
          am_let (x_forgetPasts  f39) fun p40 =>
          some (true, p40)) else none)
        else (
          if a0 = 2 then (
            if (xc_hasWitness_2 a1 f) = true then (
              if (x_within a2 0 9) = true then (
                if am_in a1 12 = true then (
                am_let (am_up f 8 a1.toNatClampNeg a2 : Nat → Nat → Int32) fun f43 =>
                am_let (x_forgetPasts  f43) fun p44 =>
                some (true, p44)) else none)
              else (
                some (false, f)))
            else (
              some (false, f)))
          else (
            some (false, f))))
      else (
        if a0 = 2 then (
          if (xc_hasWitness_2 a1 f) = true then (
            if (x_within a2 0 9) = true then (
              if am_in a1 12 = true then (
              am_let (am_up f 8 a1.toNatClampNeg a2 : Nat → Nat → Int32) fun f47 =>
              am_let (x_forgetPasts  f47) fun p48 =>
              some (true, p48)) else none)
            else (
              some (false, f)))
          else (
            some (false, f)))
        else (
          some (false, f))))
    else (
      if a0 = 2 then (
        if (xc_hasWitness_2 a1 f) = true then (
          if (x_within a2 0 9) = true then (
            if am_in a1 12 = true then (
            am_let (am_up f 8 a1.toNatClampNeg a2 : Nat → Nat → Int32) fun f51 =>
            am_let (x_forgetPasts  f51) fun p52 =>
            some (true, p52)) else none)
          else (
            some (false, f)))
        else (
          some (false, f)))
      else (
        some (false, f))))
def xc_glassOf_2 (a0 : Int32) (f : (Nat → Nat → Int32)) : Option (Int32) :=
  am_loop (fun (s1 : Int32) => ((
    if s1 < f 2 0 then (
      if am_in s1 6 = true then (
      if f 5 s1.toNatClampNeg = a0 then (
        some (.inr s1))
      else (
        am_let (s1 + 1 : Int32) fun t2 =>
        some (.inl t2))) else none)
    else (
      some (.inr (-1)))) : Option ((Int32) ⊕ (Int32)))) am_F 0
def xc_canGoUnder_2 (a0 : Int32) (a1 : Int32) (f : (Nat → Nat → Int32)) : Option (Bool) :=
  if (xc_hasWitness_2 a1 f) = true then (
    if am_in a0 6 = true then (
    if f 5 a0.toNatClampNeg = (-1) then (
      (xc_glassOf_2 a1 f).bind fun p2 =>
      if p2 = (-1) then (
        some true)
      else (
        some false))
    else (
      some false)) else none)
  else (
    some false)
def x_isTopic (a0 : Int32)  : Bool :=
  (x_within a0 0 15)
def x_canAct (a0 : Int32) (a1 : Int32) (a2 : Int32) (f : (Nat → Nat → Int32)) : Option (Bool) :=
  if a0 = 0 then (
    (xc_canGoUnder_2 a1 a2 f).bind fun p1 =>
    some p1)
  else if a0 = 1 then (
    if am_in a1 6 = true then (
    if f 5 a1.toNatClampNeg = (-1) then (
      some false)
    else (
      some true)) else none)
  else if a0 = 2 then (
    if (x_isTopic a2) = true then (
      if am_in a1 6 = true then (
      if f 6 a1.toNatClampNeg = a2 then (
        some false)
      else (
        some true)) else none)
    else (
      some false))
  else if a0 = 3 then (
    if am_in a1 6 = true then (
    if 300 < f 4 a1.toNatClampNeg then (
      some true)
    else (
      some false)) else none)
  else if a0 = 4 then (
    if am_in a1 6 = true then (
    if 0 < f 3 a1.toNatClampNeg then (
      some true)
    else (
      some false)) else none)
  else (some false)
def xk_write_12_2 (a0 : Int32) (a1 : Int32) (a2 : Int32) (f : (Nat → Nat → Int32)) : Option ((Nat → Nat → Int32)) :=
  if f 2 4 < 150 then (
    am_let ((4 * (f 2 4)) : Int32) fun t1 =>
    if am_in t1 600 = true then (
    am_let (am_up f 13 t1.toNatClampNeg (f 2 2) : Nat → Nat → Int32) fun f2 =>
    if am_in (t1 + 1) 600 = true then (
    am_let (am_up f2 13 (t1 + 1).toNatClampNeg a0 : Nat → Nat → Int32) fun f3 =>
    if am_in (t1 + 2) 600 = true then (
    am_let (am_up f3 13 (t1 + 2).toNatClampNeg a1 : Nat → Nat → Int32) fun f4 =>
    if am_in (t1 + 3) 600 = true then (
    am_let (am_up f4 13 (t1 + 3).toNatClampNeg a2 : Nat → Nat → Int32) fun f5 =>
    am_let (am_up f5 2 4 ((f5 2 4) + 1) : Nat → Nat → Int32) fun f6 =>
    some f6) else none) else none) else none) else none)
  else (
    some f)
def xb_note_2 (a0 : Int32) (a1 : Int32) (a2 : Int32) (a3 : Bool) (f : (Nat → Nat → Int32)) : Option ((Nat → Nat → Int32)) :=
  if a3 = true then (
    (xk_write_12_2 a0 a1 a2 f).bind fun p1 =>
    some p1)
  else (
    some f)
def xb_putUnder_2 (a0 : Int32) (a1 : Int32) (a2 : Bool) (f : (Nat → Nat → Int32)) : Option ((Nat → Nat → Int32)) :=
  (xc_canGoUnder_2 a0 a1 f).bind fun p1 =>
  if p1 = true then (
    if am_in a0 6 = true then (
    am_let (am_up f 5 a0.toNatClampNeg a1 : Nat → Nat → Int32) fun f2 =>
    if am_in a1 12 = true then (
    if am_in a1 12 = true then (
    am_let (am_up f2 10 a1.toNatClampNeg ((f2 10 a1.toNatClampNeg) + 1) : Nat → Nat → Int32) fun f3 =>
    (xb_note_2 0 a0 a1 a2 f3).bind fun p4 =>
    some p4) else none) else none) else none)
  else (
    some f)
def xb_takeOut_2 (a0 : Int32) (a1 : Bool) (f : (Nat → Nat → Int32)) : Option ((Nat → Nat → Int32)) :=
  if am_in a0 6 = true then (
  am_let (f 5 a0.toNatClampNeg : Int32) fun t1 =>
  if t1 = (-1) then (
    some f)
  else (
    if am_in a0 6 = true then (
    am_let (am_up f 5 a0.toNatClampNeg (-1) : Nat → Nat → Int32) fun f2 =>
    (xb_note_2 1 a0 t1 a1 f2).bind fun p3 =>
    some p3) else none)) else none
def x_act (a0 : Int32) (a1 : Int32) (a2 : Int32) (f : (Nat → Nat → Int32)) : Option (Bool × (Nat → Nat → Int32)) :=
  if (xc_hasGlass_2 a1 f) = true then (
    (x_canAct a0 a1 a2 f).bind fun p2 =>
    if p2 = true then (
      (x_keepPast  f).bind fun p3 =>
      if a0 = 0 then (
        (xb_putUnder_2 a1 a2 true p3).bind fun p4 =>
        some (true, p4))
      else if a0 = 1 then (
        (xb_takeOut_2 a1 true p3).bind fun p5 =>
        some (true, p5))
      else if a0 = 2 then (
        if am_in a1 6 = true then (
        am_let (am_up p3 6 a1.toNatClampNeg a2 : Nat → Nat → Int32) fun f6 =>
        some (true, f6)) else none)
      else if a0 = 3 then (
        if am_in a1 6 = true then (
        am_let (am_up p3 4 a1.toNatClampNeg 300 : Nat → Nat → Int32) fun f7 =>
        some (true, f7)) else none)
      else (if am_in a1 6 = true then (
        am_let (am_up p3 3 a1.toNatClampNeg 0 : Nat → Nat → Int32) fun f8 =>
        some (true, f8)) else none))
    else (
      some (false, f)))
  else (
    some (false, f))
def xb_walkLine_2 (a0 : Int32) (a1 : Bool) (f : (Nat → Nat → Int32)) : Option ((Nat → Nat → Int32)) :=
  if am_in a0 16 = true then (
  am_let (f 22 a0.toNatClampNeg : Int32) fun t1 =>
  if am_in a0 16 = true then (
  am_let (f 24 a0.toNatClampNeg : Int32) fun t2 =>
  if am_in a0 16 = true then (
  if f 23 a0.toNatClampNeg = 2 then (
    if am_in t1 6 = true then (
    am_let (am_up f 6 t1.toNatClampNeg t2 : Nat → Nat → Int32) fun f3 =>
    some f3) else none)
  else if f 23 a0.toNatClampNeg = 3 then (
    if am_in t1 6 = true then (
    am_let (am_up f 6 t1.toNatClampNeg (-1) : Nat → Nat → Int32) fun f4 =>
    some f4) else none)
  else if f 23 a0.toNatClampNeg = 4 then (
    if am_in t1 6 = true then (
    am_let (am_up f 4 t1.toNatClampNeg 300 : Nat → Nat → Int32) fun f5 =>
    some f5) else none)
  else if f 23 a0.toNatClampNeg = 5 then (
    if am_in t1 6 = true then (
    am_let (am_up f 3 t1.toNatClampNeg 0 : Nat → Nat → Int32) fun f6 =>
    some f6) else none)
  else if f 23 a0.toNatClampNeg = 6 then (
    (xb_putUnder_2 t1 t2 a1 f).bind fun p7 =>
    some p7)
  else ((xb_takeOut_2 t1 a1 f).bind fun p8 =>
    some p8)) else none) else none) else none
def xn_between_25 (a0 : Int32) (a1 : Int32) (f : (Nat → Nat → Int32)) : Option (Int32) :=
  if am_in ((16 * a0) + a1) 256 = true then (
  some (f 26 ((16 * a0) + a1).toNatClampNeg)) else none
def xn_nearness_25 (a0 : Int32) (a1 : Int32) (f : (Nat → Nat → Int32)) : Option (Int32) :=
  if a1 < 0 then (
    some 0)
  else (
    if a1 < 16 then (
      if ((a0 >>> (a1 &&& 31)) &&& 1) = 1 then (
        some 10)
      else (
        am_loop (fun (s1 : Int32 × Int32) => ((
          if s1.2 < 16 then (
            ((if ((a0 >>> (s1.2 &&& 31)) &&& 1) = 1 then (
                (xn_between_25 a1 s1.2 f).bind fun p2 =>
                if s1.1 < p2 then (
                  (xn_between_25 a1 s1.2 f).bind fun p3 =>
                  some p3)
                else (
                  some s1.1))
              else (
                some s1.1)) : Option (Int32)).bind fun t4 =>
            am_let (s1.2 + 1 : Int32) fun t5 =>
            some (.inl (t4, t5)))
          else (
            some (.inr s1.1))) : Option ((Int32 × Int32) ⊕ (Int32)))) am_F (0, 0)))
    else (
      some 0))
def ji_bitCount (a0 : Int32)  : Int32 :=
  am_let ((a0 - (((a0.toUInt32 >>> ((1 : Int32).toUInt32 &&& Int32.toUInt32 31)).toInt32) &&& 1431655765)) : Int32) fun t1 =>
  am_let (((t1 &&& 858993459) + (((t1.toUInt32 >>> ((2 : Int32).toUInt32 &&& Int32.toUInt32 31)).toInt32) &&& 858993459)) : Int32) fun t2 =>
  am_let (((t2 + ((t2.toUInt32 >>> ((4 : Int32).toUInt32 &&& Int32.toUInt32 31)).toInt32)) &&& 252645135) : Int32) fun t3 =>
  am_let ((t3 + ((t3.toUInt32 >>> ((8 : Int32).toUInt32 &&& Int32.toUInt32 31)).toInt32)) : Int32) fun t4 =>
  am_let ((t4 + ((t4.toUInt32 >>> ((16 : Int32).toUInt32 &&& Int32.toUInt32 31)).toInt32)) : Int32) fun t5 =>
  (t5 &&& 63)
def xb_behold_2 (a0 : Int32) (f : (Nat → Nat → Int32)) : Option ((Nat → Nat → Int32)) :=
  if am_in a0 6 = true then (
  am_let (f 5 a0.toNatClampNeg : Int32) fun t1 =>
  am_let ((xc_hasWitness_2 t1 f) : Bool) fun t3 =>
  ((if t3 = true then (
      if am_in t1 12 = true then (
      if am_in a0 6 = true then (
      (xn_nearness_25 (f 9 t1.toNatClampNeg) (f 6 a0.toNatClampNeg) f).bind fun p4 =>
      some p4) else none) else none)
    else (
      some 0)) : Option (Int32)).bind fun t5 =>
  am_let (am_up f 121 7 t5 : Nat → Nat → Int32) fun f6 =>
  ((if t3 = true then (
      if am_in t1 12 = true then (
      some (f6 8 t1.toNatClampNeg)) else none)
    else (
      some 0)) : Option (Int32)).bind fun t7 =>
  am_let (am_up f6 121 8 t7 : Nat → Nat → Int32) fun f8 =>
  if am_in a0 6 = true then (
  am_let (am_up f8 121 9 (f8 4 a0.toNatClampNeg) : Nat → Nat → Int32) fun f9 =>
  if am_in a0 6 = true then (
  am_let (am_up f9 121 10 (f9 3 a0.toNatClampNeg) : Nat → Nat → Int32) fun f10 =>
  if am_in a0 6 = true then (
  am_let ((if f10 6 a0.toNatClampNeg = (-1) then (
      false)
    else (
      true)) : Bool) fun t11 =>
  am_let (am_up f10 121 11 (am_b t11) : Nat → Nat → Int32) fun f12 =>
  ((if t3 = true then (
      if am_in t1 12 = true then (
      some (ji_bitCount (f12 9 t1.toNatClampNeg))) else none)
    else (
      some 0)) : Option (Int32)).bind fun t14 =>
  am_let (am_up f12 121 12 t14 : Nat → Nat → Int32) fun f15 =>
  ((if t3 = true then (
      if am_in t1 12 = true then (
      some (f15 10 t1.toNatClampNeg)) else none)
    else (
      some 0)) : Option (Int32)).bind fun t16 =>
  am_let (am_up f15 121 13 t16 : Nat → Nat → Int32) fun f17 =>
  if am_in a0 6 = true then (
  am_let (am_up f17 121 14 (f17 7 a0.toNatClampNeg) : Nat → Nat → Int32) fun f18 =>
  am_let (am_up f18 121 15 a0 : Nat → Nat → Int32) fun f19 =>
  am_let (am_up f19 121 16 (f19 2 2) : Nat → Nat → Int32) fun f20 =>
  some f20) else none) else none) else none) else none) else none
def xb_joined (a0 : Int32) (a1 : Int32) (a2 : Int32)  : Option (Int32) :=
  if a0 = 38 then (
    some (a1 &&& a2))
  else if a0 = 42 then (
    some (a1 * a2))
  else if a0 = 43 then (
    some (a1 + a2))
  else if a0 = 45 then (
    some (a1 - a2))
  else if a0 = 47 then (
    if a2 = 0 then (
      some 0)
    else (
      if a2 = 0 then none else
      some (a1 / a2)))
  else if a0 = 60 then (
    if a1 < a2 then (
      some 1)
    else (
      some 0))
  else if a0 = 61 then (
    if a1 = a2 then (
      some 1)
    else (
      some 0))
  else if a0 = 62 then (
    if a2 < a1 then (
      some 1)
    else (
      some 0))
  else (some (a1 ||| a2))
def xb_valueOf (a0 : Int32) (a1 : Int32) (f : (Nat → Nat → Int32)) : Option (Int32 × (Nat → Nat → Int32)) :=
  (am_loop (fun (s1 : Int32 × Int32 × (Nat → Nat → Int32)) => ((
    if s1.2.1 < a1 then (
      if s1.2.1 < s1.2.2 14 1 then (
        if s1.1 < (nI 64) then (
          if am_in s1.2.1 400 = true then (
          am_let (s1.2.2 15 s1.2.1.toNatClampNeg : Int32) fun t2 =>
          ((if t2 < 10000 then (
              if am_in s1.1 64 = true then (
              am_let (am_up s1.2.2 122 s1.1.toNatClampNeg t2 : Nat → Nat → Int32) fun f3 =>
              am_let (s1.1 + 1 : Int32) fun t4 =>
              some (t4, f3)) else none)
            else (
              if t2 < 20000 then (
                if am_in (t2 - 10000) 17 = true then (
                if am_in s1.1 64 = true then (
                am_let (am_up s1.2.2 122 s1.1.toNatClampNeg (s1.2.2 121 (t2 - 10000).toNatClampNeg) : Nat → Nat → Int32) fun f5 =>
                am_let (s1.1 + 1 : Int32) fun t6 =>
                some (t6, f5)) else none) else none)
              else (
                if t2 = 20033 then (
                  if 0 < s1.1 then (
                    if am_in (s1.1 - 1) 64 = true then (
                    if am_in (s1.1 - 1) 64 = true then (
                    am_let (am_up s1.2.2 122 (s1.1 - 1).toNatClampNeg (1 - (s1.2.2 122 (s1.1 - 1).toNatClampNeg)) : Nat → Nat → Int32) fun f7 =>
                    some (s1.1, f7)) else none) else none)
                  else (
                    if 1 < s1.1 then (
                      am_let (s1.1 + (-1) : Int32) fun t8 =>
                      if am_in (t8 - 1) 64 = true then (
                      if am_in t8 64 = true then (
                      (xb_joined (t2 - 20000) (s1.2.2 122 (t8 - 1).toNatClampNeg) (s1.2.2 122 t8.toNatClampNeg)).bind fun p9 =>
                      if am_in (t8 - 1) 64 = true then (
                      am_let (am_up s1.2.2 122 (t8 - 1).toNatClampNeg p9 : Nat → Nat → Int32) fun f10 =>
                      some (t8, f10)) else none) else none) else none)
                    else (
                      some (s1.1, s1.2.2))))
                else (
                  if 1 < s1.1 then (
                    am_let (s1.1 + (-1) : Int32) fun t11 =>
                    if am_in (t11 - 1) 64 = true then (
                    if am_in t11 64 = true then (
                    (xb_joined (t2 - 20000) (s1.2.2 122 (t11 - 1).toNatClampNeg) (s1.2.2 122 t11.toNatClampNeg)).bind fun p12 =>
                    if am_in (t11 - 1) 64 = true then (
                    am_let (am_up s1.2.2 122 (t11 - 1).toNatClampNeg p12 : Nat → Nat → Int32) fun f13 =>
                    some (t11, f13)) else none) else none) else none)
                  else (
                    some (s1.1, s1.2.2)))))) : Option (Int32 × (Nat → Nat → Int32))).bind fun t14 =>
          am_let (s1.2.1 + 1 : Int32) fun t15 =>
          some (.inl (t14.1, t15, t14.2))) else none)
        else (
          some (.inr (s1.1, s1.2.2))))
      else (
        some (.inr (s1.1, s1.2.2))))
    else (
      some (.inr (s1.1, s1.2.2)))) : Option ((Int32 × Int32 × (Nat → Nat → Int32)) ⊕ (Int32 × (Nat → Nat → Int32))))) am_F (0, a0, f)).bind fun e16 =>
  if 0 < e16.1 then (
    some (e16.2 122 0, e16.2))
  else (
    some (0, e16.2))
def xb_told (a0 : Int32) (f : (Nat → Nat → Int32)) : Option (Int32 × (Nat → Nat → Int32)) :=
  am_let ((if a0 = 1 then (
      1000)
    else (
      99)) : Int32) fun t1 =>
  (am_loop (fun (s2 : Int32 × (Nat → Nat → Int32)) => ((
    if s2.1 < s2.2 14 0 then (
      if am_in s2.1 16 = true then (
      am_let ((if s2.2 16 s2.1.toNatClampNeg = a0 then (
          true)
        else (
          false)) : Bool) fun t3 =>
      if t3 = true then (
        if am_in s2.1 16 = true then (
        if am_in s2.1 16 = true then (
        if s2.2 18 s2.1.toNatClampNeg = s2.2 19 s2.1.toNatClampNeg then (
          if am_in s2.1 16 = true then (
          if am_in s2.1 16 = true then (
          (xb_valueOf (s2.2 17 s2.1.toNatClampNeg) (s2.2 18 s2.1.toNatClampNeg) s2.2).bind fun p4 =>
          some (.inr (.inl ((am_max 0 (am_min t1 p4.1)), p4.2)))) else none) else none)
        else (
          if am_in s2.1 16 = true then (
          if am_in s2.1 16 = true then (
          (xb_valueOf (s2.2 18 s2.1.toNatClampNeg) (s2.2 19 s2.1.toNatClampNeg) s2.2).bind fun p5 =>
          if p5.1 = 0 then (
            am_let (s2.1 + 1 : Int32) fun t6 =>
            some (.inl (t6, p5.2)))
          else (
            if am_in s2.1 16 = true then (
            if am_in s2.1 16 = true then (
            (xb_valueOf (p5.2 17 s2.1.toNatClampNeg) (p5.2 18 s2.1.toNatClampNeg) p5.2).bind fun p7 =>
            some (.inr (.inl ((am_max 0 (am_min t1 p7.1)), p7.2)))) else none) else none)) else none) else none)) else none) else none)
      else (
        am_let (s2.1 + 1 : Int32) fun t8 =>
        some (.inl (t8, s2.2)))) else none)
    else (
      some (.inr (.inr s2.2)))) : Option ((Int32 × (Nat → Nat → Int32)) ⊕ ((Int32 × (Nat → Nat → Int32)) ⊕ ((Nat → Nat → Int32)))))) am_F (0, f)).bind fun e9 =>
  e9.elim (fun v => some v) fun e10 =>
  if a0 = 0 then (
    some ((am_max 0 ((3 * (e10 121 7)) - (2 * (e10 121 8)))), e10))
  else (
    if a0 = 1 then (
      some (0, e10))
    else (
      some (5, e10)))
def xb_drawThousand_2 (f : (Nat → Nat → Int32)) : Int32 × (Nat → Nat → Int32) :=
  am_let (am_up f 2 3 ((1664525 * (f 2 3)) + 1013904223) : Nat → Nat → Int32) fun f1 =>
  (((((f1 2 3).toUInt32 >>> ((8 : Int32).toUInt32 &&& Int32.toUInt32 31)).toInt32) - (((f1 2 3).toUInt32 >>> ((8 : Int32).toUInt32 &&& Int32.toUInt32 31)).toInt32) / 1000 * 1000), f1)
def xb_slipsNow_2 (a0 : Bool) (f : (Nat → Nat → Int32)) : Option (Bool × (Nat → Nat → Int32)) :=
  (xb_told 1 f).bind fun p1 =>
  if a0 = true then (
    if 0 < p1.1 then (
      am_let (xb_drawThousand_2  p1.2) fun p2 =>
      if p2.1 < p1.1 then (
        some (true, p2.2))
      else (
        some (false, p2.2)))
    else (
      some (false, p1.2)))
  else (
    if p1.1 < 500 then (
      some (false, p1.2))
    else (
      some (true, p1.2)))
def xb_warm_2 (a0 : Int32) (a1 : Bool) (f : (Nat → Nat → Int32)) : Option ((Nat → Nat → Int32)) :=
  (xb_told 0 f).bind fun p1 =>
  if am_in a0 6 = true then (
  if am_in a0 6 = true then (
  am_let (am_up p1.2 4 a0.toNatClampNeg ((p1.2 4 a0.toNatClampNeg) + p1.1) : Nat → Nat → Int32) fun f2 =>
  ((if 0 < f2 121 7 then (
      if am_in a0 6 = true then (
      if f2 3 a0.toNatClampNeg < 99 then (
        if am_in a0 6 = true then (
        if am_in a0 6 = true then (
        am_let (am_up f2 3 a0.toNatClampNeg ((f2 3 a0.toNatClampNeg) + 1) : Nat → Nat → Int32) fun f3 =>
        some f3) else none) else none)
      else (
        some f2)) else none)
    else (
      some f2)) : Option ((Nat → Nat → Int32))).bind fun t4 =>
  if 0 < p1.1 then (
    (xb_note_2 2 a0 p1.1 a1 t4).bind fun p5 =>
    some p5)
  else (
    some t4)) else none) else none
def xb_goOffTop_2 (a0 : Int32) (a1 : Bool) (f : (Nat → Nat → Int32)) : Option ((Nat → Nat → Int32)) :=
  if am_in a0 6 = true then (
  am_let (f 5 a0.toNatClampNeg : Int32) fun t1 =>
  if am_in a0 6 = true then (
  am_let (am_up f 4 a0.toNatClampNeg 420 : Nat → Nat → Int32) fun f2 =>
  if am_in a0 6 = true then (
  if am_in a0 6 = true then (
  am_let (am_up f2 7 a0.toNatClampNeg ((f2 7 a0.toNatClampNeg) + 1) : Nat → Nat → Int32) fun f3 =>
  ((if (xc_hasWitness_2 t1 f3) = true then (
      if am_in t1 12 = true then (
      if am_in t1 12 = true then (
      am_let (am_up f3 11 t1.toNatClampNeg ((f3 11 t1.toNatClampNeg) + 1) : Nat → Nat → Int32) fun f5 =>
      some f5) else none) else none)
    else (
      some f3)) : Option ((Nat → Nat → Int32))).bind fun t6 =>
  if am_in a0 6 = true then (
  am_let (am_up t6 5 a0.toNatClampNeg (-1) : Nat → Nat → Int32) fun f7 =>
  (xb_note_2 4 a0 t1 a1 f7).bind fun p8 =>
  some p8) else none) else none) else none) else none) else none
def xb_passGlass_2 (a0 : Int32) (a1 : Bool) (f : (Nat → Nat → Int32)) : Option (Bool × (Nat → Nat → Int32)) :=
  (xb_behold_2 a0 f).bind fun p1 =>
  (xb_slipsNow_2 a1 p1).bind fun p2 =>
  ((if p2.1 = true then (
      if am_in a0 6 = true then (
      (xb_note_2 3 a0 (p2.2 4 a0.toNatClampNeg) a1 p2.2).bind fun p3 =>
      if am_in a0 6 = true then (
      am_let (am_up p3 4 a0.toNatClampNeg 300 : Nat → Nat → Int32) fun f4 =>
      some f4) else none) else none)
    else (
      if am_in a0 6 = true then (
      if p2.2 6 a0.toNatClampNeg = (-1) then (
        if am_in a0 6 = true then (
        (xb_told 2 p2.2).bind fun p5 =>
        if am_in a0 6 = true then (
        am_let (am_up p5.2 4 a0.toNatClampNeg (am_max 300 ((p2.2 4 a0.toNatClampNeg) - p5.1)) : Nat → Nat → Int32) fun f6 =>
        some f6) else none) else none)
      else (
        (xb_warm_2 a0 a1 p2.2).bind fun p7 =>
        some p7)) else none)) : Option ((Nat → Nat → Int32))).bind fun t8 =>
  if am_in a0 6 = true then (
  if 420 < t8 4 a0.toNatClampNeg then (
    (xb_goOffTop_2 a0 a1 t8).bind fun p9 =>
    some (true, p9))
  else (
    some (false, t8))) else none
def xb_passMinute_2 (a0 : Bool) (f : (Nat → Nat → Int32)) : Option (Int32 × (Nat → Nat → Int32)) :=
  (am_loop (fun (s1 : Int32 × (Nat → Nat → Int32)) => ((
    if s1.1 < s1.2 20 0 then (
      if am_in s1.1 16 = true then (
      ((if s1.2 21 s1.1.toNatClampNeg = s1.2 2 2 then (
          if am_in s1.1 16 = true then (
          if (xc_hasGlass_2 (s1.2 22 s1.1.toNatClampNeg) s1.2) = true then (
            (xb_walkLine_2 s1.1 a0 s1.2).bind fun p3 =>
            some p3)
          else (
            some s1.2)) else none)
        else (
          some s1.2)) : Option ((Nat → Nat → Int32))).bind fun t4 =>
      am_let (s1.1 + 1 : Int32) fun t5 =>
      some (.inl (t5, t4))) else none)
    else (
      some (.inr s1.2))) : Option ((Int32 × (Nat → Nat → Int32)) ⊕ ((Nat → Nat → Int32))))) am_F (0, f)).bind fun e6 =>
  (am_loop (fun (s7 : Int32 × Int32 × (Nat → Nat → Int32)) => ((
    if s7.2.1 < s7.2.2 2 0 then (
      if am_in s7.2.1 6 = true then (
      ((if s7.2.2 5 s7.2.1.toNatClampNeg = (-1) then (
          some (s7.1, s7.2.2))
        else (
          (xb_passGlass_2 s7.2.1 a0 s7.2.2).bind fun p8 =>
          if p8.1 = true then (
            am_let (s7.1 + 1 : Int32) fun t9 =>
            some (t9, p8.2))
          else (
            some (s7.1, p8.2)))) : Option (Int32 × (Nat → Nat → Int32))).bind fun t10 =>
      am_let (s7.2.1 + 1 : Int32) fun t11 =>
      some (.inl (t10.1, t11, t10.2))) else none)
    else (
      some (.inr (s7.1, s7.2.2)))) : Option ((Int32 × Int32 × (Nat → Nat → Int32)) ⊕ (Int32 × (Nat → Nat → Int32))))) am_F (0, 0, e6)).bind fun e12 =>
  (am_loop (fun (s13 : Int32 × (Nat → Nat → Int32)) => ((
    if s13.1 < s13.2 2 0 then (
      if am_in s13.1 6 = true then (
      am_let (am_up s13.2 6 s13.1.toNatClampNeg (-1) : Nat → Nat → Int32) fun f14 =>
      am_let (s13.1 + 1 : Int32) fun t15 =>
      some (.inl (t15, f14))) else none)
    else (
      some (.inr s13.2))) : Option ((Int32 × (Nat → Nat → Int32)) ⊕ ((Nat → Nat → Int32))))) am_F (0, e12.2)).bind fun e16 =>
  am_let (am_up e16 2 2 ((e16 2 2) + 1) : Nat → Nat → Int32) fun f17 =>
  some (e12.1, f17)
def x_minutes (a0 : Int32) (f : (Nat → Nat → Int32)) : Option (Int32 × (Nat → Nat → Int32)) :=
  if (x_within a0 1 60) = true then (
    if 9999 < ((f 2 2) + a0) then (
      some ((-1), f))
    else (
      am_loop (fun (s2 : Int32 × Int32 × (Nat → Nat → Int32)) => ((
        if s2.2.1 < a0 then (
          (x_keepPast  s2.2.2).bind fun p3 =>
          (xb_passMinute_2 true p3).bind fun p4 =>
          am_let ((s2.1 + p4.1) : Int32) fun t5 =>
          am_let (s2.2.1 + 1 : Int32) fun t6 =>
          some (.inl (t5, t6, p4.2)))
        else (
          some (.inr (s2.1, s2.2.2)))) : Option ((Int32 × Int32 × (Nat → Nat → Int32)) ⊕ (Int32 × (Nat → Nat → Int32))))) am_F (0, 0, f)))
  else (
    some ((-1), f))
def xt_put (a0 : Int32) (f : (Nat → Nat → Int32)) : Option ((Nat → Nat → Int32)) :=
  am_loop (fun (s1 : Int32 × (Nat → Nat → Int32)) => ((
    if s1.1 < 0 then (
      some (.inr s1.2))
    else (
      if s1.2 123 0 < 400 then (
        if am_in (s1.2 123 0) 400 = true then (
        am_let (am_up s1.2 124 (s1.2 123 0).toNatClampNeg (((a0.toUInt32 >>> (s1.1.toUInt32 &&& Int32.toUInt32 31)).toInt32) &&& 255) : Nat → Nat → Int32) fun f2 =>
        am_let (am_up f2 123 0 ((f2 123 0) + 1) : Nat → Nat → Int32) fun f3 =>
        am_let (s1.1 + (-8) : Int32) fun t4 =>
        some (.inl (t4, f3))) else none)
      else (
        some (.inr s1.2)))) : Option ((Int32 × (Nat → Nat → Int32)) ⊕ ((Nat → Nat → Int32))))) am_F (24, f)
def x_feed (a0 : Int32) (a1 : Int32) (a2 : Int32) (a3 : Int32) (a4 : Int32) (f : (Nat → Nat → Int32)) : Option (Int32 × (Nat → Nat → Int32)) :=
  if 400 < ((f 123 0) + 20) then (
    some ((-1), f))
  else (
    (xt_put a0 f).bind fun p1 =>
    (xt_put a1 p1).bind fun p2 =>
    (xt_put a2 p2).bind fun p3 =>
    (xt_put a3 p3).bind fun p4 =>
    (xt_put a4 p4).bind fun p5 =>
    some (p5 123 0, p5))
def x_end (a0 : Int32) (f : (Nat → Nat → Int32)) : Bool × (Nat → Nat → Int32) :=
  if (x_within a0 0 (f 123 0)) = true then (
    am_let (am_up f 123 0 a0 : Nat → Nat → Int32) fun f2 =>
    (true, f2))
  else (
    (false, f))
def xn_clearAll_140 (f : (Nat → Nat → Int32)) : Option ((Nat → Nat → Int32)) :=
  am_let (am_up f 140 0 0 : Nat → Nat → Int32) fun f1 =>
  am_loop (fun (s2 : Int32 × (Nat → Nat → Int32)) => ((
    if s2.1 < (nI 256) then (
      if am_in s2.1 256 = true then (
      am_let (am_up s2.2 141 s2.1.toNatClampNeg 0 : Nat → Nat → Int32) fun f3 =>
      am_let (s2.1 + 1 : Int32) fun t4 =>
      some (.inl (t4, f3))) else none)
    else (
      some (.inr s2.2))) : Option ((Int32 × (Nat → Nat → Int32)) ⊕ ((Nat → Nat → Int32))))) am_F (0, f1)
def xs_wordsOf (a0 : Int32)  : Nat :=
  if a0 = 0 then (
    0)
  else if a0 = 1 then (
    1)
  else if a0 = 2 then (
    2)
  else (3)
def xt_isMark (a0 : Int32)  : Bool :=
  if a0 = 59 then (
    true)
  else (
    if a0 < 40 then (
      if a0 = 45 then (
        true)
      else (
        if a0 = 47 then (
          true)
        else (
          if a0 < 60 then (
            false)
          else (
            if 62 < a0 then (
              false)
            else (
              true)))))
    else (
      if 43 < a0 then (
        if a0 = 45 then (
          true)
        else (
          if a0 = 47 then (
            true)
          else (
            if a0 < 60 then (
              false)
            else (
              if 62 < a0 then (
                false)
              else (
                true)))))
      else (
        true)))
def xt_isLetter (a0 : Int32)  : Bool :=
  if a0 < 97 then (
    if a0 < 65 then (
      false)
    else (
      if 90 < a0 then (
        false)
      else (
        true)))
  else (
    if 122 < a0 then (
      if a0 < 65 then (
        false)
      else (
        if 90 < a0 then (
          false)
        else (
          true)))
    else (
      true))
def xt_endOfLetters (a0 : Int32) (f : (Nat → Nat → Int32)) : Option (Int32) :=
  am_loop (fun (s1 : Int32) => ((
    if s1 < f 123 0 then (
      if am_in s1 400 = true then (
      if (xt_isLetter (f 124 s1.toNatClampNeg)) = true then (
        am_let (s1 + 1 : Int32) fun t3 =>
        some (.inl t3))
      else (
        some (.inr s1))) else none)
    else (
      some (.inr s1))) : Option ((Int32) ⊕ (Int32)))) am_F a0
def xt_keyword (a0 : Nat) (a1 : Int32) (a2 : Int32) (f : (Nat → Nat → Int32)) : Option (Int32) :=
  am_loop (fun (s1 : Int32 × Int32) => ((
    if a0 < am_strs.length then (
    if s1.2 < (nI (am_tl a0)) then (
      (am_loop (fun (s2 : Int32 × Int32) => ((
        if s2.2 < a2 then (
          if a0 < am_strs.length then (
          if s2.1 < (nI (am_tl a0)) then (
            if a0 < am_strs.length ∧ am_in s2.1 (am_tl a0) = true then (
            if am_in s2.2 400 = true then (
            if (am_tc a0 s2.1.toNatClampNeg) = f 124 s2.2.toNatClampNeg then (
              am_let (s2.1 + 1 : Int32) fun t3 =>
              am_let (s2.2 + 1 : Int32) fun t4 =>
              some (.inl (t3, t4)))
            else (
              some (.inr (s2.1, s2.2)))) else none) else none)
          else (
            some (.inr (s2.1, s2.2)))) else none)
        else (
          some (.inr (s2.1, s2.2)))) : Option ((Int32 × Int32) ⊕ (Int32 × Int32)))) am_F (s1.2, a1)).bind fun e5 =>
      if e5.2 = a2 then (
        if a0 < am_strs.length then (
        if e5.1 < (nI (am_tl a0)) then (
          if a0 < am_strs.length ∧ am_in e5.1 (am_tl a0) = true then (
          if (am_tc a0 e5.1.toNatClampNeg) = 32 then (
            some (.inr s1.1))
          else (
            (am_loop (fun (s6 : Int32) => ((
              if a0 < am_strs.length then (
              if s6 < (nI (am_tl a0)) then (
                if a0 < am_strs.length ∧ am_in s6 (am_tl a0) = true then (
                if (am_tc a0 s6.toNatClampNeg) = 32 then (
                  some (.inr s6))
                else (
                  am_let (s6 + 1 : Int32) fun t7 =>
                  some (.inl t7))) else none)
              else (
                some (.inr s6))) else none) : Option ((Int32) ⊕ (Int32)))) am_F e5.1).bind fun e8 =>
            am_let (e8 + 1 : Int32) fun t9 =>
            am_let (s1.1 + 1 : Int32) fun t10 =>
            some (.inl (t10, t9)))) else none)
        else (
          some (.inr s1.1))) else none)
      else (
        (am_loop (fun (s11 : Int32) => ((
          if a0 < am_strs.length then (
          if s11 < (nI (am_tl a0)) then (
            if a0 < am_strs.length ∧ am_in s11 (am_tl a0) = true then (
            if (am_tc a0 s11.toNatClampNeg) = 32 then (
              some (.inr s11))
            else (
              am_let (s11 + 1 : Int32) fun t12 =>
              some (.inl t12))) else none)
          else (
            some (.inr s11))) else none) : Option ((Int32) ⊕ (Int32)))) am_F e5.1).bind fun e13 =>
        am_let (e13 + 1 : Int32) fun t14 =>
        am_let (s1.1 + 1 : Int32) fun t15 =>
        some (.inl (t15, t14))))
    else (
      some (.inr (-1)))) else none) : Option ((Int32 × Int32) ⊕ (Int32)))) am_F (0, 0)
def xt_isDigit (a0 : Int32)  : Bool :=
  if a0 < 48 then (
    false)
  else (
    if 57 < a0 then (
      false)
    else (
      true))
def xt_endOfDigits (a0 : Int32) (f : (Nat → Nat → Int32)) : Option (Int32) :=
  am_loop (fun (s1 : Int32) => ((
    if s1 < f 123 0 then (
      if am_in s1 400 = true then (
      if (xt_isDigit (f 124 s1.toNatClampNeg)) = true then (
        am_let (s1 + 1 : Int32) fun t3 =>
        some (.inl t3))
      else (
        some (.inr s1))) else none)
    else (
      some (.inr s1))) : Option ((Int32) ⊕ (Int32)))) am_F a0
def xt_number (a0 : Int32) (a1 : Int32) (f : (Nat → Nat → Int32)) : Option (Int32) :=
  am_loop (fun (s1 : Int32 × Int32) => ((
    if s1.2 < a1 then (
      if am_in s1.2 400 = true then (
      am_let ((((10 * s1.1) + (f 124 s1.2.toNatClampNeg)) - 48) : Int32) fun t2 =>
      am_let (s1.2 + 1 : Int32) fun t3 =>
      some (.inl (t2, t3))) else none)
    else (
      some (.inr s1.1))) : Option ((Int32 × Int32) ⊕ (Int32)))) am_F (0, a0)
def xt_addToken (a0 : Int32) (a1 : Int32) (a2 : Nat) (f : (Nat → Nat → Int32)) : Option (Int32 × (Nat → Nat → Int32)) :=
  am_let ((a0 + 1) : Int32) fun t1 =>
  am_let ((if (xt_isMark a1) = true then (
      3)
    else (
      4)) : Int32) fun t3 =>
  ((if (xt_isLetter a1) = true then (
      (xt_endOfLetters a0 f).bind fun p5 =>
      (xt_keyword a2 a0 p5 f).bind fun p6 =>
      am_let ((if p6 = (-1) then (
          4)
        else (
          1)) : Int32) fun t7 =>
      some (p5, t7, p6))
    else (
      if (xt_isDigit a1) = true then (
        (xt_endOfDigits a0 f).bind fun p9 =>
        ((if 4 < (p9 - a0) then (
            some (-1))
          else (
            (xt_number a0 p9 f).bind fun p10 =>
            some p10)) : Option (Int32)).bind fun t11 =>
        am_let ((if t11 = (-1) then (
            4)
          else (
            2)) : Int32) fun t12 =>
        some (p9, t12, t11))
      else (
        some (t1, t3, a1)))) : Option (Int32 × Int32 × Int32)).bind fun t13 =>
  if am_in (f 123 8) 401 = true then (
  am_let (am_up f 125 (f 123 8).toNatClampNeg t13.2.1 : Nat → Nat → Int32) fun f14 =>
  if am_in (f14 123 8) 401 = true then (
  am_let (am_up f14 126 (f14 123 8).toNatClampNeg t13.2.2 : Nat → Nat → Int32) fun f15 =>
  if am_in (f15 123 8) 401 = true then (
  am_let (am_up f15 127 (f15 123 8).toNatClampNeg a0 : Nat → Nat → Int32) fun f16 =>
  am_let (am_up f16 123 8 ((f16 123 8) + 1) : Nat → Nat → Int32) fun f17 =>
  some (t13.1, f17)) else none) else none) else none
def xt_advance (f : (Nat → Nat → Int32)) : Option ((Nat → Nat → Int32)) :=
  am_let ((if f 123 9 < f 123 8 then (
      am_let (am_up f 123 9 ((f 123 9) + 1) : Nat → Nat → Int32) fun f1 =>
      f1)
    else (
      f)) : (Nat → Nat → Int32)) fun t2 =>
  if am_in (t2 123 9) 401 = true then (
  am_let (am_up t2 123 1 (t2 125 (t2 123 9).toNatClampNeg) : Nat → Nat → Int32) fun f3 =>
  if am_in (f3 123 9) 401 = true then (
  am_let (am_up f3 123 2 (f3 126 (f3 123 9).toNatClampNeg) : Nat → Nat → Int32) fun f4 =>
  if am_in (f4 123 9) 401 = true then (
  am_let (am_up f4 123 3 (f4 127 (f4 123 9).toNatClampNeg) : Nat → Nat → Int32) fun f5 =>
  some f5) else none) else none) else none
def xt_split (a0 : Nat) (f : (Nat → Nat → Int32)) : Option ((Nat → Nat → Int32)) :=
  am_let (am_up f 123 8 0 : Nat → Nat → Int32) fun f1 =>
  (am_loop (fun (s2 : Int32 × Int32 × (Nat → Nat → Int32)) => ((
    if s2.2.1 < s2.2.2 123 0 then (
      if s2.1 < s2.2.2 123 0 then (
        if am_in s2.1 400 = true then (
        am_let (s2.2.2 124 s2.1.toNatClampNeg : Int32) fun t3 =>
        ((if t3 = 32 then (
            am_let (s2.1 + 1 : Int32) fun t4 =>
            some (t4, s2.2.2))
          else (
            if t3 = 10 then (
              am_let (s2.1 + 1 : Int32) fun t5 =>
              some (t5, s2.2.2))
            else (
              (xt_addToken s2.1 t3 a0 s2.2.2).bind fun p6 =>
              some (p6.1, p6.2)))) : Option (Int32 × (Nat → Nat → Int32))).bind fun t7 =>
        am_let (s2.2.1 + 1 : Int32) fun t8 =>
        some (.inl (t7.1, t8, t7.2))) else none)
      else (
        some (.inr s2.2.2)))
    else (
      some (.inr s2.2.2))) : Option ((Int32 × Int32 × (Nat → Nat → Int32)) ⊕ ((Nat → Nat → Int32))))) am_F (0, 0, f1)).bind fun e9 =>
  if am_in (e9 123 8) 401 = true then (
  am_let (am_up e9 125 (e9 123 8).toNatClampNeg 0 : Nat → Nat → Int32) fun f10 =>
  if am_in (f10 123 8) 401 = true then (
  am_let (am_up f10 126 (f10 123 8).toNatClampNeg (-1) : Nat → Nat → Int32) fun f11 =>
  if am_in (f11 123 8) 401 = true then (
  am_let (am_up f11 127 (f11 123 8).toNatClampNeg (f11 123 0) : Nat → Nat → Int32) fun f12 =>
  am_let (am_up f12 123 9 (-1) : Nat → Nat → Int32) fun f13 =>
  (xt_advance  f13).bind fun p14 =>
  some p14) else none) else none) else none
def xs_refuse (a0 : Int32) (f : (Nat → Nat → Int32)) : Bool × (Nat → Nat → Int32) :=
  am_let (am_up f 128 4 a0 : Nat → Nat → Int32) fun f1 =>
  am_let (am_up f1 128 5 (f1 123 3) : Nat → Nat → Int32) fun f2 =>
  (false, f2)
def xs_takeHead (a0 : Int32) (a1 : Int32) (f : (Nat → Nat → Int32)) : Option (Bool × (Nat → Nat → Int32)) :=
  if f 123 1 = 1 then (
    am_let ((if a0 = 0 then (
        2)
      else (
        0)) : Int32) fun t1 =>
    if t1 < f 123 2 then (
      am_let (xs_refuse 1 f) fun p2 =>
      some (p2.1, p2.2))
    else (
      if a1 < 16 then (
        (xt_advance  f).bind fun p3 =>
        some (true, p3))
      else (
        am_let (xs_refuse 3 f) fun p4 =>
        some (p4.1, p4.2))))
  else (
    am_let (xs_refuse 1 f) fun p5 =>
    some (p5.1, p5.2))
def xl_emit_129 (a0 : Int32) (f : (Nat → Nat → Int32)) : Option ((Nat → Nat → Int32)) :=
  if f 129 1 < (nI 400) then (
    if am_in (f 129 1) 400 = true then (
    am_let (am_up f 130 (f 129 1).toNatClampNeg a0 : Nat → Nat → Int32) fun f1 =>
    am_let (am_up f1 129 1 ((f1 129 1) + 1) : Nat → Nat → Int32) fun f2 =>
    some f2) else none)
  else (
    some f)
def xs_readUnit (f : (Nat → Nat → Int32)) : Option (Bool × (Nat → Nat → Int32)) :=
  if f 123 1 = 2 then (
    (xl_emit_129 (f 123 2) f).bind fun p1 =>
    (xt_advance  p1).bind fun p2 =>
    some (true, p2))
  else (
    if f 123 1 = 1 then (
      if f 123 2 < 7 then (
        am_let (xs_refuse 1 f) fun p3 =>
        some (p3.1, p3.2))
      else (
        (xl_emit_129 (10000 + (f 123 2)) f).bind fun p4 =>
        (xt_advance  p4).bind fun p5 =>
        some (true, p5)))
    else (
      am_let (xs_refuse 1 f) fun p6 =>
      some (p6.1, p6.2)))
def xt_isSign (a0 : Int32) (f : (Nat → Nat → Int32)) : Bool :=
  if f 123 1 = 3 then (
    if f 123 2 = a0 then (
      true)
    else (
      false))
  else (
    false)
def xs_isJoin (f : (Nat → Nat → Int32)) : Bool :=
  if (xt_isSign 43 f) = true then (
    true)
  else (
    if (xt_isSign 45 f) = true then (
      true)
    else (
      if (xt_isSign 42 f) = true then (
        true)
      else (
        if (xt_isSign 47 f) = true then (
          true)
        else (
          false))))
