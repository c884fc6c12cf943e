def x_goes (a0 : Int32) (a1 : Int32) (f : (Nat → Nat → Int32)) : Option (Int32 × (Nat → Nat → Int32)) :=
  if (x_within a0 1 60) = true then (
    if (x_within a1 0 3) = true then (
      am_let (xc_takeFrom_110_2  f) fun p3 =>
      (am_loop (fun (s4 : Int32 × (Nat → Nat → Int32)) => ((
        if s4.1 < a0 then (
          (xb_passMinute_110 false s4.2).bind fun p5 =>
          am_let (s4.1 + 1 : Int32) fun t6 =>
          some (.inl (t6, p5.2)))
        else (
          some (.inr s4.2))) : Option ((Int32 × (Nat → Nat → Int32)) ⊕ ((Nat → Nat → Int32))))) am_F (0, p3)).bind fun e7 =>
      (xc_sumOf_110 a1 e7).bind fun p8 =>
      some (p8, e7))
    else (
      some ((-1), f)))
  else (
    some ((-1), f))
def x_top (a0 : Int32) (f : (Nat → Nat → Int32)) : Option (Int32 × (Nat → Nat → Int32)) :=
  if (xc_hasGlass_2 a0 f) = true then (
    am_let (xc_takeFrom_110_2  f) fun p2 =>
    am_loop (fun (s3 : Int32 × (Nat → Nat → Int32)) => ((
      if 60 < s3.1 then (
        some (.inr ((-1), s3.2)))
      else (
        (xb_passMinute_110 false s3.2).bind fun p4 =>
        if am_in a0 6 = true then (
        if am_in a0 6 = true then (
        if p4.2 115 a0.toNatClampNeg = p4.2 7 a0.toNatClampNeg then (
          am_let (s3.1 + 1 : Int32) fun t5 =>
          some (.inl (t5, p4.2)))
        else (
          some (.inr (s3.1, p4.2)))) else none) else none)) : Option ((Int32 × (Nat → Nat → Int32)) ⊕ (Int32 × (Nat → Nat → Int32))))) am_F (1, p2))
  else (
    some ((-1), f))
def xb_lawTells_110 (a0 : Int32) (a1 : Int32) (f : (Nat → Nat → Int32)) : Option (Int32 × (Nat → Nat → Int32)) :=
  (xb_behold_110 a0 f).bind fun p1 =>
  (xb_told a1 p1).bind fun p2 =>
  some (p2.1, p2.2)
def x_hottest (a0 : Int32) (a1 : Int32) (f : (Nat → Nat → Int32)) : Option (Int32 × (Nat → Nat → Int32)) :=
  if (xc_hasGlass_2 a0 f) = true then (
    if am_in a0 6 = true then (
    if f 5 a0.toNatClampNeg = (-1) then (
      some ((-1), f))
    else (
      if (x_within a1 0 1) = true then (
        am_let (xc_takeFrom_110_2  f) fun p3 =>
        (am_loop (fun (s4 : Int32 × Int32 × Int32 × (Nat → Nat → Int32)) => ((
          if s4.2.2.1 < 16 then (
            if am_in a0 6 = true then (
            am_let (am_up s4.2.2.2 114 a0.toNatClampNeg s4.2.2.1 : Nat → Nat → Int32) fun f5 =>
            (xb_lawTells_110 a0 0 f5).bind fun p6 =>
            am_let ((if s4.1 < p6.1 then (
                (p6.1, s4.2.2.1))
              else (
                (s4.1, s4.2.1))) : Int32 × Int32) fun t7 =>
            am_let (s4.2.2.1 + 1 : Int32) fun t8 =>
            some (.inl (t7.1, t7.2, t8, p6.2))) else none)
          else (
            some (.inr (s4.1, s4.2.1, s4.2.2.2)))) : Option ((Int32 × Int32 × Int32 × (Nat → Nat → Int32)) ⊕ (Int32 × Int32 × (Nat → Nat → Int32))))) am_F ((-1), (-1), 0, p3)).bind fun e9 =>
        if a1 = 0 then (
          some (e9.2.1, e9.2.2))
        else (
          some (e9.1, e9.2.2)))
      else (
        some ((-1), f)))) else none)
  else (
    some ((-1), f))
def xr_clearAll_27 (f : (Nat → Nat → Int32)) : Int32 × (Nat → Nat → Int32) :=
  am_let (am_up f 27 0 0 : Nat → Nat → Int32) fun f1 =>
  (f1 27 0, f1)
def xr_append_27 (a0 : Int32) (a1 : Int32) (f : (Nat → Nat → Int32)) : Option (Int32 × (Nat → Nat → Int32)) :=
  if f 27 0 < (nI 8) then (
    if am_in (f 27 0) 8 = true then (
    am_let (am_up f 28 (f 27 0).toNatClampNeg a0 : Nat → Nat → Int32) fun f1 =>
    if am_in (f1 27 0) 8 = true then (
    am_let (am_up f1 29 (f1 27 0).toNatClampNeg a1 : Nat → Nat → Int32) fun f2 =>
    am_let (am_up f2 27 0 ((f2 27 0) + 1) : Nat → Nat → Int32) fun f3 =>
    some (f3 27 0, f3)) else none) else none)
  else (
    some ((-1), f))
def x_warmth (a0 : Int32) (a1 : Int32) (f : (Nat → Nat → Int32)) : Option (Int32 × (Nat → Nat → Int32)) :=
  if a0 = (-1) then (
    am_let (xr_clearAll_27  f) fun p1 =>
    some (p1.1, p1.2))
  else (
    if (x_isTopic a0) = true then (
      if (x_within a1 0 10) = true then (
        (xr_append_27 a0 a1 f).bind fun p4 =>
        some (p4.1, p4.2))
      else (
        some ((-1), f)))
    else (
      some ((-1), f)))
def xm_fitsAll_27_25 (a0 : Int32) (f : (Nat → Nat → Int32)) : Option (Bool) :=
  am_loop (fun (s1 : Int32) => ((
    if s1 < f 27 0 then (
      if am_in s1 8 = true then (
      (xn_nearness_25 a0 (f 28 s1.toNatClampNeg) f).bind fun p2 =>
      if am_in s1 8 = true then (
      if p2 = f 29 s1.toNatClampNeg then (
        am_let (s1 + 1 : Int32) fun t3 =>
        some (.inl t3))
      else (
        some (.inr false))) else none) else none)
    else (
      some (.inr true))) : Option ((Int32) ⊕ (Bool)))) am_F 0
def ji_numberOfTrailingZeros (a0 : Int32)  : Int32 :=
  am_let (((a0 ^^^ (-1)) &&& (a0 - 1)) : Int32) fun t1 =>
  if 0 < t1 then (
    am_let ((if 65536 < t1 then (
        am_let (1 + 16 : Int32) fun t2 =>
        am_let (((t1.toUInt32 >>> ((16 : Int32).toUInt32 &&& Int32.toUInt32 31)).toInt32) : Int32) fun t3 =>
        (t3, t2))
      else (
        (t1, 1))) : Int32 × Int32) fun t4 =>
    am_let ((if 256 < t4.1 then (
        am_let (t4.2 + 8 : Int32) fun t5 =>
        am_let (((t4.1.toUInt32 >>> ((8 : Int32).toUInt32 &&& Int32.toUInt32 31)).toInt32) : Int32) fun t6 =>
        (t6, t5))
      else (
        (t4.1, t4.2))) : Int32 × Int32) fun t7 =>
    am_let ((if 16 < t7.1 then (
        am_let (t7.2 + 4 : Int32) fun t8 =>
        am_let (((t7.1.toUInt32 >>> ((4 : Int32).toUInt32 &&& Int32.toUInt32 31)).toInt32) : Int32) fun t9 =>
        (t9, t8))
      else (
        (t7.1, t7.2))) : Int32 × Int32) fun t10 =>
    am_let ((if 4 < t10.1 then (
        am_let (t10.2 + 2 : Int32) fun t11 =>
        am_let (((t10.1.toUInt32 >>> ((2 : Int32).toUInt32 &&& Int32.toUInt32 31)).toInt32) : Int32) fun t12 =>
        (t12, t11))
      else (
        (t10.1, t10.2))) : Int32 × Int32) fun t13 =>
    (t13.2 + ((t13.1.toUInt32 >>> ((1 : Int32).toUInt32 &&& Int32.toUInt32 31)).toInt32)))
  else (
    (t1 &&& 32))
def xm_nextSet (a0 : Int32)  : Int32 :=
  am_let ((a0 &&& (0 - a0)) : Int32) fun t1 =>
  am_let ((a0 + t1) : Int32) fun t2 =>
  (t2 ||| (((a0 ^^^ t2).toUInt32 >>> ((2 + (ji_numberOfTrailingZeros t1)).toUInt32 &&& Int32.toUInt32 31)).toInt32))
def xm_fitting_27_25 (a0 : Int32) (a1 : Int32) (f : (Nat → Nat → Int32)) : Option (Int32) :=
  am_let (((1 <<< (a0 &&& 31)) - 1) : Int32) fun t1 =>
  (am_loop (fun (s2 : Int32 × Int32 × Int32 × Int32) => ((
    if s2.2.2.2 < 560 then (
      if s2.2.2.1 < 65536 then (
        (xm_fitsAll_27_25 s2.2.2.1 f).bind fun p3 =>
        am_let ((if p3 = true then (
            am_let (s2.1 + 1 : Int32) fun t4 =>
            if s2.2.1 = (-1) then (
              (t4, s2.2.2.1))
            else (
              (t4, s2.2.1)))
          else (
            (s2.1, s2.2.1))) : Int32 × Int32) fun t5 =>
        am_let ((xm_nextSet s2.2.2.1) : Int32) fun t7 =>
        am_let (s2.2.2.2 + 1 : Int32) fun t8 =>
        some (.inl (t5.1, t5.2, t7, t8)))
      else (
        some (.inr (s2.1, s2.2.1))))
    else (
      some (.inr (s2.1, s2.2.1)))) : Option ((Int32 × Int32 × Int32 × Int32) ⊕ (Int32 × Int32)))) am_F (0, (-1), t1, 0)).bind fun e9 =>
  if a1 = 0 then (
    some e9.1)
  else (
    some e9.2)
def x_fits (a0 : Int32) (a1 : Int32) (f : (Nat → Nat → Int32)) : Option (Int32) :=
  if (x_within a0 1 3) = true then (
    if (x_within a1 0 1) = true then (
      (xm_fitting_27_25 a0 a1 f).bind fun p3 =>
      some p3)
    else (
      some (-1)))
  else (
    some (-1))
def xm_listCandidates (a0 : Int32) (f : (Nat → Nat → Int32)) : Option (Int32 × (Nat → Nat → Int32)) :=
  am_loop (fun (s1 : Int32 × Int32 × (Nat → Nat → Int32)) => ((
    if s1.2.1 < 16 then (
      if s1.1 < (nI 8) then (
        ((if ((a0 >>> (s1.2.1 &&& 31)) &&& 1) = 1 then (
            if am_in s1.1 8 = true then (
            am_let (am_up s1.2.2 145 s1.1.toNatClampNeg s1.2.1 : Nat → Nat → Int32) fun f2 =>
            am_let (s1.1 + 1 : Int32) fun t3 =>
            some (t3, f2)) else none)
          else (
            some (s1.1, s1.2.2))) : Option (Int32 × (Nat → Nat → Int32))).bind fun t4 =>
        am_let (s1.2.1 + 1 : Int32) fun t5 =>
        some (.inl (t4.1, t5, t4.2)))
      else (
        some (.inr (s1.1, s1.2.2))))
    else (
      some (.inr (s1.1, s1.2.2)))) : Option ((Int32 × Int32 × (Nat → Nat → Int32)) ⊕ (Int32 × (Nat → Nat → Int32))))) am_F (0, 0, f)
def xm_sortByNearness_25 (a0 : Int32) (f : (Nat → Nat → Int32)) : Option ((Nat → Nat → Int32)) :=
  (am_loop (fun (s1 : Int32 × (Nat → Nat → Int32)) => ((
    if s1.1 < (nI 176) then (
      if am_in s1.1 176 = true then (
      am_let (am_up s1.2 146 s1.1.toNatClampNeg 0 : Nat → Nat → Int32) fun f2 =>
      am_let (s1.1 + 1 : Int32) fun t3 =>
      some (.inl (t3, f2))) else none)
    else (
      some (.inr s1.2))) : Option ((Int32 × (Nat → Nat → Int32)) ⊕ ((Nat → Nat → Int32))))) am_F (0, f)).bind fun e4 =>
  am_loop (fun (s5 : Int32 × (Nat → Nat → Int32)) => ((
    if s5.1 < 16 then (
      (am_loop (fun (s6 : Int32 × (Nat → Nat → Int32)) => ((
        if s6.1 < a0 then (
          if am_in s6.1 8 = true then (
          (xn_nearness_25 (1 <<< ((s6.2 145 s6.1.toNatClampNeg) &&& 31)) s5.1 s6.2).bind fun p7 =>
          if am_in ((s5.1 * 11) + p7) 176 = true then (
          if am_in ((s5.1 * 11) + p7) 176 = true then (
          am_let (am_up s6.2 146 ((s5.1 * 11) + p7).toNatClampNeg ((s6.2 146 ((s5.1 * 11) + p7).toNatClampNeg) ||| (1 <<< (s6.1 &&& 31))) : Nat → Nat → Int32) fun f8 =>
          am_let (s6.1 + 1 : Int32) fun t9 =>
          some (.inl (t9, f8))) else none) else none) else none)
        else (
          some (.inr s6.2))) : Option ((Int32 × (Nat → Nat → Int32)) ⊕ ((Nat → Nat → Int32))))) am_F (0, s5.2)).bind fun e10 =>
      am_let (s5.1 + 1 : Int32) fun t11 =>
      some (.inl (t11, e10)))
    else (
      some (.inr s5.2))) : Option ((Int32 × (Nat → Nat → Int32)) ⊕ ((Nat → Nat → Int32))))) am_F (0, e4)
def xm_wordsAfter (a0 : Int32) (a1 : Int32) (f : (Nat → Nat → Int32)) : Option (Int32) :=
  am_loop (fun (s1 : Int32 × Int32) => ((
    if 10 < s1.2 then (
      some (.inr (s1.1 + 1)))
    else (
      if am_in ((a0 * 11) + s1.2) 176 = true then (
      am_let ((a1 &&& (f 146 ((a0 * 11) + s1.2).toNatClampNeg)) : Int32) fun t2 =>
      if t2 = a1 then (
        some (.inr 1000000))
      else (
        if am_in t2 256 = true then (
        am_let ((am_max s1.1 (f 144 t2.toNatClampNeg)) : Int32) fun t3 =>
        am_let (s1.2 + 1 : Int32) fun t4 =>
        some (.inl (t3, t4))) else none)) else none)) : Option ((Int32 × Int32) ⊕ (Int32)))) am_F (0, 0)
def xm_fewestFor (a0 : Int32) (f : (Nat → Nat → Int32)) : Option (Int32) :=
  if (a0 &&& (a0 - 1)) = 0 then (
    some 0)
  else (
    am_loop (fun (s1 : Int32 × Int32) => ((
      if s1.2 < 16 then (
        (xm_wordsAfter s1.2 a0 f).bind fun p2 =>
        am_let ((am_min s1.1 p2) : Int32) fun t3 =>
        am_let (s1.2 + 1 : Int32) fun t4 =>
        some (.inl (t3, t4)))
      else (
        some (.inr s1.1))) : Option ((Int32 × Int32) ⊕ (Int32)))) am_F (1000000, 0))
def xm_fewestWords_25 (a0 : Int32) (a1 : Int32) (f : (Nat → Nat → Int32)) : Option (Int32 × (Nat → Nat → Int32)) :=
  (xm_listCandidates a0 f).bind fun p1 =>
  if p1.1 < 2 then (
    if a1 = 0 then (
      if p1.1 = 1 then (
        some (0, p1.2))
      else (
        some ((-1), p1.2)))
    else (
      some ((-1), p1.2)))
  else (
    (xm_sortByNearness_25 p1.1 p1.2).bind fun p2 =>
    am_let (((1 <<< (p1.1 &&& 31)) - 1) : Int32) fun t3 =>
    (am_loop (fun (s4 : Int32 × (Nat → Nat → Int32)) => ((
      if t3 < s4.1 then (
        some (.inr s4.2))
      else (
        (xm_fewestFor s4.1 s4.2).bind fun p5 =>
        if am_in s4.1 256 = true then (
        am_let (am_up s4.2 144 s4.1.toNatClampNeg p5 : Nat → Nat → Int32) fun f6 =>
        am_let (s4.1 + 1 : Int32) fun t7 =>
        some (.inl (t7, f6))) else none)) : Option ((Int32 × (Nat → Nat → Int32)) ⊕ ((Nat → Nat → Int32))))) am_F (1, p2)).bind fun e8 =>
    if a1 = 0 then (
      if am_in t3 256 = true then (
      some (e8 144 t3.toNatClampNeg, e8)) else none)
    else (
      am_loop (fun (s9 : Int32) => ((
        if s9 < 16 then (
          (xm_wordsAfter s9 t3 e8).bind fun p10 =>
          if am_in t3 256 = true then (
          if p10 = e8 144 t3.toNatClampNeg then (
            some (.inr (s9, e8)))
          else (
            am_let (s9 + 1 : Int32) fun t11 =>
            some (.inl t11))) else none)
        else (
          some (.inr ((-1), e8)))) : Option ((Int32) ⊕ (Int32 × (Nat → Nat → Int32))))) am_F 0))
def x_words (a0 : Int32) (a1 : Int32) (f : (Nat → Nat → Int32)) : Option (Int32 × (Nat → Nat → Int32)) :=
  if (x_within a0 1 65535) = true then (
    if 8 < (ji_bitCount a0) then (
      some ((-1), f))
    else (
      if (x_within a1 0 1) = true then (
        (xm_fewestWords_25 a0 a1 f).bind fun p4 =>
        some (p4.1, p4.2))
      else (
        some ((-1), f))))
  else (
    some ((-1), f))
def xr_clearAll_30 (f : (Nat → Nat → Int32)) : Int32 × (Nat → Nat → Int32) :=
  am_let (am_up f 30 0 0 : Nat → Nat → Int32) fun f1 =>
  (f1 30 0, f1)
def xr_append_30 (a0 : Int32) (a1 : Int32) (f : (Nat → Nat → Int32)) : Option (Int32 × (Nat → Nat → Int32)) :=
  if f 30 0 < (nI 6) then (
    if am_in (f 30 0) 6 = true then (
    am_let (am_up f 31 (f 30 0).toNatClampNeg a0 : Nat → Nat → Int32) fun f1 =>
    if am_in (f1 30 0) 6 = true then (
    am_let (am_up f1 32 (f1 30 0).toNatClampNeg a1 : Nat → Nat → Int32) fun f2 =>
    am_let (am_up f2 30 0 ((f2 30 0) + 1) : Nat → Nat → Int32) fun f3 =>
    some (f3 30 0, f3)) else none) else none)
  else (
    some ((-1), f))
def x_world (a0 : Int32) (a1 : Int32) (f : (Nat → Nat → Int32)) : Option (Int32 × (Nat → Nat → Int32)) :=
  if a0 = (-1) then (
    am_let (xr_clearAll_30  f) fun p1 =>
    some (p1.1, p1.2))
  else (
    if (x_within a0 1 9) = true then (
      if (x_within a1 0 255) = true then (
        (xr_append_30 a0 a1 f).bind fun p4 =>
        some (p4.1, p4.2))
      else (
        some ((-1), f)))
    else (
      some ((-1), f)))
def xr_has_30 (a0 : Int32) (f : (Nat → Nat → Int32)) : Bool :=
  if a0 < 0 then (
    false)
  else (
    if a0 < f 30 0 then (
      true)
    else (
      false))
def xm_share_30 (a0 : Int32) (a1 : Int32) (f : (Nat → Nat → Int32)) : Option (Int32) :=
  am_let (((a1 >>> (8 &&& 31)) - 1) : Int32) fun t1 =>
  if am_in a0 6 = true then (
  am_let ((8 - (ji_bitCount (((f 32 a0.toNatClampNeg) ^^^ a1) &&& 255))) : Int32) fun t3 =>
  if am_in a0 6 = true then (
  am_let (f 31 a0.toNatClampNeg : Int32) fun t4 =>
  am_loop (fun (s5 : Int32 × Int32) => ((
    if s5.2 < t3 then (
      am_let ((s5.1 * t1) : Int32) fun t6 =>
      am_let (s5.2 + 1 : Int32) fun t7 =>
      some (.inl (t6, t7)))
    else (
      some (.inr s5.1))) : Option ((Int32 × Int32) ⊕ (Int32)))) am_F (t4, 0)) else none) else none
def xm_commonPart (a0 : Int32) (a1 : Int32)  : Option (Int32) :=
  am_loop (fun (s1 : Int32 × Int32 × Int32) => ((
    if s1.2.2 < 100 then (
      if s1.2.1 = 0 then (
        some (.inr s1.1))
      else (
        if s1.2.1 = 0 then none else
        am_let ((s1.1 - s1.1 / s1.2.1 * s1.2.1) : Int32) fun t2 =>
        am_let (s1.2.2 + 1 : Int32) fun t3 =>
        some (.inl (s1.2.1, t2, t3))))
    else (
      some (.inr s1.1))) : Option ((Int32 × Int32 × Int32) ⊕ (Int32)))) am_F (a0, a1, 0)
def xm_chance_30 (a0 : Int32) (a1 : Int32) (a2 : Int32) (f : (Nat → Nat → Int32)) : Option (Int32) :=
  (xm_share_30 a0 a1 f).bind fun p1 =>
  (am_loop (fun (s2 : Int32 × Int32) => ((
    if s2.2 < f 30 0 then (
      (xm_share_30 s2.2 a1 f).bind fun p3 =>
      am_let ((s2.1 + p3) : Int32) fun t4 =>
      am_let (s2.2 + 1 : Int32) fun t5 =>
      some (.inl (t4, t5)))
    else (
      some (.inr s2.1))) : Option ((Int32 × Int32) ⊕ (Int32)))) am_F (0, 0)).bind fun e6 =>
  (xm_commonPart p1 e6).bind fun p7 =>
  if p7 = 0 then (
    some (-1))
  else (
    if a2 = 0 then (
      if p7 = 0 then none else
      some (p1 / p7))
    else (
      if p7 = 0 then none else
      some (e6 / p7)))
def x_sure (a0 : Int32) (a1 : Int32) (a2 : Int32) (f : (Nat → Nat → Int32)) : Option (Int32) :=
  if (xr_has_30 a0 f) = true then (
    if (x_within a1 512 2303) = true then (
      if (x_within a2 0 1) = true then (
        (xm_chance_30 a0 a1 a2 f).bind fun p4 =>
        some p4)
      else (
        some (-1)))
    else (
      some (-1)))
  else (
    some (-1))
def xr_clearAll_33 (f : (Nat → Nat → Int32)) : Int32 × (Nat → Nat → Int32) :=
  am_let (am_up f 33 0 0 : Nat → Nat → Int32) fun f1 =>
  (f1 33 0, f1)
def xr_append_33 (a0 : Int32) (a1 : Int32) (f : (Nat → Nat → Int32)) : Option (Int32 × (Nat → Nat → Int32)) :=
  if f 33 0 < (nI 4) then (
    if am_in (f 33 0) 4 = true then (
    am_let (am_up f 34 (f 33 0).toNatClampNeg a0 : Nat → Nat → Int32) fun f1 =>
    if am_in (f1 33 0) 4 = true then (
    am_let (am_up f1 35 (f1 33 0).toNatClampNeg a1 : Nat → Nat → Int32) fun f2 =>
    am_let (am_up f2 33 0 ((f2 33 0) + 1) : Nat → Nat → Int32) fun f3 =>
    some (f3 33 0, f3)) else none) else none)
  else (
    some ((-1), f))
def x_point (a0 : Int32) (a1 : Int32) (f : (Nat → Nat → Int32)) : Option (Int32 × (Nat → Nat → Int32)) :=
  if a0 = (-1) then (
    am_let (xr_clearAll_33  f) fun p1 =>
    some (p1.1, p1.2))
  else (
    if (x_within a0 0 9) = true then (
      if (x_within a1 (-99) 99) = true then (
        (xr_append_33 a0 a1 f).bind fun p4 =>
        some (p4.1, p4.2))
      else (
        some ((-1), f)))
    else (
      some ((-1), f)))
def xm_unitAt_33 (a0 : Int32) (a1 : Int32) (f : (Nat → Nat → Int32)) : Option (Int32) :=
  if a0 = 0 then (
    if am_in a1 4 = true then (
    some (f 34 a1.toNatClampNeg)) else none)
  else (
    some a0)
def xm_isUnit_33 (a0 : Int32) (f : (Nat → Nat → Int32)) : Option (Bool) :=
  am_loop (fun (s1 : Int32) => ((
    if s1 < f 33 0 then (
      (xm_unitAt_33 a0 s1 f).bind fun p2 =>
      if am_in s1 4 = true then (
      if p2 = f 35 s1.toNatClampNeg then (
        am_let (s1 + 1 : Int32) fun t3 =>
        some (.inl t3))
      else (
        some (.inr false))) else none)
    else (
      some (.inr true))) : Option ((Int32) ⊕ (Bool)))) am_F 0
def xm_combined (a0 : Int32) (a1 : Int32) (a2 : Int32)  : Int32 :=
  if a2 = 0 then (
    (a0 + a1))
  else if a2 = 1 then (
    (a0 - a1))
  else if a2 = 2 then (
    (a0 * a1))
  else ((a1 - a0))
def xm_joinUnits_33 (a0 : Int32) (a1 : Int32) (a2 : Int32) (f : (Nat → Nat → Int32)) : Option ((Nat → Nat → Int32)) :=
  am_loop (fun (s1 : Int32 × (Nat → Nat → Int32)) => ((
    if s1.1 < s1.2 33 0 then (
      (xm_unitAt_33 a0 s1.1 s1.2).bind fun p2 =>
      (xm_unitAt_33 a1 s1.1 s1.2).bind fun p3 =>
      if am_in s1.1 4 = true then (
      am_let (am_up s1.2 147 s1.1.toNatClampNeg (xm_combined p2 p3 a2) : Nat → Nat → Int32) fun f5 =>
      am_let (s1.1 + 1 : Int32) fun t6 =>
      some (.inl (t6, f5))) else none)
    else (
      some (.inr s1.2))) : Option ((Int32 × (Nat → Nat → Int32)) ⊕ ((Nat → Nat → Int32))))) am_F (0, f)
def xm_isThird_33 (a0 : Int32) (a1 : Int32) (f : (Nat → Nat → Int32)) : Option (Bool) :=
  am_loop (fun (s1 : Int32) => ((
    if s1 < f 33 0 then (
      if am_in s1 4 = true then (
      (xm_unitAt_33 a0 s1 f).bind fun p2 =>
      if am_in s1 4 = true then (
      if (xm_combined (f 147 s1.toNatClampNeg) p2 a1) = f 35 s1.toNatClampNeg then (
        am_let (s1 + 1 : Int32) fun t4 =>
        some (.inl t4))
      else (
        some (.inr false))) else none) else none)
    else (
      some (.inr true))) : Option ((Int32) ⊕ (Bool)))) am_F 0
def xm_isWithThird_33 (f : (Nat → Nat → Int32)) : Option (Bool) :=
  am_loop (fun (s1 : Int32) => ((
    if 9 < s1 then (
      some (.inr false))
    else (
      (am_loop (fun (s2 : Int32) => ((
        if s2 < 4 then (
          (xm_isThird_33 s1 s2 f).bind fun p3 =>
          if p3 = true then (
            some (.inr (.inl true)))
          else (
            am_let (s2 + 1 : Int32) fun t4 =>
            some (.inl t4)))
        else (
          some (.inr (.inr ())))) : Option ((Int32) ⊕ ((Bool) ⊕ (Unit))))) am_F 0).bind fun e5 =>
      e5.elim (fun v => some (.inr v)) fun e6 =>
      am_let (s1 + 1 : Int32) fun t7 =>
      some (.inl t7))) : Option ((Int32) ⊕ (Bool)))) am_F 0
def xm_isReached_33 (f : (Nat → Nat → Int32)) : Option (Bool) :=
  am_loop (fun (s1 : Int32) => ((
    if s1 < f 33 0 then (
      if am_in s1 4 = true then (
      if am_in s1 4 = true then (
      if f 147 s1.toNatClampNeg = f 35 s1.toNatClampNeg then (
        am_let (s1 + 1 : Int32) fun t2 =>
        some (.inl t2))
      else (
        some (.inr false))) else none) else none)
    else (
      some (.inr true))) : Option ((Int32) ⊕ (Bool)))) am_F 0
def xm_isLonger_33 (a0 : Bool) (f : (Nat → Nat → Int32)) : Option (Bool × (Nat → Nat → Int32)) :=
  (am_loop (fun (s1 : Int32 × (Nat → Nat → Int32)) => ((
    if 9 < s1.1 then (
      some (.inr (.inr s1.2)))
    else (
      (am_loop (fun (s2 : Int32 × (Nat → Nat → Int32)) => ((
        if 9 < s2.1 then (
          some (.inr (.inr s2.2)))
        else (
          (am_loop (fun (s3 : Int32 × (Nat → Nat → Int32)) => ((
            if s3.1 < 3 then (
              (xm_joinUnits_33 s1.1 s2.1 s3.1 s3.2).bind fun p4 =>
              if a0 = true then (
                (xm_isWithThird_33  p4).bind fun p5 =>
                if p5 = true then (
                  some (.inr (.inl (true, p4))))
                else (
                  am_let (s3.1 + 1 : Int32) fun t6 =>
                  some (.inl (t6, p4))))
              else (
                (xm_isReached_33  p4).bind fun p7 =>
                if p7 = true then (
                  some (.inr (.inl (true, p4))))
                else (
                  am_let (s3.1 + 1 : Int32) fun t8 =>
                  some (.inl (t8, p4)))))
            else (
              some (.inr (.inr s3.2)))) : Option ((Int32 × (Nat → Nat → Int32)) ⊕ ((Bool × (Nat → Nat → Int32)) ⊕ ((Nat → Nat → Int32)))))) am_F (0, s2.2)).bind fun e9 =>
          e9.elim (fun v => some (.inr (.inl v))) fun e10 =>
          am_let (s2.1 + 1 : Int32) fun t11 =>
          some (.inl (t11, e10)))) : Option ((Int32 × (Nat → Nat → Int32)) ⊕ ((Bool × (Nat → Nat → Int32)) ⊕ ((Nat → Nat → Int32)))))) am_F (0, s1.2)).bind fun e12 =>
      e12.elim (fun v => some (.inr (.inl v))) fun e13 =>
      am_let (s1.1 + 1 : Int32) fun t14 =>
      some (.inl (t14, e13)))) : Option ((Int32 × (Nat → Nat → Int32)) ⊕ ((Bool × (Nat → Nat → Int32)) ⊕ ((Nat → Nat → Int32)))))) am_F (0, f)).bind fun e15 =>
  e15.elim (fun v => some v) fun e16 =>
  some (false, e16)
def xm_leastTerm_33 (f : (Nat → Nat → Int32)) : Option (Int32 × (Nat → Nat → Int32)) :=
  (am_loop (fun (s1 : Int32) => ((
    if 9 < s1 then (
      some (.inr (.inr ())))
    else (
      (xm_isUnit_33 s1 f).bind fun p2 =>
      if p2 = true then (
        some (.inr (.inl (1, f))))
      else (
        am_let (s1 + 1 : Int32) fun t3 =>
        some (.inl t3)))) : Option ((Int32) ⊕ ((Int32 × (Nat → Nat → Int32)) ⊕ (Unit))))) am_F 0).bind fun e4 =>
  e4.elim (fun v => some v) fun e5 =>
  (xm_isLonger_33 false f).bind fun p6 =>
  if p6.1 = true then (
    some (2, p6.2))
  else (
    (xm_isLonger_33 true p6.2).bind fun p7 =>
    if p7.1 = true then (
      some (3, p7.2))
    else (
      some ((-1), p7.2)))
def x_term (f : (Nat → Nat → Int32)) : Option (Int32 × (Nat → Nat → Int32)) :=
  (xm_leastTerm_33  f).bind fun p1 =>
  some (p1.1, p1.2)
def xr_clearAll_36 (f : (Nat → Nat → Int32)) : Int32 × (Nat → Nat → Int32) :=
  am_let (am_up f 36 0 0 : Nat → Nat → Int32) fun f1 =>
  (f1 36 0, f1)
def xr_append_36 (a0 : Int32) (a1 : Int32) (f : (Nat → Nat → Int32)) : Option (Int32 × (Nat → Nat → Int32)) :=
  if f 36 0 < (nI 6) then (
    if am_in (f 36 0) 6 = true then (
    am_let (am_up f 37 (f 36 0).toNatClampNeg a0 : Nat → Nat → Int32) fun f1 =>
    if am_in (f1 36 0) 6 = true then (
    am_let (am_up f1 38 (f1 36 0).toNatClampNeg a1 : Nat → Nat → Int32) fun f2 =>
    am_let (am_up f2 36 0 ((f2 36 0) + 1) : Nat → Nat → Int32) fun f3 =>
    some (f3 36 0, f3)) else none) else none)
  else (
    some ((-1), f))
def x_saying (a0 : Int32) (a1 : Int32) (f : (Nat → Nat → Int32)) : Option (Int32 × (Nat → Nat → Int32)) :=
  if a0 = (-1) then (
    am_let (xr_clearAll_36  f) fun p1 =>
    some (p1.1, p1.2))
  else (
    if (x_within a0 0 3) = true then (
      if a0 < 2 then (
        if (x_within a1 1 50) = true then (
          (xr_append_36 a0 a1 f).bind fun p4 =>
          some (p4.1, p4.2))
        else (
          some ((-1), f)))
      else (
        (xr_append_36 a0 a1 f).bind fun p5 =>
        some (p5.1, p5.2)))
    else (
      some ((-1), f)))
def xm_afterSaying (a0 : Int32) (a1 : Int32) (a2 : Int32)  : Int32 :=
  if a1 = 0 then (
    (a0 - a2))
  else if a1 = 1 then (
    (a0 + a2))
  else if a1 = 2 then (
    (a0 / 2))
  else ((2 * a0))
def xm_fewestSayings_36 (a0 : Int32) (a1 : Int32) (f : (Nat → Nat → Int32)) : Option (Int32 × (Nat → Nat → Int32)) :=
  (am_loop (fun (s1 : Int32 × (Nat → Nat → Int32)) => ((
    if s1.1 < (nI 100) then (
      if am_in s1.1 100 = true then (
      am_let (am_up s1.2 148 s1.1.toNatClampNeg (-1) : Nat → Nat → Int32) fun f2 =>
      am_let (s1.1 + 1 : Int32) fun t3 =>
      some (.inl (t3, f2))) else none)
    else (
      some (.inr s1.2))) : Option ((Int32 × (Nat → Nat → Int32)) ⊕ ((Nat → Nat → Int32))))) am_F (0, f)).bind fun e4 =>
  if am_in a0 100 = true then (
  am_let (am_up e4 148 a0.toNatClampNeg 0 : Nat → Nat → Int32) fun f5 =>
  am_let (am_up f5 149 0 a0 : Nat → Nat → Int32) fun f6 =>
  (am_loop (fun (s7 : Int32 × Int32 × (Nat → Nat → Int32)) => ((
    if s7.2.1 < s7.1 then (
      if am_in a1 100 = true then (
      if s7.2.2 148 a1.toNatClampNeg = (-1) then (
        if am_in s7.2.1 100 = true then (
        am_let (s7.2.2 149 s7.2.1.toNatClampNeg : Int32) fun t8 =>
        (am_loop (fun (s9 : Int32 × Int32 × (Nat → Nat → Int32)) => ((
          if s9.2.1 < s9.2.2 36 0 then (
            if am_in s9.2.1 6 = true then (
            if am_in s9.2.1 6 = true then (
            am_let ((xm_afterSaying t8 (s9.2.2 37 s9.2.1.toNatClampNeg) (s9.2.2 38 s9.2.1.toNatClampNeg)) : Int32) fun t11 =>
            ((if t11 < 0 then (
                some (s9.1, s9.2.2))
              else (
                if t11 < (nI 100) then (
                  if s9.1 < (nI 100) then (
                    if am_in t11 100 = true then (
                    if s9.2.2 148 t11.toNatClampNeg = (-1) then (
                      if am_in t8 100 = true then (
                      if am_in t11 100 = true then (
                      am_let (am_up s9.2.2 148 t11.toNatClampNeg ((s9.2.2 148 t8.toNatClampNeg) + 1) : Nat → Nat → Int32) fun f12 =>
                      if am_in s9.1 100 = true then (
                      am_let (am_up f12 149 s9.1.toNatClampNeg t11 : Nat → Nat → Int32) fun f13 =>
                      am_let (s9.1 + 1 : Int32) fun t14 =>
                      some (t14, f13)) else none) else none) else none)
                    else (
                      some (s9.1, s9.2.2))) else none)
                  else (
                    some (s9.1, s9.2.2)))
                else (
                  some (s9.1, s9.2.2)))) : Option (Int32 × (Nat → Nat → Int32))).bind fun t15 =>
            am_let (s9.2.1 + 1 : Int32) fun t16 =>
            some (.inl (t15.1, t16, t15.2))) else none) else none)
          else (
            some (.inr (s9.1, s9.2.2)))) : Option ((Int32 × Int32 × (Nat → Nat → Int32)) ⊕ (Int32 × (Nat → Nat → Int32))))) am_F (s7.1, 0, s7.2.2)).bind fun e17 =>
        am_let (s7.2.1 + 1 : Int32) fun t18 =>
        some (.inl (e17.1, t18, e17.2))) else none)
      else (
        some (.inr s7.2.2))) else none)
    else (
      some (.inr s7.2.2))) : Option ((Int32 × Int32 × (Nat → Nat → Int32)) ⊕ ((Nat → Nat → Int32))))) am_F (1, 0, f6)).bind fun e19 =>
  if am_in a1 100 = true then (
  some (e19 148 a1.toNatClampNeg, e19)) else none) else none
def x_cool (a0 : Int32) (a1 : Int32) (f : (Nat → Nat → Int32)) : Option (Int32 × (Nat → Nat → Int32)) :=
  if (x_within a0 0 99) = true then (
    if (x_within a1 0 99) = true then (
      (xm_fewestSayings_36 a0 a1 f).bind fun p3 =>
      some (p3.1, p3.2))
    else (
      some ((-1), f)))
  else (
    some ((-1), f))
def xr_clearAll_39 (f : (Nat → Nat → Int32)) : Int32 × (Nat → Nat → Int32) :=
  am_let (am_up f 39 0 0 : Nat → Nat → Int32) fun f1 =>
  (f1 39 0, f1)
def xr_append_39 (a0 : Int32) (a1 : Int32) (f : (Nat → Nat → Int32)) : Option (Int32 × (Nat → Nat → Int32)) :=
  if f 39 0 < (nI 4) then (
    if am_in (f 39 0) 4 = true then (
    am_let (am_up f 40 (f 39 0).toNatClampNeg a0 : Nat → Nat → Int32) fun f1 =>
    if am_in (f1 39 0) 4 = true then (
    am_let (am_up f1 41 (f1 39 0).toNatClampNeg a1 : Nat → Nat → Int32) fun f2 =>
    am_let (am_up f2 39 0 ((f2 39 0) + 1) : Nat → Nat → Int32) fun f3 =>
    some (f3 39 0, f3)) else none) else none)
  else (
    some ((-1), f))
def x_coal (a0 : Int32) (f : (Nat → Nat → Int32)) : Option (Int32 × (Nat → Nat → Int32)) :=
  if a0 = (-1) then (
    am_let (xr_clearAll_39  f) fun p1 =>
    some (p1.1, p1.2))
  else (
    if (x_within a0 1 40) = true then (
      (xr_append_39 a0 0 f).bind fun p3 =>
      some (p3.1, p3.2))
    else (
      some ((-1), f)))
def xm_learnNimbers (a0 : Int32) (f : (Nat → Nat → Int32)) : Option ((Nat → Nat → Int32)) :=
  am_let (((f 143 7) + 1) : Int32) fun t1 =>
  am_loop (fun (s2 : Int32 × (Nat → Nat → Int32)) => ((
    if a0 < s2.1 then (
      some (.inr s2.2))
    else (
      if s2.1 < (nI 41) then (
        (am_loop (fun (s3 : Int32 × Int32) => ((
          if (2 * s3.2) < s2.1 then (
            if am_in s3.2 41 = true then (
            if am_in (s2.1 - s3.2) 41 = true then (
            am_let ((s3.1 ||| (1 <<< (((s2.2 150 s3.2.toNatClampNeg) ^^^ (s2.2 150 (s2.1 - s3.2).toNatClampNeg)) &&& 31))) : Int32) fun t4 =>
            am_let (s3.2 + 1 : Int32) fun t5 =>
            some (.inl (t4, t5))) else none) else none)
          else (
            some (.inr s3.1))) : Option ((Int32 × Int32) ⊕ (Int32)))) am_F (0, 1)).bind fun e6 =>
        if am_in s2.1 41 = true then (
        am_let (am_up s2.2 150 s2.1.toNatClampNeg (ji_numberOfTrailingZeros (e6 ^^^ (-1))) : Nat → Nat → Int32) fun f8 =>
        am_let (am_up f8 143 7 s2.1 : Nat → Nat → Int32) fun f9 =>
        am_let (s2.1 + 1 : Int32) fun t10 =>
        some (.inl (t10, f9))) else none)
      else (
        some (.inr s2.2)))) : Option ((Int32 × (Nat → Nat → Int32)) ⊕ ((Nat → Nat → Int32))))) am_F (t1, f)
def xm_winningPart_39 (a0 : Int32) (f : (Nat → Nat → Int32)) : Option (Int32 × (Nat → Nat → Int32)) :=
  (am_loop (fun (s1 : Int32 × Int32 × (Nat → Nat → Int32)) => ((
    if s1.2.1 < s1.2.2 39 0 then (
      if am_in s1.2.1 4 = true then (
      (xm_learnNimbers (s1.2.2 40 s1.2.1.toNatClampNeg) s1.2.2).bind fun p2 =>
      if am_in s1.2.1 4 = true then (
      if am_in (p2 40 s1.2.1.toNatClampNeg) 41 = true then (
      am_let ((s1.1 ^^^ (p2 150 (p2 40 s1.2.1.toNatClampNeg).toNatClampNeg)) : Int32) fun t3 =>
      am_let (s1.2.1 + 1 : Int32) fun t4 =>
      some (.inl (t3, t4, p2))) else none) else none) else none)
    else (
      some (.inr (s1.1, s1.2.2)))) : Option ((Int32 × Int32 × (Nat → Nat → Int32)) ⊕ (Int32 × (Nat → Nat → Int32))))) am_F (0, 0, f)).bind fun e5 =>
  (am_loop (fun (s6 : Int32) => ((
    if s6 < e5.2 39 0 then (
      if am_in s6 4 = true then (
      am_let (e5.2 40 s6.toNatClampNeg : Int32) fun t7 =>
      if am_in t7 41 = true then (
      am_let ((e5.1 ^^^ (e5.2 150 t7.toNatClampNeg)) : Int32) fun t8 =>
      (am_loop (fun (s9 : Int32) => ((
        if (2 * s9) < t7 then (
          if am_in s9 41 = true then (
          if am_in (t7 - s9) 41 = true then (
          if ((e5.2 150 s9.toNatClampNeg) ^^^ (e5.2 150 (t7 - s9).toNatClampNeg)) = t8 then (
            am_let ((if a0 = 0 then (
                s6)
              else (
                s9)) : Int32) fun t10 =>
            some (.inr (.inl (t10, e5.2))))
          else (
            am_let (s9 + 1 : Int32) fun t11 =>
            some (.inl t11))) else none) else none)
        else (
          some (.inr (.inr ())))) : Option ((Int32) ⊕ ((Int32 × (Nat → Nat → Int32)) ⊕ (Unit))))) am_F 1).bind fun e12 =>
      e12.elim (fun v => some (.inr (.inl v))) fun e13 =>
      am_let (s6 + 1 : Int32) fun t14 =>
      some (.inl t14)) else none) else none)
    else (
      some (.inr (.inr ())))) : Option ((Int32) ⊕ ((Int32 × (Nat → Nat → Int32)) ⊕ (Unit))))) am_F 0).bind fun e15 =>
  e15.elim (fun v => some v) fun e16 =>
  some ((-1), e5.2)
def x_coals (a0 : Int32) (f : (Nat → Nat → Int32)) : Option (Int32 × (Nat → Nat → Int32)) :=
  if (x_within a0 0 1) = true then (
    (xm_winningPart_39 a0 f).bind fun p2 =>
    some (p2.1, p2.2))
  else (
    some ((-1), f))
def xr_clearAll_42 (f : (Nat → Nat → Int32)) : Int32 × (Nat → Nat → Int32) :=
  am_let (am_up f 42 0 0 : Nat → Nat → Int32) fun f1 =>
  (f1 42 0, f1)
def xr_append_42 (a0 : Int32) (a1 : Int32) (f : (Nat → Nat → Int32)) : Option (Int32 × (Nat → Nat → Int32)) :=
  if f 42 0 < (nI 8) then (
    if am_in (f 42 0) 8 = true then (
    am_let (am_up f 43 (f 42 0).toNatClampNeg a0 : Nat → Nat → Int32) fun f1 =>
    if am_in (f1 42 0) 8 = true then (
    am_let (am_up f1 44 (f1 42 0).toNatClampNeg a1 : Nat → Nat → Int32) fun f2 =>
    am_let (am_up f2 42 0 ((f2 42 0) + 1) : Nat → Nat → Int32) fun f3 =>
    some (f3 42 0, f3)) else none) else none)
  else (
    some ((-1), f))
def x_shown (a0 : Int32) (f : (Nat → Nat → Int32)) : Option (Int32 × (Nat → Nat → Int32)) :=
  if a0 = (-1) then (
    am_let (xr_clearAll_42  f) fun p1 =>
    some (p1.1, p1.2))
  else (
    if (x_within a0 0 65535) = true then (
      (xr_append_42 a0 0 f).bind fun p3 =>
      some (p3.1, p3.2))
    else (
      some ((-1), f)))
def xm_rank_42 (f : (Nat → Nat → Int32)) : Option (Int32 × (Nat → Nat → Int32)) :=
  (am_loop (fun (s1 : Int32 × (Nat → Nat → Int32)) => ((
    if s1.1 < (nI 16) then (
      if am_in s1.1 16 = true then (
      am_let (am_up s1.2 151 s1.1.toNatClampNeg 0 : Nat → Nat → Int32) fun f2 =>
      am_let (s1.1 + 1 : Int32) fun t3 =>
      some (.inl (t3, f2))) else none)
    else (
      some (.inr s1.2))) : Option ((Int32 × (Nat → Nat → Int32)) ⊕ ((Nat → Nat → Int32))))) am_F (0, f)).bind fun e4 =>
  am_loop (fun (s5 : Int32 × Int32 × (Nat → Nat → Int32)) => ((
    if s5.2.1 < s5.2.2 42 0 then (
      if am_in s5.2.1 8 = true then (
      am_let (s5.2.2 43 s5.2.1.toNatClampNeg : Int32) fun t6 =>
      am_let (((nI 16) - 1) : Int32) fun t7 =>
      (am_loop (fun (s8 : Int32 × Int32 × Int32 × (Nat → Nat → Int32)) => ((
        if s8.2.2.1 < 0 then (
          some (.inr (s8.1, s8.2.2.2)))
        else (
          if s8.2.1 = 0 then (
            some (.inr (s8.1, s8.2.2.2)))
          else (
            ((if ((s8.2.1 >>> (s8.2.2.1 &&& 31)) &&& 1) = 0 then (
                some (s8.1, s8.2.1, s8.2.2.2))
              else (
                if am_in s8.2.2.1 16 = true then (
                if s8.2.2.2 151 s8.2.2.1.toNatClampNeg = 0 then (
                  if am_in s8.2.2.1 16 = true then (
                  am_let (am_up s8.2.2.2 151 s8.2.2.1.toNatClampNeg s8.2.1 : Nat → Nat → Int32) fun f9 =>
                  am_let (s8.1 + 1 : Int32) fun t10 =>
                  some (t10, 0, f9)) else none)
                else (
                  if am_in s8.2.2.1 16 = true then (
                  am_let ((s8.2.1 ^^^ (s8.2.2.2 151 s8.2.2.1.toNatClampNeg)) : Int32) fun t11 =>
                  some (s8.1, t11, s8.2.2.2)) else none)) else none)) : Option (Int32 × Int32 × (Nat → Nat → Int32))).bind fun t12 =>
            am_let (s8.2.2.1 + (-1) : Int32) fun t13 =>
            some (.inl (t12.1, t12.2.1, t13, t12.2.2))))) : Option ((Int32 × Int32 × Int32 × (Nat → Nat → Int32)) ⊕ (Int32 × (Nat → Nat → Int32))))) am_F (s5.1, t6, t7, s5.2.2)).bind fun e14 =>
      am_let (s5.2.1 + 1 : Int32) fun t15 =>
      some (.inl (e14.1, t15, e14.2))) else none)
    else (
      some (.inr (s5.1, s5.2.2)))) : Option ((Int32 × Int32 × (Nat → Nat → Int32)) ⊕ (Int32 × (Nat → Nat → Int32))))) am_F (0, 0, e4)
def xm_fewestLaid_42 (a0 : Int32) (f : (Nat → Nat → Int32)) : Option (Int32) :=
  am_loop (fun (s1 : Int32 × Int32) => ((
    if s1.2 < (1 <<< ((f 42 0) &&& 31)) then (
      (am_loop (fun (s2 : Int32 × Int32) => ((
        if s2.2 < f 42 0 then (
          ((if ((s1.2 >>> (s2.2 &&& 31)) &&& 1) = 1 then (
              if am_in s2.2 8 = true then (
              am_let ((s2.1 ^^^ (f 43 s2.2.toNatClampNeg)) : Int32) fun t3 =>
              some t3) else none)
            else (
              some s2.1)) : Option (Int32)).bind fun t4 =>
          am_let (s2.2 + 1 : Int32) fun t5 =>
          some (.inl (t4, t5)))
        else (
          some (.inr s2.1))) : Option ((Int32 × Int32) ⊕ (Int32)))) am_F (0, 0)).bind fun e6 =>
      am_let ((ji_bitCount s1.2) : Int32) fun t8 =>
      am_let ((if e6 = a0 then (
          if s1.1 = (-1) then (
            t8)
          else (
            if t8 < s1.1 then (
              t8)
            else (
              s1.1)))
        else (
          s1.1)) : Int32) fun t9 =>
      am_let (s1.2 + 1 : Int32) fun t10 =>
      some (.inl (t9, t10)))
    else (
      some (.inr s1.1))) : Option ((Int32 × Int32) ⊕ (Int32)))) am_F ((-1), 0)
def x_show (a0 : Int32) (a1 : Int32) (f : (Nat → Nat → Int32)) : Option (Int32 × (Nat → Nat → Int32)) :=
  if a1 = 0 then (
    (xm_rank_42  f).bind fun p1 =>
    some (p1.1, p1.2))
  else (
    if (x_within a0 0 65535) = true then (
      if (x_within a1 1 2) = true then (
        (xm_fewestLaid_42 a0 f).bind fun p4 =>
        if a1 = 2 then (
          some (p4, f))
        else (
          if p4 = (-1) then (
            some (0, f))
          else (
            some (1, f))))
      else (
        some ((-1), f)))
    else (
      some ((-1), f)))
def x_cost (a0 : Int32) (a1 : Int32) (f : (Nat → Nat → Int32)) : Option (Bool × (Nat → Nat → Int32)) :=
  if (x_within a0 0 7) = true then (
    if (x_within a1 0 99) = true then (
      if am_in a0 8 = true then (
      am_let (am_up f 54 a0.toNatClampNeg a1 : Nat → Nat → Int32) fun f3 =>
      some (true, f3)) else none)
    else (
      some (false, f)))
  else (
    some (false, f))
def xm_leastChange_54 (a0 : Int32) (a1 : Int32) (a2 : Int32) (f : (Nat → Nat → Int32)) : Option (Int32 × (Nat → Nat → Int32)) :=
  am_let (am_up f 152 0 0 : Nat → Nat → Int32) fun f1 =>
  (am_loop (fun (s2 : Int32 × Int32 × (Nat → Nat → Int32)) => ((
    if a0 < s2.2.1 then (
      some (.inr (s2.1, s2.2.2)))
    else (
      if am_in s2.2.1 41 = true then (
      am_let (am_up s2.2.2 152 s2.2.1.toNatClampNeg 1000000 : Nat → Nat → Int32) fun f3 =>
      (am_loop (fun (s4 : Int32 × Int32 × Int32 × (Nat → Nat → Int32)) => ((
        if s2.2.1 < s4.2.2.1 then (
          some (.inr (s4.1, s4.2.2.2)))
        else (
          if (nI 8) < s4.2.2.1 then (
            some (.inr (s4.1, s4.2.2.2)))
          else (
            if am_in (s4.2.2.1 - 1) 8 = true then (
            am_let ((s4.2.1 + (s4.2.2.2 54 (s4.2.2.1 - 1).toNatClampNeg)) : Int32) fun t5 =>
            if am_in (s2.2.1 - s4.2.2.1) 41 = true then (
            if am_in s2.2.1 41 = true then (
            ((if (t5 + (s4.2.2.2 152 (s2.2.1 - s4.2.2.1).toNatClampNeg)) < s4.2.2.2 152 s2.2.1.toNatClampNeg then (
                if am_in (s2.2.1 - s4.2.2.1) 41 = true then (
                if am_in s2.2.1 41 = true then (
                am_let (am_up s4.2.2.2 152 s2.2.1.toNatClampNeg (t5 + (s4.2.2.2 152 (s2.2.1 - s4.2.2.1).toNatClampNeg)) : Nat → Nat → Int32) fun f6 =>
                some (s4.2.2.1, f6)) else none) else none)
              else (
                some (s4.1, s4.2.2.2))) : Option (Int32 × (Nat → Nat → Int32))).bind fun t7 =>
            am_let (s4.2.2.1 + 1 : Int32) fun t8 =>
            some (.inl (t7.1, t5, t8, t7.2))) else none) else none) else none))) : Option ((Int32 × Int32 × Int32 × (Nat → Nat → Int32)) ⊕ (Int32 × (Nat → Nat → Int32))))) am_F (s2.1, a1, 1, f3)).bind fun e9 =>
      am_let (s2.2.1 + 1 : Int32) fun t10 =>
      some (.inl (e9.1, t10, e9.2))) else none)) : Option ((Int32 × Int32 × (Nat → Nat → Int32)) ⊕ (Int32 × (Nat → Nat → Int32))))) am_F ((-1), 1, f1)).bind fun e11 =>
  if a2 = 0 then (
    if am_in a0 41 = true then (
    some (e11.2 152 a0.toNatClampNeg, e11.2)) else none)
  else (
    some (e11.1, e11.2))
def x_change (a0 : Int32) (a1 : Int32) (a2 : Int32) (f : (Nat → Nat → Int32)) : Option (Int32 × (Nat → Nat → Int32)) :=
  if (x_within a0 1 40) = true then (
    if (x_within a1 0 99) = true then (
      if (x_within a2 0 1) = true then (
        (xm_leastChange_54 a0 a1 a2 f).bind fun p4 =>
        some (p4.1, p4.2))
      else (
        some ((-1), f)))
    else (
      some ((-1), f)))
  else (
    some ((-1), f))
def xm_priceOf (a0 : Int32) (a1 : Int32) (f : (Nat → Nat → Int32)) : Option (Int32) :=
  if a0 < a1 then (
    if am_in ((41 * a0) + a1) 1681 = true then (
    some (f 153 ((41 * a0) + a1).toNatClampNeg)) else none)
  else (
    some 0)
def xm_priceBy (a0 : Int32) (a1 : Int32) (a2 : Int32) (f : (Nat → Nat → Int32)) : Option (Int32) :=
  (xm_priceOf a0 (a2 - 1) f).bind fun p1 =>
  (xm_priceOf (a2 + 1) a1 f).bind fun p2 =>
  some (a2 + (am_max p1 p2))
def xm_learnPrices (a0 : Int32) (f : (Nat → Nat → Int32)) : Option ((Nat → Nat → Int32)) :=
  am_let (((f 143 11) + 1) : Int32) fun t1 =>
  am_loop (fun (s2 : Int32 × (Nat → Nat → Int32)) => ((
    if a0 < s2.1 then (
      some (.inr s2.2))
    else (
      if 40 < s2.1 then (
        some (.inr s2.2))
      else (
        am_let ((s2.1 - 1) : Int32) fun t3 =>
        (am_loop (fun (s4 : Int32 × (Nat → Nat → Int32)) => ((
          if s4.1 < 1 then (
            some (.inr s4.2))
          else (
            (am_loop (fun (s5 : Int32 × Int32) => ((
              if s2.1 < s5.2 then (
                some (.inr s5.1))
              else (
                (xm_priceBy s4.1 s2.1 s5.2 s4.2).bind fun p6 =>
                am_let ((am_min s5.1 p6) : Int32) fun t7 =>
                am_let (s5.2 + 1 : Int32) fun t8 =>
                some (.inl (t7, t8)))) : Option ((Int32 × Int32) ⊕ (Int32)))) am_F (1000000, s4.1)).bind fun e9 =>
            if am_in ((41 * s4.1) + s2.1) 1681 = true then (
            am_let (am_up s4.2 153 ((41 * s4.1) + s2.1).toNatClampNeg e9 : Nat → Nat → Int32) fun f10 =>
            am_let (s4.1 + (-1) : Int32) fun t11 =>
            some (.inl (t11, f10))) else none)) : Option ((Int32 × (Nat → Nat → Int32)) ⊕ ((Nat → Nat → Int32))))) am_F (t3, s2.2)).bind fun e12 =>
        am_let (am_up e12 143 11 s2.1 : Nat → Nat → Int32) fun f13 =>
        am_let (s2.1 + 1 : Int32) fun t14 =>
        some (.inl (t14, f13))))) : Option ((Int32 × (Nat → Nat → Int32)) ⊕ ((Nat → Nat → Int32))))) am_F (t1, f)
def xm_dearest (a0 : Int32) (a1 : Int32) (f : (Nat → Nat → Int32)) : Option (Int32 × (Nat → Nat → Int32)) :=
  (xm_learnPrices a0 f).bind fun p1 =>
  if a1 = 0 then (
    (xm_priceOf 1 a0 p1).bind fun p2 =>
    some (p2, p1))
  else (
    am_loop (fun (s3 : Int32) => ((
      if a0 < s3 then (
        some (.inr ((-1), p1)))
      else (
        if 1 < a0 then (
          (xm_priceBy 1 a0 s3 p1).bind fun p4 =>
          (xm_priceOf 1 a0 p1).bind fun p5 =>
          if p4 = p5 then (
            some (.inr (s3, p1)))
          else (
            am_let (s3 + 1 : Int32) fun t6 =>
            some (.inl t6)))
        else (
          some (.inr ((-1), p1))))) : Option ((Int32) ⊕ (Int32 × (Nat → Nat → Int32))))) am_F 1)
def x_dear (a0 : Int32) (a1 : Int32) (f : (Nat → Nat → Int32)) : Option (Int32 × (Nat → Nat → Int32)) :=
  if (x_within a0 1 40) = true then (
    if (x_within a1 0 1) = true then (
      (xm_dearest a0 a1 f).bind fun p3 =>
      some (p3.1, p3.2))
    else (
      some ((-1), f)))
  else (
    some ((-1), f))
def xr_clearAll_45 (f : (Nat → Nat → Int32)) : Int32 × (Nat → Nat → Int32) :=
  am_let (am_up f 45 0 0 : Nat → Nat → Int32) fun f1 =>
  (f1 45 0, f1)
def xr_append_45 (a0 : Int32) (a1 : Int32) (f : (Nat → Nat → Int32)) : Option (Int32 × (Nat → Nat → Int32)) :=
  if f 45 0 < (nI 24) then (
    if am_in (f 45 0) 24 = true then (
    am_let (am_up f 46 (f 45 0).toNatClampNeg a0 : Nat → Nat → Int32) fun f1 =>
    if am_in (f1 45 0) 24 = true then (
    am_let (am_up f1 47 (f1 45 0).toNatClampNeg a1 : Nat → Nat → Int32) fun f2 =>
    am_let (am_up f2 45 0 ((f2 45 0) + 1) : Nat → Nat → Int32) fun f3 =>
    some (f3 45 0, f3)) else none) else none)
  else (
    some ((-1), f))
def x_reading (a0 : Int32) (f : (Nat → Nat → Int32)) : Option (Int32 × (Nat → Nat → Int32)) :=
  if a0 = (-1) then (
    am_let (xr_clearAll_45  f) fun p1 =>
    some (p1.1, p1.2))
  else (
    if (x_within a0 0 99) = true then (
      (xr_append_45 a0 0 f).bind fun p3 =>
      some (p3.1, p3.2))
    else (
      some ((-1), f)))
