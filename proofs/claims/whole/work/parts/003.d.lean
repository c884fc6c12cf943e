def xs_takeNumber (a0 : Int32) (a1 : Int32) (f : (Nat → Nat → Int32)) : Option (Bool × (Nat → Nat → Int32)) :=
  if f 123 1 = 2 then (
    if f 123 2 < a0 then (
      am_let (xs_refuse 2 f) fun p1 =>
      some (p1.1, p1.2))
    else (
      if a1 < f 123 2 then (
        am_let (xs_refuse 2 f) fun p2 =>
        some (p2.1, p2.2))
      else (
        am_let (am_up f 128 7 (f 123 2) : Nat → Nat → Int32) fun f3 =>
        (xt_advance  f3).bind fun p4 =>
        some (true, p4))))
  else (
    am_let (xs_refuse 1 f) fun p5 =>
    some (p5.1, p5.2))
def xs_readSum (f : (Nat → Nat → Int32)) : Option (Bool × (Nat → Nat → Int32)) :=
  (xs_readUnit  f).bind fun p1 =>
  if p1.1 = true then (
    (am_loop (fun (s2 : Int32 × Int32 × (Nat → Nat → Int32)) => ((
      if s2.2.1 < 400 then (
        if (xs_isJoin  s2.2.2) = true then (
          am_let (s2.2.2 123 2 : Int32) fun t4 =>
          am_let ((if t4 = 42 then (
              true)
            else (
              if t4 = 47 then (
                true)
              else (
                false))) : Bool) fun t5 =>
          ((if t5 = true then (
              some s2.2.2)
            else (
              if s2.1 = 0 then (
                some s2.2.2)
              else (
                (xl_emit_129 s2.1 s2.2.2).bind fun p6 =>
                some p6))) : Option ((Nat → Nat → Int32))).bind fun t7 =>
          (xt_advance  t7).bind fun p8 =>
          if t4 = 47 then (
            (xs_takeNumber 1 9999 p8).bind fun p9 =>
            if p9.1 = true then (
              ((if t4 = 47 then (
                  (xl_emit_129 (p9.2 128 7) p9.2).bind fun p10 =>
                  some p10)
                else (
                  some p9.2)) : Option ((Nat → Nat → Int32))).bind fun t11 =>
              ((if t5 = true then (
                  (xl_emit_129 (20000 + t4) t11).bind fun p12 =>
                  some (s2.1, p12))
                else (
                  am_let ((20000 + t4) : Int32) fun t13 =>
                  some (t13, t11))) : Option (Int32 × (Nat → Nat → Int32))).bind fun t14 =>
              am_let (s2.2.1 + 1 : Int32) fun t15 =>
              some (.inl (t14.1, t15, t14.2)))
            else (
              some (.inr (.inl (false, p9.2)))))
          else (
            (xs_readUnit  p8).bind fun p16 =>
            if p16.1 = true then (
              ((if t4 = 47 then (
                  (xl_emit_129 (p16.2 128 7) p16.2).bind fun p17 =>
                  some p17)
                else (
                  some p16.2)) : Option ((Nat → Nat → Int32))).bind fun t18 =>
              ((if t5 = true then (
                  (xl_emit_129 (20000 + t4) t18).bind fun p19 =>
                  some (s2.1, p19))
                else (
                  am_let ((20000 + t4) : Int32) fun t20 =>
                  some (t20, t18))) : Option (Int32 × (Nat → Nat → Int32))).bind fun t21 =>
              am_let (s2.2.1 + 1 : Int32) fun t22 =>
              some (.inl (t21.1, t22, t21.2)))
            else (
              some (.inr (.inl (false, p16.2))))))
        else (
          some (.inr (.inr (s2.1, s2.2.2)))))
      else (
        some (.inr (.inr (s2.1, s2.2.2))))) : Option ((Int32 × Int32 × (Nat → Nat → Int32)) ⊕ ((Bool × (Nat → Nat → Int32)) ⊕ (Int32 × (Nat → Nat → Int32)))))) am_F (0, 0, p1.2)).bind fun e23 =>
    e23.elim (fun v => some v) fun e24 =>
    if e24.1 = 0 then (
      some (true, e24.2))
    else (
      (xl_emit_129 e24.1 e24.2).bind fun p25 =>
      some (true, p25)))
  else (
    some (false, p1.2))
def xt_isWord (a0 : Int32) (f : (Nat → Nat → Int32)) : Bool :=
  if f 123 1 = 1 then (
    if f 123 2 = a0 then (
      true)
    else (
      false))
  else (
    false)
def xs_takeSign (a0 : Int32) (f : (Nat → Nat → Int32)) : Option (Bool × (Nat → Nat → Int32)) :=
  if (xt_isSign a0 f) = true then (
    (xt_advance  f).bind fun p2 =>
    some (true, p2))
  else (
    am_let (xs_refuse 1 f) fun p3 =>
    some (p3.1, p3.2))
def xs_readAny_B (r_readAny : Int32 → (Nat → Nat → Int32) → Option (Bool × (Nat → Nat → Int32))) (r_readCondition : Int32 → (Nat → Nat → Int32) → Option (Bool × (Nat → Nat → Int32))) (a0 : Int32) (f : (Nat → Nat → Int32)) : Option (Bool × (Nat → Nat → Int32)) :=
  (r_readCondition a0 f).bind fun p1 =>
  if p1.1 = true then (
    (am_loop (fun (s2 : Bool × Int32 × (Nat → Nat → Int32)) => ((
      if s2.2.1 < 400 then (
        if (xt_isWord 4 s2.2.2) = true then (
          am_let ((xt_isWord 5 s2.2.2) : Bool) fun t5 =>
          ((if t5 = true then (
              some s2.2.2)
            else (
              if s2.1 = true then (
                (xl_emit_129 20124 s2.2.2).bind fun p6 =>
                some p6)
              else (
                some s2.2.2))) : Option ((Nat → Nat → Int32))).bind fun t7 =>
          am_let ((if s2.1 = true then (
              true)
            else (
              if t5 = true then (
                false)
              else (
                true))) : Bool) fun t8 =>
          (xt_advance  t7).bind fun p9 =>
          (r_readCondition a0 p9).bind fun p10 =>
          if p10.1 = true then (
            ((if t5 = true then (
                (xl_emit_129 20038 p10.2).bind fun p11 =>
                some p11)
              else (
                some p10.2)) : Option ((Nat → Nat → Int32))).bind fun t12 =>
            am_let (s2.2.1 + 1 : Int32) fun t13 =>
            some (.inl (t8, t13, t12)))
          else (
            some (.inr (.inl (false, p10.2)))))
        else (
          if (xt_isWord 5 s2.2.2) = true then (
            am_let ((xt_isWord 5 s2.2.2) : Bool) fun t16 =>
            ((if t16 = true then (
                some s2.2.2)
              else (
                if s2.1 = true then (
                  (xl_emit_129 20124 s2.2.2).bind fun p17 =>
                  some p17)
                else (
                  some s2.2.2))) : Option ((Nat → Nat → Int32))).bind fun t18 =>
            am_let ((if s2.1 = true then (
                true)
              else (
                if t16 = true then (
                  false)
                else (
                  true))) : Bool) fun t19 =>
            (xt_advance  t18).bind fun p20 =>
            (r_readCondition a0 p20).bind fun p21 =>
            if p21.1 = true then (
              ((if t16 = true then (
                  (xl_emit_129 20038 p21.2).bind fun p22 =>
                  some p22)
                else (
                  some p21.2)) : Option ((Nat → Nat → Int32))).bind fun t23 =>
              am_let (s2.2.1 + 1 : Int32) fun t24 =>
              some (.inl (t19, t24, t23)))
            else (
              some (.inr (.inl (false, p21.2)))))
          else (
            some (.inr (.inr (s2.1, s2.2.2))))))
      else (
        some (.inr (.inr (s2.1, s2.2.2))))) : Option ((Bool × Int32 × (Nat → Nat → Int32)) ⊕ ((Bool × (Nat → Nat → Int32)) ⊕ (Bool × (Nat → Nat → Int32)))))) am_F (false, 0, p1.2)).bind fun e25 =>
    e25.elim (fun v => some v) fun e26 =>
    if e26.1 = true then (
      (xl_emit_129 20124 e26.2).bind fun p27 =>
      some (true, p27))
    else (
      some (true, e26.2)))
  else (
    some (false, p1.2))
def xs_readCondition_B (r_readAny : Int32 → (Nat → Nat → Int32) → Option (Bool × (Nat → Nat → Int32))) (r_readCondition : Int32 → (Nat → Nat → Int32) → Option (Bool × (Nat → Nat → Int32))) (a0 : Int32) (f : (Nat → Nat → Int32)) : Option (Bool × (Nat → Nat → Int32)) :=
  am_let ((xt_isWord 6 f) : Bool) fun t2 =>
  am_let ((xt_isSign 40 f) : Bool) fun t4 =>
  if t2 = true then (
    if a0 < 8 then (
      if t2 = true then (
        (xt_advance  f).bind fun p5 =>
        (r_readCondition (a0 + 1) p5).bind fun p6 =>
        (xl_emit_129 20033 p6.2).bind fun p7 =>
        some (p6.1, p7))
      else (
        if t4 = true then (
          (xt_advance  f).bind fun p8 =>
          (r_readAny (a0 + 1) p8).bind fun p9 =>
          if p9.1 = true then (
            (xs_takeSign 41 p9.2).bind fun p10 =>
            if p10.1 = true then (
              some (true, p10.2))
            else (
              some (false, p10.2)))
          else (
            some (false, p9.2)))
        else (
          (xs_readSum  f).bind fun p11 =>
          if p11.1 = true then (
            am_let (p11.2 123 2 : Int32) fun t12 =>
            if (xt_isSign 60 p11.2) = true then (
              (xt_advance  p11.2).bind fun p14 =>
              (xs_readSum  p14).bind fun p15 =>
              (xl_emit_129 (20000 + t12) p15.2).bind fun p16 =>
              some (p15.1, p16))
            else (
              if (xt_isSign 61 p11.2) = true then (
                (xt_advance  p11.2).bind fun p18 =>
                (xs_readSum  p18).bind fun p19 =>
                (xl_emit_129 (20000 + t12) p19.2).bind fun p20 =>
                some (p19.1, p20))
              else (
                if (xt_isSign 62 p11.2) = true then (
                  (xt_advance  p11.2).bind fun p22 =>
                  (xs_readSum  p22).bind fun p23 =>
                  (xl_emit_129 (20000 + t12) p23.2).bind fun p24 =>
                  some (p23.1, p24))
                else (
                  am_let (xs_refuse 1 p11.2) fun p25 =>
                  some (p25.1, p25.2)))))
          else (
            some (false, p11.2)))))
    else (
      am_let (xs_refuse 3 f) fun p26 =>
      some (p26.1, p26.2)))
  else (
    if t4 = true then (
      if a0 < 8 then (
        if t2 = true then (
          (xt_advance  f).bind fun p27 =>
          (r_readCondition (a0 + 1) p27).bind fun p28 =>
          (xl_emit_129 20033 p28.2).bind fun p29 =>
          some (p28.1, p29))
        else (
          if t4 = true then (
            (xt_advance  f).bind fun p30 =>
            (r_readAny (a0 + 1) p30).bind fun p31 =>
            if p31.1 = true then (
              (xs_takeSign 41 p31.2).bind fun p32 =>
              if p32.1 = true then (
                some (true, p32.2))
              else (
                some (false, p32.2)))
            else (
              some (false, p31.2)))
          else (
            (xs_readSum  f).bind fun p33 =>
            if p33.1 = true then (
              am_let (p33.2 123 2 : Int32) fun t34 =>
              if (xt_isSign 60 p33.2) = true then (
                (xt_advance  p33.2).bind fun p36 =>
                (xs_readSum  p36).bind fun p37 =>
                (xl_emit_129 (20000 + t34) p37.2).bind fun p38 =>
                some (p37.1, p38))
              else (
                if (xt_isSign 61 p33.2) = true then (
                  (xt_advance  p33.2).bind fun p40 =>
                  (xs_readSum  p40).bind fun p41 =>
                  (xl_emit_129 (20000 + t34) p41.2).bind fun p42 =>
                  some (p41.1, p42))
                else (
                  if (xt_isSign 62 p33.2) = true then (
                    (xt_advance  p33.2).bind fun p44 =>
                    (xs_readSum  p44).bind fun p45 =>
                    (xl_emit_129 (20000 + t34) p45.2).bind fun p46 =>
                    some (p45.1, p46))
                  else (
                    am_let (xs_refuse 1 p33.2) fun p47 =>
                    some (p47.1, p47.2)))))
            else (
              some (false, p33.2)))))
      else (
        am_let (xs_refuse 3 f) fun p48 =>
        some (p48.1, p48.2)))
    else (
      if t2 = true then (
        (xt_advance  f).bind fun p49 =>
        (r_readCondition (a0 + 1) p49).bind fun p50 =>
        (xl_emit_129 20033 p50.2).bind fun p51 =>
        some (p50.1, p51))
      else (
        if t4 = true then (
          (xt_advance  f).bind fun p52 =>
          (r_readAny (a0 + 1) p52).bind fun p53 =>
          if p53.1 = true then (
            (xs_takeSign 41 p53.2).bind fun p54 =>
            if p54.1 = true then (
              some (true, p54.2))
            else (
              some (false, p54.2)))
          else (
            some (false, p53.2)))
        else (
          (xs_readSum  f).bind fun p55 =>
          if p55.1 = true then (
            am_let (p55.2 123 2 : Int32) fun t56 =>
            if (xt_isSign 60 p55.2) = true then (
              (xt_advance  p55.2).bind fun p58 =>
              (xs_readSum  p58).bind fun p59 =>
              (xl_emit_129 (20000 + t56) p59.2).bind fun p60 =>
              some (p59.1, p60))
            else (
              if (xt_isSign 61 p55.2) = true then (
                (xt_advance  p55.2).bind fun p62 =>
                (xs_readSum  p62).bind fun p63 =>
                (xl_emit_129 (20000 + t56) p63.2).bind fun p64 =>
                some (p63.1, p64))
              else (
                if (xt_isSign 62 p55.2) = true then (
                  (xt_advance  p55.2).bind fun p66 =>
                  (xs_readSum  p66).bind fun p67 =>
                  (xl_emit_129 (20000 + t56) p67.2).bind fun p68 =>
                  some (p67.1, p68))
                else (
                  am_let (xs_refuse 1 p55.2) fun p69 =>
                  some (p69.1, p69.2)))))
          else (
            some (false, p55.2))))))
def x_rec : Nat → (Int32 → (Nat → Nat → Int32) → Option (Bool × (Nat → Nat → Int32))) × (Int32 → (Nat → Nat → Int32) → Option (Bool × (Nat → Nat → Int32)))
  | 0 => (fun a0 f => none, fun a0 f => none)
  | n + 1 => (fun (q : (Int32 → (Nat → Nat → Int32) → Option (Bool × (Nat → Nat → Int32))) × (Int32 → (Nat → Nat → Int32) → Option (Bool × (Nat → Nat → Int32)))) => (fun a0 f => xs_readAny_B q.1 q.2 a0 f, fun a0 f => xs_readCondition_B q.1 q.2 a0 f)) (x_rec n)
def xs_readAny (n : Nat) (a0 : Int32) (f : (Nat → Nat → Int32)) : Option (Bool × (Nat → Nat → Int32)) := (x_rec n).1 a0 f
def xs_readCondition (n : Nat) (a0 : Int32) (f : (Nat → Nat → Int32)) : Option (Bool × (Nat → Nat → Int32)) := (x_rec n).2 a0 f
def xs_readLawLine (a0 : Int32) (a1 : Int32) (f : (Nat → Nat → Int32)) : Option (Bool × (Nat → Nat → Int32)) :=
  if am_in a0 16 = true then (
  am_let (am_up f 131 a0.toNatClampNeg a1 : Nat → Nat → Int32) fun f1 =>
  if am_in a0 16 = true then (
  am_let (am_up f1 132 a0.toNatClampNeg (f1 129 1) : Nat → Nat → Int32) fun f2 =>
  (xs_readSum  f2).bind fun p3 =>
  if p3.1 = true then (
    if am_in a0 16 = true then (
    am_let (am_up p3.2 133 a0.toNatClampNeg (p3.2 129 1) : Nat → Nat → Int32) fun f4 =>
    if (xt_isWord 3 f4) = true then (
      (xt_advance  f4).bind fun p6 =>
      (xs_readAny 40 0 p6).bind fun p7 =>
      if p7.1 = true then (
        if am_in a0 16 = true then (
        am_let (am_up p7.2 134 a0.toNatClampNeg (p7.2 129 1) : Nat → Nat → Int32) fun f8 =>
        some (true, f8)) else none)
      else (
        some (false, p7.2)))
    else (
      if am_in a0 16 = true then (
      am_let (am_up f4 134 a0.toNatClampNeg (f4 129 1) : Nat → Nat → Int32) fun f9 =>
      some (true, f9)) else none)) else none)
  else (
    some (false, p3.2))) else none) else none
def xs_takeWord (a0 : Int32) (f : (Nat → Nat → Int32)) : Option (Bool × (Nat → Nat → Int32)) :=
  if (xt_isWord a0 f) = true then (
    (xt_advance  f).bind fun p2 =>
    some (true, p2))
  else (
    am_let (xs_refuse 1 f) fun p3 =>
    some (p3.1, p3.2))
def xs_readWalkLine (a0 : Int32) (f : (Nat → Nat → Int32)) : Option (Bool × (Nat → Nat → Int32)) :=
  (xs_takeNumber 0 999 f).bind fun p1 =>
  if p1.1 = true then (
    if am_in a0 16 = true then (
    am_let (am_up p1.2 136 a0.toNatClampNeg (p1.2 128 7) : Nat → Nat → Int32) fun f2 =>
    (xs_takeWord 1 f2).bind fun p3 =>
    if p3.1 = true then (
      (xs_takeNumber 0 ((p3.2 128 8) - 1) p3.2).bind fun p4 =>
      if p4.1 = true then (
        if am_in a0 16 = true then (
        am_let (am_up p4.2 137 a0.toNatClampNeg (p4.2 128 7) : Nat → Nat → Int32) fun f5 =>
        am_let (f5 123 2 : Int32) fun t6 =>
        if f5 123 1 = 1 then (
          if t6 < 2 then (
            am_let (xs_refuse 1 f5) fun p7 =>
            some (p7.1, p7.2))
          else (
            if 7 < t6 then (
              am_let (xs_refuse 1 f5) fun p8 =>
              some (p8.1, p8.2))
            else (
              (xt_advance  f5).bind fun p9 =>
              if am_in a0 16 = true then (
              am_let (am_up p9 138 a0.toNatClampNeg t6 : Nat → Nat → Int32) fun f10 =>
              am_let (am_up f10 128 7 (-1) : Nat → Nat → Int32) fun f11 =>
              if t6 = 2 then (
                (xs_takeNumber 0 15 f11).bind fun p12 =>
                if p12.1 = true then (
                  if t6 = 6 then (
                    (xs_takeNumber 0 ((p12.2 128 9) - 1) p12.2).bind fun p13 =>
                    if p13.1 = true then (
                      if am_in a0 16 = true then (
                      am_let (am_up p13.2 139 a0.toNatClampNeg (p13.2 128 7) : Nat → Nat → Int32) fun f14 =>
                      some (true, f14)) else none)
                    else (
                      some (false, p13.2)))
                  else (
                    if am_in a0 16 = true then (
                    am_let (am_up p12.2 139 a0.toNatClampNeg (p12.2 128 7) : Nat → Nat → Int32) fun f15 =>
                    some (true, f15)) else none))
                else (
                  some (false, p12.2)))
              else (
                if t6 = 6 then (
                  (xs_takeNumber 0 ((f11 128 9) - 1) f11).bind fun p16 =>
                  if p16.1 = true then (
                    if am_in a0 16 = true then (
                    am_let (am_up p16.2 139 a0.toNatClampNeg (p16.2 128 7) : Nat → Nat → Int32) fun f17 =>
                    some (true, f17)) else none)
                  else (
                    some (false, p16.2)))
                else (
                  if am_in a0 16 = true then (
                  am_let (am_up f11 139 a0.toNatClampNeg (f11 128 7) : Nat → Nat → Int32) fun f18 =>
                  some (true, f18)) else none))) else none)))
        else (
          am_let (xs_refuse 1 f5) fun p19 =>
          some (p19.1, p19.2))) else none)
      else (
        some (false, p4.2)))
    else (
      some (false, p3.2))) else none)
  else (
    some (false, p1.2))
def xs_takeTopicUnless (a0 : Bool) (a1 : Int32) (f : (Nat → Nat → Int32)) : Option (Bool × (Nat → Nat → Int32)) :=
  if a0 = true then (
    if f 123 1 = 2 then (
      if (x_isTopic (f 123 2)) = true then (
        am_let (xs_refuse a1 f) fun p2 =>
        some (p2.1, p2.2))
      else (
        (xs_takeNumber 0 15 f).bind fun p3 =>
        some (p3.1, p3.2)))
    else (
      (xs_takeNumber 0 15 f).bind fun p4 =>
      some (p4.1, p4.2)))
  else (
    (xs_takeNumber 0 15 f).bind fun p5 =>
    some (p5.1, p5.2))
def xn_between_140 (a0 : Int32) (a1 : Int32) (f : (Nat → Nat → Int32)) : Option (Int32) :=
  if am_in ((16 * a0) + a1) 256 = true then (
  some (f 141 ((16 * a0) + a1).toNatClampNeg)) else none
def xn_tell_140 (a0 : Int32) (a1 : Int32) (a2 : Int32) (f : (Nat → Nat → Int32)) : Option ((Nat → Nat → Int32)) :=
  (xn_between_140 a0 a1 f).bind fun p1 =>
  if p1 < a2 then (
    if am_in ((16 * a0) + a1) 256 = true then (
    am_let (am_up f 141 ((16 * a0) + a1).toNatClampNeg a2 : Nat → Nat → Int32) fun f2 =>
    if am_in ((16 * a1) + a0) 256 = true then (
    am_let (am_up f2 141 ((16 * a1) + a0).toNatClampNeg a2 : Nat → Nat → Int32) fun f3 =>
    some f3) else none) else none)
  else (
    some f)
def xs_readNearLine (f : (Nat → Nat → Int32)) : Option (Bool × (Nat → Nat → Int32)) :=
  (xs_takeNumber 0 15 f).bind fun p1 =>
  if p1.1 = true then (
    am_let (p1.2 128 7 : Int32) fun t2 =>
    (xs_takeWord 1 p1.2).bind fun p3 =>
    if p3.1 = true then (
      am_let ((if p3.2 123 2 = t2 then (
          true)
        else (
          false)) : Bool) fun t4 =>
      (xs_takeTopicUnless t4 2 p3.2).bind fun p5 =>
      if p5.1 = true then (
        am_let (p5.2 128 7 : Int32) fun t6 =>
        (xs_takeNumber 1 9 p5.2).bind fun p7 =>
        if p7.1 = true then (
          (xn_tell_140 t2 t6 (p7.2 128 7) p7.2).bind fun p8 =>
          some (true, p8))
        else (
          some (false, p7.2)))
      else (
        some (false, p5.2)))
    else (
      some (false, p3.2)))
  else (
    some (false, p1.2))
def xs_readKeepsLine (f : (Nat → Nat → Int32)) : Option (Bool × (Nat → Nat → Int32)) :=
  (xs_takeNumber 0 ((f 128 9) - 1) f).bind fun p1 =>
  if p1.1 = true then (
    am_let (p1.2 128 7 : Int32) fun t2 =>
    (xs_takeWord 1 p1.2).bind fun p3 =>
    if p3.1 = true then (
      (am_loop (fun (s4 : Int32 × Int32 × (Nat → Nat → Int32)) => ((
        if 6 < s4.2.1 then (
          some (.inr (.inr (s4.1, s4.2.2))))
        else (
          am_let ((if s4.2.1 = 6 then (
              true)
            else (
              false)) : Bool) fun t5 =>
          (xs_takeTopicUnless t5 3 s4.2.2).bind fun p6 =>
          if p6.1 = true then (
            am_let ((s4.1 ||| (1 <<< ((p6.2 128 7) &&& 31))) : Int32) fun t7 =>
            if p6.2 123 1 = 2 then (
              am_let (s4.2.1 + 1 : Int32) fun t8 =>
              some (.inl (t7, t8, p6.2)))
            else (
              some (.inr (.inr (t7, p6.2)))))
          else (
            some (.inr (.inl (false, p6.2)))))) : Option ((Int32 × Int32 × (Nat → Nat → Int32)) ⊕ ((Bool × (Nat → Nat → Int32)) ⊕ (Int32 × (Nat → Nat → Int32)))))) am_F (0, 0, p3.2)).bind fun e9 =>
      e9.elim (fun v => some v) fun e10 =>
      if am_in t2 12 = true then (
      am_let (am_up e10.2 142 t2.toNatClampNeg e10.1 : Nat → Nat → Int32) fun f11 =>
      some (true, f11)) else none)
    else (
      some (false, p3.2)))
  else (
    some (false, p1.2))
def xs_readLine (a0 : Int32) (a1 : Int32) (f : (Nat → Nat → Int32)) : Option (Bool × (Nat → Nat → Int32)) :=
  if a0 = 1 then (
    (xs_readWalkLine a1 f).bind fun p1 =>
    some (p1.1, p1.2))
  else (
    if a0 = 2 then (
      (xs_readNearLine  f).bind fun p2 =>
      some (p2.1, p2.2))
    else (
      (xs_readKeepsLine  f).bind fun p3 =>
      some (p3.1, p3.2)))
def xs_readText_2 (a0 : Int32) (f : (Nat → Nat → Int32)) : Option (Int32 × (Nat → Nat → Int32)) :=
  am_let (am_up f 128 4 0 : Nat → Nat → Int32) fun f1 =>
  am_let (am_up f1 128 5 (-1) : Nat → Nat → Int32) fun f2 =>
  if a0 < 0 then (
    some ((-1), f2))
  else (
    if 3 < a0 then (
      some ((-1), f2))
    else (
      am_let (am_up f2 128 8 (f2 2 0) : Nat → Nat → Int32) fun f3 =>
      am_let (am_up f3 128 9 (f3 2 1) : Nat → Nat → Int32) fun f4 =>
      am_let (am_up f4 129 1 0 : Nat → Nat → Int32) fun f5 =>
      (xn_clearAll_140  f5).bind fun p6 =>
      (am_loop (fun (s7 : Int32 × (Nat → Nat → Int32)) => ((
        if s7.1 < 12 then (
          if am_in s7.1 12 = true then (
          am_let (am_up s7.2 142 s7.1.toNatClampNeg 0 : Nat → Nat → Int32) fun f8 =>
          am_let (s7.1 + 1 : Int32) fun t9 =>
          some (.inl (t9, f8))) else none)
        else (
          some (.inr s7.2))) : Option ((Int32 × (Nat → Nat → Int32)) ⊕ ((Nat → Nat → Int32))))) am_F (0, p6)).bind fun e10 =>
      (xt_split (xs_wordsOf a0) e10).bind fun p12 =>
      (am_loop (fun (s13 : Int32 × (Nat → Nat → Int32)) => ((
        if 16 < s13.1 then (
          some (.inr (.inr (s13.1, s13.2))))
        else (
          if s13.2 123 1 = 0 then (
            some (.inr (.inr (s13.1, s13.2))))
          else (
            am_let (s13.2 123 2 : Int32) fun t14 =>
            (xs_takeHead a0 s13.1 s13.2).bind fun p15 =>
            if p15.1 = true then (
              if a0 = 0 then (
                (xs_readLawLine s13.1 t14 p15.2).bind fun p16 =>
                if p16.1 = true then (
                  (xs_takeSign 59 p16.2).bind fun p17 =>
                  if p17.1 = true then (
                    am_let (s13.1 + 1 : Int32) fun t18 =>
                    some (.inl (t18, p17.2)))
                  else (
                    some (.inr (.inl ((-1), p17.2)))))
                else (
                  some (.inr (.inl ((-1), p16.2)))))
              else (
                (xs_readLine a0 s13.1 p15.2).bind fun p19 =>
                if p19.1 = true then (
                  (xs_takeSign 59 p19.2).bind fun p20 =>
                  if p20.1 = true then (
                    am_let (s13.1 + 1 : Int32) fun t21 =>
                    some (.inl (t21, p20.2)))
                  else (
                    some (.inr (.inl ((-1), p20.2)))))
                else (
                  some (.inr (.inl ((-1), p19.2))))))
            else (
              some (.inr (.inl ((-1), p15.2))))))) : Option ((Int32 × (Nat → Nat → Int32)) ⊕ ((Int32 × (Nat → Nat → Int32)) ⊕ (Int32 × (Nat → Nat → Int32)))))) am_F (0, p12)).bind fun e22 =>
      e22.elim (fun v => some v) fun e23 =>
      am_let (am_up e23.2 129 0 e23.1 : Nat → Nat → Int32) fun f24 =>
      am_let (am_up f24 135 0 e23.1 : Nat → Nat → Int32) fun f25 =>
      am_let (am_up f25 140 0 e23.1 : Nat → Nat → Int32) fun f26 =>
      some (e23.1, f26)))
def xl_takeFrom_14_129 (f : (Nat → Nat → Int32)) : (Nat → Nat → Int32) :=
  am_let (am_up f 14 0 (f 129 0) : Nat → Nat → Int32) fun f1 =>
  am_let (am_up f1 14 1 (f1 129 1) : Nat → Nat → Int32) fun f2 =>
  am_let (am_cp f2 130 0 15 0 400 : Nat → Nat → Int32) fun f3 =>
  am_let (am_cp f3 131 0 16 0 16 : Nat → Nat → Int32) fun f4 =>
  am_let (am_cp f4 132 0 17 0 16 : Nat → Nat → Int32) fun f5 =>
  am_let (am_cp f5 133 0 18 0 16 : Nat → Nat → Int32) fun f6 =>
  am_let (am_cp f6 134 0 19 0 16 : Nat → Nat → Int32) fun f7 =>
  f7
def xw_takeFrom_20_135 (f : (Nat → Nat → Int32)) : (Nat → Nat → Int32) :=
  am_let (am_up f 20 0 (f 135 0) : Nat → Nat → Int32) fun f1 =>
  am_let (am_cp f1 136 0 21 0 16 : Nat → Nat → Int32) fun f2 =>
  am_let (am_cp f2 137 0 22 0 16 : Nat → Nat → Int32) fun f3 =>
  am_let (am_cp f3 138 0 23 0 16 : Nat → Nat → Int32) fun f4 =>
  am_let (am_cp f4 139 0 24 0 16 : Nat → Nat → Int32) fun f5 =>
  f5
def xn_takeFrom_25_140 (f : (Nat → Nat → Int32)) : (Nat → Nat → Int32) :=
  am_let (am_up f 25 0 (f 140 0) : Nat → Nat → Int32) fun f1 =>
  am_let (am_cp f1 141 0 26 0 256 : Nat → Nat → Int32) fun f2 =>
  f2
def x_text (a0 : Int32) (f : (Nat → Nat → Int32)) : Option (Int32 × (Nat → Nat → Int32)) :=
  (xs_readText_2 a0 f).bind fun p1 =>
  am_let (am_up p1.2 123 0 0 : Nat → Nat → Int32) fun f2 =>
  if p1.1 = (-1) then (
    some ((-1), f2))
  else (
    if a0 = 0 then (
      am_let (xl_takeFrom_14_129  f2) fun p3 =>
      some (p1.1, p3))
    else if a0 = 1 then (
      am_let (xw_takeFrom_20_135  f2) fun p4 =>
      am_let (x_forgetPasts  p4) fun p5 =>
      some (p1.1, p5))
    else if a0 = 2 then (
      am_let (xn_takeFrom_25_140  f2) fun p6 =>
      some (p1.1, p6))
    else (am_let (am_cp f2 142 0 9 0 12 : Nat → Nat → Int32) fun f7 =>
      am_let (am_up f7 2 5 p1.1 : Nat → Nat → Int32) fun f8 =>
      am_let (x_forgetPasts  f8) fun p9 =>
      some (p1.1, p9)))
def x_fault (a0 : Int32) (f : (Nat → Nat → Int32)) : Int32 :=
  if a0 = 0 then (
    f 128 4)
  else (
    if a0 = 1 then (
      f 128 5)
    else (
      (-1)))
def xb_lawTells_2 (a0 : Int32) (a1 : Int32) (f : (Nat → Nat → Int32)) : Option (Int32 × (Nat → Nat → Int32)) :=
  (xb_behold_2 a0 f).bind fun p1 =>
  (xb_told a1 p1).bind fun p2 =>
  some (p2.1, p2.2)
def xb_glassNearness_2 (a0 : Int32) (f : (Nat → Nat → Int32)) : Option (Int32 × (Nat → Nat → Int32)) :=
  (xb_behold_2 a0 f).bind fun p1 =>
  some (p1 121 7, p1)
def x_of (a0 : Int32) (a1 : Int32) (f : (Nat → Nat → Int32)) : Option (Int32 × (Nat → Nat → Int32)) :=
  if (xc_hasGlass_2 a0 f) = true then (
    if a1 = 0 then (
      if am_in a0 6 = true then (
      some (f 3 a0.toNatClampNeg, f)) else none)
    else if a1 = 1 then (
      if am_in a0 6 = true then (
      some (f 4 a0.toNatClampNeg, f)) else none)
    else if a1 = 2 then (
      if am_in a0 6 = true then (
      some (f 5 a0.toNatClampNeg, f)) else none)
    else if a1 = 3 then (
      if am_in a0 6 = true then (
      some (f 6 a0.toNatClampNeg, f)) else none)
    else if a1 = 4 then (
      if am_in a0 6 = true then (
      some (f 7 a0.toNatClampNeg, f)) else none)
    else if a1 = 5 then (
      (xb_lawTells_2 a0 0 f).bind fun p2 =>
      some (p2.1, p2.2))
    else if a1 = 6 then (
      (xb_lawTells_2 a0 1 f).bind fun p3 =>
      some (p3.1, p3.2))
    else if a1 = 7 then (
      (xb_lawTells_2 a0 2 f).bind fun p4 =>
      some (p4.1, p4.2))
    else if a1 = 8 then (
      (xb_glassNearness_2 a0 f).bind fun p5 =>
      some (p5.1, p5.2))
    else (some ((-2), f)))
  else (
    some ((-2), f))
def x_who (a0 : Int32) (a1 : Int32) (f : (Nat → Nat → Int32)) : Option (Int32) :=
  if (xc_hasWitness_2 a0 f) = true then (
    if a1 = 0 then (
      if am_in a0 12 = true then (
      some (f 8 a0.toNatClampNeg)) else none)
    else if a1 = 1 then (
      if am_in a0 12 = true then (
      some (f 9 a0.toNatClampNeg)) else none)
    else if a1 = 2 then (
      if am_in a0 12 = true then (
      some (f 10 a0.toNatClampNeg)) else none)
    else if a1 = 3 then (
      if am_in a0 12 = true then (
      some (f 11 a0.toNatClampNeg)) else none)
    else if a1 = 4 then (
      (xc_glassOf_2 a0 f).bind fun p2 =>
      some p2)
    else (if (x_within a1 10 25) = true then (
        if am_in a0 12 = true then (
        (xn_nearness_25 (f 9 a0.toNatClampNeg) (a1 - 10) f).bind fun p4 =>
        some p4) else none)
      else (
        some (-2))))
  else (
    some (-2))
def x_near (a0 : Int32) (a1 : Int32) (f : (Nat → Nat → Int32)) : Option (Int32) :=
  if (x_isTopic a0) = true then (
    if (x_isTopic a1) = true then (
      (xn_between_25 a0 a1 f).bind fun p3 =>
      some p3)
    else (
      some (-1)))
  else (
    some (-1))
def xk_cell_12 (a0 : Int32) (a1 : Int32) (f : (Nat → Nat → Int32)) : Option (Int32) :=
  if am_in ((4 * a0) + a1) 600 = true then (
  some (f 13 ((4 * a0) + a1).toNatClampNeg)) else none
def x_book (a0 : Int32) (a1 : Int32) (f : (Nat → Nat → Int32)) : Option (Int32) :=
  if (x_within a0 0 ((f 2 4) - 1)) = true then (
    if (x_within a1 0 3) = true then (
      (xk_cell_12 a0 a1 f).bind fun p3 =>
      some p3)
    else (
      some (-1)))
  else (
    some (-1))
def xc_takeFrom_110_2 (f : (Nat → Nat → Int32)) : (Nat → Nat → Int32) :=
  am_let (am_up f 110 0 (f 2 0) : Nat → Nat → Int32) fun f1 =>
  am_let (am_up f1 110 1 (f1 2 1) : Nat → Nat → Int32) fun f2 =>
  am_let (am_up f2 110 2 (f2 2 2) : Nat → Nat → Int32) fun f3 =>
  am_let (am_up f3 110 3 (f3 2 3) : Nat → Nat → Int32) fun f4 =>
  am_let (am_up f4 110 4 (f4 2 4) : Nat → Nat → Int32) fun f5 =>
  am_let (am_up f5 110 5 (f5 2 5) : Nat → Nat → Int32) fun f6 =>
  am_let (am_cp f6 3 0 111 0 6 : Nat → Nat → Int32) fun f7 =>
  am_let (am_cp f7 4 0 112 0 6 : Nat → Nat → Int32) fun f8 =>
  am_let (am_cp f8 5 0 113 0 6 : Nat → Nat → Int32) fun f9 =>
  am_let (am_cp f9 6 0 114 0 6 : Nat → Nat → Int32) fun f10 =>
  am_let (am_cp f10 7 0 115 0 6 : Nat → Nat → Int32) fun f11 =>
  am_let (am_cp f11 8 0 116 0 12 : Nat → Nat → Int32) fun f12 =>
  am_let (am_cp f12 9 0 117 0 12 : Nat → Nat → Int32) fun f13 =>
  am_let (am_cp f13 10 0 118 0 12 : Nat → Nat → Int32) fun f14 =>
  am_let (am_cp f14 11 0 119 0 12 : Nat → Nat → Int32) fun f15 =>
  f15
def xc_hasGlass_110 (a0 : Int32) (f : (Nat → Nat → Int32)) : Bool :=
  if a0 < 0 then (
    false)
  else (
    if a0 < f 110 0 then (
      true)
    else (
      false))
def xc_hasWitness_110 (a0 : Int32) (f : (Nat → Nat → Int32)) : Bool :=
  if a0 < 0 then (
    false)
  else (
    if a0 < f 110 1 then (
      true)
    else (
      false))
def xc_glassOf_110 (a0 : Int32) (f : (Nat → Nat → Int32)) : Option (Int32) :=
  am_loop (fun (s1 : Int32) => ((
    if s1 < f 110 0 then (
      if am_in s1 6 = true then (
      if f 113 s1.toNatClampNeg = a0 then (
        some (.inr s1))
      else (
        am_let (s1 + 1 : Int32) fun t2 =>
        some (.inl t2))) else none)
    else (
      some (.inr (-1)))) : Option ((Int32) ⊕ (Int32)))) am_F 0
def xc_canGoUnder_110 (a0 : Int32) (a1 : Int32) (f : (Nat → Nat → Int32)) : Option (Bool) :=
  if (xc_hasWitness_110 a1 f) = true then (
    if am_in a0 6 = true then (
    if f 113 a0.toNatClampNeg = (-1) then (
      (xc_glassOf_110 a1 f).bind fun p2 =>
      if p2 = (-1) then (
        some true)
      else (
        some false))
    else (
      some false)) else none)
  else (
    some false)
def xk_write_12_110 (a0 : Int32) (a1 : Int32) (a2 : Int32) (f : (Nat → Nat → Int32)) : Option ((Nat → Nat → Int32)) :=
  if f 110 4 < 150 then (
    am_let ((4 * (f 110 4)) : Int32) fun t1 =>
    if am_in t1 600 = true then (
    am_let (am_up f 13 t1.toNatClampNeg (f 110 2) : Nat → Nat → Int32) fun f2 =>
    if am_in (t1 + 1) 600 = true then (
    am_let (am_up f2 13 (t1 + 1).toNatClampNeg a0 : Nat → Nat → Int32) fun f3 =>
    if am_in (t1 + 2) 600 = true then (
    am_let (am_up f3 13 (t1 + 2).toNatClampNeg a1 : Nat → Nat → Int32) fun f4 =>
    if am_in (t1 + 3) 600 = true then (
    am_let (am_up f4 13 (t1 + 3).toNatClampNeg a2 : Nat → Nat → Int32) fun f5 =>
    am_let (am_up f5 110 4 ((f5 110 4) + 1) : Nat → Nat → Int32) fun f6 =>
    some f6) else none) else none) else none) else none)
  else (
    some f)
def xb_note_110 (a0 : Int32) (a1 : Int32) (a2 : Int32) (a3 : Bool) (f : (Nat → Nat → Int32)) : Option ((Nat → Nat → Int32)) :=
  if a3 = true then (
    (xk_write_12_110 a0 a1 a2 f).bind fun p1 =>
    some p1)
  else (
    some f)
def xb_putUnder_110 (a0 : Int32) (a1 : Int32) (a2 : Bool) (f : (Nat → Nat → Int32)) : Option ((Nat → Nat → Int32)) :=
  (xc_canGoUnder_110 a0 a1 f).bind fun p1 =>
  if p1 = true then (
    if am_in a0 6 = true then (
    am_let (am_up f 113 a0.toNatClampNeg a1 : Nat → Nat → Int32) fun f2 =>
    if am_in a1 12 = true then (
    if am_in a1 12 = true then (
    am_let (am_up f2 118 a1.toNatClampNeg ((f2 118 a1.toNatClampNeg) + 1) : Nat → Nat → Int32) fun f3 =>
    (xb_note_110 0 a0 a1 a2 f3).bind fun p4 =>
    some p4) else none) else none) else none)
  else (
    some f)
def xb_takeOut_110 (a0 : Int32) (a1 : Bool) (f : (Nat → Nat → Int32)) : Option ((Nat → Nat → Int32)) :=
  if am_in a0 6 = true then (
  am_let (f 113 a0.toNatClampNeg : Int32) fun t1 =>
  if t1 = (-1) then (
    some f)
  else (
    if am_in a0 6 = true then (
    am_let (am_up f 113 a0.toNatClampNeg (-1) : Nat → Nat → Int32) fun f2 =>
    (xb_note_110 1 a0 t1 a1 f2).bind fun p3 =>
    some p3) else none)) else none
def xb_walkLine_110 (a0 : Int32) (a1 : Bool) (f : (Nat → Nat → Int32)) : Option ((Nat → Nat → Int32)) :=
  if am_in a0 16 = true then (
  am_let (f 22 a0.toNatClampNeg : Int32) fun t1 =>
  if am_in a0 16 = true then (
  am_let (f 24 a0.toNatClampNeg : Int32) fun t2 =>
  if am_in a0 16 = true then (
  if f 23 a0.toNatClampNeg = 2 then (
    if am_in t1 6 = true then (
    am_let (am_up f 114 t1.toNatClampNeg t2 : Nat → Nat → Int32) fun f3 =>
    some f3) else none)
  else if f 23 a0.toNatClampNeg = 3 then (
    if am_in t1 6 = true then (
    am_let (am_up f 114 t1.toNatClampNeg (-1) : Nat → Nat → Int32) fun f4 =>
    some f4) else none)
  else if f 23 a0.toNatClampNeg = 4 then (
    if am_in t1 6 = true then (
    am_let (am_up f 112 t1.toNatClampNeg 300 : Nat → Nat → Int32) fun f5 =>
    some f5) else none)
  else if f 23 a0.toNatClampNeg = 5 then (
    if am_in t1 6 = true then (
    am_let (am_up f 111 t1.toNatClampNeg 0 : Nat → Nat → Int32) fun f6 =>
    some f6) else none)
  else if f 23 a0.toNatClampNeg = 6 then (
    (xb_putUnder_110 t1 t2 a1 f).bind fun p7 =>
    some p7)
  else ((xb_takeOut_110 t1 a1 f).bind fun p8 =>
    some p8)) else none) else none) else none
def xb_behold_110 (a0 : Int32) (f : (Nat → Nat → Int32)) : Option ((Nat → Nat → Int32)) :=
  if am_in a0 6 = true then (
  am_let (f 113 a0.toNatClampNeg : Int32) fun t1 =>
  am_let ((xc_hasWitness_110 t1 f) : Bool) fun t3 =>
  ((if t3 = true then (
      if am_in t1 12 = true then (
      if am_in a0 6 = true then (
      (xn_nearness_25 (f 117 t1.toNatClampNeg) (f 114 a0.toNatClampNeg) f).bind fun p4 =>
      some p4) else none) else none)
    else (
      some 0)) : Option (Int32)).bind fun t5 =>
  am_let (am_up f 121 7 t5 : Nat → Nat → Int32) fun f6 =>
  ((if t3 = true then (
      if am_in t1 12 = true then (
      some (f6 116 t1.toNatClampNeg)) else none)
    else (
      some 0)) : Option (Int32)).bind fun t7 =>
  am_let (am_up f6 121 8 t7 : Nat → Nat → Int32) fun f8 =>
  if am_in a0 6 = true then (
  am_let (am_up f8 121 9 (f8 112 a0.toNatClampNeg) : Nat → Nat → Int32) fun f9 =>
  if am_in a0 6 = true then (
  am_let (am_up f9 121 10 (f9 111 a0.toNatClampNeg) : Nat → Nat → Int32) fun f10 =>
  if am_in a0 6 = true then (
  am_let ((if f10 114 a0.toNatClampNeg = (-1) then (
      false)
    else (
      true)) : Bool) fun t11 =>
  am_let (am_up f10 121 11 (am_b t11) : Nat → Nat → Int32) fun f12 =>
  ((if t3 = true then (
      if am_in t1 12 = true then (
      some (ji_bitCount (f12 117 t1.toNatClampNeg))) else none)
    else (
      some 0)) : Option (Int32)).bind fun t14 =>
  am_let (am_up f12 121 12 t14 : Nat → Nat → Int32) fun f15 =>
  ((if t3 = true then (
      if am_in t1 12 = true then (
      some (f15 118 t1.toNatClampNeg)) else none)
    else (
      some 0)) : Option (Int32)).bind fun t16 =>
  am_let (am_up f15 121 13 t16 : Nat → Nat → Int32) fun f17 =>
  if am_in a0 6 = true then (
  am_let (am_up f17 121 14 (f17 115 a0.toNatClampNeg) : Nat → Nat → Int32) fun f18 =>
  am_let (am_up f18 121 15 a0 : Nat → Nat → Int32) fun f19 =>
  am_let (am_up f19 121 16 (f19 110 2) : Nat → Nat → Int32) fun f20 =>
  some f20) else none) else none) else none) else none) else none
def xb_drawThousand_110 (f : (Nat → Nat → Int32)) : Int32 × (Nat → Nat → Int32) :=
  am_let (am_up f 110 3 ((1664525 * (f 110 3)) + 1013904223) : Nat → Nat → Int32) fun f1 =>
  (((((f1 110 3).toUInt32 >>> ((8 : Int32).toUInt32 &&& Int32.toUInt32 31)).toInt32) - (((f1 110 3).toUInt32 >>> ((8 : Int32).toUInt32 &&& Int32.toUInt32 31)).toInt32) / 1000 * 1000), f1)
def xb_slipsNow_110 (a0 : Bool) (f : (Nat → Nat → Int32)) : Option (Bool × (Nat → Nat → Int32)) :=
  (xb_told 1 f).bind fun p1 =>
  if a0 = true then (
    if 0 < p1.1 then (
      am_let (xb_drawThousand_110  p1.2) fun p2 =>
      if p2.1 < p1.1 then (
        some (true, p2.2))
      else (
        some (false, p2.2)))
    else (
      some (false, p1.2)))
  else (
    if p1.1 < 500 then (
      some (false, p1.2))
    else (
      some (true, p1.2)))
def xb_warm_110 (a0 : Int32) (a1 : Bool) (f : (Nat → Nat → Int32)) : Option ((Nat → Nat → Int32)) :=
  (xb_told 0 f).bind fun p1 =>
  if am_in a0 6 = true then (
  if am_in a0 6 = true then (
  am_let (am_up p1.2 112 a0.toNatClampNeg ((p1.2 112 a0.toNatClampNeg) + p1.1) : Nat → Nat → Int32) fun f2 =>
  ((if 0 < f2 121 7 then (
      if am_in a0 6 = true then (
      if f2 111 a0.toNatClampNeg < 99 then (
        if am_in a0 6 = true then (
        if am_in a0 6 = true then (
        am_let (am_up f2 111 a0.toNatClampNeg ((f2 111 a0.toNatClampNeg) + 1) : Nat → Nat → Int32) fun f3 =>
        some f3) else none) else none)
      else (
        some f2)) else none)
    else (
      some f2)) : Option ((Nat → Nat → Int32))).bind fun t4 =>
  if 0 < p1.1 then (
    (xb_note_110 2 a0 p1.1 a1 t4).bind fun p5 =>
    some p5)
  else (
    some t4)) else none) else none
def xb_goOffTop_110 (a0 : Int32) (a1 : Bool) (f : (Nat → Nat → Int32)) : Option ((Nat → Nat → Int32)) :=
  if am_in a0 6 = true then (
  am_let (f 113 a0.toNatClampNeg : Int32) fun t1 =>
  if am_in a0 6 = true then (
  am_let (am_up f 112 a0.toNatClampNeg 420 : Nat → Nat → Int32) fun f2 =>
  if am_in a0 6 = true then (
  if am_in a0 6 = true then (
  am_let (am_up f2 115 a0.toNatClampNeg ((f2 115 a0.toNatClampNeg) + 1) : Nat → Nat → Int32) fun f3 =>
  ((if (xc_hasWitness_110 t1 f3) = true then (
      if am_in t1 12 = true then (
      if am_in t1 12 = true then (
      am_let (am_up f3 119 t1.toNatClampNeg ((f3 119 t1.toNatClampNeg) + 1) : Nat → Nat → Int32) fun f5 =>
      some f5) else none) else none)
    else (
      some f3)) : Option ((Nat → Nat → Int32))).bind fun t6 =>
  if am_in a0 6 = true then (
  am_let (am_up t6 113 a0.toNatClampNeg (-1) : Nat → Nat → Int32) fun f7 =>
  (xb_note_110 4 a0 t1 a1 f7).bind fun p8 =>
  some p8) else none) else none) else none) else none) else none
def xb_passGlass_110 (a0 : Int32) (a1 : Bool) (f : (Nat → Nat → Int32)) : Option (Bool × (Nat → Nat → Int32)) :=
  (xb_behold_110 a0 f).bind fun p1 =>
  (xb_slipsNow_110 a1 p1).bind fun p2 =>
  ((if p2.1 = true then (
      if am_in a0 6 = true then (
      (xb_note_110 3 a0 (p2.2 112 a0.toNatClampNeg) a1 p2.2).bind fun p3 =>
      if am_in a0 6 = true then (
      am_let (am_up p3 112 a0.toNatClampNeg 300 : Nat → Nat → Int32) fun f4 =>
      some f4) else none) else none)
    else (
      if am_in a0 6 = true then (
      if p2.2 114 a0.toNatClampNeg = (-1) then (
        if am_in a0 6 = true then (
        (xb_told 2 p2.2).bind fun p5 =>
        if am_in a0 6 = true then (
        am_let (am_up p5.2 112 a0.toNatClampNeg (am_max 300 ((p2.2 112 a0.toNatClampNeg) - p5.1)) : Nat → Nat → Int32) fun f6 =>
        some f6) else none) else none)
      else (
        (xb_warm_110 a0 a1 p2.2).bind fun p7 =>
        some p7)) else none)) : Option ((Nat → Nat → Int32))).bind fun t8 =>
  if am_in a0 6 = true then (
  if 420 < t8 112 a0.toNatClampNeg then (
    (xb_goOffTop_110 a0 a1 t8).bind fun p9 =>
    some (true, p9))
  else (
    some (false, t8))) else none
def xb_passMinute_110 (a0 : Bool) (f : (Nat → Nat → Int32)) : Option (Int32 × (Nat → Nat → Int32)) :=
  (am_loop (fun (s1 : Int32 × (Nat → Nat → Int32)) => ((
    if s1.1 < s1.2 20 0 then (
      if am_in s1.1 16 = true then (
      ((if s1.2 21 s1.1.toNatClampNeg = s1.2 110 2 then (
          if am_in s1.1 16 = true then (
          if (xc_hasGlass_110 (s1.2 22 s1.1.toNatClampNeg) s1.2) = true then (
            (xb_walkLine_110 s1.1 a0 s1.2).bind fun p3 =>
            some p3)
          else (
            some s1.2)) else none)
        else (
          some s1.2)) : Option ((Nat → Nat → Int32))).bind fun t4 =>
      am_let (s1.1 + 1 : Int32) fun t5 =>
      some (.inl (t5, t4))) else none)
    else (
      some (.inr s1.2))) : Option ((Int32 × (Nat → Nat → Int32)) ⊕ ((Nat → Nat → Int32))))) am_F (0, f)).bind fun e6 =>
  (am_loop (fun (s7 : Int32 × Int32 × (Nat → Nat → Int32)) => ((
    if s7.2.1 < s7.2.2 110 0 then (
      if am_in s7.2.1 6 = true then (
      ((if s7.2.2 113 s7.2.1.toNatClampNeg = (-1) then (
          some (s7.1, s7.2.2))
        else (
          (xb_passGlass_110 s7.2.1 a0 s7.2.2).bind fun p8 =>
          if p8.1 = true then (
            am_let (s7.1 + 1 : Int32) fun t9 =>
            some (t9, p8.2))
          else (
            some (s7.1, p8.2)))) : Option (Int32 × (Nat → Nat → Int32))).bind fun t10 =>
      am_let (s7.2.1 + 1 : Int32) fun t11 =>
      some (.inl (t10.1, t11, t10.2))) else none)
    else (
      some (.inr (s7.1, s7.2.2)))) : Option ((Int32 × Int32 × (Nat → Nat → Int32)) ⊕ (Int32 × (Nat → Nat → Int32))))) am_F (0, 0, e6)).bind fun e12 =>
  (am_loop (fun (s13 : Int32 × (Nat → Nat → Int32)) => ((
    if s13.1 < s13.2 110 0 then (
      if am_in s13.1 6 = true then (
      am_let (am_up s13.2 114 s13.1.toNatClampNeg (-1) : Nat → Nat → Int32) fun f14 =>
      am_let (s13.1 + 1 : Int32) fun t15 =>
      some (.inl (t15, f14))) else none)
    else (
      some (.inr s13.2))) : Option ((Int32 × (Nat → Nat → Int32)) ⊕ ((Nat → Nat → Int32))))) am_F (0, e12.2)).bind fun e16 =>
  am_let (am_up e16 110 2 ((e16 110 2) + 1) : Nat → Nat → Int32) fun f17 =>
  some (e12.1, f17)
def xc_sumOf_110 (a0 : Int32) (f : (Nat → Nat → Int32)) : Option (Int32) :=
  if a0 = 3 then (
    am_loop (fun (s1 : Int32 × Int32) => ((
      if s1.2 < f 110 1 then (
        if am_in s1.2 12 = true then (
        am_let ((s1.1 + (f 119 s1.2.toNatClampNeg)) : Int32) fun t2 =>
        am_let (s1.2 + 1 : Int32) fun t3 =>
        some (.inl (t2, t3))) else none)
      else (
        some (.inr s1.1))) : Option ((Int32 × Int32) ⊕ (Int32)))) am_F (0, 0))
  else (
    am_loop (fun (s5 : Int32 × Int32) => ((
      if s5.2 < f 110 0 then (
        ((if a0 = 0 then (
            if am_in s5.2 6 = true then (
            am_let ((s5.1 + (f 112 s5.2.toNatClampNeg)) : Int32) fun t6 =>
            some t6) else none)
          else (
            if a0 = 1 then (
              if am_in s5.2 6 = true then (
              am_let ((s5.1 + (f 115 s5.2.toNatClampNeg)) : Int32) fun t7 =>
              some t7) else none)
            else (
              if am_in s5.2 6 = true then (
              am_let ((s5.1 + (f 111 s5.2.toNatClampNeg)) : Int32) fun t8 =>
              some t8) else none))) : Option (Int32)).bind fun t9 =>
        am_let (s5.2 + 1 : Int32) fun t10 =>
        some (.inl (t9, t10)))
      else (
        some (.inr s5.1))) : Option ((Int32 × Int32) ⊕ (Int32)))) am_F (0, 0))
