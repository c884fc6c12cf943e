/-! the pasts: a row of places that only turns; a court is copied -/
def x_tk (d s : Nat) (f : (Nat → Nat → Int32)) : (Nat → Nat → Int32) :=
  am_let (am_up f d 0 (f s 0) : Nat → Nat → Int32) fun f1 =>
  am_let (am_up f1 d 1 (f1 s 1) : Nat → Nat → Int32) fun f2 =>
  am_let (am_up f2 d 2 (f2 s 2) : Nat → Nat → Int32) fun f3 =>
  am_let (am_up f3 d 3 (f3 s 3) : Nat → Nat → Int32) fun f4 =>
  am_let (am_up f4 d 4 (f4 s 4) : Nat → Nat → Int32) fun f5 =>
  am_let (am_up f5 d 5 (f5 s 5) : Nat → Nat → Int32) fun f6 =>
  am_let (am_cp f6 (s + 1) 0 (d + 1) 0 6 : Nat → Nat → Int32) fun f7 =>
  am_let (am_cp f7 (s + 2) 0 (d + 2) 0 6 : Nat → Nat → Int32) fun f8 =>
  am_let (am_cp f8 (s + 3) 0 (d + 3) 0 6 : Nat → Nat → Int32) fun f9 =>
  am_let (am_cp f9 (s + 4) 0 (d + 4) 0 6 : Nat → Nat → Int32) fun f10 =>
  am_let (am_cp f10 (s + 5) 0 (d + 5) 0 6 : Nat → Nat → Int32) fun f11 =>
  am_let (am_cp f11 (s + 6) 0 (d + 6) 0 12 : Nat → Nat → Int32) fun f12 =>
  am_let (am_cp f12 (s + 7) 0 (d + 7) 0 12 : Nat → Nat → Int32) fun f13 =>
  am_let (am_cp f13 (s + 8) 0 (d + 8) 0 12 : Nat → Nat → Int32) fun f14 =>
  am_let (am_cp f14 (s + 9) 0 (d + 9) 0 12 : Nat → Nat → Int32) fun f15 =>
  f15
/-- the court that lies at place j, when the row has turned k times -/
def x_pl (j k : Nat) : Nat := 156 + 10 * ((j + k) % 6)
def x_ro (f : (Nat → Nat → Int32)) (k : Nat) : Bool := (List.range 6).all fun j => decide (f 109 j = nI (x_pl j k + 1))
def x_rk (f : (Nat → Nat → Int32)) : Option Nat := (List.range 6).find? (x_ro f)
def x_cnt (f : (Nat → Nat → Int32)) : Option Nat := (List.range 7).find? fun n => decide (f 0 4 = nI n)
def x_lay (k : Nat) (f : (Nat → Nat → Int32)) : (Nat → Nat → Int32) := am_row f 109 (fun j => if j < 6 then nI (x_pl j k + 1) else f 109 j)
def x_keepPast (f : (Nat → Nat → Int32)) : Option (Nat → Nat → Int32) :=
  (x_rk f).bind fun k => (x_cnt f).bind fun n =>
  if n < 6 then (
    some (am_up (x_tk (x_pl n k) 2 f) 0 4 (nI (n + 1))))
  else (
    am_let (am_up (x_lay (k + 1) f) 0 4 5 : Nat → Nat → Int32) fun f1 =>
    some (am_up (x_tk (x_pl 5 (k + 1)) 2 f1) 0 4 6))
def x_undo (f : (Nat → Nat → Int32)) : Option (Bool × (Nat → Nat → Int32)) :=
  (x_rk f).bind fun k => (x_cnt f).bind fun n =>
  if n = 0 then (
    some (false, f))
  else (
    am_let (am_up f 0 4 (nI (n - 1)) : Nat → Nat → Int32) fun f1 =>
    some (true, x_tk 2 (x_pl (n - 1) k) f1))
