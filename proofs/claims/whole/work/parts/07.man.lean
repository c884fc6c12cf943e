def x_keepPast (f : (Nat → Nat → Int32)) : Option (Nat → Nat → Int32) := none
def x_undo (f : (Nat → Nat → Int32)) : Option (Bool × (Nat → Nat → Int32)) := none
theorem x_keepPast_ok {sc : Nat × (Nat → Int32)} (d : Nat) (f g : (Nat → Nat → Int32)) (r : (Nat → Nat → Int32)) (h : x_keepPast f = some r) : am_Ev sc (d + 3) 174 (0, [(0, .ref 0)], [], am_SH, (f, g)) (none, am_SH, (r, g)) := by
  cases h
