def ji_bitCount (a0 : Int32)  : Int32 :=
  ((((((((a0 - (((a0.toUInt32 >>> ((1 : Int32).toUInt32 &&& Int32.toUInt32 31)).toInt32) &&& 1431655765)) &&& 858993459) + ((((a0 - (((a0.toUInt32 >>> ((1 : Int32).toUInt32 &&& Int32.toUInt32 31)).toInt32) &&& 1431655765)).toUInt32 >>> ((2 : Int32).toUInt32 &&& Int32.toUInt32 31)).toInt32) &&& 858993459)) + (((((a0 - (((a0.toUInt32 >>> ((1 : Int32).toUInt32 &&& Int32.toUInt32 31)).toInt32) &&& 1431655765)) &&& 858993459) + ((((a0 - (((a0.toUInt32 >>> ((1 : Int32).toUInt32 &&& Int32.toUInt32 31)).toInt32) &&& 1431655765)).toUInt32 >>> ((2 : Int32).toUInt32 &&& Int32.toUInt32 31)).toInt32) &&& 858993459)).toUInt32 >>> ((4 : Int32).toUInt32 &&& Int32.toUInt32 31)).toInt32)) &&& 252645135) + (((((((a0 - (((a0.toUInt32 >>> ((1 : Int32).toUInt32 &&& Int32.toUInt32 31)).toInt32) &&& 1431655765)) &&& 858993459) + ((((a0 - (((a0.toUInt32 >>> ((1 : Int32).toUInt32 &&& Int32.toUInt32 31)).toInt32) &&& 1431655765)).toUInt32 >>> ((2 : Int32).toUInt32 &&& Int32.toUInt32 31)).toInt32) &&& 858993459)) + (((((a0 - (((a0.toUInt32 >>> ((1 : Int32).toUInt32 &&& Int32.toUInt32 31)).toInt32) &&& 1431655765)) &&& 858993459) + ((((a0 - (((a0.toUInt32 >>> ((1 : Int32).toUInt32 &&& Int32.toUInt32 31)).toInt32) &&& 1431655765)).toUInt32 >>> ((2 : Int32).toUInt32 &&& Int32.toUInt32 31)).toInt32) &&& 858993459)).toUInt32 >>> ((4 : Int32).toUInt32 &&& Int32.toUInt32 31)).toInt32)) &&& 252645135).toUInt32 >>> ((8 : Int32).toUInt32 &&& Int32.toUInt32 31)).toInt32)) + ((((((((a0 - (((a0.toUInt32 >>> ((1 : Int32).toUInt32 &&& Int32.toUInt32 31)).toInt32) &&& 1431655765)) &&& 858993459) + ((((a0 - (((a0.toUInt32 >>> ((1 : Int32).toUInt32 &&& Int32.toUInt32 31)).toInt32) &&& 1431655765)).toUInt32 >>> ((2 : Int32).toUInt32 &&& Int32.toUInt32 31)).toInt32) &&& 858993459)) + (((((a0 - (((a0.toUInt32 >>> ((1 : Int32).toUInt32 &&& Int32.toUInt32 31)).toInt32) &&& 1431655765)) &&& 858993459) + ((((a0 - (((a0.toUInt32 >>> ((1 : Int32).toUInt32 &&& Int32.toUInt32 31)).toInt32) &&& 1431655765)).toUInt32 >>> ((2 : Int32).toUInt32 &&& Int32.toUInt32 31)).toInt32) &&& 858993459)).toUInt32 >>> ((4 : Int32).toUInt32 &&& Int32.toUInt32 31)).toInt32)) &&& 252645135) + (((((((a0 - (((a0.toUInt32 >>> ((1 : Int32).toUInt32 &&& Int32.toUInt32 31)).toInt32) &&& 1431655765)) &&& 858993459) + ((((a0 - (((a0.toUInt32 >>> ((1 : Int32).toUInt32 &&& Int32.toUInt32 31)).toInt32) &&& 1431655765)).toUInt32 >>> ((2 : Int32).toUInt32 &&& Int32.toUInt32 31)).toInt32) &&& 858993459)) + (((((a0 - (((a0.toUInt32 >>> ((1 : Int32).toUInt32 &&& Int32.toUInt32 31)).toInt32) &&& 1431655765)) &&& 858993459) + ((((a0 - (((a0.toUInt32 >>> ((1 : Int32).toUInt32 &&& Int32.toUInt32 31)).toInt32) &&& 1431655765)).toUInt32 >>> ((2 : Int32).toUInt32 &&& Int32.toUInt32 31)).toInt32) &&& 858993459)).toUInt32 >>> ((4 : Int32).toUInt32 &&& Int32.toUInt32 31)).toInt32)) &&& 252645135).toUInt32 >>> ((8 : Int32).toUInt32 &&& Int32.toUInt32 31)).toInt32)).toUInt32 >>> ((16 : Int32).toUInt32 &&& Int32.toUInt32 31)).toInt32)) &&& 63)
set_option maxRecDepth 100000 in
set_option maxHeartbeats 4000000 in
theorem ji_bitCount_ok {sc : Nat × (Nat → Int32)} (d : Nat) (a0 : Int32) (hp : am_H) : am_Ev sc (d) 312 (0, [(0, .int a0)], [], am_SH, hp) ((some (.int (ji_bitCount a0))), am_SH, hp) := by
  have hcd : am_code 312 = am_c312 := rfl
  obtain ⟨r, h⟩ : ∃ r, r = ji_bitCount a0 := ⟨_, rfl⟩
  rw [← h]
  unfold ji_bitCount at h
  refine am_Ev.go hcd 41 (s' := (41, [(0, .int (((((((a0 - (((a0.toUInt32 >>> ((1 : Int32).toUInt32 &&& Int32.toUInt32 31)).toInt32) &&& 1431655765)) &&& 858993459) + ((((a0 - (((a0.toUInt32 >>> ((1 : Int32).toUInt32 &&& Int32.toUInt32 31)).toInt32) &&& 1431655765)).toUInt32 >>> ((2 : Int32).toUInt32 &&& Int32.toUInt32 31)).toInt32) &&& 858993459)) + (((((a0 - (((a0.toUInt32 >>> ((1 : Int32).toUInt32 &&& Int32.toUInt32 31)).toInt32) &&& 1431655765)) &&& 858993459) + ((((a0 - (((a0.toUInt32 >>> ((1 : Int32).toUInt32 &&& Int32.toUInt32 31)).toInt32) &&& 1431655765)).toUInt32 >>> ((2 : Int32).toUInt32 &&& Int32.toUInt32 31)).toInt32) &&& 858993459)).toUInt32 >>> ((4 : Int32).toUInt32 &&& Int32.toUInt32 31)).toInt32)) &&& 252645135) + (((((((a0 - (((a0.toUInt32 >>> ((1 : Int32).toUInt32 &&& Int32.toUInt32 31)).toInt32) &&& 1431655765)) &&& 858993459) + ((((a0 - (((a0.toUInt32 >>> ((1 : Int32).toUInt32 &&& Int32.toUInt32 31)).toInt32) &&& 1431655765)).toUInt32 >>> ((2 : Int32).toUInt32 &&& Int32.toUInt32 31)).toInt32) &&& 858993459)) + (((((a0 - (((a0.toUInt32 >>> ((1 : Int32).toUInt32 &&& Int32.toUInt32 31)).toInt32) &&& 1431655765)) &&& 858993459) + ((((a0 - (((a0.toUInt32 >>> ((1 : Int32).toUInt32 &&& Int32.toUInt32 31)).toInt32) &&& 1431655765)).toUInt32 >>> ((2 : Int32).toUInt32 &&& Int32.toUInt32 31)).toInt32) &&& 858993459)).toUInt32 >>> ((4 : Int32).toUInt32 &&& Int32.toUInt32 31)).toInt32)) &&& 252645135).toUInt32 >>> ((8 : Int32).toUInt32 &&& Int32.toUInt32 31)).toInt32)) + ((((((((a0 - (((a0.toUInt32 >>> ((1 : Int32).toUInt32 &&& Int32.toUInt32 31)).toInt32) &&& 1431655765)) &&& 858993459) + ((((a0 - (((a0.toUInt32 >>> ((1 : Int32).toUInt32 &&& Int32.toUInt32 31)).toInt32) &&& 1431655765)).toUInt32 >>> ((2 : Int32).toUInt32 &&& Int32.toUInt32 31)).toInt32) &&& 858993459)) + (((((a0 - (((a0.toUInt32 >>> ((1 : Int32).toUInt32 &&& Int32.toUInt32 31)).toInt32) &&& 1431655765)) &&& 858993459) + ((((a0 - (((a0.toUInt32 >>> ((1 : Int32).toUInt32 &&& Int32.toUInt32 31)).toInt32) &&& 1431655765)).toUInt32 >>> ((2 : Int32).toUInt32 &&& Int32.toUInt32 31)).toInt32) &&& 858993459)).toUInt32 >>> ((4 : Int32).toUInt32 &&& Int32.toUInt32 31)).toInt32)) &&& 252645135) + (((((((a0 - (((a0.toUInt32 >>> ((1 : Int32).toUInt32 &&& Int32.toUInt32 31)).toInt32) &&& 1431655765)) &&& 858993459) + ((((a0 - (((a0.toUInt32 >>> ((1 : Int32).toUInt32 &&& Int32.toUInt32 31)).toInt32) &&& 1431655765)).toUInt32 >>> ((2 : Int32).toUInt32 &&& Int32.toUInt32 31)).toInt32) &&& 858993459)) + (((((a0 - (((a0.toUInt32 >>> ((1 : Int32).toUInt32 &&& Int32.toUInt32 31)).toInt32) &&& 1431655765)) &&& 858993459) + ((((a0 - (((a0.toUInt32 >>> ((1 : Int32).toUInt32 &&& Int32.toUInt32 31)).toInt32) &&& 1431655765)).toUInt32 >>> ((2 : Int32).toUInt32 &&& Int32.toUInt32 31)).toInt32) &&& 858993459)).toUInt32 >>> ((4 : Int32).toUInt32 &&& Int32.toUInt32 31)).toInt32)) &&& 252645135).toUInt32 >>> ((8 : Int32).toUInt32 &&& Int32.toUInt32 31)).toInt32)).toUInt32 >>> ((16 : Int32).toUInt32 &&& Int32.toUInt32 31)).toInt32)))], [.int ((((((((a0 - (((a0.toUInt32 >>> ((1 : Int32).toUInt32 &&& Int32.toUInt32 31)).toInt32) &&& 1431655765)) &&& 858993459) + ((((a0 - (((a0.toUInt32 >>> ((1 : Int32).toUInt32 &&& Int32.toUInt32 31)).toInt32) &&& 1431655765)).toUInt32 >>> ((2 : Int32).toUInt32 &&& Int32.toUInt32 31)).toInt32) &&& 858993459)) + (((((a0 - (((a0.toUInt32 >>> ((1 : Int32).toUInt32 &&& Int32.toUInt32 31)).toInt32) &&& 1431655765)) &&& 858993459) + ((((a0 - (((a0.toUInt32 >>> ((1 : Int32).toUInt32 &&& Int32.toUInt32 31)).toInt32) &&& 1431655765)).toUInt32 >>> ((2 : Int32).toUInt32 &&& Int32.toUInt32 31)).toInt32) &&& 858993459)).toUInt32 >>> ((4 : Int32).toUInt32 &&& Int32.toUInt32 31)).toInt32)) &&& 252645135) + (((((((a0 - (((a0.toUInt32 >>> ((1 : Int32).toUInt32 &&& Int32.toUInt32 31)).toInt32) &&& 1431655765)) &&& 858993459) + ((((a0 - (((a0.toUInt32 >>> ((1 : Int32).toUInt32 &&& Int32.toUInt32 31)).toInt32) &&& 1431655765)).toUInt32 >>> ((2 : Int32).toUInt32 &&& Int32.toUInt32 31)).toInt32) &&& 858993459)) + (((((a0 - (((a0.toUInt32 >>> ((1 : Int32).toUInt32 &&& Int32.toUInt32 31)).toInt32) &&& 1431655765)) &&& 858993459) + ((((a0 - (((a0.toUInt32 >>> ((1 : Int32).toUInt32 &&& Int32.toUInt32 31)).toInt32) &&& 1431655765)).toUInt32 >>> ((2 : Int32).toUInt32 &&& Int32.toUInt32 31)).toInt32) &&& 858993459)).toUInt32 >>> ((4 : Int32).toUInt32 &&& Int32.toUInt32 31)).toInt32)) &&& 252645135).toUInt32 >>> ((8 : Int32).toUInt32 &&& Int32.toUInt32 31)).toInt32)) + ((((((((a0 - (((a0.toUInt32 >>> ((1 : Int32).toUInt32 &&& Int32.toUInt32 31)).toInt32) &&& 1431655765)) &&& 858993459) + ((((a0 - (((a0.toUInt32 >>> ((1 : Int32).toUInt32 &&& Int32.toUInt32 31)).toInt32) &&& 1431655765)).toUInt32 >>> ((2 : Int32).toUInt32 &&& Int32.toUInt32 31)).toInt32) &&& 858993459)) + (((((a0 - (((a0.toUInt32 >>> ((1 : Int32).toUInt32 &&& Int32.toUInt32 31)).toInt32) &&& 1431655765)) &&& 858993459) + ((((a0 - (((a0.toUInt32 >>> ((1 : Int32).toUInt32 &&& Int32.toUInt32 31)).toInt32) &&& 1431655765)).toUInt32 >>> ((2 : Int32).toUInt32 &&& Int32.toUInt32 31)).toInt32) &&& 858993459)).toUInt32 >>> ((4 : Int32).toUInt32 &&& Int32.toUInt32 31)).toInt32)) &&& 252645135) + (((((((a0 - (((a0.toUInt32 >>> ((1 : Int32).toUInt32 &&& Int32.toUInt32 31)).toInt32) &&& 1431655765)) &&& 858993459) + ((((a0 - (((a0.toUInt32 >>> ((1 : Int32).toUInt32 &&& Int32.toUInt32 31)).toInt32) &&& 1431655765)).toUInt32 >>> ((2 : Int32).toUInt32 &&& Int32.toUInt32 31)).toInt32) &&& 858993459)) + (((((a0 - (((a0.toUInt32 >>> ((1 : Int32).toUInt32 &&& Int32.toUInt32 31)).toInt32) &&& 1431655765)) &&& 858993459) + ((((a0 - (((a0.toUInt32 >>> ((1 : Int32).toUInt32 &&& Int32.toUInt32 31)).toInt32) &&& 1431655765)).toUInt32 >>> ((2 : Int32).toUInt32 &&& Int32.toUInt32 31)).toInt32) &&& 858993459)).toUInt32 >>> ((4 : Int32).toUInt32 &&& Int32.toUInt32 31)).toInt32)) &&& 252645135).toUInt32 >>> ((8 : Int32).toUInt32 &&& Int32.toUInt32 31)).toInt32)).toUInt32 >>> ((16 : Int32).toUInt32 &&& Int32.toUInt32 31)).toInt32)) &&& 63)], am_SH, hp)) rfl ?_
  exact am_Ev.cast (a := ((some (.int ((((((((a0 - (((a0.toUInt32 >>> ((1 : Int32).toUInt32 &&& Int32.toUInt32 31)).toInt32) &&& 1431655765)) &&& 858993459) + ((((a0 - (((a0.toUInt32 >>> ((1 : Int32).toUInt32 &&& Int32.toUInt32 31)).toInt32) &&& 1431655765)).toUInt32 >>> ((2 : Int32).toUInt32 &&& Int32.toUInt32 31)).toInt32) &&& 858993459)) + (((((a0 - (((a0.toUInt32 >>> ((1 : Int32).toUInt32 &&& Int32.toUInt32 31)).toInt32) &&& 1431655765)) &&& 858993459) + ((((a0 - (((a0.toUInt32 >>> ((1 : Int32).toUInt32 &&& Int32.toUInt32 31)).toInt32) &&& 1431655765)).toUInt32 >>> ((2 : Int32).toUInt32 &&& Int32.toUInt32 31)).toInt32) &&& 858993459)).toUInt32 >>> ((4 : Int32).toUInt32 &&& Int32.toUInt32 31)).toInt32)) &&& 252645135) + (((((((a0 - (((a0.toUInt32 >>> ((1 : Int32).toUInt32 &&& Int32.toUInt32 31)).toInt32) &&& 1431655765)) &&& 858993459) + ((((a0 - (((a0.toUInt32 >>> ((1 : Int32).toUInt32 &&& Int32.toUInt32 31)).toInt32) &&& 1431655765)).toUInt32 >>> ((2 : Int32).toUInt32 &&& Int32.toUInt32 31)).toInt32) &&& 858993459)) + (((((a0 - (((a0.toUInt32 >>> ((1 : Int32).toUInt32 &&& Int32.toUInt32 31)).toInt32) &&& 1431655765)) &&& 858993459) + ((((a0 - (((a0.toUInt32 >>> ((1 : Int32).toUInt32 &&& Int32.toUInt32 31)).toInt32) &&& 1431655765)).toUInt32 >>> ((2 : Int32).toUInt32 &&& Int32.toUInt32 31)).toInt32) &&& 858993459)).toUInt32 >>> ((4 : Int32).toUInt32 &&& Int32.toUInt32 31)).toInt32)) &&& 252645135).toUInt32 >>> ((8 : Int32).toUInt32 &&& Int32.toUInt32 31)).toInt32)) + ((((((((a0 - (((a0.toUInt32 >>> ((1 : Int32).toUInt32 &&& Int32.toUInt32 31)).toInt32) &&& 1431655765)) &&& 858993459) + ((((a0 - (((a0.toUInt32 >>> ((1 : Int32).toUInt32 &&& Int32.toUInt32 31)).toInt32) &&& 1431655765)).toUInt32 >>> ((2 : Int32).toUInt32 &&& Int32.toUInt32 31)).toInt32) &&& 858993459)) + (((((a0 - (((a0.toUInt32 >>> ((1 : Int32).toUInt32 &&& Int32.toUInt32 31)).toInt32) &&& 1431655765)) &&& 858993459) + ((((a0 - (((a0.toUInt32 >>> ((1 : Int32).toUInt32 &&& Int32.toUInt32 31)).toInt32) &&& 1431655765)).toUInt32 >>> ((2 : Int32).toUInt32 &&& Int32.toUInt32 31)).toInt32) &&& 858993459)).toUInt32 >>> ((4 : Int32).toUInt32 &&& Int32.toUInt32 31)).toInt32)) &&& 252645135) + (((((((a0 - (((a0.toUInt32 >>> ((1 : Int32).toUInt32 &&& Int32.toUInt32 31)).toInt32) &&& 1431655765)) &&& 858993459) + ((((a0 - (((a0.toUInt32 >>> ((1 : Int32).toUInt32 &&& Int32.toUInt32 31)).toInt32) &&& 1431655765)).toUInt32 >>> ((2 : Int32).toUInt32 &&& Int32.toUInt32 31)).toInt32) &&& 858993459)) + (((((a0 - (((a0.toUInt32 >>> ((1 : Int32).toUInt32 &&& Int32.toUInt32 31)).toInt32) &&& 1431655765)) &&& 858993459) + ((((a0 - (((a0.toUInt32 >>> ((1 : Int32).toUInt32 &&& Int32.toUInt32 31)).toInt32) &&& 1431655765)).toUInt32 >>> ((2 : Int32).toUInt32 &&& Int32.toUInt32 31)).toInt32) &&& 858993459)).toUInt32 >>> ((4 : Int32).toUInt32 &&& Int32.toUInt32 31)).toInt32)) &&& 252645135).toUInt32 >>> ((8 : Int32).toUInt32 &&& Int32.toUInt32 31)).toInt32)).toUInt32 >>> ((16 : Int32).toUInt32 &&& Int32.toUInt32 31)).toInt32)) &&& 63))), am_SH, hp)) (by subst h; rfl) (am_Ev.ret hcd rfl)
def xb_behold_2 (a0 : Int32) (f : (Nat → Nat → Int32)) : Option ((Nat → Nat → Int32)) :=
  if am_in a0 6 = true then (
  am_let (f 5 a0.toNatClampNeg : Int32) fun t1 =>
  ((if (xc_hasWitness_2 t1 f) = true then (
      if am_in t1 12 = true then (
      if am_in a0 6 = true then (
      (xn_nearness_25 (f 9 t1.toNatClampNeg) (f 6 a0.toNatClampNeg) f).bind fun p3 =>
      some p3) else none) else none)
    else (
      some 0)) : Option (Int32)).bind fun t4 =>
  am_let (am_up f 121 7 t4 : Nat → Nat → Int32) fun f5 =>
  ((if (xc_hasWitness_2 t1 f) = true then (
      if am_in t1 12 = true then (
      some (f5 8 t1.toNatClampNeg)) else none)
    else (
      some 0)) : Option (Int32)).bind fun t6 =>
  am_let (am_up f5 121 8 t6 : Nat → Nat → Int32) fun f7 =>
  if am_in a0 6 = true then (
  am_let (am_up f7 121 9 (f7 4 a0.toNatClampNeg) : Nat → Nat → Int32) fun f8 =>
  if am_in a0 6 = true then (
  am_let (am_up f8 121 10 (f8 3 a0.toNatClampNeg) : Nat → Nat → Int32) fun f9 =>
  if am_in a0 6 = true then (
  am_let ((if f9 6 a0.toNatClampNeg = (-1) then (
      false)
    else (
      true)) : Bool) fun t10 =>
  am_let (am_up f9 121 11 (am_b t10) : Nat → Nat → Int32) fun f11 =>
  ((if (xc_hasWitness_2 t1 f) = true then (
      if am_in t1 12 = true then (
      some (ji_bitCount (f11 9 t1.toNatClampNeg))) else none)
    else (
      some 0)) : Option (Int32)).bind fun t13 =>
  am_let (am_up f11 121 12 t13 : Nat → Nat → Int32) fun f14 =>
  ((if (xc_hasWitness_2 t1 f) = true then (
      if am_in t1 12 = true then (
      some (f14 10 t1.toNatClampNeg)) else none)
    else (
      some 0)) : Option (Int32)).bind fun t15 =>
  am_let (am_up f14 121 13 t15 : Nat → Nat → Int32) fun f16 =>
  if am_in a0 6 = true then (
  am_let (am_up f16 121 14 (f16 7 a0.toNatClampNeg) : Nat → Nat → Int32) fun f17 =>
  am_let (am_up f17 121 15 a0 : Nat → Nat → Int32) fun f18 =>
  am_let (am_up f18 121 16 (f18 2 2) : Nat → Nat → Int32) fun f19 =>
  some f19) else none) else none) else none) else none) else none
set_option maxRecDepth 100000 in
set_option maxHeartbeats 4000000 in
theorem xb_behold_2_ok {sc : Nat × (Nat → Int32)} (d : Nat) (a0 : Int32) (f g : (Nat → Nat → Int32)) (r : (Nat → Nat → Int32)) (h : xb_behold_2 a0 f = some r) : am_Ev sc (d + 2) 13 (0, [(0, .ref 120), (1, .ref 2), (2, .int a0)], [], am_SH, (f, g)) (none, am_SH, (r, g)) := by
  have hcd : am_code 13 = am_c13 := rfl
  unfold xb_behold_2 at h
  refine am_Ev.go hcd 3 (s' := (3, [(0, .ref 120), (1, .ref 2), (2, .int a0)], [.int a0, .ref 5], am_SH, (f, g))) rfl ?_
  obtain ⟨c2, h⟩ := am_grd h
  refine am_Ev.t hcd (c := am_in a0 6 = true) (s1 := (4, [(0, .ref 120), (1, .ref 2), (2, .int a0)], [.int (f 5 a0.toNatClampNeg)], am_SH, (f, g))) rfl c2 ?_
  obtain ⟨t1, Et1, h⟩ := am_let_eq h
  refine am_Ev.go hcd 1 (s' := (5, [(0, .ref 120), (1, .ref 2), (2, .int a0), (3, .int t1)], [], am_SH, (f, g))) (by subst Et1; exact rfl) ?_
  refine am_Ev.go hcd 2 (s' := (7, [(0, .ref 120), (1, .ref 2), (2, .int a0), (3, .int t1)], [.int t1, .ref 2], am_SH, (f, g))) rfl ?_
  refine am_Ev.call hcd (a := 23) (s0 := (0, [(0, .ref 2), (1, .int t1)], [], am_SH, (f, g))) (q := ((some (.int (am_b (xc_hasWitness_2 t1 f)))), am_SH, (f, g))) (s1 := (8, [(0, .ref 120), (1, .ref 2), (2, .int a0), (3, .int t1)], [.int (am_b (xc_hasWitness_2 t1 f))], am_SH, (f, g))) rfl rfl (xc_hasWitness_2_ok (d + 1) t1 f g) ?_
  obtain ⟨t4, ht4, kt4⟩ := am_bind_some h
  have hKt4 : am_Ev sc (d + 2) 13 (28, [(0, .ref 120), (1, .ref 2), (2, .int a0), (3, .int t1), (4, .int (am_b (xc_hasWitness_2 t1 f)))], [.int t4, .int 7, .ref 121], am_SH, (f, g)) (none, am_SH, (r, g)) := by
    have h := kt4
    obtain ⟨f5, Ef5, h⟩ := am_let_eq h
    refine am_Ev.go hcd 1 (s' := (29, [(0, .ref 120), (1, .ref 2), (2, .int a0), (3, .int t1), (4, .int (am_b (xc_hasWitness_2 t1 f)))], [], am_SH, (f5, g))) (by subst Ef5; exact rfl) ?_
    obtain ⟨t6, ht6, kt6⟩ := am_bind_some h
    have hKt6 : am_Ev sc (d + 2) 13 (40, [(0, .ref 120), (1, .ref 2), (2, .int a0), (3, .int t1), (4, .int (am_b (xc_hasWitness_2 t1 f)))], [.int t6, .int 8, .ref 121], am_SH, (f5, g)) (none, am_SH, (r, g)) := by
      have h := kt6
      obtain ⟨f7, Ef7, h⟩ := am_let_eq h
      refine am_Ev.go hcd 1 (s' := (41, [(0, .ref 120), (1, .ref 2), (2, .int a0), (3, .int t1), (4, .int (am_b (xc_hasWitness_2 t1 f)))], [], am_SH, (f7, g))) (by subst Ef7; exact rfl) ?_
      refine am_Ev.go hcd 6 (s' := (47, [(0, .ref 120), (1, .ref 2), (2, .int a0), (3, .int t1), (4, .int (am_b (xc_hasWitness_2 t1 f)))], [.int a0, .ref 4, .int 9, .ref 121], am_SH, (f7, g))) rfl ?_
      obtain ⟨c19, h⟩ := am_grd h
      refine am_Ev.t hcd (c := am_in a0 6 = true) (s1 := (48, [(0, .ref 120), (1, .ref 2), (2, .int a0), (3, .int t1), (4, .int (am_b (xc_hasWitness_2 t1 f)))], [.int (f7 4 a0.toNatClampNeg), .int 9, .ref 121], am_SH, (f7, g))) rfl c19 ?_
      obtain ⟨f8, Ef8, h⟩ := am_let_eq h
      refine am_Ev.go hcd 1 (s' := (49, [(0, .ref 120), (1, .ref 2), (2, .int a0), (3, .int t1), (4, .int (am_b (xc_hasWitness_2 t1 f)))], [], am_SH, (f8, g))) (by subst Ef8; exact rfl) ?_
      refine am_Ev.go hcd 6 (s' := (55, [(0, .ref 120), (1, .ref 2), (2, .int a0), (3, .int t1), (4, .int (am_b (xc_hasWitness_2 t1 f)))], [.int a0, .ref 3, .int 10, .ref 121], am_SH, (f8, g))) rfl ?_
      obtain ⟨c24, h⟩ := am_grd h
      refine am_Ev.t hcd (c := am_in a0 6 = true) (s1 := (56, [(0, .ref 120), (1, .ref 2), (2, .int a0), (3, .int t1), (4, .int (am_b (xc_hasWitness_2 t1 f)))], [.int (f8 3 a0.toNatClampNeg), .int 10, .ref 121], am_SH, (f8, g))) rfl c24 ?_
      obtain ⟨f9, Ef9, h⟩ := am_let_eq h
      refine am_Ev.go hcd 1 (s' := (57, [(0, .ref 120), (1, .ref 2), (2, .int a0), (3, .int t1), (4, .int (am_b (xc_hasWitness_2 t1 f)))], [], am_SH, (f9, g))) (by subst Ef9; exact rfl) ?_
      refine am_Ev.go hcd 6 (s' := (63, [(0, .ref 120), (1, .ref 2), (2, .int a0), (3, .int t1), (4, .int (am_b (xc_hasWitness_2 t1 f)))], [.int a0, .ref 6, .int 11, .ref 121], am_SH, (f9, g))) rfl ?_
      obtain ⟨c29, h⟩ := am_grd h
      refine am_Ev.t hcd (c := am_in a0 6 = true) (s1 := (64, [(0, .ref 120), (1, .ref 2), (2, .int a0), (3, .int t1), (4, .int (am_b (xc_hasWitness_2 t1 f)))], [.int (f9 6 a0.toNatClampNeg), .int 11, .ref 121], am_SH, (f9, g))) rfl c29 ?_
      obtain ⟨t10, ht10, kt10⟩ := am_let_eq h
      have hKt10 : am_Ev sc (d + 2) 13 (69, [(0, .ref 120), (1, .ref 2), (2, .int a0), (3, .int t1), (4, .int (am_b (xc_hasWitness_2 t1 f)))], [.int (am_b t10), .int 11, .ref 121], am_SH, (f9, g)) (none, am_SH, (r, g)) := by
        have h := kt10
        obtain ⟨f11, Ef11, h⟩ := am_let_eq h
        refine am_Ev.go hcd 1 (s' := (70, [(0, .ref 120), (1, .ref 2), (2, .int a0), (3, .int t1), (4, .int (am_b (xc_hasWitness_2 t1 f)))], [], am_SH, (f11, g))) (by subst Ef11; exact rfl) ?_
        obtain ⟨t13, ht13, kt13⟩ := am_bind_some h
        have hKt13 : am_Ev sc (d + 2) 13 (82, [(0, .ref 120), (1, .ref 2), (2, .int a0), (3, .int t1), (4, .int (am_b (xc_hasWitness_2 t1 f)))], [.int t13, .int 12, .ref 121], am_SH, (f11, g)) (none, am_SH, (r, g)) := by
          have h := kt13
          obtain ⟨f14, Ef14, h⟩ := am_let_eq h
          refine am_Ev.go hcd 1 (s' := (83, [(0, .ref 120), (1, .ref 2), (2, .int a0), (3, .int t1), (4, .int (am_b (xc_hasWitness_2 t1 f)))], [], am_SH, (f14, g))) (by subst Ef14; exact rfl) ?_
          obtain ⟨t15, ht15, kt15⟩ := am_bind_some h
          have hKt15 : am_Ev sc (d + 2) 13 (94, [(0, .ref 120), (1, .ref 2), (2, .int a0)], [.int t15, .int 13, .ref 121], am_SH, (f14, g)) (none, am_SH, (r, g)) := by
            have h := kt15
            obtain ⟨f16, Ef16, h⟩ := am_let_eq h
            refine am_Ev.go hcd 1 (s' := (95, [(0, .ref 120), (1, .ref 2), (2, .int a0)], [], am_SH, (f16, g))) (by subst Ef16; exact rfl) ?_
            refine am_Ev.go hcd 6 (s' := (101, [(0, .ref 120), (1, .ref 2), (2, .int a0)], [.int a0, .ref 7, .int 14, .ref 121], am_SH, (f16, g))) rfl ?_
            obtain ⟨c47, h⟩ := am_grd h
            refine am_Ev.t hcd (c := am_in a0 6 = true) (s1 := (102, [(0, .ref 120), (1, .ref 2), (2, .int a0)], [.int (f16 7 a0.toNatClampNeg), .int 14, .ref 121], am_SH, (f16, g))) rfl c47 ?_
            obtain ⟨f17, Ef17, h⟩ := am_let_eq h
            refine am_Ev.go hcd 1 (s' := (103, [(0, .ref 120), (1, .ref 2), (2, .int a0)], [], am_SH, (f17, g))) (by subst Ef17; exact rfl) ?_
            obtain ⟨f18, Ef18, h⟩ := am_let_eq h
            refine am_Ev.go hcd 5 (s' := (108, [(0, .ref 120), (1, .ref 2), (2, .int a0)], [], am_SH, (f18, g))) (by subst Ef18; exact rfl) ?_
            obtain ⟨f19, Ef19, h⟩ := am_let_eq h
            refine am_Ev.go hcd 6 (s' := (114, [(0, .ref 120), (1, .ref 2), (2, .int a0)], [], am_SH, (f19, g))) (by subst Ef19; exact rfl) ?_
            exact am_Ev.cast (a := (none, am_SH, (f19, g))) (by cases h; rfl) (am_Ev.ret hcd rfl)
          have hLt15 : ∀ tt, tt = t15 → am_Ev sc (d + 2) 13 (94, [(0, .ref 120), (1, .ref 2), (2, .int a0)], [.int tt, .int 13, .ref 121], am_SH, (f14, g)) (none, am_SH, (r, g)) := fun tt htt => by subst htt; exact hKt15
          have h := ht15
          refine am_Ev.go hcd 4 (s' := (87, [(0, .ref 120), (1, .ref 2), (2, .int a0), (3, .int t1), (4, .int (am_b (xc_hasWitness_2 t1 f)))], [.int (am_b (xc_hasWitness_2 t1 f)), .int 13, .ref 121], am_SH, (f14, g))) rfl ?_
          rcases am_ite h with ⟨c59, h⟩ | ⟨c59, h⟩
          · refine am_Ev.f hcd (c := am_b (xc_hasWitness_2 t1 f) = 0) (s1 := (88, [(0, .ref 120), (1, .ref 2), (2, .int a0), (3, .int t1), (4, .int (am_b (xc_hasWitness_2 t1 f)))], [.int 13, .ref 121], am_SH, (f14, g))) rfl (am_b_t c59) ?_
            refine am_Ev.go hcd 3 (s' := (91, [(0, .ref 120), (1, .ref 2), (2, .int a0), (3, .int t1), (4, .int (am_b (xc_hasWitness_2 t1 f)))], [.int t1, .ref 10, .int 13, .ref 121], am_SH, (f14, g))) rfl ?_
            obtain ⟨c62, h⟩ := am_grd h
            refine am_Ev.t hcd (c := am_in t1 12 = true) (s1 := (92, [(0, .ref 120), (1, .ref 2), (2, .int a0), (3, .int t1), (4, .int (am_b (xc_hasWitness_2 t1 f)))], [.int (f14 10 t1.toNatClampNeg), .int 13, .ref 121], am_SH, (f14, g))) rfl c62 ?_
            refine am_Ev.go hcd 1 (s' := (94, [(0, .ref 120), (1, .ref 2), (2, .int a0), (3, .int t1), (4, .int (am_b (xc_hasWitness_2 t1 f)))], [.int (f14 10 t1.toNatClampNeg), .int 13, .ref 121], am_SH, (f14, g))) rfl ?_
            exact am_Ev.weak' (hLt15 (f14 10 t1.toNatClampNeg) (Option.some.inj h)) (am_sub_cons rfl (am_sub_cons rfl (am_sub_cons rfl am_sub_nil))) rfl
          · refine am_Ev.t hcd (c := am_b (xc_hasWitness_2 t1 f) = 0) (s1 := (93, [(0, .ref 120), (1, .ref 2), (2, .int a0), (3, .int t1), (4, .int (am_b (xc_hasWitness_2 t1 f)))], [.int 13, .ref 121], am_SH, (f14, g))) rfl (am_b_f c59) ?_
            refine am_Ev.go hcd 1 (s' := (94, [(0, .ref 120), (1, .ref 2), (2, .int a0), (3, .int t1), (4, .int (am_b (xc_hasWitness_2 t1 f)))], [.int 0, .int 13, .ref 121], am_SH, (f14, g))) rfl ?_
            exact am_Ev.weak' (hLt15 0 (Option.some.inj h)) (am_sub_cons rfl (am_sub_cons rfl (am_sub_cons rfl am_sub_nil))) rfl
        have hLt13 : ∀ tt, tt = t13 → am_Ev sc (d + 2) 13 (82, [(0, .ref 120), (1, .ref 2), (2, .int a0), (3, .int t1), (4, .int (am_b (xc_hasWitness_2 t1 f)))], [.int tt, .int 12, .ref 121], am_SH, (f11, g)) (none, am_SH, (r, g)) := fun tt htt => by subst htt; exact hKt13
        have h := ht13
        refine am_Ev.go hcd 4 (s' := (74, [(0, .ref 120), (1, .ref 2), (2, .int a0), (3, .int t1), (4, .int (am_b (xc_hasWitness_2 t1 f)))], [.int (am_b (xc_hasWitness_2 t1 f)), .int 12, .ref 121], am_SH, (f11, g))) rfl ?_
        rcases am_ite h with ⟨c72, h⟩ | ⟨c72, h⟩
        · refine am_Ev.f hcd (c := am_b (xc_hasWitness_2 t1 f) = 0) (s1 := (75, [(0, .ref 120), (1, .ref 2), (2, .int a0), (3, .int t1), (4, .int (am_b (xc_hasWitness_2 t1 f)))], [.int 12, .ref 121], am_SH, (f11, g))) rfl (am_b_t c72) ?_
          refine am_Ev.go hcd 3 (s' := (78, [(0, .ref 120), (1, .ref 2), (2, .int a0), (3, .int t1), (4, .int (am_b (xc_hasWitness_2 t1 f)))], [.int t1, .ref 9, .int 12, .ref 121], am_SH, (f11, g))) rfl ?_
          obtain ⟨c75, h⟩ := am_grd h
          refine am_Ev.t hcd (c := am_in t1 12 = true) (s1 := (79, [(0, .ref 120), (1, .ref 2), (2, .int a0), (3, .int t1), (4, .int (am_b (xc_hasWitness_2 t1 f)))], [.int (f11 9 t1.toNatClampNeg), .int 12, .ref 121], am_SH, (f11, g))) rfl c75 ?_
          refine am_Ev.call hcd (a := 312) (s0 := (0, [(0, .int (f11 9 t1.toNatClampNeg))], [], am_SH, (f11, g))) (q := ((some (.int (ji_bitCount (f11 9 t1.toNatClampNeg)))), am_SH, (f11, g))) (s1 := (80, [(0, .ref 120), (1, .ref 2), (2, .int a0), (3, .int t1), (4, .int (am_b (xc_hasWitness_2 t1 f)))], [.int (ji_bitCount (f11 9 t1.toNatClampNeg)), .int 12, .ref 121], am_SH, (f11, g))) rfl rfl (ji_bitCount_ok (d + 1) (f11 9 t1.toNatClampNeg) (f11, g)) ?_
          refine am_Ev.go hcd 1 (s' := (82, [(0, .ref 120), (1, .ref 2), (2, .int a0), (3, .int t1), (4, .int (am_b (xc_hasWitness_2 t1 f)))], [.int (ji_bitCount (f11 9 t1.toNatClampNeg)), .int 12, .ref 121], am_SH, (f11, g))) rfl ?_
          exact am_Ev.weak' (hLt13 (ji_bitCount (f11 9 t1.toNatClampNeg)) (Option.some.inj h)) (am_sub_cons rfl (am_sub_cons rfl (am_sub_cons rfl (am_sub_cons rfl (am_sub_cons rfl am_sub_nil))))) rfl
        · refine am_Ev.t hcd (c := am_b (xc_hasWitness_2 t1 f) = 0) (s1 := (81, [(0, .ref 120), (1, .ref 2), (2, .int a0), (3, .int t1), (4, .int (am_b (xc_hasWitness_2 t1 f)))], [.int 12, .ref 121], am_SH, (f11, g))) rfl (am_b_f c72) ?_
          refine am_Ev.go hcd 1 (s' := (82, [(0, .ref 120), (1, .ref 2), (2, .int a0), (3, .int t1), (4, .int (am_b (xc_hasWitness_2 t1 f)))], [.int 0, .int 12, .ref 121], am_SH, (f11, g))) rfl ?_
          exact am_Ev.weak' (hLt13 0 (Option.some.inj h)) (am_sub_cons rfl (am_sub_cons rfl (am_sub_cons rfl (am_sub_cons rfl (am_sub_cons rfl am_sub_nil))))) rfl
      have hLt10 : ∀ tt, tt = t10 → am_Ev sc (d + 2) 13 (69, [(0, .ref 120), (1, .ref 2), (2, .int a0), (3, .int t1), (4, .int (am_b (xc_hasWitness_2 t1 f)))], [.int (am_b tt), .int 11, .ref 121], am_SH, (f9, g)) (none, am_SH, (r, g)) := fun tt htt => by subst htt; exact hKt10
      have h := ht10
      refine am_Ev.go hcd 1 (s' := (65, [(0, .ref 120), (1, .ref 2), (2, .int a0), (3, .int t1), (4, .int (am_b (xc_hasWitness_2 t1 f)))], [.int (-1), .int (f9 6 a0.toNatClampNeg), .int 11, .ref 121], am_SH, (f9, g))) rfl ?_
      rcases am_itv h with ⟨c86, h⟩ | ⟨c86, h⟩
      · refine am_Ev.t hcd (c := f9 6 a0.toNatClampNeg = (-1)) (s1 := (66, [(0, .ref 120), (1, .ref 2), (2, .int a0), (3, .int t1), (4, .int (am_b (xc_hasWitness_2 t1 f)))], [.int 11, .ref 121], am_SH, (f9, g))) rfl c86 ?_
        refine am_Ev.go hcd 2 (s' := (69, [(0, .ref 120), (1, .ref 2), (2, .int a0), (3, .int t1), (4, .int (am_b (xc_hasWitness_2 t1 f)))], [.int 0, .int 11, .ref 121], am_SH, (f9, g))) rfl ?_
        exact am_Ev.weak' (hLt10 false h.symm) (am_sub_cons rfl (am_sub_cons rfl (am_sub_cons rfl (am_sub_cons rfl (am_sub_cons rfl am_sub_nil))))) rfl
      · refine am_Ev.f hcd (c := f9 6 a0.toNatClampNeg = (-1)) (s1 := (68, [(0, .ref 120), (1, .ref 2), (2, .int a0), (3, .int t1), (4, .int (am_b (xc_hasWitness_2 t1 f)))], [.int 11, .ref 121], am_SH, (f9, g))) rfl c86 ?_
        refine am_Ev.go hcd 1 (s' := (69, [(0, .ref 120), (1, .ref 2), (2, .int a0), (3, .int t1), (4, .int (am_b (xc_hasWitness_2 t1 f)))], [.int 1, .int 11, .ref 121], am_SH, (f9, g))) rfl ?_
        exact am_Ev.weak' (hLt10 true h.symm) (am_sub_cons rfl (am_sub_cons rfl (am_sub_cons rfl (am_sub_cons rfl (am_sub_cons rfl am_sub_nil))))) rfl
    have hLt6 : ∀ tt, tt = t6 → am_Ev sc (d + 2) 13 (40, [(0, .ref 120), (1, .ref 2), (2, .int a0), (3, .int t1), (4, .int (am_b (xc_hasWitness_2 t1 f)))], [.int tt, .int 8, .ref 121], am_SH, (f5, g)) (none, am_SH, (r, g)) := fun tt htt => by subst htt; exact hKt6
    have h := ht6
    refine am_Ev.go hcd 4 (s' := (33, [(0, .ref 120), (1, .ref 2), (2, .int a0), (3, .int t1), (4, .int (am_b (xc_hasWitness_2 t1 f)))], [.int (am_b (xc_hasWitness_2 t1 f)), .int 8, .ref 121], am_SH, (f5, g))) rfl ?_
    rcases am_ite h with ⟨c96, h⟩ | ⟨c96, h⟩
    · refine am_Ev.f hcd (c := am_b (xc_hasWitness_2 t1 f) = 0) (s1 := (34, [(0, .ref 120), (1, .ref 2), (2, .int a0), (3, .int t1), (4, .int (am_b (xc_hasWitness_2 t1 f)))], [.int 8, .ref 121], am_SH, (f5, g))) rfl (am_b_t c96) ?_
      refine am_Ev.go hcd 3 (s' := (37, [(0, .ref 120), (1, .ref 2), (2, .int a0), (3, .int t1), (4, .int (am_b (xc_hasWitness_2 t1 f)))], [.int t1, .ref 8, .int 8, .ref 121], am_SH, (f5, g))) rfl ?_
      obtain ⟨c99, h⟩ := am_grd h
      refine am_Ev.t hcd (c := am_in t1 12 = true) (s1 := (38, [(0, .ref 120), (1, .ref 2), (2, .int a0), (3, .int t1), (4, .int (am_b (xc_hasWitness_2 t1 f)))], [.int (f5 8 t1.toNatClampNeg), .int 8, .ref 121], am_SH, (f5, g))) rfl c99 ?_
      refine am_Ev.go hcd 1 (s' := (40, [(0, .ref 120), (1, .ref 2), (2, .int a0), (3, .int t1), (4, .int (am_b (xc_hasWitness_2 t1 f)))], [.int (f5 8 t1.toNatClampNeg), .int 8, .ref 121], am_SH, (f5, g))) rfl ?_
      exact am_Ev.weak' (hLt6 (f5 8 t1.toNatClampNeg) (Option.some.inj h)) (am_sub_cons rfl (am_sub_cons rfl (am_sub_cons rfl (am_sub_cons rfl (am_sub_cons rfl am_sub_nil))))) rfl
    · refine am_Ev.t hcd (c := am_b (xc_hasWitness_2 t1 f) = 0) (s1 := (39, [(0, .ref 120), (1, .ref 2), (2, .int a0), (3, .int t1), (4, .int (am_b (xc_hasWitness_2 t1 f)))], [.int 8, .ref 121], am_SH, (f5, g))) rfl (am_b_f c96) ?_
      refine am_Ev.go hcd 1 (s' := (40, [(0, .ref 120), (1, .ref 2), (2, .int a0), (3, .int t1), (4, .int (am_b (xc_hasWitness_2 t1 f)))], [.int 0, .int 8, .ref 121], am_SH, (f5, g))) rfl ?_
      exact am_Ev.weak' (hLt6 0 (Option.some.inj h)) (am_sub_cons rfl (am_sub_cons rfl (am_sub_cons rfl (am_sub_cons rfl (am_sub_cons rfl am_sub_nil))))) rfl
  have hLt4 : ∀ tt, tt = t4 → am_Ev sc (d + 2) 13 (28, [(0, .ref 120), (1, .ref 2), (2, .int a0), (3, .int t1), (4, .int (am_b (xc_hasWitness_2 t1 f)))], [.int tt, .int 7, .ref 121], am_SH, (f, g)) (none, am_SH, (r, g)) := fun tt htt => by subst htt; exact hKt4
  have h := ht4
  refine am_Ev.go hcd 5 (s' := (13, [(0, .ref 120), (1, .ref 2), (2, .int a0), (3, .int t1), (4, .int (am_b (xc_hasWitness_2 t1 f)))], [.int (am_b (xc_hasWitness_2 t1 f)), .int 7, .ref 121], am_SH, (f, g))) rfl ?_
  rcases am_ite h with ⟨c109, h⟩ | ⟨c109, h⟩
  · refine am_Ev.f hcd (c := am_b (xc_hasWitness_2 t1 f) = 0) (s1 := (14, [(0, .ref 120), (1, .ref 2), (2, .int a0), (3, .int t1), (4, .int (am_b (xc_hasWitness_2 t1 f)))], [.int 7, .ref 121], am_SH, (f, g))) rfl (am_b_t c109) ?_
    refine am_Ev.go hcd 6 (s' := (20, [(0, .ref 120), (1, .ref 2), (2, .int a0), (3, .int t1), (4, .int (am_b (xc_hasWitness_2 t1 f)))], [.int t1, .ref 9, .ref 25, .int 7, .ref 121], am_SH, (f, g))) rfl ?_
    obtain ⟨c112, h⟩ := am_grd h
    refine am_Ev.t hcd (c := am_in t1 12 = true) (s1 := (21, [(0, .ref 120), (1, .ref 2), (2, .int a0), (3, .int t1), (4, .int (am_b (xc_hasWitness_2 t1 f)))], [.int (f 9 t1.toNatClampNeg), .ref 25, .int 7, .ref 121], am_SH, (f, g))) rfl c112 ?_
    refine am_Ev.go hcd 3 (s' := (24, [(0, .ref 120), (1, .ref 2), (2, .int a0), (3, .int t1), (4, .int (am_b (xc_hasWitness_2 t1 f)))], [.int a0, .ref 6, .int (f 9 t1.toNatClampNeg), .ref 25, .int 7, .ref 121], am_SH, (f, g))) rfl ?_
    obtain ⟨c115, h⟩ := am_grd h
    refine am_Ev.t hcd (c := am_in a0 6 = true) (s1 := (25, [(0, .ref 120), (1, .ref 2), (2, .int a0), (3, .int t1), (4, .int (am_b (xc_hasWitness_2 t1 f)))], [.int (f 6 a0.toNatClampNeg), .int (f 9 t1.toNatClampNeg), .ref 25, .int 7, .ref 121], am_SH, (f, g))) rfl c115 ?_
    obtain ⟨p3, hp3, h⟩ := am_bind_some h
    refine am_Ev.call hcd (a := 81) (s0 := (0, [(0, .ref 25), (1, .int (f 9 t1.toNatClampNeg)), (2, .int (f 6 a0.toNatClampNeg))], [], am_SH, (f, g))) (q := ((some (.int p3)), am_SH, (f, g))) (s1 := (26, [(0, .ref 120), (1, .ref 2), (2, .int a0), (3, .int t1), (4, .int (am_b (xc_hasWitness_2 t1 f)))], [.int p3, .int 7, .ref 121], am_SH, (f, g))) rfl rfl (xn_nearness_25_ok (d) (f 9 t1.toNatClampNeg) (f 6 a0.toNatClampNeg) f g p3 hp3) ?_
    refine am_Ev.go hcd 1 (s' := (28, [(0, .ref 120), (1, .ref 2), (2, .int a0), (3, .int t1), (4, .int (am_b (xc_hasWitness_2 t1 f)))], [.int p3, .int 7, .ref 121], am_SH, (f, g))) rfl ?_
    exact am_Ev.weak' (hLt4 p3 (Option.some.inj h)) (am_sub_cons rfl (am_sub_cons rfl (am_sub_cons rfl (am_sub_cons rfl (am_sub_cons rfl am_sub_nil))))) rfl
  · refine am_Ev.t hcd (c := am_b (xc_hasWitness_2 t1 f) = 0) (s1 := (27, [(0, .ref 120), (1, .ref 2), (2, .int a0), (3, .int t1), (4, .int (am_b (xc_hasWitness_2 t1 f)))], [.int 7, .ref 121], am_SH, (f, g))) rfl (am_b_f c109) ?_
    refine am_Ev.go hcd 1 (s' := (28, [(0, .ref 120), (1, .ref 2), (2, .int a0), (3, .int t1), (4, .int (am_b (xc_hasWitness_2 t1 f)))], [.int 0, .int 7, .ref 121], am_SH, (f, g))) rfl ?_
    exact am_Ev.weak' (hLt4 0 (Option.some.inj h)) (am_sub_cons rfl (am_sub_cons rfl (am_sub_cons rfl (am_sub_cons rfl (am_sub_cons rfl am_sub_nil))))) rfl
def xb_joined (a0 : Int32) (a1 : Int32) (a2 : Int32)  : Option (Int32) :=
  if a0 = 38 then (
    some (a1 &&& a2))
  else if a0 = 42 then (
    some (a1 * a2))
  else if a0 = 43 then (
    some (a1 + a2))
  else if a0 = 45 then (
    some (a1 - a2))
  else if a0 = 47 then (
    if a2 = 0 then (
      some 0)
    else (
      if a2 = 0 then none else
      some (a1 / a2)))
  else if a0 = 60 then (
    if a1 < a2 then (
      some 1)
    else (
      some 0))
  else if a0 = 61 then (
    if a1 = a2 then (
      some 1)
    else (
      some 0))
  else if a0 = 62 then (
    if a2 < a1 then (
      some 1)
    else (
      some 0))
  else (some (a1 ||| a2))
set_option maxRecDepth 100000 in
set_option maxHeartbeats 4000000 in
theorem xb_joined_ok {sc : Nat × (Nat → Int32)} (d : Nat) (a0 : Int32) (a1 : Int32) (a2 : Int32) (hp : am_H) (r : Int32) (h : xb_joined a0 a1 a2 = some r) : am_Ev sc (d) 16 (0, [(0, .int a0), (1, .int a1), (2, .int a2)], [], am_SH, hp) ((some (.int r)), am_SH, hp) := by
  have hcd : am_code 16 = am_c16 := rfl
  unfold xb_joined at h
  refine am_Ev.go hcd 1 (s' := (1, [(0, .int a0), (1, .int a1), (2, .int a2)], [.int a0], am_SH, hp)) rfl ?_
  refine am_Ev.one hcd (s' := (am_swt a0 [(38, 43), (42, 10), (43, 2), (45, 6), (47, 14), (60, 22), (61, 29), (62, 36)] 47, [(0, .int a0), (1, .int a1), (2, .int a2)], [], am_SH, hp)) rfl ?_
  rcases am_ite h with ⟨c4, h⟩ | ⟨c4, h⟩
  · rw [am_swt_t c4]
    refine am_Ev.go hcd 3 (s' := (46, [(0, .int a0), (1, .int a1), (2, .int a2)], [.int (a1 &&& a2)], am_SH, hp)) rfl ?_
    exact am_Ev.cast (a := ((some (.int (a1 &&& a2))), am_SH, hp)) (by cases h; rfl) (am_Ev.ret hcd rfl)
  rw [am_swt_f c4]
  rcases am_ite h with ⟨c9, h⟩ | ⟨c9, h⟩
  · rw [am_swt_t c9]
    refine am_Ev.go hcd 3 (s' := (13, [(0, .int a0), (1, .int a1), (2, .int a2)], [.int (a1 * a2)], am_SH, hp)) rfl ?_
    exact am_Ev.cast (a := ((some (.int (a1 * a2))), am_SH, hp)) (by cases h; rfl) (am_Ev.ret hcd rfl)
  rw [am_swt_f c9]
  rcases am_ite h with ⟨c14, h⟩ | ⟨c14, h⟩
  · rw [am_swt_t c14]
    refine am_Ev.go hcd 3 (s' := (5, [(0, .int a0), (1, .int a1), (2, .int a2)], [.int (a1 + a2)], am_SH, hp)) rfl ?_
    exact am_Ev.cast (a := ((some (.int (a1 + a2))), am_SH, hp)) (by cases h; rfl) (am_Ev.ret hcd rfl)
  rw [am_swt_f c14]
  rcases am_ite h with ⟨c19, h⟩ | ⟨c19, h⟩
  · rw [am_swt_t c19]
    refine am_Ev.go hcd 3 (s' := (9, [(0, .int a0), (1, .int a1), (2, .int a2)], [.int (a1 - a2)], am_SH, hp)) rfl ?_
    exact am_Ev.cast (a := ((some (.int (a1 - a2))), am_SH, hp)) (by cases h; rfl) (am_Ev.ret hcd rfl)
  rw [am_swt_f c19]
  rcases am_ite h with ⟨c24, h⟩ | ⟨c24, h⟩
  · rw [am_swt_t c24]
    refine am_Ev.go hcd 1 (s' := (15, [(0, .int a0), (1, .int a1), (2, .int a2)], [.int a2], am_SH, hp)) rfl ?_
    rcases am_ite h with ⟨c26, h⟩ | ⟨c26, h⟩
    · refine am_Ev.t hcd (c := a2 = 0) (s1 := (16, [(0, .int a0), (1, .int a1), (2, .int a2)], [], am_SH, hp)) rfl c26 ?_
      refine am_Ev.go hcd 2 (s' := (21, [(0, .int a0), (1, .int a1), (2, .int a2)], [.int 0], am_SH, hp)) rfl ?_
      exact am_Ev.cast (a := ((some (.int 0)), am_SH, hp)) (by cases h; rfl) (am_Ev.ret hcd rfl)
    · refine am_Ev.f hcd (c := a2 = 0) (s1 := (18, [(0, .int a0), (1, .int a1), (2, .int a2)], [], am_SH, hp)) rfl c26 ?_
      refine am_Ev.go hcd 2 (s' := (20, [(0, .int a0), (1, .int a1), (2, .int a2)], [.int a2, .int a1], am_SH, hp)) rfl ?_
      rcases am_ite h with ⟨c32, h⟩ | ⟨c32, h⟩
      · exact absurd h (by simp)
      · refine am_Ev.f hcd (c := a2 = 0) (s1 := (21, [(0, .int a0), (1, .int a1), (2, .int a2)], [.int (a1 / a2)], am_SH, hp)) rfl c32 ?_
        exact am_Ev.cast (a := ((some (.int (a1 / a2))), am_SH, hp)) (by cases h; rfl) (am_Ev.ret hcd rfl)
  rw [am_swt_f c24]
  rcases am_ite h with ⟨c38, h⟩ | ⟨c38, h⟩
  · rw [am_swt_t c38]
    refine am_Ev.go hcd 2 (s' := (24, [(0, .int a0), (1, .int a1), (2, .int a2)], [.int a2, .int a1], am_SH, hp)) rfl ?_
    rcases am_ite h with ⟨c40, h⟩ | ⟨c40, h⟩
    · refine am_Ev.t hcd (c := a1 < a2) (s1 := (25, [(0, .int a0), (1, .int a1), (2, .int a2)], [], am_SH, hp)) rfl c40 ?_
      refine am_Ev.go hcd 2 (s' := (28, [(0, .int a0), (1, .int a1), (2, .int a2)], [.int 1], am_SH, hp)) rfl ?_
      exact am_Ev.cast (a := ((some (.int 1)), am_SH, hp)) (by cases h; rfl) (am_Ev.ret hcd rfl)
    · refine am_Ev.f hcd (c := a1 < a2) (s1 := (27, [(0, .int a0), (1, .int a1), (2, .int a2)], [], am_SH, hp)) rfl c40 ?_
      refine am_Ev.go hcd 1 (s' := (28, [(0, .int a0), (1, .int a1), (2, .int a2)], [.int 0], am_SH, hp)) rfl ?_
      exact am_Ev.cast (a := ((some (.int 0)), am_SH, hp)) (by cases h; rfl) (am_Ev.ret hcd rfl)
  rw [am_swt_f c38]
  rcases am_ite h with ⟨c49, h⟩ | ⟨c49, h⟩
  · rw [am_swt_t c49]
    refine am_Ev.go hcd 2 (s' := (31, [(0, .int a0), (1, .int a1), (2, .int a2)], [.int a2, .int a1], am_SH, hp)) rfl ?_
    rcases am_ite h with ⟨c51, h⟩ | ⟨c51, h⟩
    · refine am_Ev.t hcd (c := a1 = a2) (s1 := (32, [(0, .int a0), (1, .int a1), (2, .int a2)], [], am_SH, hp)) rfl c51 ?_
      refine am_Ev.go hcd 2 (s' := (35, [(0, .int a0), (1, .int a1), (2, .int a2)], [.int 1], am_SH, hp)) rfl ?_
      exact am_Ev.cast (a := ((some (.int 1)), am_SH, hp)) (by cases h; rfl) (am_Ev.ret hcd rfl)
    · refine am_Ev.f hcd (c := a1 = a2) (s1 := (34, [(0, .int a0), (1, .int a1), (2, .int a2)], [], am_SH, hp)) rfl c51 ?_
      refine am_Ev.go hcd 1 (s' := (35, [(0, .int a0), (1, .int a1), (2, .int a2)], [.int 0], am_SH, hp)) rfl ?_
      exact am_Ev.cast (a := ((some (.int 0)), am_SH, hp)) (by cases h; rfl) (am_Ev.ret hcd rfl)
  rw [am_swt_f c49]
  rcases am_ite h with ⟨c60, h⟩ | ⟨c60, h⟩
  · rw [am_swt_t c60]
    refine am_Ev.go hcd 2 (s' := (38, [(0, .int a0), (1, .int a1), (2, .int a2)], [.int a2, .int a1], am_SH, hp)) rfl ?_
    rcases am_ite h with ⟨c62, h⟩ | ⟨c62, h⟩
    · refine am_Ev.t hcd (c := a2 < a1) (s1 := (39, [(0, .int a0), (1, .int a1), (2, .int a2)], [], am_SH, hp)) rfl c62 ?_
      refine am_Ev.go hcd 2 (s' := (42, [(0, .int a0), (1, .int a1), (2, .int a2)], [.int 1], am_SH, hp)) rfl ?_
      exact am_Ev.cast (a := ((some (.int 1)), am_SH, hp)) (by cases h; rfl) (am_Ev.ret hcd rfl)
    · refine am_Ev.f hcd (c := a2 < a1) (s1 := (41, [(0, .int a0), (1, .int a1), (2, .int a2)], [], am_SH, hp)) rfl c62 ?_
      refine am_Ev.go hcd 1 (s' := (42, [(0, .int a0), (1, .int a1), (2, .int a2)], [.int 0], am_SH, hp)) rfl ?_
      exact am_Ev.cast (a := ((some (.int 0)), am_SH, hp)) (by cases h; rfl) (am_Ev.ret hcd rfl)
  rw [am_swt_f c60]
  rw [am_swt_n]
  refine am_Ev.go hcd 3 (s' := (50, [(0, .int a0), (1, .int a1), (2, .int a2)], [.int (a1 ||| a2)], am_SH, hp)) rfl ?_
  exact am_Ev.cast (a := ((some (.int (a1 ||| a2))), am_SH, hp)) (by cases h; rfl) (am_Ev.ret hcd rfl)
