/-! ONE TICK'S COURT, whichever of the two it is -/
def tk_P (o : Nat) (c : Nat → Nat) (T : Nat) (f g : Nat → Nat → Int32) : Prop := rl_T rl_C o f (g 217) ∧ rl_T rl_X 0 f (g 217) ∧ iv_Cc c T (g 217) ∧ iv_K (g 217) ∧ iv_N (g 217) ∧ iv_W f 0 (g 217) ∧ iv_Y f 0 (g 217) ∧ True
theorem tk_R.P {o : Nat} {rl : Bool} {c : Nat → Nat} {T : Nat} {f g : Nat → Nat → Int32} (h : tk_R o rl c T f g) : tk_P o c T f g := ⟨h.1, h.2.1, h.2.2.1, h.2.2.2.1, h.2.2.2.2.1, h.2.2.2.2.2.1, h.2.2.2.2.2.2.1, trivial⟩
theorem rl_Rel.P {f g : Nat → Nat → Int32} (h : rl_Rel f g) : tk_P 0 (fun _ => 0) 9999 f g := ⟨h.1.1.C, h.1.1.X, h.1.2.1, h.1.2.2.1, h.1.2.2.2.1, h.1.2.2.2.2.1, h.1.2.2.2.2.2.2, trivial⟩
theorem tk_P.scr {o : Nat} (ho : o = 0 ∨ o = 108) {c : Nat → Nat} {T : Nat} {f f' g g' : Nat → Nat → Int32} (h : tk_P o c T f g) (hf : ∀ a, a ≠ 121 → a ≠ 122 → f' a = f a) (hg : ∀ a, a ≠ 225 → a ≠ 226 → g' a = g a) : tk_P o c T f' g' := by
  have e : ∀ u : Nat → Nat → Int32, am_up u 216 26 1 217 = u 217 := fun u => pu_up_ne _ _ (by decide)
  have R : tk_R o true c T f (am_up g 216 26 1) := by
    unfold tk_R
    rw [e]
    refine ⟨h.1, h.2.1, h.2.2.1, h.2.2.2.1, h.2.2.2.2.1, h.2.2.2.2.2.1, h.2.2.2.2.2.2.1, ?_⟩
    rfl
  have R1 := (tk_R.scr (f' := f') (g' := am_up g' 216 26 1) ho R hf (fun x x1 x2 => by
    by_cases h6 : x = 216
    · subst h6
      funext j
      show (am_up g' 216 26 1) 216 j = (am_up g 216 26 1) 216 j
      rw [pu_up_row, pu_up_row, hg 216 x1 x2]
    · rw [pu_up_ne _ _ h6, pu_up_ne _ _ h6, hg x x1 x2])).1.P
  unfold tk_P at R1
  rw [e] at R1
  exact R1
