/-! basic words of the pure texts -/
/-- the texts -/
def am_strs : List (List Int32) := [[119, 97, 114, 109, 115, 32, 115, 108, 105, 112, 115, 32, 99, 111, 111, 108, 115, 32, 119, 104, 101, 110, 32, 111, 114, 32, 97, 110, 100, 32, 110, 111, 116, 32, 110, 101, 97, 114, 32, 99, 111, 108, 100, 32, 114, 101, 97, 100, 115, 32, 108, 101, 97, 114, 110, 116, 32, 115, 97, 105, 100, 32, 107, 101, 101, 112, 115, 32, 99, 97, 108, 108, 101, 100, 32, 111, 102, 102, 32, 103, 108, 97, 115, 115, 32, 116, 105, 109, 101], [97, 116, 32, 103, 108, 97, 115, 115, 32, 115, 97, 121, 32, 113, 117, 105, 101, 116, 32, 115, 104, 97, 107, 101, 32, 119, 105, 112, 101, 32, 117, 110, 100, 101, 114, 32, 111, 117, 116], [116, 111, 112, 105, 99, 32, 110, 101, 97, 114], [119, 105, 116, 110, 101, 115, 115, 32, 107, 101, 101, 112, 115], [119, 104, 101, 110], [111, 114], [97, 110, 100], [110, 111, 116], [119, 97, 114, 109, 115], [115, 108, 105, 112, 115], [99, 111, 111, 108, 115], [110, 101, 97, 114], [99, 111, 108, 100], [114, 101, 97, 100, 115], [108, 101, 97, 114, 110, 116], [115, 97, 105, 100], [107, 101, 101, 112, 115], [99, 97, 108, 108, 101, 100], [111, 102, 102], [103, 108, 97, 115, 115], [116, 105, 109, 101], [97, 116], [115, 97, 121], [113, 117, 105, 101, 116], [115, 104, 97, 107, 101], [119, 105, 112, 101], [117, 110, 100, 101, 114], [111, 117, 116], [116, 111, 112, 105, 99], [119, 105, 116, 110, 101, 115, 115]]
abbrev am_H : Type := (Nat → Nat → Int32) × (Nat → Nat → Int32)
def am_row (f : Nat → Nat → Int32) (k : Nat) (g : Nat → Int32) : Nat → Nat → Int32 := fun a => if a = k then g else f a
def am_up (f : Nat → Nat → Int32) (k j : Nat) (x : Int32) : Nat → Nat → Int32 := am_row f k (upd (f k) j x)
/-- a copy of a row's part into another -/
def am_cp (f : Nat → Nat → Int32) (k sp m dp n : Nat) : Nat → Nat → Int32 := am_row f m (va_cpy (f k) (f m) sp dp n)
def am_in (i : Int32) (n : Nat) : Bool := decide (¬ i < 0) && decide (i.toNatClampNeg < n)
/-- a part of a row lies in it -/
def am_sp (p n : Int32) (N : Nat) : Bool := decide (¬ p < 0) && decide (¬ n < 0) && decide (p.toNatClampNeg + n.toNatClampNeg ≤ N)
def am_b (b : Bool) : Int32 := if b = true then 1 else 0
/-- a text's length, and a sign of it -/
def am_tl (w : Nat) : Nat := (am_strs.getD w []).length
def am_tc (w j : Nat) : Int32 := (am_strs.getD w []).getD j 0
def am_max (x y : Int32) : Int32 := if x < y then y else x
def am_min (x y : Int32) : Int32 := if y < x then y else x
def am_lcmp (x y : Int64) : Int32 := if x < y then -1 else if x = y then 0 else 1
/-- what a place of an array of references holds -/
def am_rv (x : Int32) : Value := if x = 0 then .null else .ref (x.toNatClampNeg - 1)
def am_F : Nat := 1000000
/-- a loop: a step goes on, or ends it -/
def am_loop {S E : Type} (f : S → Option (S ⊕ E)) : Nat → S → Option E
  | 0, _ => none
  | n + 1, s => (f s).bind fun q => match q with
    | .inl s' => am_loop f n s'
    | .inr e => some e
/-- a name for a value -/
def am_let {α β : Type} (a : α) (f : α → β) : β := f a
theorem am_bind_some {α β : Type} {o : Option α} {f : α → Option β} {b : β} (h : o.bind f = some b) : ∃ a, o = some a ∧ f a = some b := by
  cases o with
  | none => cases h
  | some a => exact ⟨a, rfl, h⟩
theorem am_ite {α : Type} {c : Prop} [Decidable c] {A B : Option α} {r : α} (h : (if c then A else B) = some r) : (c ∧ A = some r) ∨ (¬ c ∧ B = some r) := by
  by_cases hc : c
  · exact Or.inl ⟨hc, by rw [if_pos hc] at h; exact h⟩
  · exact Or.inr ⟨hc, by rw [if_neg hc] at h; exact h⟩
theorem am_itv {α : Type} {c : Prop} [Decidable c] {A B : α} {r : α} (h : r = (if c then A else B)) : (c ∧ r = A) ∨ (¬ c ∧ r = B) := by
  by_cases hc : c
  · exact Or.inl ⟨hc, by rw [if_pos hc] at h; exact h⟩
  · exact Or.inr ⟨hc, by rw [if_neg hc] at h; exact h⟩
theorem am_grd {α : Type} {c : Prop} [Decidable c] {A : Option α} {r : α} (h : (if c then A else none) = some r) : c ∧ A = some r := by
  rcases am_ite h with h | ⟨-, h⟩
  · exact h
  · cases h
theorem am_let_eq {α β : Type} {a : α} {f : α → β} {r : β} (h : am_let a f = r) : ∃ x, x = a ∧ f x = r := ⟨a, rfl, h⟩
theorem am_let_eq' {α β : Type} {a : α} {f : α → β} {r : β} (h : r = am_let a f) : ∃ x, x = a ∧ r = f x := ⟨a, rfl, h⟩
theorem am_elim_r {α β γ : Type} {F : α → γ} {G : β → γ} {x : β} {y : γ} (h : Sum.elim F G (.inr x) = y) : G x = y := h
