/-! THE LAW OVER THE PURE TEXTS: what is wanted of each call, and the loop -/
def am_Sim0 (Rel : (Nat → Nat → Int32) → (Nat → Nat → Int32) → Prop) : Prop := ∀ (x1 : Int32) (f g : (Nat → Nat → Int32)), Rel f g → ∃ (v : Int32) (f1 : (Nat → Nat → Int32)) (g1 : (Nat → Nat → Int32)), x_state x1 f = (v, f1) ∧ m_state x1 g = (v, g1) ∧ Rel f1 g1
def am_Sim1 (Rel : (Nat → Nat → Int32) → (Nat → Nat → Int32) → Prop) : Prop := ∀ (x1 : Int32) (f g : (Nat → Nat → Int32)), Rel f g → ∃ (v : Int32) (f1 : (Nat → Nat → Int32)) (g1 : (Nat → Nat → Int32)), x_glass x1 f = some (v, f1) ∧ m_glass x1 g = some (v, g1) ∧ Rel f1 g1
def am_Sim2 (Rel : (Nat → Nat → Int32) → (Nat → Nat → Int32) → Prop) : Prop := ∀ (x1 : Int32) (f g : (Nat → Nat → Int32)), Rel f g → ∃ (v : Int32) (f1 : (Nat → Nat → Int32)) (g1 : (Nat → Nat → Int32)), x_witness x1 f = some (v, f1) ∧ m_witness x1 g = some (v, g1) ∧ Rel f1 g1
def am_Sim3 (Rel : (Nat → Nat → Int32) → (Nat → Nat → Int32) → Prop) : Prop := ∀ (x1 x2 x3 : Int32) (f g : (Nat → Nat → Int32)), Rel f g → ∃ (v : Bool) (f1 : (Nat → Nat → Int32)) (g1 : (Nat → Nat → Int32)), x_set x1 x2 x3 f = some (v, f1) ∧ m_set x1 x2 x3 g = some (v, g1) ∧ Rel f1 g1
def am_Sim4 (Rel : (Nat → Nat → Int32) → (Nat → Nat → Int32) → Prop) : Prop := ∀ (x1 x2 x3 : Int32) (f g : (Nat → Nat → Int32)), Rel f g → ∃ (v : Bool) (f1 : (Nat → Nat → Int32)) (g1 : (Nat → Nat → Int32)), x_act x1 x2 x3 f = some (v, f1) ∧ m_act x1 x2 x3 g = some (v, g1) ∧ Rel f1 g1
def am_Sim5 (Rel : (Nat → Nat → Int32) → (Nat → Nat → Int32) → Prop) : Prop := ∀ (x1 : Int32) (f g : (Nat → Nat → Int32)), Rel f g → ∃ (v : Int32) (f1 : (Nat → Nat → Int32)) (g1 : (Nat → Nat → Int32)), x_minutes x1 f = some (v, f1) ∧ m_minutes x1 g = some (v, g1) ∧ Rel f1 g1
def am_Sim6 (Rel : (Nat → Nat → Int32) → (Nat → Nat → Int32) → Prop) : Prop := ∀ (x1 x2 x3 x4 x5 : Int32) (f g : (Nat → Nat → Int32)), Rel f g → ∃ (v : Int32) (f1 : (Nat → Nat → Int32)) (g1 : (Nat → Nat → Int32)), x_feed x1 x2 x3 x4 x5 f = some (v, f1) ∧ m_feed x1 x2 x3 x4 x5 g = some (v, g1) ∧ Rel f1 g1
def am_Sim7 (Rel : (Nat → Nat → Int32) → (Nat → Nat → Int32) → Prop) : Prop := ∀ (x1 : Int32) (f g : (Nat → Nat → Int32)), Rel f g → ∃ (v : Bool) (f1 : (Nat → Nat → Int32)) (g1 : (Nat → Nat → Int32)), x_end x1 f = (v, f1) ∧ m_end x1 g = (v, g1) ∧ Rel f1 g1
def am_Sim8 (Rel : (Nat → Nat → Int32) → (Nat → Nat → Int32) → Prop) : Prop := ∀ (x1 : Int32) (f g : (Nat → Nat → Int32)), Rel f g → ∃ (v : Int32) (f1 : (Nat → Nat → Int32)) (g1 : (Nat → Nat → Int32)), x_text x1 f = some (v, f1) ∧ m_text x1 g = some (v, g1) ∧ Rel f1 g1
def am_Sim9 (Rel : (Nat → Nat → Int32) → (Nat → Nat → Int32) → Prop) : Prop := ∀ (x1 : Int32) (f g : (Nat → Nat → Int32)), Rel f g → ∃ (v : Int32), x_fault x1 f = v ∧ m_fault x1 g = v ∧ Rel f g
def am_Sim10 (Rel : (Nat → Nat → Int32) → (Nat → Nat → Int32) → Prop) : Prop := ∀ (x1 x2 : Int32) (f g : (Nat → Nat → Int32)), Rel f g → ∃ (v : Int32) (f1 : (Nat → Nat → Int32)) (g1 : (Nat → Nat → Int32)), x_of x1 x2 f = some (v, f1) ∧ m_of x1 x2 g = some (v, g1) ∧ Rel f1 g1
def am_Sim11 (Rel : (Nat → Nat → Int32) → (Nat → Nat → Int32) → Prop) : Prop := ∀ (x1 x2 : Int32) (f g : (Nat → Nat → Int32)), Rel f g → ∃ (v : Int32), x_who x1 x2 f = some v ∧ m_who x1 x2 g = some v ∧ Rel f g
def am_Sim12 (Rel : (Nat → Nat → Int32) → (Nat → Nat → Int32) → Prop) : Prop := ∀ (x1 x2 : Int32) (f g : (Nat → Nat → Int32)), Rel f g → ∃ (v : Int32), x_near x1 x2 f = some v ∧ m_near x1 x2 g = some v ∧ Rel f g
def am_Sim13 (Rel : (Nat → Nat → Int32) → (Nat → Nat → Int32) → Prop) : Prop := ∀ (x1 x2 : Int32) (f g : (Nat → Nat → Int32)), Rel f g → ∃ (v : Int32), x_book x1 x2 f = some v ∧ m_book x1 x2 g = some v ∧ Rel f g
def am_Sim14 (Rel : (Nat → Nat → Int32) → (Nat → Nat → Int32) → Prop) : Prop := ∀ (x1 x2 : Int32) (f g : (Nat → Nat → Int32)), Rel f g → ∃ (v : Int32) (f1 : (Nat → Nat → Int32)) (g1 : (Nat → Nat → Int32)), x_goes x1 x2 f = some (v, f1) ∧ m_goes x1 x2 g = some (v, g1) ∧ Rel f1 g1
def am_Sim15 (Rel : (Nat → Nat → Int32) → (Nat → Nat → Int32) → Prop) : Prop := ∀ (x1 : Int32) (f g : (Nat → Nat → Int32)), Rel f g → ∃ (v : Int32) (f1 : (Nat → Nat → Int32)) (g1 : (Nat → Nat → Int32)), x_top x1 f = some (v, f1) ∧ m_top x1 g = some (v, g1) ∧ Rel f1 g1
def am_Sim16 (Rel : (Nat → Nat → Int32) → (Nat → Nat → Int32) → Prop) : Prop := ∀ (x1 x2 : Int32) (f g : (Nat → Nat → Int32)), Rel f g → ∃ (v : Int32) (f1 : (Nat → Nat → Int32)) (g1 : (Nat → Nat → Int32)), x_hottest x1 x2 f = some (v, f1) ∧ m_hottest x1 x2 g = some (v, g1) ∧ Rel f1 g1
def am_Sim17 (Rel : (Nat → Nat → Int32) → (Nat → Nat → Int32) → Prop) : Prop := ∀ (x1 x2 : Int32) (f g : (Nat → Nat → Int32)), Rel f g → ∃ (v : Int32) (f1 : (Nat → Nat → Int32)) (g1 : (Nat → Nat → Int32)), x_warmth x1 x2 f = some (v, f1) ∧ m_warmth x1 x2 g = some (v, g1) ∧ Rel f1 g1
def am_Sim18 (Rel : (Nat → Nat → Int32) → (Nat → Nat → Int32) → Prop) : Prop := ∀ (x1 x2 : Int32) (f g : (Nat → Nat → Int32)), Rel f g → ∃ (v : Int32), x_fits x1 x2 f = some v ∧ m_fits x1 x2 g = some v ∧ Rel f g
def am_Sim19 (Rel : (Nat → Nat → Int32) → (Nat → Nat → Int32) → Prop) : Prop := ∀ (x1 x2 : Int32) (f g : (Nat → Nat → Int32)), Rel f g → ∃ (v : Int32) (f1 : (Nat → Nat → Int32)) (g1 : (Nat → Nat → Int32)), x_words x1 x2 f = some (v, f1) ∧ m_words x1 x2 g = some (v, g1) ∧ Rel f1 g1
def am_Sim20 (Rel : (Nat → Nat → Int32) → (Nat → Nat → Int32) → Prop) : Prop := ∀ (x1 x2 : Int32) (f g : (Nat → Nat → Int32)), Rel f g → ∃ (v : Int32) (f1 : (Nat → Nat → Int32)) (g1 : (Nat → Nat → Int32)), x_world x1 x2 f = some (v, f1) ∧ m_world x1 x2 g = some (v, g1) ∧ Rel f1 g1
def am_Sim21 (Rel : (Nat → Nat → Int32) → (Nat → Nat → Int32) → Prop) : Prop := ∀ (x1 x2 x3 : Int32) (f g : (Nat → Nat → Int32)), Rel f g → ∃ (v : Int32), x_sure x1 x2 x3 f = some v ∧ m_sure x1 x2 x3 g = some v ∧ Rel f g
def am_Sim22 (Rel : (Nat → Nat → Int32) → (Nat → Nat → Int32) → Prop) : Prop := ∀ (x1 x2 : Int32) (f g : (Nat → Nat → Int32)), Rel f g → ∃ (v : Int32) (f1 : (Nat → Nat → Int32)) (g1 : (Nat → Nat → Int32)), x_point x1 x2 f = some (v, f1) ∧ m_point x1 x2 g = some (v, g1) ∧ Rel f1 g1
def am_Sim23 (Rel : (Nat → Nat → Int32) → (Nat → Nat → Int32) → Prop) : Prop := ∀ (f g : (Nat → Nat → Int32)), Rel f g → ∃ (v : Int32) (f1 : (Nat → Nat → Int32)), x_term f = some (v, f1) ∧ m_term g = some v ∧ Rel f1 g
def am_Sim24 (Rel : (Nat → Nat → Int32) → (Nat → Nat → Int32) → Prop) : Prop := ∀ (x1 x2 : Int32) (f g : (Nat → Nat → Int32)), Rel f g → ∃ (v : Int32) (f1 : (Nat → Nat → Int32)) (g1 : (Nat → Nat → Int32)), x_saying x1 x2 f = some (v, f1) ∧ m_saying x1 x2 g = some (v, g1) ∧ Rel f1 g1
def am_Sim25 (Rel : (Nat → Nat → Int32) → (Nat → Nat → Int32) → Prop) : Prop := ∀ (x1 x2 : Int32) (f g : (Nat → Nat → Int32)), Rel f g → ∃ (v : Int32) (f1 : (Nat → Nat → Int32)) (g1 : (Nat → Nat → Int32)), x_cool x1 x2 f = some (v, f1) ∧ m_cool x1 x2 g = some (v, g1) ∧ Rel f1 g1
def am_Sim26 (Rel : (Nat → Nat → Int32) → (Nat → Nat → Int32) → Prop) : Prop := ∀ (x1 : Int32) (f g : (Nat → Nat → Int32)), Rel f g → ∃ (v : Int32) (f1 : (Nat → Nat → Int32)) (g1 : (Nat → Nat → Int32)), x_coal x1 f = some (v, f1) ∧ m_coal x1 g = some (v, g1) ∧ Rel f1 g1
def am_Sim27 (Rel : (Nat → Nat → Int32) → (Nat → Nat → Int32) → Prop) : Prop := ∀ (x1 : Int32) (f g : (Nat → Nat → Int32)), Rel f g → ∃ (v : Int32) (f1 : (Nat → Nat → Int32)) (g1 : (Nat → Nat → Int32)), x_coals x1 f = some (v, f1) ∧ m_coals x1 g = some (v, g1) ∧ Rel f1 g1
def am_Sim28 (Rel : (Nat → Nat → Int32) → (Nat → Nat → Int32) → Prop) : Prop := ∀ (x1 : Int32) (f g : (Nat → Nat → Int32)), Rel f g → ∃ (v : Int32) (f1 : (Nat → Nat → Int32)) (g1 : (Nat → Nat → Int32)), x_shown x1 f = some (v, f1) ∧ m_shown x1 g = some (v, g1) ∧ Rel f1 g1
def am_Sim29 (Rel : (Nat → Nat → Int32) → (Nat → Nat → Int32) → Prop) : Prop := ∀ (x1 x2 : Int32) (f g : (Nat → Nat → Int32)), Rel f g → ∃ (v : Int32) (f1 : (Nat → Nat → Int32)), x_show x1 x2 f = some (v, f1) ∧ m_show x1 x2 g = some v ∧ Rel f1 g
def am_Sim30 (Rel : (Nat → Nat → Int32) → (Nat → Nat → Int32) → Prop) : Prop := ∀ (x1 x2 : Int32) (f g : (Nat → Nat → Int32)), Rel f g → ∃ (v : Bool) (f1 : (Nat → Nat → Int32)) (g1 : (Nat → Nat → Int32)), x_cost x1 x2 f = some (v, f1) ∧ m_cost x1 x2 g = some (v, g1) ∧ Rel f1 g1
def am_Sim31 (Rel : (Nat → Nat → Int32) → (Nat → Nat → Int32) → Prop) : Prop := ∀ (x1 x2 x3 : Int32) (f g : (Nat → Nat → Int32)), Rel f g → ∃ (v : Int32) (f1 : (Nat → Nat → Int32)) (g1 : (Nat → Nat → Int32)), x_change x1 x2 x3 f = some (v, f1) ∧ m_change x1 x2 x3 g = some (v, g1) ∧ Rel f1 g1
def am_Sim32 (Rel : (Nat → Nat → Int32) → (Nat → Nat → Int32) → Prop) : Prop := ∀ (x1 x2 : Int32) (f g : (Nat → Nat → Int32)), Rel f g → ∃ (v : Int32) (f1 : (Nat → Nat → Int32)) (g1 : (Nat → Nat → Int32)), x_dear x1 x2 f = some (v, f1) ∧ m_dear x1 x2 g = some (v, g1) ∧ Rel f1 g1
def am_Sim33 (Rel : (Nat → Nat → Int32) → (Nat → Nat → Int32) → Prop) : Prop := ∀ (x1 : Int32) (f g : (Nat → Nat → Int32)), Rel f g → ∃ (v : Int32) (f1 : (Nat → Nat → Int32)) (g1 : (Nat → Nat → Int32)), x_reading x1 f = some (v, f1) ∧ m_reading x1 g = some (v, g1) ∧ Rel f1 g1
def am_Sim34 (Rel : (Nat → Nat → Int32) → (Nat → Nat → Int32) → Prop) : Prop := ∀ (x1 x2 : Int32) (f g : (Nat → Nat → Int32)), Rel f g → ∃ (v : Int32), x_steady x1 x2 f = some v ∧ m_steady x1 x2 g = some v ∧ Rel f g
def am_Sim35 (Rel : (Nat → Nat → Int32) → (Nat → Nat → Int32) → Prop) : Prop := ∀ (x1 x2 : Int32) (f g : (Nat → Nat → Int32)), Rel f g → ∃ (v : Int32) (f1 : (Nat → Nat → Int32)) (g1 : (Nat → Nat → Int32)), x_quiet x1 x2 f = some (v, f1) ∧ m_quiet x1 x2 g = some (v, g1) ∧ Rel f1 g1
def am_Sim36 (Rel : (Nat → Nat → Int32) → (Nat → Nat → Int32) → Prop) : Prop := ∀ (x1 : Int32) (f g : (Nat → Nat → Int32)), Rel f g → ∃ (v : Int32) (f1 : (Nat → Nat → Int32)) (g1 : (Nat → Nat → Int32)), x_dog x1 f = some (v, f1) ∧ m_dog x1 g = some (v, g1) ∧ Rel f1 g1
def am_Sim37 (Rel : (Nat → Nat → Int32) → (Nat → Nat → Int32) → Prop) : Prop := ∀ (x1 : Int32) (f g : (Nat → Nat → Int32)), Rel f g → ∃ (v : Int32) (f1 : (Nat → Nat → Int32)), x_dogs x1 f = some (v, f1) ∧ m_dogs x1 g = some v ∧ Rel f1 g
def am_Sim38 (Rel : (Nat → Nat → Int32) → (Nat → Nat → Int32) → Prop) : Prop := ∀ (x1 : Int32) (f g : (Nat → Nat → Int32)), Rel f g → ∃ (v : Int32) (f1 : (Nat → Nat → Int32)) (g1 : (Nat → Nat → Int32)), x_juror x1 f = some (v, f1) ∧ m_juror x1 g = some (v, g1) ∧ Rel f1 g1
def am_Sim39 (Rel : (Nat → Nat → Int32) → (Nat → Nat → Int32) → Prop) : Prop := ∀ (x1 x2 : Int32) (f g : (Nat → Nat → Int32)), Rel f g → ∃ (v : Int32), x_jury x1 x2 f = some v ∧ m_jury x1 x2 g = some v ∧ Rel f g
def am_Sim40 (Rel : (Nat → Nat → Int32) → (Nat → Nat → Int32) → Prop) : Prop := ∀ (f g : (Nat → Nat → Int32)), Rel f g → ∃ (v : Bool) (f1 : (Nat → Nat → Int32)) (g1 : (Nat → Nat → Int32)), x_undo f = some (v, f1) ∧ m_undo g = some (v, g1) ∧ Rel f1 g1
def am_Sim41 (Rel : (Nat → Nat → Int32) → (Nat → Nat → Int32) → Prop) : Prop := ∀ (x1 : Bool) (f g : (Nat → Nat → Int32)), Rel f g → ∃ (v : Bool) (f1 : (Nat → Nat → Int32)) (g1 : (Nat → Nat → Int32)), x_image x1 f = (v, f1) ∧ m_image x1 g = some (v, g1) ∧ Rel f1 g1
def am_Sim42 (Rel : (Nat → Nat → Int32) → (Nat → Nat → Int32) → Prop) : Prop := ∀ (x1 : Int32) (f g : (Nat → Nat → Int32)), Rel f g → ∃ (v : Int32), x_look x1 f = some v ∧ m_look x1 g = some v ∧ Rel f g
def am_Sims (Rel : (Nat → Nat → Int32) → (Nat → Nat → Int32) → Prop) : Prop := am_Sim0 Rel ∧ am_Sim1 Rel ∧ am_Sim2 Rel ∧ am_Sim3 Rel ∧ am_Sim4 Rel ∧ am_Sim5 Rel ∧ am_Sim6 Rel ∧ am_Sim7 Rel ∧ am_Sim8 Rel ∧ am_Sim9 Rel ∧ am_Sim10 Rel ∧ am_Sim11 Rel ∧ am_Sim12 Rel ∧ am_Sim13 Rel ∧ am_Sim14 Rel ∧ am_Sim15 Rel ∧ am_Sim16 Rel ∧ am_Sim17 Rel ∧ am_Sim18 Rel ∧ am_Sim19 Rel ∧ am_Sim20 Rel ∧ am_Sim21 Rel ∧ am_Sim22 Rel ∧ am_Sim23 Rel ∧ am_Sim24 Rel ∧ am_Sim25 Rel ∧ am_Sim26 Rel ∧ am_Sim27 Rel ∧ am_Sim28 Rel ∧ am_Sim29 Rel ∧ am_Sim30 Rel ∧ am_Sim31 Rel ∧ am_Sim32 Rel ∧ am_Sim33 Rel ∧ am_Sim34 Rel ∧ am_Sim35 Rel ∧ am_Sim36 Rel ∧ am_Sim37 Rel ∧ am_Sim38 Rel ∧ am_Sim39 Rel ∧ am_Sim40 Rel ∧ am_Sim41 Rel ∧ am_Sim42 Rel
theorem am_and63 (x : Int32) : ∃ n, n < 64 ∧ x &&& 63 = nI n := ⟨x.toBitVec.toNat % 64, Nat.mod_lt _ (by decide), pk_and x 6 (by decide)⟩
theorem am_sw_def : ∀ n, n < 64 → ¬ n < 43 → am_swt (nI n) (am_sw.getD 19 []) 1051 = 1051 := by decide +kernel
theorem am_sw_0 : am_swt (nI 0) (am_sw.getD 19 []) 1051 = 22 := by decide +kernel
theorem am_sw_1 : am_swt (nI 1) (am_sw.getD 19 []) 1051 = 39 := by decide +kernel
theorem am_sw_2 : am_swt (nI 2) (am_sw.getD 19 []) 1051 = 56 := by decide +kernel
theorem am_sw_3 : am_swt (nI 3) (am_sw.getD 19 []) 1051 = 73 := by decide +kernel
theorem am_sw_4 : am_swt (nI 4) (am_sw.getD 19 []) 1051 = 110 := by decide +kernel
theorem am_sw_5 : am_swt (nI 5) (am_sw.getD 19 []) 1051 = 147 := by decide +kernel
theorem am_sw_6 : am_swt (nI 6) (am_sw.getD 19 []) 1051 = 164 := by decide +kernel
theorem am_sw_7 : am_swt (nI 7) (am_sw.getD 19 []) 1051 = 221 := by decide +kernel
theorem am_sw_8 : am_swt (nI 8) (am_sw.getD 19 []) 1051 = 238 := by decide +kernel
theorem am_sw_9 : am_swt (nI 9) (am_sw.getD 19 []) 1051 = 255 := by decide +kernel
theorem am_sw_10 : am_swt (nI 10) (am_sw.getD 19 []) 1051 = 272 := by decide +kernel
theorem am_sw_11 : am_swt (nI 11) (am_sw.getD 19 []) 1051 = 299 := by decide +kernel
theorem am_sw_12 : am_swt (nI 12) (am_sw.getD 19 []) 1051 = 326 := by decide +kernel
theorem am_sw_13 : am_swt (nI 13) (am_sw.getD 19 []) 1051 = 353 := by decide +kernel
theorem am_sw_14 : am_swt (nI 14) (am_sw.getD 19 []) 1051 = 380 := by decide +kernel
theorem am_sw_15 : am_swt (nI 15) (am_sw.getD 19 []) 1051 = 407 := by decide +kernel
theorem am_sw_16 : am_swt (nI 16) (am_sw.getD 19 []) 1051 = 424 := by decide +kernel
theorem am_sw_17 : am_swt (nI 17) (am_sw.getD 19 []) 1051 = 451 := by decide +kernel
theorem am_sw_18 : am_swt (nI 18) (am_sw.getD 19 []) 1051 = 478 := by decide +kernel
theorem am_sw_19 : am_swt (nI 19) (am_sw.getD 19 []) 1051 = 505 := by decide +kernel
theorem am_sw_20 : am_swt (nI 20) (am_sw.getD 19 []) 1051 = 532 := by decide +kernel
theorem am_sw_21 : am_swt (nI 21) (am_sw.getD 19 []) 1051 = 559 := by decide +kernel
theorem am_sw_22 : am_swt (nI 22) (am_sw.getD 19 []) 1051 = 596 := by decide +kernel
theorem am_sw_23 : am_swt (nI 23) (am_sw.getD 19 []) 1051 = 623 := by decide +kernel
theorem am_sw_24 : am_swt (nI 24) (am_sw.getD 19 []) 1051 = 630 := by decide +kernel
theorem am_sw_25 : am_swt (nI 25) (am_sw.getD 19 []) 1051 = 657 := by decide +kernel
theorem am_sw_26 : am_swt (nI 26) (am_sw.getD 19 []) 1051 = 684 := by decide +kernel
theorem am_sw_27 : am_swt (nI 27) (am_sw.getD 19 []) 1051 = 701 := by decide +kernel
theorem am_sw_28 : am_swt (nI 28) (am_sw.getD 19 []) 1051 = 718 := by decide +kernel
theorem am_sw_29 : am_swt (nI 29) (am_sw.getD 19 []) 1051 = 735 := by decide +kernel
theorem am_sw_30 : am_swt (nI 30) (am_sw.getD 19 []) 1051 = 762 := by decide +kernel
theorem am_sw_31 : am_swt (nI 31) (am_sw.getD 19 []) 1051 = 789 := by decide +kernel
theorem am_sw_32 : am_swt (nI 32) (am_sw.getD 19 []) 1051 = 826 := by decide +kernel
theorem am_sw_33 : am_swt (nI 33) (am_sw.getD 19 []) 1051 = 853 := by decide +kernel
theorem am_sw_34 : am_swt (nI 34) (am_sw.getD 19 []) 1051 = 870 := by decide +kernel
theorem am_sw_35 : am_swt (nI 35) (am_sw.getD 19 []) 1051 = 897 := by decide +kernel
theorem am_sw_36 : am_swt (nI 36) (am_sw.getD 19 []) 1051 = 924 := by decide +kernel
theorem am_sw_37 : am_swt (nI 37) (am_sw.getD 19 []) 1051 = 941 := by decide +kernel
theorem am_sw_38 : am_swt (nI 38) (am_sw.getD 19 []) 1051 = 958 := by decide +kernel
theorem am_sw_39 : am_swt (nI 39) (am_sw.getD 19 []) 1051 = 975 := by decide +kernel
theorem am_sw_40 : am_swt (nI 40) (am_sw.getD 19 []) 1051 = 1002 := by decide +kernel
theorem am_sw_41 : am_swt (nI 41) (am_sw.getD 19 []) 1051 = 1009 := by decide +kernel
theorem am_sw_42 : am_swt (nI 42) (am_sw.getD 19 []) 1051 = 1034 := by decide +kernel
def am_lls (i : Nat) : List (Nat × Value) := [(0, .ref am_SC), (1, .ref 0), (2, .ref 216), (3, .int (nI i))]
theorem am_end_lt {L i : Nat} (hL : L ≤ 3072) (h : ¬ i + 6 ≤ L) (hi : i ≤ L) : nI L - 6 < nI i := by
  rw [Int32.lt_iff_toInt_lt, nI_toInt (by omega), show (6 : Int32) = nI 6 from rfl, pk_sub_toInt (by omega) (by omega)]
  omega
theorem am_end_nlt {L i : Nat} (hL : L ≤ 3072) (h : i + 6 ≤ L) : ¬ nI L - 6 < nI i := by
  rw [Int32.lt_iff_toInt_lt, nI_toInt (by omega), show (6 : Int32) = nI 6 from rfl, pk_sub_toInt (by omega) (by omega)]
  omega
set_option maxRecDepth 100000 in
set_option maxHeartbeats 4000000 in
theorem am_law_loop {sc : Nat × (Nat → Int32)} (hL : sc.1 ≤ 3072) {Rel : (Nat → Nat → Int32) → (Nat → Nat → Int32) → Prop} (H : am_Sims Rel) : ∀ (m i : Nat) (f g : (Nat → Nat → Int32)), sc.1 - i ≤ m → i ≤ sc.1 → Rel f g → ∃ h, am_Ev sc 60 313 (10, am_lls i, [], am_SH, (f, g)) (some (.int 1), am_SH, h) := by
  have hcd : am_code 313 = am_c313 := rfl
  intro m
  induction m with
  | zero =>
    intro i f g hm hi hR
    refine ⟨(f, g), ?_⟩
    refine am_Ev.go hcd 5 (s' := (15, am_lls i, [.int (nI sc.1 - 6), .int (nI i)], am_SH, (f, g))) rfl ?_
    refine am_Ev.t hcd (c := nI sc.1 - 6 < nI i) (s1 := (1053, am_lls i, [], am_SH, (f, g))) rfl (am_end_lt hL (by omega) hi) ?_
    refine am_Ev.go hcd 1 (s' := (1054, am_lls i, [.int 1], am_SH, (f, g))) rfl ?_
    exact am_Ev.ret hcd rfl
  | succ m ih =>
    intro i f g hm hi hR
    by_cases h6 : i + 6 ≤ sc.1
    · have key : ∃ h, am_Ev sc 60 313 (am_swt (sc.2 (nI i).toNatClampNeg &&& 63) (am_sw.getD 19 []) 1051, am_lls i, [], am_SH, (f, g)) (some (.int 1), am_SH, h) := by
        obtain ⟨n, hn, hz⟩ := am_and63 (sc.2 (nI i).toNatClampNeg)
        rw [hz]
        by_cases h43 : n < 43
        · obtain ⟨s0, s1, s2, s3, s4, s5, s6, s7, s8, s9, s10, s11, s12, s13, s14, s15, s16, s17, s18, s19, s20, s21, s22, s23, s24, s25, s26, s27, s28, s29, s30, s31, s32, s33, s34, s35, s36, s37, s38, s39, s40, s41, s42⟩ := H
          by_cases c0 : n = 0
          · subst c0
            obtain ⟨v, f1, g1, hx, hm2, hR2⟩ := s0 (sc.2 (nI i + 1).toNatClampNeg) f g hR
            obtain ⟨h, hh⟩ := ih (i + 6) _ _ (by omega) (by omega) hR2
            rw [am_sw_0]
            exact ⟨h, am_case_0 h6 hL hx hm2 hh⟩
          by_cases c1 : n = 1
          · subst c1
            obtain ⟨v, f1, g1, hx, hm2, hR2⟩ := s1 (sc.2 (nI i + 1).toNatClampNeg) f g hR
            obtain ⟨h, hh⟩ := ih (i + 6) _ _ (by omega) (by omega) hR2
            rw [am_sw_1]
            exact ⟨h, am_case_1 h6 hL hx hm2 hh⟩
          by_cases c2 : n = 2
          · subst c2
            obtain ⟨v, f1, g1, hx, hm2, hR2⟩ := s2 (sc.2 (nI i + 1).toNatClampNeg) f g hR
            obtain ⟨h, hh⟩ := ih (i + 6) _ _ (by omega) (by omega) hR2
            rw [am_sw_2]
            exact ⟨h, am_case_2 h6 hL hx hm2 hh⟩
          by_cases c3 : n = 3
          · subst c3
            obtain ⟨v, f1, g1, hx, hm2, hR2⟩ := s3 (sc.2 (nI i + 1).toNatClampNeg) (sc.2 (nI i + 2).toNatClampNeg) (sc.2 (nI i + 3).toNatClampNeg) f g hR
            obtain ⟨h, hh⟩ := ih (i + 6) _ _ (by omega) (by omega) hR2
            rw [am_sw_3]
            exact ⟨h, am_case_3 h6 hL hx hm2 hh⟩
          by_cases c4 : n = 4
          · subst c4
            obtain ⟨v, f1, g1, hx, hm2, hR2⟩ := s4 (sc.2 (nI i + 1).toNatClampNeg) (sc.2 (nI i + 2).toNatClampNeg) (sc.2 (nI i + 3).toNatClampNeg) f g hR
            obtain ⟨h, hh⟩ := ih (i + 6) _ _ (by omega) (by omega) hR2
            rw [am_sw_4]
            exact ⟨h, am_case_4 h6 hL hx hm2 hh⟩
          by_cases c5 : n = 5
          · subst c5
            obtain ⟨v, f1, g1, hx, hm2, hR2⟩ := s5 (sc.2 (nI i + 1).toNatClampNeg) f g hR
            obtain ⟨h, hh⟩ := ih (i + 6) _ _ (by omega) (by omega) hR2
            rw [am_sw_5]
            exact ⟨h, am_case_5 h6 hL hx hm2 hh⟩
          by_cases c6 : n = 6
          · subst c6
            obtain ⟨v, f1, g1, hx, hm2, hR2⟩ := s6 (sc.2 (nI i + 1).toNatClampNeg) (sc.2 (nI i + 2).toNatClampNeg) (sc.2 (nI i + 3).toNatClampNeg) (sc.2 (nI i + 4).toNatClampNeg) (sc.2 (nI i + 5).toNatClampNeg) f g hR
            obtain ⟨h, hh⟩ := ih (i + 6) _ _ (by omega) (by omega) hR2
            rw [am_sw_6]
            exact ⟨h, am_case_6 h6 hL hx hm2 hh⟩
          by_cases c7 : n = 7
          · subst c7
            obtain ⟨v, f1, g1, hx, hm2, hR2⟩ := s7 (sc.2 (nI i + 1).toNatClampNeg) f g hR
            obtain ⟨h, hh⟩ := ih (i + 6) _ _ (by omega) (by omega) hR2
            rw [am_sw_7]
            exact ⟨h, am_case_7 h6 hL hx hm2 hh⟩
          by_cases c8 : n = 8
          · subst c8
            obtain ⟨v, f1, g1, hx, hm2, hR2⟩ := s8 (sc.2 (nI i + 1).toNatClampNeg) f g hR
            obtain ⟨h, hh⟩ := ih (i + 6) _ _ (by omega) (by omega) hR2
            rw [am_sw_8]
            exact ⟨h, am_case_8 h6 hL hx hm2 hh⟩
          by_cases c9 : n = 9
          · subst c9
            obtain ⟨v, hx, hm2, hR2⟩ := s9 (sc.2 (nI i + 1).toNatClampNeg) f g hR
            obtain ⟨h, hh⟩ := ih (i + 6) _ _ (by omega) (by omega) hR2
            rw [am_sw_9]
            exact ⟨h, am_case_9 (f1 := f) (g1 := g) h6 hL hx hm2 hh⟩
          by_cases c10 : n = 10
          · subst c10
            obtain ⟨v, f1, g1, hx, hm2, hR2⟩ := s10 (sc.2 (nI i + 1).toNatClampNeg) (sc.2 (nI i + 2).toNatClampNeg) f g hR
            obtain ⟨h, hh⟩ := ih (i + 6) _ _ (by omega) (by omega) hR2
            rw [am_sw_10]
            exact ⟨h, am_case_10 h6 hL hx hm2 hh⟩
          by_cases c11 : n = 11
          · subst c11
            obtain ⟨v, hx, hm2, hR2⟩ := s11 (sc.2 (nI i + 1).toNatClampNeg) (sc.2 (nI i + 2).toNatClampNeg) f g hR
            obtain ⟨h, hh⟩ := ih (i + 6) _ _ (by omega) (by omega) hR2
            rw [am_sw_11]
            exact ⟨h, am_case_11 (f1 := f) (g1 := g) h6 hL hx hm2 hh⟩
          by_cases c12 : n = 12
          · subst c12
            obtain ⟨v, hx, hm2, hR2⟩ := s12 (sc.2 (nI i + 1).toNatClampNeg) (sc.2 (nI i + 2).toNatClampNeg) f g hR
            obtain ⟨h, hh⟩ := ih (i + 6) _ _ (by omega) (by omega) hR2
            rw [am_sw_12]
            exact ⟨h, am_case_12 (f1 := f) (g1 := g) h6 hL hx hm2 hh⟩
          by_cases c13 : n = 13
          · subst c13
            obtain ⟨v, hx, hm2, hR2⟩ := s13 (sc.2 (nI i + 1).toNatClampNeg) (sc.2 (nI i + 2).toNatClampNeg) f g hR
            obtain ⟨h, hh⟩ := ih (i + 6) _ _ (by omega) (by omega) hR2
            rw [am_sw_13]
            exact ⟨h, am_case_13 (f1 := f) (g1 := g) h6 hL hx hm2 hh⟩
          by_cases c14 : n = 14
          · subst c14
            obtain ⟨v, f1, g1, hx, hm2, hR2⟩ := s14 (sc.2 (nI i + 1).toNatClampNeg) (sc.2 (nI i + 2).toNatClampNeg) f g hR
            obtain ⟨h, hh⟩ := ih (i + 6) _ _ (by omega) (by omega) hR2
            rw [am_sw_14]
            exact ⟨h, am_case_14 h6 hL hx hm2 hh⟩
          by_cases c15 : n = 15
          · subst c15
            obtain ⟨v, f1, g1, hx, hm2, hR2⟩ := s15 (sc.2 (nI i + 1).toNatClampNeg) f g hR
            obtain ⟨h, hh⟩ := ih (i + 6) _ _ (by omega) (by omega) hR2
            rw [am_sw_15]
            exact ⟨h, am_case_15 h6 hL hx hm2 hh⟩
          by_cases c16 : n = 16
          · subst c16
            obtain ⟨v, f1, g1, hx, hm2, hR2⟩ := s16 (sc.2 (nI i + 1).toNatClampNeg) (sc.2 (nI i + 2).toNatClampNeg) f g hR
            obtain ⟨h, hh⟩ := ih (i + 6) _ _ (by omega) (by omega) hR2
            rw [am_sw_16]
            exact ⟨h, am_case_16 h6 hL hx hm2 hh⟩
          by_cases c17 : n = 17
          · subst c17
            obtain ⟨v, f1, g1, hx, hm2, hR2⟩ := s17 (sc.2 (nI i + 1).toNatClampNeg) (sc.2 (nI i + 2).toNatClampNeg) f g hR
            obtain ⟨h, hh⟩ := ih (i + 6) _ _ (by omega) (by omega) hR2
            rw [am_sw_17]
            exact ⟨h, am_case_17 h6 hL hx hm2 hh⟩
          by_cases c18 : n = 18
          · subst c18
            obtain ⟨v, hx, hm2, hR2⟩ := s18 (sc.2 (nI i + 1).toNatClampNeg) (sc.2 (nI i + 2).toNatClampNeg) f g hR
            obtain ⟨h, hh⟩ := ih (i + 6) _ _ (by omega) (by omega) hR2
            rw [am_sw_18]
            exact ⟨h, am_case_18 (f1 := f) (g1 := g) h6 hL hx hm2 hh⟩
          by_cases c19 : n = 19
          · subst c19
            obtain ⟨v, f1, g1, hx, hm2, hR2⟩ := s19 (sc.2 (nI i + 1).toNatClampNeg) (sc.2 (nI i + 2).toNatClampNeg) f g hR
            obtain ⟨h, hh⟩ := ih (i + 6) _ _ (by omega) (by omega) hR2
            rw [am_sw_19]
            exact ⟨h, am_case_19 h6 hL hx hm2 hh⟩
          by_cases c20 : n = 20
          · subst c20
            obtain ⟨v, f1, g1, hx, hm2, hR2⟩ := s20 (sc.2 (nI i + 1).toNatClampNeg) (sc.2 (nI i + 2).toNatClampNeg) f g hR
            obtain ⟨h, hh⟩ := ih (i + 6) _ _ (by omega) (by omega) hR2
            rw [am_sw_20]
            exact ⟨h, am_case_20 h6 hL hx hm2 hh⟩
          by_cases c21 : n = 21
          · subst c21
            obtain ⟨v, hx, hm2, hR2⟩ := s21 (sc.2 (nI i + 1).toNatClampNeg) (sc.2 (nI i + 2).toNatClampNeg) (sc.2 (nI i + 3).toNatClampNeg) f g hR
            obtain ⟨h, hh⟩ := ih (i + 6) _ _ (by omega) (by omega) hR2
            rw [am_sw_21]
            exact ⟨h, am_case_21 (f1 := f) (g1 := g) h6 hL hx hm2 hh⟩
          by_cases c22 : n = 22
          · subst c22
            obtain ⟨v, f1, g1, hx, hm2, hR2⟩ := s22 (sc.2 (nI i + 1).toNatClampNeg) (sc.2 (nI i + 2).toNatClampNeg) f g hR
            obtain ⟨h, hh⟩ := ih (i + 6) _ _ (by omega) (by omega) hR2
            rw [am_sw_22]
            exact ⟨h, am_case_22 h6 hL hx hm2 hh⟩
          by_cases c23 : n = 23
          · subst c23
            obtain ⟨v, f1, hx, hm2, hR2⟩ := s23  f g hR
            obtain ⟨h, hh⟩ := ih (i + 6) _ _ (by omega) (by omega) hR2
            rw [am_sw_23]
            exact ⟨h, am_case_23 (g1 := g) h6 hL hx hm2 hh⟩
          by_cases c24 : n = 24
          · subst c24
            obtain ⟨v, f1, g1, hx, hm2, hR2⟩ := s24 (sc.2 (nI i + 1).toNatClampNeg) (sc.2 (nI i + 2).toNatClampNeg) f g hR
            obtain ⟨h, hh⟩ := ih (i + 6) _ _ (by omega) (by omega) hR2
            rw [am_sw_24]
            exact ⟨h, am_case_24 h6 hL hx hm2 hh⟩
          by_cases c25 : n = 25
          · subst c25
            obtain ⟨v, f1, g1, hx, hm2, hR2⟩ := s25 (sc.2 (nI i + 1).toNatClampNeg) (sc.2 (nI i + 2).toNatClampNeg) f g hR
            obtain ⟨h, hh⟩ := ih (i + 6) _ _ (by omega) (by omega) hR2
            rw [am_sw_25]
            exact ⟨h, am_case_25 h6 hL hx hm2 hh⟩
          by_cases c26 : n = 26
          · subst c26
            obtain ⟨v, f1, g1, hx, hm2, hR2⟩ := s26 (sc.2 (nI i + 1).toNatClampNeg) f g hR
            obtain ⟨h, hh⟩ := ih (i + 6) _ _ (by omega) (by omega) hR2
            rw [am_sw_26]
            exact ⟨h, am_case_26 h6 hL hx hm2 hh⟩
          by_cases c27 : n = 27
          · subst c27
            obtain ⟨v, f1, g1, hx, hm2, hR2⟩ := s27 (sc.2 (nI i + 1).toNatClampNeg) f g hR
            obtain ⟨h, hh⟩ := ih (i + 6) _ _ (by omega) (by omega) hR2
            rw [am_sw_27]
            exact ⟨h, am_case_27 h6 hL hx hm2 hh⟩
          by_cases c28 : n = 28
          · subst c28
            obtain ⟨v, f1, g1, hx, hm2, hR2⟩ := s28 (sc.2 (nI i + 1).toNatClampNeg) f g hR
            obtain ⟨h, hh⟩ := ih (i + 6) _ _ (by omega) (by omega) hR2
            rw [am_sw_28]
            exact ⟨h, am_case_28 h6 hL hx hm2 hh⟩
          by_cases c29 : n = 29
          · subst c29
            obtain ⟨v, f1, hx, hm2, hR2⟩ := s29 (sc.2 (nI i + 1).toNatClampNeg) (sc.2 (nI i + 2).toNatClampNeg) f g hR
            obtain ⟨h, hh⟩ := ih (i + 6) _ _ (by omega) (by omega) hR2
            rw [am_sw_29]
            exact ⟨h, am_case_29 (g1 := g) h6 hL hx hm2 hh⟩
          by_cases c30 : n = 30
          · subst c30
            obtain ⟨v, f1, g1, hx, hm2, hR2⟩ := s30 (sc.2 (nI i + 1).toNatClampNeg) (sc.2 (nI i + 2).toNatClampNeg) f g hR
            obtain ⟨h, hh⟩ := ih (i + 6) _ _ (by omega) (by omega) hR2
            rw [am_sw_30]
            exact ⟨h, am_case_30 h6 hL hx hm2 hh⟩
          by_cases c31 : n = 31
          · subst c31
            obtain ⟨v, f1, g1, hx, hm2, hR2⟩ := s31 (sc.2 (nI i + 1).toNatClampNeg) (sc.2 (nI i + 2).toNatClampNeg) (sc.2 (nI i + 3).toNatClampNeg) f g hR
            obtain ⟨h, hh⟩ := ih (i + 6) _ _ (by omega) (by omega) hR2
            rw [am_sw_31]
            exact ⟨h, am_case_31 h6 hL hx hm2 hh⟩
          by_cases c32 : n = 32
          · subst c32
            obtain ⟨v, f1, g1, hx, hm2, hR2⟩ := s32 (sc.2 (nI i + 1).toNatClampNeg) (sc.2 (nI i + 2).toNatClampNeg) f g hR
            obtain ⟨h, hh⟩ := ih (i + 6) _ _ (by omega) (by omega) hR2
            rw [am_sw_32]
            exact ⟨h, am_case_32 h6 hL hx hm2 hh⟩
          by_cases c33 : n = 33
          · subst c33
            obtain ⟨v, f1, g1, hx, hm2, hR2⟩ := s33 (sc.2 (nI i + 1).toNatClampNeg) f g hR
            obtain ⟨h, hh⟩ := ih (i + 6) _ _ (by omega) (by omega) hR2
            rw [am_sw_33]
            exact ⟨h, am_case_33 h6 hL hx hm2 hh⟩
          by_cases c34 : n = 34
          · subst c34
            obtain ⟨v, hx, hm2, hR2⟩ := s34 (sc.2 (nI i + 1).toNatClampNeg) (sc.2 (nI i + 2).toNatClampNeg) f g hR
            obtain ⟨h, hh⟩ := ih (i + 6) _ _ (by omega) (by omega) hR2
            rw [am_sw_34]
            exact ⟨h, am_case_34 (f1 := f) (g1 := g) h6 hL hx hm2 hh⟩
          by_cases c35 : n = 35
          · subst c35
            obtain ⟨v, f1, g1, hx, hm2, hR2⟩ := s35 (sc.2 (nI i + 1).toNatClampNeg) (sc.2 (nI i + 2).toNatClampNeg) f g hR
            obtain ⟨h, hh⟩ := ih (i + 6) _ _ (by omega) (by omega) hR2
            rw [am_sw_35]
            exact ⟨h, am_case_35 h6 hL hx hm2 hh⟩
          by_cases c36 : n = 36
          · subst c36
            obtain ⟨v, f1, g1, hx, hm2, hR2⟩ := s36 (sc.2 (nI i + 1).toNatClampNeg) f g hR
            obtain ⟨h, hh⟩ := ih (i + 6) _ _ (by omega) (by omega) hR2
            rw [am_sw_36]
            exact ⟨h, am_case_36 h6 hL hx hm2 hh⟩
          by_cases c37 : n = 37
          · subst c37
            obtain ⟨v, f1, hx, hm2, hR2⟩ := s37 (sc.2 (nI i + 1).toNatClampNeg) f g hR
            obtain ⟨h, hh⟩ := ih (i + 6) _ _ (by omega) (by omega) hR2
            rw [am_sw_37]
            exact ⟨h, am_case_37 (g1 := g) h6 hL hx hm2 hh⟩
          by_cases c38 : n = 38
          · subst c38
            obtain ⟨v, f1, g1, hx, hm2, hR2⟩ := s38 (sc.2 (nI i + 1).toNatClampNeg) f g hR
            obtain ⟨h, hh⟩ := ih (i + 6) _ _ (by omega) (by omega) hR2
            rw [am_sw_38]
            exact ⟨h, am_case_38 h6 hL hx hm2 hh⟩
          by_cases c39 : n = 39
          · subst c39
            obtain ⟨v, hx, hm2, hR2⟩ := s39 (sc.2 (nI i + 1).toNatClampNeg) (sc.2 (nI i + 2).toNatClampNeg) f g hR
            obtain ⟨h, hh⟩ := ih (i + 6) _ _ (by omega) (by omega) hR2
            rw [am_sw_39]
            exact ⟨h, am_case_39 (f1 := f) (g1 := g) h6 hL hx hm2 hh⟩
          by_cases c40 : n = 40
          · subst c40
            obtain ⟨v, f1, g1, hx, hm2, hR2⟩ := s40  f g hR
            obtain ⟨h, hh⟩ := ih (i + 6) _ _ (by omega) (by omega) hR2
            rw [am_sw_40]
            exact ⟨h, am_case_40 h6 hL hx hm2 hh⟩
          by_cases c41 : n = 41
          · subst c41
            obtain ⟨v, f1, g1, hx, hm2, hR2⟩ := s41 (decide (¬ (sc.2 (nI i + 1).toNatClampNeg) = 0)) f g hR
            obtain ⟨h, hh⟩ := ih (i + 6) _ _ (by omega) (by omega) hR2
            rw [am_sw_41]
            exact ⟨h, am_case_41 h6 hL hx hm2 hh⟩
          by_cases c42 : n = 42
          · subst c42
            obtain ⟨v, hx, hm2, hR2⟩ := s42 (sc.2 (nI i + 1).toNatClampNeg) f g hR
            obtain ⟨h, hh⟩ := ih (i + 6) _ _ (by omega) (by omega) hR2
            rw [am_sw_42]
            exact ⟨h, am_case_42 (f1 := f) (g1 := g) h6 hL hx hm2 hh⟩
          omega
        · rw [am_sw_def n hn h43]
          obtain ⟨h, hh⟩ := ih (i + 6) f g (by omega) (by omega) hR
          refine ⟨h, ?_⟩
          refine am_Ev.go hcd 2 (s' := (10, [(0, .ref am_SC), (1, .ref 0), (2, .ref 216), (3, .int (nI i + 6))], [], am_SH, (f, g))) rfl ?_
          rw [show nI i + 6 = nI (i + 6) from nI_add i 6]
          exact hh
      obtain ⟨h, hh⟩ := key
      refine ⟨h, ?_⟩
      refine am_Ev.go hcd 5 (s' := (15, am_lls i, [.int (nI sc.1 - 6), .int (nI i)], am_SH, (f, g))) rfl ?_
      refine am_Ev.f hcd (c := nI sc.1 - 6 < nI i) (s1 := (16, am_lls i, [], am_SH, (f, g))) rfl (am_end_nlt hL h6) ?_
      refine am_Ev.go hcd 2 (s' := (18, am_lls i, [.int (nI i), .ref am_SC], am_SH, (f, g))) rfl ?_
      refine am_Ev.t hcd (o := none) (c := am_in (nI i) sc.1 = true) (s1 := (19, am_lls i, [.int (sc.2 (nI i).toNatClampNeg)], am_SH, (f, g))) (lw_ial rfl) (by
        have g1 := lw_inx (L := sc.1) (i := i) (k := 0) (by omega) hL
        rw [nI_add] at g1
        exact g1) ?_
      exact am_Ev.go hcd 3 (s' := (am_swt (sc.2 (nI i).toNatClampNeg &&& 63) (am_sw.getD 19 []) 1051, am_lls i, [], am_SH, (f, g))) rfl hh
    · refine ⟨(f, g), ?_⟩
      refine am_Ev.go hcd 5 (s' := (15, am_lls i, [.int (nI sc.1 - 6), .int (nI i)], am_SH, (f, g))) rfl ?_
      refine am_Ev.t hcd (c := nI sc.1 - 6 < nI i) (s1 := (1053, am_lls i, [], am_SH, (f, g))) rfl (am_end_lt hL h6 hi) ?_
      refine am_Ev.go hcd 1 (s' := (1054, am_lls i, [.int 1], am_SH, (f, g))) rfl ?_
      exact am_Ev.ret hcd rfl
theorem am_SH_len : am_SH.length ≤ 600000 ∧ am_sl am_SH ≤ 7302250 := by decide +kernel
/-- the whole run, out of a relation that holds at the start and at each call -/
theorem am_law_run {L : Nat} (hL : L ≤ 3072) (xs : Nat → Int32) {Rel : (Nat → Nat → Int32) → (Nat → Nat → Int32) → Prop} (H : am_Sims Rel) (h0 : Rel am_f0 am_g0) : ∃ (n : Nat) (sh : List am_Sh) (h : am_H), am_run (L, xs) n 60 313 (0, [(0, .ref am_SC)], [], [], (fun _ _ => 0, fun _ _ => 0)) = some (some (.int 1), sh, h) ∧ sh.length ≤ 600000 ∧ am_sl sh ≤ 7302250 := by
  obtain ⟨h, hh⟩ := am_law_loop (sc := (L, xs)) hL H L 0 am_f0 am_g0 (by omega) (Nat.zero_le _) h0
  obtain ⟨n, hn⟩ := am_law_begin hh
  exact ⟨n, am_SH, h, hn, am_SH_len⟩
