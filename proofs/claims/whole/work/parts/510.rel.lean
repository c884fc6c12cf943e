/-! THE RELATION between the class's cells and the model's: rows of cells that are alike -/
/-- a row of blocks: cell, first place there, place in the model's row, how many, stride -/
abbrev rl_B : Type := Nat × Nat × Nat × Nat × Nat
def rl_C : List rl_B := [(2, 0, 69, 1, 1), (2, 1, 70, 1, 1), (2, 2, 0, 1, 1), (2, 3, 1, 1, 1), (2, 4, 2, 1, 1), (2, 5, 74, 1, 1), (3, 0, 3, 6, 1), (4, 0, 9, 6, 1), (5, 0, 15, 6, 1), (6, 0, 21, 6, 1), (7, 0, 27, 6, 1), (8, 0, 33, 12, 1), (9, 0, 75, 12, 1), (10, 0, 45, 12, 1), (11, 0, 57, 12, 1)]
def rl_W : List rl_B := rl_C ++ [(13, 0, 524, 600, 1), (14, 0, 71, 1, 1), (20, 0, 72, 1, 1), (25, 0, 73, 1, 1), (26, 0, 87, 256, 1), (27, 0, 407, 1, 1), (28, 0, 408, 8, 2), (29, 0, 409, 8, 2), (30, 0, 424, 1, 1), (31, 0, 425, 6, 2), (32, 0, 426, 6, 2), (33, 0, 437, 1, 1), (34, 0, 438, 4, 2), (35, 0, 439, 4, 2), (36, 0, 446, 1, 1), (37, 0, 447, 6, 2), (38, 0, 448, 6, 2), (39, 0, 459, 1, 1), (40, 0, 460, 4, 1), (42, 0, 464, 1, 1), (43, 0, 465, 8, 1), (45, 0, 481, 1, 1), (46, 0, 482, 24, 1), (48, 0, 506, 1, 1), (49, 0, 507, 8, 1), (51, 0, 515, 1, 1), (52, 0, 516, 8, 1), (54, 0, 473, 8, 1)]
def rl_ix (q : rl_B) (t : Nat) : Nat := q.2.2.1 + q.2.2.2.2 * t
def rl_T (L : List rl_B) (o : Nat) (F : Nat → Nat → Int32) (w : Nat → Int32) : Prop := ∀ q ∈ L, ∀ t, t < q.2.2.2.1 → F (q.1 + o) (q.2.1 + t) = w (rl_ix q t)
def rl_oki (q p : rl_B) : Bool := decide (q = p) || decide (q.2.2.1 + q.2.2.2.2 * (q.2.2.2.1 - 1) < p.2.2.1) || decide (p.2.2.1 + p.2.2.2.2 * (p.2.2.2.1 - 1) < q.2.2.1) || (decide (q.2.2.2.2 = 2) && decide (p.2.2.2.2 = 2) && decide ((q.2.2.1 + p.2.2.1) % 2 = 1))
def rl_okc (q p : rl_B) : Bool := decide (q = p) || decide (q.1 ≠ p.1) || decide (q.2.1 + q.2.2.2.1 ≤ p.2.1) || decide (p.2.1 + p.2.2.2.1 ≤ q.2.1)
theorem rl_oki_ok : rl_W.all (fun q => rl_W.all fun p => rl_oki q p) = true := by decide +kernel
theorem rl_okc_ok : rl_W.all (fun q => rl_W.all fun p => rl_okc q p) = true := by decide +kernel
theorem rl_str : ∀ q ∈ rl_W, q.2.2.2.2 = 1 ∨ q.2.2.2.2 = 2 := by decide +kernel
theorem rl_inj_i {p q : rl_B} (hp : p ∈ rl_W) (hq : q ∈ rl_W) {t u : Nat} (hu : u < p.2.2.2.1) (ht : t < q.2.2.2.1) (e : rl_ix p u = rl_ix q t) : p = q ∧ u = t := by
  have h := List.all_eq_true.mp (List.all_eq_true.mp rl_oki_ok p hp) q hq
  unfold rl_oki at h
  simp only [Bool.or_eq_true, Bool.and_eq_true, decide_eq_true_eq] at h
  unfold rl_ix at e
  have sp := rl_str p hp
  have sq := rl_str q hq
  by_cases hpq : p = q
  · subst hpq
    refine ⟨rfl, ?_⟩
    rcases sp with s | s <;> rw [s] at e <;> omega
  · exfalso
    rcases sp with s1 | s1 <;> rcases sq with s2 | s2 <;> rw [s1, s2] at e <;> rw [s1, s2] at h <;> rcases h with ((h | h) | h) | h <;> first | exact hpq h | omega
theorem rl_inj_c {p q : rl_B} (hp : p ∈ rl_W) (hq : q ∈ rl_W) {t u : Nat} (hu : u < p.2.2.2.1) (ht : t < q.2.2.2.1) (e1 : p.1 = q.1) (e2 : p.2.1 + u = q.2.1 + t) : p = q ∧ u = t := by
  have h := List.all_eq_true.mp (List.all_eq_true.mp rl_okc_ok p hp) q hq
  unfold rl_okc at h
  simp only [Bool.or_eq_true, decide_eq_true_eq] at h
  by_cases hpq : p = q
  · subst hpq
    exact ⟨rfl, by omega⟩
  · exfalso
    rcases h with ((h | h) | h) | h <;> first | exact hpq h | exact h e1 | omega
theorem rl_CW : ∀ q ∈ rl_C, q ∈ rl_W := fun q h => List.mem_append_left _ h
/-- a cell and its place are written -/
theorem rl_T.set {L : List rl_B} (hL : ∀ q ∈ L, q ∈ rl_W) {o : Nat} {F : Nat → Nat → Int32} {w : Nat → Int32} (h : rl_T L o F w) {q : rl_B} (hq : q ∈ L) {t : Nat} (ht : t < q.2.2.2.1) (v : Int32) : rl_T L o (am_up F (q.1 + o) (q.2.1 + t) v) (upd w (rl_ix q t) v) := by
  intro p hp u hu
  by_cases e : p = q ∧ u = t
  · obtain ⟨rfl, rfl⟩ := e
    rw [pu_up_row, pu_upd_eq, pu_upd_eq]
  · rw [pu_upd_ne _ _ (fun z => e (rl_inj_i (hL p hp) (hL q hq) hu ht z))]
    by_cases ec : p.1 + o = q.1 + o
    · rw [ec, pu_up_row, pu_upd_ne _ _ (fun z => e (rl_inj_c (hL p hp) (hL q hq) hu ht (by omega) z)), ← ec]
      exact h p hp u hu
    · rw [pu_up_ne _ _ ec]
      exact h p hp u hu
/-- a row that is none of theirs is written -/
theorem rl_T.row {L : List rl_B} {o : Nat} {F F' : Nat → Nat → Int32} {w : Nat → Int32} (h : rl_T L o F w) (hr : ∀ q ∈ L, F' (q.1 + o) = F (q.1 + o)) : rl_T L o F' w := by
  intro q hq t ht
  rw [hr q hq]
  exact h q hq t ht
theorem rl_T.congr {L : List rl_B} {o : Nat} {F F' : Nat → Nat → Int32} {w w' : Nat → Int32} (h : rl_T L o F w) (hr : ∀ q ∈ L, ∀ t, t < q.2.2.2.1 → F' (q.1 + o) (q.2.1 + t) = F (q.1 + o) (q.2.1 + t)) (hw : ∀ q ∈ L, ∀ t, t < q.2.2.2.1 → w' (rl_ix q t) = w (rl_ix q t)) : rl_T L o F' w' := by
  intro q hq t ht
  rw [hr q hq t ht, hw q hq t ht]
  exact h q hq t ht
theorem rl_T.C {o : Nat} {F : Nat → Nat → Int32} {w : Nat → Int32} (h : rl_T rl_W o F w) : rl_T rl_C o F w := fun q hq => h q (rl_CW q hq)
section RLN
variable {o : Nat} {F : Nat → Nat → Int32} {w : Nat → Int32}
theorem rl_g_gn (h : rl_T rl_C o F w) : F (2 + o) 0 = w 69 := h (2, 0, 69, 1, 1) (List.mem_of_getElem? (i := 0) rfl) 0 (by decide)
theorem rl_s_gn (h : rl_T rl_C o F w) (v : Int32) : rl_T rl_C o (am_up F (2 + o) 0 v) (upd w 69 v) := h.set rl_CW (q := (2, 0, 69, 1, 1)) (List.mem_of_getElem? (i := 0) rfl) (t := 0) (by decide) v
theorem rl_w_gn (h : rl_T rl_W o F w) (v : Int32) : rl_T rl_W o (am_up F (2 + o) 0 v) (upd w 69 v) := h.set (fun _ h => h) (q := (2, 0, 69, 1, 1)) (List.mem_of_getElem? (i := 0) rfl) (t := 0) (by decide) v
theorem rl_g_wn (h : rl_T rl_C o F w) : F (2 + o) 1 = w 70 := h (2, 1, 70, 1, 1) (List.mem_of_getElem? (i := 1) rfl) 0 (by decide)
theorem rl_s_wn (h : rl_T rl_C o F w) (v : Int32) : rl_T rl_C o (am_up F (2 + o) 1 v) (upd w 70 v) := h.set rl_CW (q := (2, 1, 70, 1, 1)) (List.mem_of_getElem? (i := 1) rfl) (t := 0) (by decide) v
theorem rl_w_wn (h : rl_T rl_W o F w) (v : Int32) : rl_T rl_W o (am_up F (2 + o) 1 v) (upd w 70 v) := h.set (fun _ h => h) (q := (2, 1, 70, 1, 1)) (List.mem_of_getElem? (i := 1) rfl) (t := 0) (by decide) v
theorem rl_g_ti (h : rl_T rl_C o F w) : F (2 + o) 2 = w 0 := h (2, 2, 0, 1, 1) (List.mem_of_getElem? (i := 2) rfl) 0 (by decide)
theorem rl_s_ti (h : rl_T rl_C o F w) (v : Int32) : rl_T rl_C o (am_up F (2 + o) 2 v) (upd w 0 v) := h.set rl_CW (q := (2, 2, 0, 1, 1)) (List.mem_of_getElem? (i := 2) rfl) (t := 0) (by decide) v
theorem rl_w_ti (h : rl_T rl_W o F w) (v : Int32) : rl_T rl_W o (am_up F (2 + o) 2 v) (upd w 0 v) := h.set (fun _ h => h) (q := (2, 2, 0, 1, 1)) (List.mem_of_getElem? (i := 2) rfl) (t := 0) (by decide) v
theorem rl_g_dr (h : rl_T rl_C o F w) : F (2 + o) 3 = w 1 := h (2, 3, 1, 1, 1) (List.mem_of_getElem? (i := 3) rfl) 0 (by decide)
theorem rl_s_dr (h : rl_T rl_C o F w) (v : Int32) : rl_T rl_C o (am_up F (2 + o) 3 v) (upd w 1 v) := h.set rl_CW (q := (2, 3, 1, 1, 1)) (List.mem_of_getElem? (i := 3) rfl) (t := 0) (by decide) v
theorem rl_w_dr (h : rl_T rl_W o F w) (v : Int32) : rl_T rl_W o (am_up F (2 + o) 3 v) (upd w 1 v) := h.set (fun _ h => h) (q := (2, 3, 1, 1, 1)) (List.mem_of_getElem? (i := 3) rfl) (t := 0) (by decide) v
theorem rl_g_bn (h : rl_T rl_C o F w) : F (2 + o) 4 = w 2 := h (2, 4, 2, 1, 1) (List.mem_of_getElem? (i := 4) rfl) 0 (by decide)
theorem rl_s_bn (h : rl_T rl_C o F w) (v : Int32) : rl_T rl_C o (am_up F (2 + o) 4 v) (upd w 2 v) := h.set rl_CW (q := (2, 4, 2, 1, 1)) (List.mem_of_getElem? (i := 4) rfl) (t := 0) (by decide) v
theorem rl_w_bn (h : rl_T rl_W o F w) (v : Int32) : rl_T rl_W o (am_up F (2 + o) 4 v) (upd w 2 v) := h.set (fun _ h => h) (q := (2, 4, 2, 1, 1)) (List.mem_of_getElem? (i := 4) rfl) (t := 0) (by decide) v
theorem rl_g_kn (h : rl_T rl_C o F w) : F (2 + o) 5 = w 74 := h (2, 5, 74, 1, 1) (List.mem_of_getElem? (i := 5) rfl) 0 (by decide)
theorem rl_s_kn (h : rl_T rl_C o F w) (v : Int32) : rl_T rl_C o (am_up F (2 + o) 5 v) (upd w 74 v) := h.set rl_CW (q := (2, 5, 74, 1, 1)) (List.mem_of_getElem? (i := 5) rfl) (t := 0) (by decide) v
theorem rl_w_kn (h : rl_T rl_W o F w) (v : Int32) : rl_T rl_W o (am_up F (2 + o) 5 v) (upd w 74 v) := h.set (fun _ h => h) (q := (2, 5, 74, 1, 1)) (List.mem_of_getElem? (i := 5) rfl) (t := 0) (by decide) v
theorem rl_g_le (h : rl_T rl_C o F w) {t : Nat} (ht : t < 6) : F (3 + o) t = w (3 + t) := by
  have g := h (3, 0, 3, 6, 1) (List.mem_of_getElem? (i := 6) rfl) t ht
  rw [(show rl_ix (3, 0, 3, 6, 1) t = 3 + t from by show 3 + 1 * t = _; omega)] at g
  rw [← g]
  show _ = F (3 + o) (0 + t)
  rw [Nat.zero_add]
theorem rl_s_le (h : rl_T rl_C o F w) {t : Nat} (ht : t < 6) (v : Int32) : rl_T rl_C o (am_up F (3 + o) t v) (upd w (3 + t) v) := by
  have g := h.set rl_CW (q := (3, 0, 3, 6, 1)) (List.mem_of_getElem? (i := 6) rfl) ht v
  rw [(show rl_ix (3, 0, 3, 6, 1) t = 3 + t from by show 3 + 1 * t = _; omega)] at g
  have e : ((3, 0, 3, 6, 1) : rl_B).2.1 + t = t := Nat.zero_add t
  rw [e] at g
  exact g
theorem rl_w_le (h : rl_T rl_W o F w) {t : Nat} (ht : t < 6) (v : Int32) : rl_T rl_W o (am_up F (3 + o) t v) (upd w (3 + t) v) := by
  have g := h.set (fun _ h => h) (q := (3, 0, 3, 6, 1)) (List.mem_of_getElem? (i := 6) rfl) ht v
  rw [(show rl_ix (3, 0, 3, 6, 1) t = 3 + t from by show 3 + 1 * t = _; omega)] at g
  have e : ((3, 0, 3, 6, 1) : rl_B).2.1 + t = t := Nat.zero_add t
  rw [e] at g
  exact g
theorem rl_g_re (h : rl_T rl_C o F w) {t : Nat} (ht : t < 6) : F (4 + o) t = w (9 + t) := by
  have g := h (4, 0, 9, 6, 1) (List.mem_of_getElem? (i := 7) rfl) t ht
  rw [(show rl_ix (4, 0, 9, 6, 1) t = 9 + t from by show 9 + 1 * t = _; omega)] at g
  rw [← g]
  show _ = F (4 + o) (0 + t)
  rw [Nat.zero_add]
theorem rl_s_re (h : rl_T rl_C o F w) {t : Nat} (ht : t < 6) (v : Int32) : rl_T rl_C o (am_up F (4 + o) t v) (upd w (9 + t) v) := by
  have g := h.set rl_CW (q := (4, 0, 9, 6, 1)) (List.mem_of_getElem? (i := 7) rfl) ht v
  rw [(show rl_ix (4, 0, 9, 6, 1) t = 9 + t from by show 9 + 1 * t = _; omega)] at g
  have e : ((4, 0, 9, 6, 1) : rl_B).2.1 + t = t := Nat.zero_add t
  rw [e] at g
  exact g
theorem rl_w_re (h : rl_T rl_W o F w) {t : Nat} (ht : t < 6) (v : Int32) : rl_T rl_W o (am_up F (4 + o) t v) (upd w (9 + t) v) := by
  have g := h.set (fun _ h => h) (q := (4, 0, 9, 6, 1)) (List.mem_of_getElem? (i := 7) rfl) ht v
  rw [(show rl_ix (4, 0, 9, 6, 1) t = 9 + t from by show 9 + 1 * t = _; omega)] at g
  have e : ((4, 0, 9, 6, 1) : rl_B).2.1 + t = t := Nat.zero_add t
  rw [e] at g
  exact g
theorem rl_g_un (h : rl_T rl_C o F w) {t : Nat} (ht : t < 6) : F (5 + o) t = w (15 + t) := by
  have g := h (5, 0, 15, 6, 1) (List.mem_of_getElem? (i := 8) rfl) t ht
  rw [(show rl_ix (5, 0, 15, 6, 1) t = 15 + t from by show 15 + 1 * t = _; omega)] at g
  rw [← g]
  show _ = F (5 + o) (0 + t)
  rw [Nat.zero_add]
theorem rl_s_un (h : rl_T rl_C o F w) {t : Nat} (ht : t < 6) (v : Int32) : rl_T rl_C o (am_up F (5 + o) t v) (upd w (15 + t) v) := by
  have g := h.set rl_CW (q := (5, 0, 15, 6, 1)) (List.mem_of_getElem? (i := 8) rfl) ht v
  rw [(show rl_ix (5, 0, 15, 6, 1) t = 15 + t from by show 15 + 1 * t = _; omega)] at g
  have e : ((5, 0, 15, 6, 1) : rl_B).2.1 + t = t := Nat.zero_add t
  rw [e] at g
  exact g
theorem rl_w_un (h : rl_T rl_W o F w) {t : Nat} (ht : t < 6) (v : Int32) : rl_T rl_W o (am_up F (5 + o) t v) (upd w (15 + t) v) := by
  have g := h.set (fun _ h => h) (q := (5, 0, 15, 6, 1)) (List.mem_of_getElem? (i := 8) rfl) ht v
  rw [(show rl_ix (5, 0, 15, 6, 1) t = 15 + t from by show 15 + 1 * t = _; omega)] at g
  have e : ((5, 0, 15, 6, 1) : rl_B).2.1 + t = t := Nat.zero_add t
  rw [e] at g
  exact g
theorem rl_g_sa (h : rl_T rl_C o F w) {t : Nat} (ht : t < 6) : F (6 + o) t = w (21 + t) := by
  have g := h (6, 0, 21, 6, 1) (List.mem_of_getElem? (i := 9) rfl) t ht
  rw [(show rl_ix (6, 0, 21, 6, 1) t = 21 + t from by show 21 + 1 * t = _; omega)] at g
  rw [← g]
  show _ = F (6 + o) (0 + t)
  rw [Nat.zero_add]
theorem rl_s_sa (h : rl_T rl_C o F w) {t : Nat} (ht : t < 6) (v : Int32) : rl_T rl_C o (am_up F (6 + o) t v) (upd w (21 + t) v) := by
  have g := h.set rl_CW (q := (6, 0, 21, 6, 1)) (List.mem_of_getElem? (i := 9) rfl) ht v
  rw [(show rl_ix (6, 0, 21, 6, 1) t = 21 + t from by show 21 + 1 * t = _; omega)] at g
  have e : ((6, 0, 21, 6, 1) : rl_B).2.1 + t = t := Nat.zero_add t
  rw [e] at g
  exact g
theorem rl_w_sa (h : rl_T rl_W o F w) {t : Nat} (ht : t < 6) (v : Int32) : rl_T rl_W o (am_up F (6 + o) t v) (upd w (21 + t) v) := by
  have g := h.set (fun _ h => h) (q := (6, 0, 21, 6, 1)) (List.mem_of_getElem? (i := 9) rfl) ht v
  rw [(show rl_ix (6, 0, 21, 6, 1) t = 21 + t from by show 21 + 1 * t = _; omega)] at g
  have e : ((6, 0, 21, 6, 1) : rl_B).2.1 + t = t := Nat.zero_add t
  rw [e] at g
  exact g
theorem rl_g_of (h : rl_T rl_C o F w) {t : Nat} (ht : t < 6) : F (7 + o) t = w (27 + t) := by
  have g := h (7, 0, 27, 6, 1) (List.mem_of_getElem? (i := 10) rfl) t ht
  rw [(show rl_ix (7, 0, 27, 6, 1) t = 27 + t from by show 27 + 1 * t = _; omega)] at g
  rw [← g]
  show _ = F (7 + o) (0 + t)
  rw [Nat.zero_add]
theorem rl_s_of (h : rl_T rl_C o F w) {t : Nat} (ht : t < 6) (v : Int32) : rl_T rl_C o (am_up F (7 + o) t v) (upd w (27 + t) v) := by
  have g := h.set rl_CW (q := (7, 0, 27, 6, 1)) (List.mem_of_getElem? (i := 10) rfl) ht v
  rw [(show rl_ix (7, 0, 27, 6, 1) t = 27 + t from by show 27 + 1 * t = _; omega)] at g
  have e : ((7, 0, 27, 6, 1) : rl_B).2.1 + t = t := Nat.zero_add t
  rw [e] at g
  exact g
theorem rl_w_of (h : rl_T rl_W o F w) {t : Nat} (ht : t < 6) (v : Int32) : rl_T rl_W o (am_up F (7 + o) t v) (upd w (27 + t) v) := by
  have g := h.set (fun _ h => h) (q := (7, 0, 27, 6, 1)) (List.mem_of_getElem? (i := 10) rfl) ht v
  rw [(show rl_ix (7, 0, 27, 6, 1) t = 27 + t from by show 27 + 1 * t = _; omega)] at g
  have e : ((7, 0, 27, 6, 1) : rl_B).2.1 + t = t := Nat.zero_add t
  rw [e] at g
  exact g
theorem rl_g_co (h : rl_T rl_C o F w) {t : Nat} (ht : t < 12) : F (8 + o) t = w (33 + t) := by
  have g := h (8, 0, 33, 12, 1) (List.mem_of_getElem? (i := 11) rfl) t ht
  rw [(show rl_ix (8, 0, 33, 12, 1) t = 33 + t from by show 33 + 1 * t = _; omega)] at g
  rw [← g]
  show _ = F (8 + o) (0 + t)
  rw [Nat.zero_add]
theorem rl_s_co (h : rl_T rl_C o F w) {t : Nat} (ht : t < 12) (v : Int32) : rl_T rl_C o (am_up F (8 + o) t v) (upd w (33 + t) v) := by
  have g := h.set rl_CW (q := (8, 0, 33, 12, 1)) (List.mem_of_getElem? (i := 11) rfl) ht v
  rw [(show rl_ix (8, 0, 33, 12, 1) t = 33 + t from by show 33 + 1 * t = _; omega)] at g
  have e : ((8, 0, 33, 12, 1) : rl_B).2.1 + t = t := Nat.zero_add t
  rw [e] at g
  exact g
theorem rl_w_co (h : rl_T rl_W o F w) {t : Nat} (ht : t < 12) (v : Int32) : rl_T rl_W o (am_up F (8 + o) t v) (upd w (33 + t) v) := by
  have g := h.set (fun _ h => h) (q := (8, 0, 33, 12, 1)) (List.mem_of_getElem? (i := 11) rfl) ht v
  rw [(show rl_ix (8, 0, 33, 12, 1) t = 33 + t from by show 33 + 1 * t = _; omega)] at g
  have e : ((8, 0, 33, 12, 1) : rl_B).2.1 + t = t := Nat.zero_add t
  rw [e] at g
  exact g
theorem rl_g_ke (h : rl_T rl_C o F w) {t : Nat} (ht : t < 12) : F (9 + o) t = w (75 + t) := by
  have g := h (9, 0, 75, 12, 1) (List.mem_of_getElem? (i := 12) rfl) t ht
  rw [(show rl_ix (9, 0, 75, 12, 1) t = 75 + t from by show 75 + 1 * t = _; omega)] at g
  rw [← g]
  show _ = F (9 + o) (0 + t)
  rw [Nat.zero_add]
theorem rl_s_ke (h : rl_T rl_C o F w) {t : Nat} (ht : t < 12) (v : Int32) : rl_T rl_C o (am_up F (9 + o) t v) (upd w (75 + t) v) := by
  have g := h.set rl_CW (q := (9, 0, 75, 12, 1)) (List.mem_of_getElem? (i := 12) rfl) ht v
  rw [(show rl_ix (9, 0, 75, 12, 1) t = 75 + t from by show 75 + 1 * t = _; omega)] at g
  have e : ((9, 0, 75, 12, 1) : rl_B).2.1 + t = t := Nat.zero_add t
  rw [e] at g
  exact g
theorem rl_w_ke (h : rl_T rl_W o F w) {t : Nat} (ht : t < 12) (v : Int32) : rl_T rl_W o (am_up F (9 + o) t v) (upd w (75 + t) v) := by
  have g := h.set (fun _ h => h) (q := (9, 0, 75, 12, 1)) (List.mem_of_getElem? (i := 12) rfl) ht v
  rw [(show rl_ix (9, 0, 75, 12, 1) t = 75 + t from by show 75 + 1 * t = _; omega)] at g
  have e : ((9, 0, 75, 12, 1) : rl_B).2.1 + t = t := Nat.zero_add t
  rw [e] at g
  exact g
theorem rl_g_ca (h : rl_T rl_C o F w) {t : Nat} (ht : t < 12) : F (10 + o) t = w (45 + t) := by
  have g := h (10, 0, 45, 12, 1) (List.mem_of_getElem? (i := 13) rfl) t ht
  rw [(show rl_ix (10, 0, 45, 12, 1) t = 45 + t from by show 45 + 1 * t = _; omega)] at g
  rw [← g]
  show _ = F (10 + o) (0 + t)
  rw [Nat.zero_add]
theorem rl_s_ca (h : rl_T rl_C o F w) {t : Nat} (ht : t < 12) (v : Int32) : rl_T rl_C o (am_up F (10 + o) t v) (upd w (45 + t) v) := by
  have g := h.set rl_CW (q := (10, 0, 45, 12, 1)) (List.mem_of_getElem? (i := 13) rfl) ht v
  rw [(show rl_ix (10, 0, 45, 12, 1) t = 45 + t from by show 45 + 1 * t = _; omega)] at g
  have e : ((10, 0, 45, 12, 1) : rl_B).2.1 + t = t := Nat.zero_add t
  rw [e] at g
  exact g
theorem rl_w_ca (h : rl_T rl_W o F w) {t : Nat} (ht : t < 12) (v : Int32) : rl_T rl_W o (am_up F (10 + o) t v) (upd w (45 + t) v) := by
  have g := h.set (fun _ h => h) (q := (10, 0, 45, 12, 1)) (List.mem_of_getElem? (i := 13) rfl) ht v
  rw [(show rl_ix (10, 0, 45, 12, 1) t = 45 + t from by show 45 + 1 * t = _; omega)] at g
  have e : ((10, 0, 45, 12, 1) : rl_B).2.1 + t = t := Nat.zero_add t
  rw [e] at g
  exact g
theorem rl_g_gi (h : rl_T rl_C o F w) {t : Nat} (ht : t < 12) : F (11 + o) t = w (57 + t) := by
  have g := h (11, 0, 57, 12, 1) (List.mem_of_getElem? (i := 14) rfl) t ht
  rw [(show rl_ix (11, 0, 57, 12, 1) t = 57 + t from by show 57 + 1 * t = _; omega)] at g
  rw [← g]
  show _ = F (11 + o) (0 + t)
  rw [Nat.zero_add]
theorem rl_s_gi (h : rl_T rl_C o F w) {t : Nat} (ht : t < 12) (v : Int32) : rl_T rl_C o (am_up F (11 + o) t v) (upd w (57 + t) v) := by
  have g := h.set rl_CW (q := (11, 0, 57, 12, 1)) (List.mem_of_getElem? (i := 14) rfl) ht v
  rw [(show rl_ix (11, 0, 57, 12, 1) t = 57 + t from by show 57 + 1 * t = _; omega)] at g
  have e : ((11, 0, 57, 12, 1) : rl_B).2.1 + t = t := Nat.zero_add t
  rw [e] at g
  exact g
theorem rl_w_gi (h : rl_T rl_W o F w) {t : Nat} (ht : t < 12) (v : Int32) : rl_T rl_W o (am_up F (11 + o) t v) (upd w (57 + t) v) := by
  have g := h.set (fun _ h => h) (q := (11, 0, 57, 12, 1)) (List.mem_of_getElem? (i := 14) rfl) ht v
  rw [(show rl_ix (11, 0, 57, 12, 1) t = 57 + t from by show 57 + 1 * t = _; omega)] at g
  have e : ((11, 0, 57, 12, 1) : rl_B).2.1 + t = t := Nat.zero_add t
  rw [e] at g
  exact g
theorem rl_g_bk (h : rl_T rl_W o F w) {t : Nat} (ht : t < 600) : F (13 + o) t = w (524 + t) := by
  have g := h (13, 0, 524, 600, 1) (List.mem_of_getElem? (i := 15) rfl) t ht
  rw [(show rl_ix (13, 0, 524, 600, 1) t = 524 + t from by show 524 + 1 * t = _; omega)] at g
  rw [← g]
  show _ = F (13 + o) (0 + t)
  rw [Nat.zero_add]
theorem rl_s_bk (h : rl_T rl_W o F w) {t : Nat} (ht : t < 600) (v : Int32) : rl_T rl_W o (am_up F (13 + o) t v) (upd w (524 + t) v) := by
  have g := h.set (fun _ h => h) (q := (13, 0, 524, 600, 1)) (List.mem_of_getElem? (i := 15) rfl) ht v
  rw [(show rl_ix (13, 0, 524, 600, 1) t = 524 + t from by show 524 + 1 * t = _; omega)] at g
  have e : ((13, 0, 524, 600, 1) : rl_B).2.1 + t = t := Nat.zero_add t
  rw [e] at g
  exact g
theorem rl_g_ll (h : rl_T rl_W o F w) : F (14 + o) 0 = w 71 := h (14, 0, 71, 1, 1) (List.mem_of_getElem? (i := 16) rfl) 0 (by decide)
theorem rl_s_ll (h : rl_T rl_W o F w) (v : Int32) : rl_T rl_W o (am_up F (14 + o) 0 v) (upd w 71 v) := h.set (fun _ h => h) (q := (14, 0, 71, 1, 1)) (List.mem_of_getElem? (i := 16) rfl) (t := 0) (by decide) v
theorem rl_g_wl (h : rl_T rl_W o F w) : F (20 + o) 0 = w 72 := h (20, 0, 72, 1, 1) (List.mem_of_getElem? (i := 17) rfl) 0 (by decide)
theorem rl_s_wl (h : rl_T rl_W o F w) (v : Int32) : rl_T rl_W o (am_up F (20 + o) 0 v) (upd w 72 v) := h.set (fun _ h => h) (q := (20, 0, 72, 1, 1)) (List.mem_of_getElem? (i := 17) rfl) (t := 0) (by decide) v
theorem rl_g_nl (h : rl_T rl_W o F w) : F (25 + o) 0 = w 73 := h (25, 0, 73, 1, 1) (List.mem_of_getElem? (i := 18) rfl) 0 (by decide)
theorem rl_s_nl (h : rl_T rl_W o F w) (v : Int32) : rl_T rl_W o (am_up F (25 + o) 0 v) (upd w 73 v) := h.set (fun _ h => h) (q := (25, 0, 73, 1, 1)) (List.mem_of_getElem? (i := 18) rfl) (t := 0) (by decide) v
theorem rl_g_ne (h : rl_T rl_W o F w) {t : Nat} (ht : t < 256) : F (26 + o) t = w (87 + t) := by
  have g := h (26, 0, 87, 256, 1) (List.mem_of_getElem? (i := 19) rfl) t ht
  rw [(show rl_ix (26, 0, 87, 256, 1) t = 87 + t from by show 87 + 1 * t = _; omega)] at g
  rw [← g]
  show _ = F (26 + o) (0 + t)
  rw [Nat.zero_add]
theorem rl_s_ne (h : rl_T rl_W o F w) {t : Nat} (ht : t < 256) (v : Int32) : rl_T rl_W o (am_up F (26 + o) t v) (upd w (87 + t) v) := by
  have g := h.set (fun _ h => h) (q := (26, 0, 87, 256, 1)) (List.mem_of_getElem? (i := 19) rfl) ht v
  rw [(show rl_ix (26, 0, 87, 256, 1) t = 87 + t from by show 87 + 1 * t = _; omega)] at g
  have e : ((26, 0, 87, 256, 1) : rl_B).2.1 + t = t := Nat.zero_add t
  rw [e] at g
  exact g
theorem rl_g_r1n (h : rl_T rl_W o F w) : F (27 + o) 0 = w 407 := h (27, 0, 407, 1, 1) (List.mem_of_getElem? (i := 20) rfl) 0 (by decide)
theorem rl_s_r1n (h : rl_T rl_W o F w) (v : Int32) : rl_T rl_W o (am_up F (27 + o) 0 v) (upd w 407 v) := h.set (fun _ h => h) (q := (27, 0, 407, 1, 1)) (List.mem_of_getElem? (i := 20) rfl) (t := 0) (by decide) v
theorem rl_g_r1a (h : rl_T rl_W o F w) {t : Nat} (ht : t < 8) : F (28 + o) t = w (408 + 2 * t) := by
  have g := h (28, 0, 408, 8, 2) (List.mem_of_getElem? (i := 21) rfl) t ht
  rw [(show rl_ix (28, 0, 408, 8, 2) t = 408 + 2 * t from by show 408 + 2 * t = _; omega)] at g
  rw [← g]
  show _ = F (28 + o) (0 + t)
  rw [Nat.zero_add]
theorem rl_s_r1a (h : rl_T rl_W o F w) {t : Nat} (ht : t < 8) (v : Int32) : rl_T rl_W o (am_up F (28 + o) t v) (upd w (408 + 2 * t) v) := by
  have g := h.set (fun _ h => h) (q := (28, 0, 408, 8, 2)) (List.mem_of_getElem? (i := 21) rfl) ht v
  rw [(show rl_ix (28, 0, 408, 8, 2) t = 408 + 2 * t from by show 408 + 2 * t = _; omega)] at g
  have e : ((28, 0, 408, 8, 2) : rl_B).2.1 + t = t := Nat.zero_add t
  rw [e] at g
  exact g
theorem rl_g_r1b (h : rl_T rl_W o F w) {t : Nat} (ht : t < 8) : F (29 + o) t = w (409 + 2 * t) := by
  have g := h (29, 0, 409, 8, 2) (List.mem_of_getElem? (i := 22) rfl) t ht
  rw [(show rl_ix (29, 0, 409, 8, 2) t = 409 + 2 * t from by show 409 + 2 * t = _; omega)] at g
  rw [← g]
  show _ = F (29 + o) (0 + t)
  rw [Nat.zero_add]
theorem rl_s_r1b (h : rl_T rl_W o F w) {t : Nat} (ht : t < 8) (v : Int32) : rl_T rl_W o (am_up F (29 + o) t v) (upd w (409 + 2 * t) v) := by
  have g := h.set (fun _ h => h) (q := (29, 0, 409, 8, 2)) (List.mem_of_getElem? (i := 22) rfl) ht v
  rw [(show rl_ix (29, 0, 409, 8, 2) t = 409 + 2 * t from by show 409 + 2 * t = _; omega)] at g
  have e : ((29, 0, 409, 8, 2) : rl_B).2.1 + t = t := Nat.zero_add t
  rw [e] at g
  exact g
theorem rl_g_r2n (h : rl_T rl_W o F w) : F (30 + o) 0 = w 424 := h (30, 0, 424, 1, 1) (List.mem_of_getElem? (i := 23) rfl) 0 (by decide)
theorem rl_s_r2n (h : rl_T rl_W o F w) (v : Int32) : rl_T rl_W o (am_up F (30 + o) 0 v) (upd w 424 v) := h.set (fun _ h => h) (q := (30, 0, 424, 1, 1)) (List.mem_of_getElem? (i := 23) rfl) (t := 0) (by decide) v
theorem rl_g_r2a (h : rl_T rl_W o F w) {t : Nat} (ht : t < 6) : F (31 + o) t = w (425 + 2 * t) := by
  have g := h (31, 0, 425, 6, 2) (List.mem_of_getElem? (i := 24) rfl) t ht
  rw [(show rl_ix (31, 0, 425, 6, 2) t = 425 + 2 * t from by show 425 + 2 * t = _; omega)] at g
  rw [← g]
  show _ = F (31 + o) (0 + t)
  rw [Nat.zero_add]
theorem rl_s_r2a (h : rl_T rl_W o F w) {t : Nat} (ht : t < 6) (v : Int32) : rl_T rl_W o (am_up F (31 + o) t v) (upd w (425 + 2 * t) v) := by
  have g := h.set (fun _ h => h) (q := (31, 0, 425, 6, 2)) (List.mem_of_getElem? (i := 24) rfl) ht v
  rw [(show rl_ix (31, 0, 425, 6, 2) t = 425 + 2 * t from by show 425 + 2 * t = _; omega)] at g
  have e : ((31, 0, 425, 6, 2) : rl_B).2.1 + t = t := Nat.zero_add t
  rw [e] at g
  exact g
theorem rl_g_r2b (h : rl_T rl_W o F w) {t : Nat} (ht : t < 6) : F (32 + o) t = w (426 + 2 * t) := by
  have g := h (32, 0, 426, 6, 2) (List.mem_of_getElem? (i := 25) rfl) t ht
  rw [(show rl_ix (32, 0, 426, 6, 2) t = 426 + 2 * t from by show 426 + 2 * t = _; omega)] at g
  rw [← g]
  show _ = F (32 + o) (0 + t)
  rw [Nat.zero_add]
theorem rl_s_r2b (h : rl_T rl_W o F w) {t : Nat} (ht : t < 6) (v : Int32) : rl_T rl_W o (am_up F (32 + o) t v) (upd w (426 + 2 * t) v) := by
  have g := h.set (fun _ h => h) (q := (32, 0, 426, 6, 2)) (List.mem_of_getElem? (i := 25) rfl) ht v
  rw [(show rl_ix (32, 0, 426, 6, 2) t = 426 + 2 * t from by show 426 + 2 * t = _; omega)] at g
  have e : ((32, 0, 426, 6, 2) : rl_B).2.1 + t = t := Nat.zero_add t
  rw [e] at g
  exact g
theorem rl_g_r3n (h : rl_T rl_W o F w) : F (33 + o) 0 = w 437 := h (33, 0, 437, 1, 1) (List.mem_of_getElem? (i := 26) rfl) 0 (by decide)
theorem rl_s_r3n (h : rl_T rl_W o F w) (v : Int32) : rl_T rl_W o (am_up F (33 + o) 0 v) (upd w 437 v) := h.set (fun _ h => h) (q := (33, 0, 437, 1, 1)) (List.mem_of_getElem? (i := 26) rfl) (t := 0) (by decide) v
theorem rl_g_r3a (h : rl_T rl_W o F w) {t : Nat} (ht : t < 4) : F (34 + o) t = w (438 + 2 * t) := by
  have g := h (34, 0, 438, 4, 2) (List.mem_of_getElem? (i := 27) rfl) t ht
  rw [(show rl_ix (34, 0, 438, 4, 2) t = 438 + 2 * t from by show 438 + 2 * t = _; omega)] at g
  rw [← g]
  show _ = F (34 + o) (0 + t)
  rw [Nat.zero_add]
theorem rl_s_r3a (h : rl_T rl_W o F w) {t : Nat} (ht : t < 4) (v : Int32) : rl_T rl_W o (am_up F (34 + o) t v) (upd w (438 + 2 * t) v) := by
  have g := h.set (fun _ h => h) (q := (34, 0, 438, 4, 2)) (List.mem_of_getElem? (i := 27) rfl) ht v
  rw [(show rl_ix (34, 0, 438, 4, 2) t = 438 + 2 * t from by show 438 + 2 * t = _; omega)] at g
  have e : ((34, 0, 438, 4, 2) : rl_B).2.1 + t = t := Nat.zero_add t
  rw [e] at g
  exact g
theorem rl_g_r3b (h : rl_T rl_W o F w) {t : Nat} (ht : t < 4) : F (35 + o) t = w (439 + 2 * t) := by
  have g := h (35, 0, 439, 4, 2) (List.mem_of_getElem? (i := 28) rfl) t ht
  rw [(show rl_ix (35, 0, 439, 4, 2) t = 439 + 2 * t from by show 439 + 2 * t = _; omega)] at g
  rw [← g]
  show _ = F (35 + o) (0 + t)
  rw [Nat.zero_add]
theorem rl_s_r3b (h : rl_T rl_W o F w) {t : Nat} (ht : t < 4) (v : Int32) : rl_T rl_W o (am_up F (35 + o) t v) (upd w (439 + 2 * t) v) := by
  have g := h.set (fun _ h => h) (q := (35, 0, 439, 4, 2)) (List.mem_of_getElem? (i := 28) rfl) ht v
  rw [(show rl_ix (35, 0, 439, 4, 2) t = 439 + 2 * t from by show 439 + 2 * t = _; omega)] at g
  have e : ((35, 0, 439, 4, 2) : rl_B).2.1 + t = t := Nat.zero_add t
  rw [e] at g
  exact g
theorem rl_g_r4n (h : rl_T rl_W o F w) : F (36 + o) 0 = w 446 := h (36, 0, 446, 1, 1) (List.mem_of_getElem? (i := 29) rfl) 0 (by decide)
theorem rl_s_r4n (h : rl_T rl_W o F w) (v : Int32) : rl_T rl_W o (am_up F (36 + o) 0 v) (upd w 446 v) := h.set (fun _ h => h) (q := (36, 0, 446, 1, 1)) (List.mem_of_getElem? (i := 29) rfl) (t := 0) (by decide) v
theorem rl_g_r4a (h : rl_T rl_W o F w) {t : Nat} (ht : t < 6) : F (37 + o) t = w (447 + 2 * t) := by
  have g := h (37, 0, 447, 6, 2) (List.mem_of_getElem? (i := 30) rfl) t ht
  rw [(show rl_ix (37, 0, 447, 6, 2) t = 447 + 2 * t from by show 447 + 2 * t = _; omega)] at g
  rw [← g]
  show _ = F (37 + o) (0 + t)
  rw [Nat.zero_add]
theorem rl_s_r4a (h : rl_T rl_W o F w) {t : Nat} (ht : t < 6) (v : Int32) : rl_T rl_W o (am_up F (37 + o) t v) (upd w (447 + 2 * t) v) := by
  have g := h.set (fun _ h => h) (q := (37, 0, 447, 6, 2)) (List.mem_of_getElem? (i := 30) rfl) ht v
  rw [(show rl_ix (37, 0, 447, 6, 2) t = 447 + 2 * t from by show 447 + 2 * t = _; omega)] at g
  have e : ((37, 0, 447, 6, 2) : rl_B).2.1 + t = t := Nat.zero_add t
  rw [e] at g
  exact g
theorem rl_g_r4b (h : rl_T rl_W o F w) {t : Nat} (ht : t < 6) : F (38 + o) t = w (448 + 2 * t) := by
  have g := h (38, 0, 448, 6, 2) (List.mem_of_getElem? (i := 31) rfl) t ht
  rw [(show rl_ix (38, 0, 448, 6, 2) t = 448 + 2 * t from by show 448 + 2 * t = _; omega)] at g
  rw [← g]
  show _ = F (38 + o) (0 + t)
  rw [Nat.zero_add]
theorem rl_s_r4b (h : rl_T rl_W o F w) {t : Nat} (ht : t < 6) (v : Int32) : rl_T rl_W o (am_up F (38 + o) t v) (upd w (448 + 2 * t) v) := by
  have g := h.set (fun _ h => h) (q := (38, 0, 448, 6, 2)) (List.mem_of_getElem? (i := 31) rfl) ht v
  rw [(show rl_ix (38, 0, 448, 6, 2) t = 448 + 2 * t from by show 448 + 2 * t = _; omega)] at g
  have e : ((38, 0, 448, 6, 2) : rl_B).2.1 + t = t := Nat.zero_add t
  rw [e] at g
  exact g
theorem rl_g_r5n (h : rl_T rl_W o F w) : F (39 + o) 0 = w 459 := h (39, 0, 459, 1, 1) (List.mem_of_getElem? (i := 32) rfl) 0 (by decide)
theorem rl_s_r5n (h : rl_T rl_W o F w) (v : Int32) : rl_T rl_W o (am_up F (39 + o) 0 v) (upd w 459 v) := h.set (fun _ h => h) (q := (39, 0, 459, 1, 1)) (List.mem_of_getElem? (i := 32) rfl) (t := 0) (by decide) v
theorem rl_g_r5a (h : rl_T rl_W o F w) {t : Nat} (ht : t < 4) : F (40 + o) t = w (460 + t) := by
  have g := h (40, 0, 460, 4, 1) (List.mem_of_getElem? (i := 33) rfl) t ht
  rw [(show rl_ix (40, 0, 460, 4, 1) t = 460 + t from by show 460 + 1 * t = _; omega)] at g
  rw [← g]
  show _ = F (40 + o) (0 + t)
  rw [Nat.zero_add]
theorem rl_s_r5a (h : rl_T rl_W o F w) {t : Nat} (ht : t < 4) (v : Int32) : rl_T rl_W o (am_up F (40 + o) t v) (upd w (460 + t) v) := by
  have g := h.set (fun _ h => h) (q := (40, 0, 460, 4, 1)) (List.mem_of_getElem? (i := 33) rfl) ht v
  rw [(show rl_ix (40, 0, 460, 4, 1) t = 460 + t from by show 460 + 1 * t = _; omega)] at g
  have e : ((40, 0, 460, 4, 1) : rl_B).2.1 + t = t := Nat.zero_add t
  rw [e] at g
  exact g
theorem rl_g_r6n (h : rl_T rl_W o F w) : F (42 + o) 0 = w 464 := h (42, 0, 464, 1, 1) (List.mem_of_getElem? (i := 34) rfl) 0 (by decide)
theorem rl_s_r6n (h : rl_T rl_W o F w) (v : Int32) : rl_T rl_W o (am_up F (42 + o) 0 v) (upd w 464 v) := h.set (fun _ h => h) (q := (42, 0, 464, 1, 1)) (List.mem_of_getElem? (i := 34) rfl) (t := 0) (by decide) v
theorem rl_g_r6a (h : rl_T rl_W o F w) {t : Nat} (ht : t < 8) : F (43 + o) t = w (465 + t) := by
  have g := h (43, 0, 465, 8, 1) (List.mem_of_getElem? (i := 35) rfl) t ht
  rw [(show rl_ix (43, 0, 465, 8, 1) t = 465 + t from by show 465 + 1 * t = _; omega)] at g
  rw [← g]
  show _ = F (43 + o) (0 + t)
  rw [Nat.zero_add]
theorem rl_s_r6a (h : rl_T rl_W o F w) {t : Nat} (ht : t < 8) (v : Int32) : rl_T rl_W o (am_up F (43 + o) t v) (upd w (465 + t) v) := by
  have g := h.set (fun _ h => h) (q := (43, 0, 465, 8, 1)) (List.mem_of_getElem? (i := 35) rfl) ht v
  rw [(show rl_ix (43, 0, 465, 8, 1) t = 465 + t from by show 465 + 1 * t = _; omega)] at g
  have e : ((43, 0, 465, 8, 1) : rl_B).2.1 + t = t := Nat.zero_add t
  rw [e] at g
  exact g
theorem rl_g_r7n (h : rl_T rl_W o F w) : F (45 + o) 0 = w 481 := h (45, 0, 481, 1, 1) (List.mem_of_getElem? (i := 36) rfl) 0 (by decide)
theorem rl_s_r7n (h : rl_T rl_W o F w) (v : Int32) : rl_T rl_W o (am_up F (45 + o) 0 v) (upd w 481 v) := h.set (fun _ h => h) (q := (45, 0, 481, 1, 1)) (List.mem_of_getElem? (i := 36) rfl) (t := 0) (by decide) v
theorem rl_g_r7a (h : rl_T rl_W o F w) {t : Nat} (ht : t < 24) : F (46 + o) t = w (482 + t) := by
  have g := h (46, 0, 482, 24, 1) (List.mem_of_getElem? (i := 37) rfl) t ht
  rw [(show rl_ix (46, 0, 482, 24, 1) t = 482 + t from by show 482 + 1 * t = _; omega)] at g
  rw [← g]
  show _ = F (46 + o) (0 + t)
  rw [Nat.zero_add]
theorem rl_s_r7a (h : rl_T rl_W o F w) {t : Nat} (ht : t < 24) (v : Int32) : rl_T rl_W o (am_up F (46 + o) t v) (upd w (482 + t) v) := by
  have g := h.set (fun _ h => h) (q := (46, 0, 482, 24, 1)) (List.mem_of_getElem? (i := 37) rfl) ht v
  rw [(show rl_ix (46, 0, 482, 24, 1) t = 482 + t from by show 482 + 1 * t = _; omega)] at g
  have e : ((46, 0, 482, 24, 1) : rl_B).2.1 + t = t := Nat.zero_add t
  rw [e] at g
  exact g
theorem rl_g_r8n (h : rl_T rl_W o F w) : F (48 + o) 0 = w 506 := h (48, 0, 506, 1, 1) (List.mem_of_getElem? (i := 38) rfl) 0 (by decide)
theorem rl_s_r8n (h : rl_T rl_W o F w) (v : Int32) : rl_T rl_W o (am_up F (48 + o) 0 v) (upd w 506 v) := h.set (fun _ h => h) (q := (48, 0, 506, 1, 1)) (List.mem_of_getElem? (i := 38) rfl) (t := 0) (by decide) v
theorem rl_g_r8a (h : rl_T rl_W o F w) {t : Nat} (ht : t < 8) : F (49 + o) t = w (507 + t) := by
  have g := h (49, 0, 507, 8, 1) (List.mem_of_getElem? (i := 39) rfl) t ht
  rw [(show rl_ix (49, 0, 507, 8, 1) t = 507 + t from by show 507 + 1 * t = _; omega)] at g
  rw [← g]
  show _ = F (49 + o) (0 + t)
  rw [Nat.zero_add]
theorem rl_s_r8a (h : rl_T rl_W o F w) {t : Nat} (ht : t < 8) (v : Int32) : rl_T rl_W o (am_up F (49 + o) t v) (upd w (507 + t) v) := by
  have g := h.set (fun _ h => h) (q := (49, 0, 507, 8, 1)) (List.mem_of_getElem? (i := 39) rfl) ht v
  rw [(show rl_ix (49, 0, 507, 8, 1) t = 507 + t from by show 507 + 1 * t = _; omega)] at g
  have e : ((49, 0, 507, 8, 1) : rl_B).2.1 + t = t := Nat.zero_add t
  rw [e] at g
  exact g
theorem rl_g_r9n (h : rl_T rl_W o F w) : F (51 + o) 0 = w 515 := h (51, 0, 515, 1, 1) (List.mem_of_getElem? (i := 40) rfl) 0 (by decide)
theorem rl_s_r9n (h : rl_T rl_W o F w) (v : Int32) : rl_T rl_W o (am_up F (51 + o) 0 v) (upd w 515 v) := h.set (fun _ h => h) (q := (51, 0, 515, 1, 1)) (List.mem_of_getElem? (i := 40) rfl) (t := 0) (by decide) v
theorem rl_g_r9a (h : rl_T rl_W o F w) {t : Nat} (ht : t < 8) : F (52 + o) t = w (516 + t) := by
  have g := h (52, 0, 516, 8, 1) (List.mem_of_getElem? (i := 41) rfl) t ht
  rw [(show rl_ix (52, 0, 516, 8, 1) t = 516 + t from by show 516 + 1 * t = _; omega)] at g
  rw [← g]
  show _ = F (52 + o) (0 + t)
  rw [Nat.zero_add]
theorem rl_s_r9a (h : rl_T rl_W o F w) {t : Nat} (ht : t < 8) (v : Int32) : rl_T rl_W o (am_up F (52 + o) t v) (upd w (516 + t) v) := by
  have g := h.set (fun _ h => h) (q := (52, 0, 516, 8, 1)) (List.mem_of_getElem? (i := 41) rfl) ht v
  rw [(show rl_ix (52, 0, 516, 8, 1) t = 516 + t from by show 516 + 1 * t = _; omega)] at g
  have e : ((52, 0, 516, 8, 1) : rl_B).2.1 + t = t := Nat.zero_add t
  rw [e] at g
  exact g
theorem rl_g_cs (h : rl_T rl_W o F w) {t : Nat} (ht : t < 8) : F (54 + o) t = w (473 + t) := by
  have g := h (54, 0, 473, 8, 1) (List.mem_of_getElem? (i := 42) rfl) t ht
  rw [(show rl_ix (54, 0, 473, 8, 1) t = 473 + t from by show 473 + 1 * t = _; omega)] at g
  rw [← g]
  show _ = F (54 + o) (0 + t)
  rw [Nat.zero_add]
theorem rl_s_cs (h : rl_T rl_W o F w) {t : Nat} (ht : t < 8) (v : Int32) : rl_T rl_W o (am_up F (54 + o) t v) (upd w (473 + t) v) := by
  have g := h.set (fun _ h => h) (q := (54, 0, 473, 8, 1)) (List.mem_of_getElem? (i := 42) rfl) ht v
  rw [(show rl_ix (54, 0, 473, 8, 1) t = 473 + t from by show 473 + 1 * t = _; omega)] at g
  have e : ((54, 0, 473, 8, 1) : rl_B).2.1 + t = t := Nat.zero_add t
  rw [e] at g
  exact g
end RLN
