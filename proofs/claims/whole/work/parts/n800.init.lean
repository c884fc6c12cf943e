/-! THE FIRST STATE: the relation holds -/
set_option maxRecDepth 100000 in
theorem in_w : (List.range 1188).all (fun i => decide (am_g0 217 i = 0)) = true := by decide +kernel
set_option maxRecDepth 100000 in
theorem in_f : rl_W.all (fun q => (List.range q.2.2.2.1).all fun t => decide (am_f0 q.1 (q.2.1 + t) = 0)) = true := by decide +kernel
theorem in_q : ∀ q ∈ rl_W, q.2.2.1 + q.2.2.2.2 * (q.2.2.2.1 - 1) < 1188 := by decide +kernel
set_option maxRecDepth 100000 in
theorem in_p : ∀ j, j < 6 → am_f0 109 j = nI (x_pl j 0 + 1) := by decide +kernel
set_option maxRecDepth 100000 in
theorem in_s : am_f0 14 1 = 0 ∧ am_f0 0 2 = 0 ∧ am_f0 0 4 = 0 ∧ am_f0 123 0 = 0 ∧ am_f0 128 4 = am_g0 216 23 ∧ am_f0 128 5 = am_g0 216 25 ∧ am_f0 143 7 = 0 ∧ am_f0 150 0 = 0 ∧ am_f0 144 0 = 0 ∧ am_f0 143 11 = 1 := by decide +kernel
set_option maxRecDepth 100000 in
theorem in_g : am_g0 216 5 = 0 ∧ am_g0 216 4 = 0 ∧ am_g0 216 16 = 0 := by decide +kernel
theorem in_wz {i : Nat} (h : i < 1188) : am_g0 217 i = 0 := of_decide_eq_true (List.all_eq_true.mp in_w i (List.mem_range.mpr h))
theorem in_Rel : rl_Rel am_f0 am_g0 := by
  obtain ⟨s1, s2, s3, s4, s5, s6, s7, s8, s9, s10⟩ := in_s
  obtain ⟨t1, t2, t3⟩ := in_g
  have z : nI 0 = (0 : Int32) := rfl
  refine ⟨⟨fun q hq t ht => ?_, ⟨0, 0, 0, 0, in_wz (by omega), by omega, in_wz (by omega), by omega, in_wz (by omega), by omega, in_wz (by omega), by omega, fun i hi => ⟨0, by omega, in_wz (by omega)⟩, fun i hi => absurd hi (Nat.not_lt_zero _), fun i hi => absurd hi (Nat.not_lt_zero _), fun i hi => ⟨0, in_wz (by omega), by omega, fun _ => rfl⟩, fun i hi => ⟨⟨0, by omega, in_wz (by omega)⟩, fun _ => ⟨in_wz (by omega), in_wz (by omega)⟩⟩⟩, fun i hi => ⟨0, by omega, in_wz (by omega), fun _ _ _ _ => rfl⟩, ⟨fun j hj => ⟨0, by omega, in_wz (by omega)⟩, fun a b ha hb => by rw [in_wz (by omega), in_wz (by omega)]⟩, ⟨0, by omega, in_wz (by omega), fun i hi => absurd hi (Nat.not_lt_zero _)⟩, ⟨?_, ?_, ?_, ?_, ?_, ?_, ?_, ?_, ?_, fun i hi => ⟨0, by omega, in_wz (by omega)⟩⟩, ⟨0, 0, by omega, by omega, in_wz (by omega), s1, fun i hi => absurd hi (Nat.not_lt_zero _)⟩⟩, Or.inl ⟨s2, t1⟩, ⟨0, 0, by omega, by omega, in_p, s3, t2, fun p hp => absurd hp (Nat.not_lt_zero _)⟩, ⟨0, by omega, s4, t3, fun i hi => absurd hi (Nat.not_lt_zero _)⟩, ⟨s5, s6⟩, ⟨0, by omega, s7, fun i hi => ?_⟩, ⟨s9, 1, by omega, by omega, s10, fun lo hi h1 h2 h3 => by omega⟩⟩
  · have i1 := wg_ix ht
    have i2 := in_q q hq
    rw [in_wz (by omega)]
    exact of_decide_eq_true (List.all_eq_true.mp (List.all_eq_true.mp in_f q hq) t (List.mem_range.mpr ht))
  · exact ⟨0, by omega, in_wz (by omega), fun i hi => absurd hi (Nat.not_lt_zero _)⟩
  · exact ⟨0, by omega, in_wz (by omega), fun i hi => absurd hi (Nat.not_lt_zero _)⟩
  · exact ⟨0, by omega, in_wz (by omega), fun i hi => absurd hi (Nat.not_lt_zero _)⟩
  · exact ⟨0, by omega, in_wz (by omega), fun i hi => absurd hi (Nat.not_lt_zero _)⟩
  · exact ⟨0, by omega, in_wz (by omega), fun i hi => absurd hi (Nat.not_lt_zero _)⟩
  · exact ⟨0, by omega, in_wz (by omega), fun i hi => absurd hi (Nat.not_lt_zero _)⟩
  · exact ⟨0, by omega, in_wz (by omega), fun i hi => absurd hi (Nat.not_lt_zero _)⟩
  · exact ⟨0, by omega, in_wz (by omega), fun i hi => absurd hi (Nat.not_lt_zero _)⟩
  · exact ⟨0, by omega, in_wz (by omega), fun i hi => absurd hi (Nat.not_lt_zero _)⟩
  · have i0 : i = 0 := by omega
    rw [i0]
    exact s8
/-- every call keeps the relation -/
theorem am_law_runs {L : Nat} (hL : L ≤ 3072) (xs : Nat → Int32) : ∃ (n : Nat) (sh : List am_Sh) (h : am_H), am_run (L, xs) n 60 313 (0, [(0, .ref am_SC)], [], [], (fun _ _ => 0, fun _ _ => 0)) = some (some (.int 1), sh, h) ∧ sh.length ≤ 600000 ∧ am_sl sh ≤ 7302250 :=
  am_law_run hL xs (Rel := rl_Rel) ⟨sm_state, sm_glass, sm_witness, sm_set, sm_act, sm_minutes, sm_feed, sm_end, sm_text, sm_fault, sm_of, sm_who, sm_near, sm_book, sm_goes, sm_top, sm_hottest, sm_warmth, sm_fits, sm_words, sm_world, sm_sure, sm_point, sm_term, sm_saying, sm_cool, sm_coal, sm_coals, sm_shown, sm_show, sm_cost, sm_change, sm_dear, sm_reading, sm_steady, sm_quiet, sm_dog, sm_dogs, sm_juror, sm_jury, sm_undo, sm_image, sm_look⟩ in_Rel
