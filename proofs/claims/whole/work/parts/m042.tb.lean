/-! the tables' words by their places -/
def am_tb (n : Nat) : Option Cond := if n < 848 then (if n < 368 then (if n < 128 then ((k2_sels lw_privs)[n]?) else (tables_1_1[n - 128]?)) else (if n < 608 then (tables_1_2[n - 368]?) else (tables_1_3[n - 608]?))) else (if n < 1328 then (if n < 1088 then (tables_1_4[n - 848]?) else (tables_1_5[n - 1088]?)) else (if n < 1568 then (tables_1_6[n - 1328]?) else (if n < 1808 then (tables_1_7[n - 1568]?) else (tables_1_8[n - 1808]?))))
theorem am_t1 : ∀ w, w ∈ tables_1_1 → w ∈ lw_tbl := fun w h => List.mem_append_right _ (show w ∈ tables_1_1 ++ (tables_1_2 ++ (tables_1_3 ++ (tables_1_4 ++ (tables_1_5 ++ (tables_1_6 ++ (tables_1_7 ++ tables_1_8)))))) from List.mem_append_left _ h)
theorem am_t2 : ∀ w, w ∈ tables_1_2 → w ∈ lw_tbl := fun w h => List.mem_append_right _ (show w ∈ tables_1_1 ++ (tables_1_2 ++ (tables_1_3 ++ (tables_1_4 ++ (tables_1_5 ++ (tables_1_6 ++ (tables_1_7 ++ tables_1_8)))))) from List.mem_append_right _ (List.mem_append_left _ h))
theorem am_t3 : ∀ w, w ∈ tables_1_3 → w ∈ lw_tbl := fun w h => List.mem_append_right _ (show w ∈ tables_1_1 ++ (tables_1_2 ++ (tables_1_3 ++ (tables_1_4 ++ (tables_1_5 ++ (tables_1_6 ++ (tables_1_7 ++ tables_1_8)))))) from List.mem_append_right _ (List.mem_append_right _ (List.mem_append_left _ h)))
theorem am_t4 : ∀ w, w ∈ tables_1_4 → w ∈ lw_tbl := fun w h => List.mem_append_right _ (show w ∈ tables_1_1 ++ (tables_1_2 ++ (tables_1_3 ++ (tables_1_4 ++ (tables_1_5 ++ (tables_1_6 ++ (tables_1_7 ++ tables_1_8)))))) from List.mem_append_right _ (List.mem_append_right _ (List.mem_append_right _ (List.mem_append_left _ h))))
theorem am_t5 : ∀ w, w ∈ tables_1_5 → w ∈ lw_tbl := fun w h => List.mem_append_right _ (show w ∈ tables_1_1 ++ (tables_1_2 ++ (tables_1_3 ++ (tables_1_4 ++ (tables_1_5 ++ (tables_1_6 ++ (tables_1_7 ++ tables_1_8)))))) from List.mem_append_right _ (List.mem_append_right _ (List.mem_append_right _ (List.mem_append_right _ (List.mem_append_left _ h)))))
theorem am_t6 : ∀ w, w ∈ tables_1_6 → w ∈ lw_tbl := fun w h => List.mem_append_right _ (show w ∈ tables_1_1 ++ (tables_1_2 ++ (tables_1_3 ++ (tables_1_4 ++ (tables_1_5 ++ (tables_1_6 ++ (tables_1_7 ++ tables_1_8)))))) from List.mem_append_right _ (List.mem_append_right _ (List.mem_append_right _ (List.mem_append_right _ (List.mem_append_right _ (List.mem_append_left _ h))))))
theorem am_t7 : ∀ w, w ∈ tables_1_7 → w ∈ lw_tbl := fun w h => List.mem_append_right _ (show w ∈ tables_1_1 ++ (tables_1_2 ++ (tables_1_3 ++ (tables_1_4 ++ (tables_1_5 ++ (tables_1_6 ++ (tables_1_7 ++ tables_1_8)))))) from List.mem_append_right _ (List.mem_append_right _ (List.mem_append_right _ (List.mem_append_right _ (List.mem_append_right _ (List.mem_append_right _ (List.mem_append_left _ h)))))))
theorem am_t8 : ∀ w, w ∈ tables_1_8 → w ∈ lw_tbl := fun w h => List.mem_append_right _ (show w ∈ tables_1_1 ++ (tables_1_2 ++ (tables_1_3 ++ (tables_1_4 ++ (tables_1_5 ++ (tables_1_6 ++ (tables_1_7 ++ tables_1_8)))))) from List.mem_append_right _ (List.mem_append_right _ (List.mem_append_right _ (List.mem_append_right _ (List.mem_append_right _ (List.mem_append_right _ (List.mem_append_right _ (h))))))))
theorem am_t0 : ∀ w, w ∈ k2_sels lw_privs → w ∈ lw_tbl := fun w h => List.mem_append_left _ h
theorem am_tb_mem {n : Nat} {w : Cond} (h : am_tb n = some w) : w ∈ lw_tbl := by
  unfold am_tb at h
  by_cases c848 : n < 848
  · rw [if_pos c848] at h
    by_cases c368 : n < 368
    · rw [if_pos c368] at h
      by_cases c128 : n < 128
      · rw [if_pos c128] at h
        exact am_t0 w (List.mem_of_getElem? h)
      · rw [if_neg c128] at h
        exact am_t1 w (List.mem_of_getElem? h)
    · rw [if_neg c368] at h
      by_cases c608 : n < 608
      · rw [if_pos c608] at h
        exact am_t2 w (List.mem_of_getElem? h)
      · rw [if_neg c608] at h
        exact am_t3 w (List.mem_of_getElem? h)
  · rw [if_neg c848] at h
    by_cases c1328 : n < 1328
    · rw [if_pos c1328] at h
      by_cases c1088 : n < 1088
      · rw [if_pos c1088] at h
        exact am_t4 w (List.mem_of_getElem? h)
      · rw [if_neg c1088] at h
        exact am_t5 w (List.mem_of_getElem? h)
    · rw [if_neg c1328] at h
      by_cases c1568 : n < 1568
      · rw [if_pos c1568] at h
        exact am_t6 w (List.mem_of_getElem? h)
      · rw [if_neg c1568] at h
        by_cases c1808 : n < 1808
        · rw [if_pos c1808] at h
          exact am_t7 w (List.mem_of_getElem? h)
        · rw [if_neg c1808] at h
          exact am_t8 w (List.mem_of_getElem? h)
