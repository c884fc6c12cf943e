theorem am_rg {a b i : Nat} (h1 : a ≤ i) (h2 : i < b) : i ∈ (List.range b).drop a := by
  rw [List.mem_iff_getElem?]
  refine ⟨i - a, ?_⟩
  rw [List.getElem?_drop, List.getElem?_range (by omega)]
  congr 1
  omega
theorem am_ka : ∀ mi, mi < 313 → am_ckall mi = true := by
  intro mi h
  by_cases c0 : mi < 10
  · exact List.all_eq_true.mp am_ka_0 mi (am_rg (by omega) c0)
  by_cases c1 : mi < 16
  · exact List.all_eq_true.mp am_ka_1 mi (am_rg (by omega) c1)
  by_cases c2 : mi < 30
  · exact List.all_eq_true.mp am_ka_2 mi (am_rg (by omega) c2)
  by_cases c3 : mi < 38
  · exact List.all_eq_true.mp am_ka_3 mi (am_rg (by omega) c3)
  by_cases c4 : mi < 49
  · exact List.all_eq_true.mp am_ka_4 mi (am_rg (by omega) c4)
  by_cases c5 : mi < 58
  · exact List.all_eq_true.mp am_ka_5 mi (am_rg (by omega) c5)
  by_cases c6 : mi < 66
  · exact List.all_eq_true.mp am_ka_6 mi (am_rg (by omega) c6)
  by_cases c7 : mi < 77
  · exact List.all_eq_true.mp am_ka_7 mi (am_rg (by omega) c7)
  by_cases c8 : mi < 92
  · exact List.all_eq_true.mp am_ka_8 mi (am_rg (by omega) c8)
  by_cases c9 : mi < 102
  · exact List.all_eq_true.mp am_ka_9 mi (am_rg (by omega) c9)
  by_cases c10 : mi < 108
  · exact List.all_eq_true.mp am_ka_10 mi (am_rg (by omega) c10)
  by_cases c11 : mi < 120
  · exact List.all_eq_true.mp am_ka_11 mi (am_rg (by omega) c11)
  by_cases c12 : mi < 130
  · exact List.all_eq_true.mp am_ka_12 mi (am_rg (by omega) c12)
  by_cases c13 : mi < 138
  · exact List.all_eq_true.mp am_ka_13 mi (am_rg (by omega) c13)
  by_cases c14 : mi < 149
  · exact List.all_eq_true.mp am_ka_14 mi (am_rg (by omega) c14)
  by_cases c15 : mi < 166
  · exact List.all_eq_true.mp am_ka_15 mi (am_rg (by omega) c15)
  by_cases c16 : mi < 180
  · exact List.all_eq_true.mp am_ka_16 mi (am_rg (by omega) c16)
  by_cases c17 : mi < 195
  · exact List.all_eq_true.mp am_ka_17 mi (am_rg (by omega) c17)
  by_cases c18 : mi < 200
  · exact List.all_eq_true.mp am_ka_18 mi (am_rg (by omega) c18)
  by_cases c19 : mi < 209
  · exact List.all_eq_true.mp am_ka_19 mi (am_rg (by omega) c19)
  by_cases c20 : mi < 216
  · exact List.all_eq_true.mp am_ka_20 mi (am_rg (by omega) c20)
  by_cases c21 : mi < 222
  · exact List.all_eq_true.mp am_ka_21 mi (am_rg (by omega) c21)
  by_cases c22 : mi < 231
  · exact List.all_eq_true.mp am_ka_22 mi (am_rg (by omega) c22)
  by_cases c23 : mi < 240
  · exact List.all_eq_true.mp am_ka_23 mi (am_rg (by omega) c23)
  by_cases c24 : mi < 247
  · exact List.all_eq_true.mp am_ka_24 mi (am_rg (by omega) c24)
  by_cases c25 : mi < 252
  · exact List.all_eq_true.mp am_ka_25 mi (am_rg (by omega) c25)
  by_cases c26 : mi < 264
  · exact List.all_eq_true.mp am_ka_26 mi (am_rg (by omega) c26)
  by_cases c27 : mi < 271
  · exact List.all_eq_true.mp am_ka_27 mi (am_rg (by omega) c27)
  by_cases c28 : mi < 280
  · exact List.all_eq_true.mp am_ka_28 mi (am_rg (by omega) c28)
  by_cases c29 : mi < 288
  · exact List.all_eq_true.mp am_ka_29 mi (am_rg (by omega) c29)
  by_cases c30 : mi < 297
  · exact List.all_eq_true.mp am_ka_30 mi (am_rg (by omega) c30)
  by_cases c31 : mi < 306
  · exact List.all_eq_true.mp am_ka_31 mi (am_rg (by omega) c31)
  by_cases c32 : mi < 313
  · exact List.all_eq_true.mp am_ka_32 mi (am_rg (by omega) c32)
  omega
theorem am_kl : ∀ j, j < 1055 → am_cklaw j = true := by
  intro j h
  by_cases c0 : j < 60
  · exact List.all_eq_true.mp am_kl_0 j (am_rg (by omega) c0)
  by_cases c1 : j < 120
  · exact List.all_eq_true.mp am_kl_1 j (am_rg (by omega) c1)
  by_cases c2 : j < 180
  · exact List.all_eq_true.mp am_kl_2 j (am_rg (by omega) c2)
  by_cases c3 : j < 240
  · exact List.all_eq_true.mp am_kl_3 j (am_rg (by omega) c3)
  by_cases c4 : j < 300
  · exact List.all_eq_true.mp am_kl_4 j (am_rg (by omega) c4)
  by_cases c5 : j < 360
  · exact List.all_eq_true.mp am_kl_5 j (am_rg (by omega) c5)
  by_cases c6 : j < 420
  · exact List.all_eq_true.mp am_kl_6 j (am_rg (by omega) c6)
  by_cases c7 : j < 480
  · exact List.all_eq_true.mp am_kl_7 j (am_rg (by omega) c7)
  by_cases c8 : j < 540
  · exact List.all_eq_true.mp am_kl_8 j (am_rg (by omega) c8)
  by_cases c9 : j < 600
  · exact List.all_eq_true.mp am_kl_9 j (am_rg (by omega) c9)
  by_cases c10 : j < 660
  · exact List.all_eq_true.mp am_kl_10 j (am_rg (by omega) c10)
  by_cases c11 : j < 720
  · exact List.all_eq_true.mp am_kl_11 j (am_rg (by omega) c11)
  by_cases c12 : j < 780
  · exact List.all_eq_true.mp am_kl_12 j (am_rg (by omega) c12)
  by_cases c13 : j < 840
  · exact List.all_eq_true.mp am_kl_13 j (am_rg (by omega) c13)
  by_cases c14 : j < 900
  · exact List.all_eq_true.mp am_kl_14 j (am_rg (by omega) c14)
  by_cases c15 : j < 960
  · exact List.all_eq_true.mp am_kl_15 j (am_rg (by omega) c15)
  by_cases c16 : j < 1020
  · exact List.all_eq_true.mp am_kl_16 j (am_rg (by omega) c16)
  by_cases c17 : j < 1055
  · exact List.all_eq_true.mp am_kl_17 j (am_rg (by omega) c17)
  omega
