/-! BITS COUNTED: 16 of them, all numbers -/
theorem bt_k0 : (List.range 4096).all (fun n => bt_j (0 + n) == bt_n 16 (0 + n)) = true := by decide +kernel
theorem bt_k1 : (List.range 4096).all (fun n => bt_j (4096 + n) == bt_n 16 (4096 + n)) = true := by decide +kernel
theorem bt_k2 : (List.range 4096).all (fun n => bt_j (8192 + n) == bt_n 16 (8192 + n)) = true := by decide +kernel
theorem bt_k3 : (List.range 4096).all (fun n => bt_j (12288 + n) == bt_n 16 (12288 + n)) = true := by decide +kernel
theorem bt_k4 : (List.range 4096).all (fun n => bt_j (16384 + n) == bt_n 16 (16384 + n)) = true := by decide +kernel
theorem bt_k5 : (List.range 4096).all (fun n => bt_j (20480 + n) == bt_n 16 (20480 + n)) = true := by decide +kernel
theorem bt_k6 : (List.range 4096).all (fun n => bt_j (24576 + n) == bt_n 16 (24576 + n)) = true := by decide +kernel
theorem bt_k7 : (List.range 4096).all (fun n => bt_j (28672 + n) == bt_n 16 (28672 + n)) = true := by decide +kernel
theorem bt_k8 : (List.range 4096).all (fun n => bt_j (32768 + n) == bt_n 16 (32768 + n)) = true := by decide +kernel
theorem bt_k9 : (List.range 4096).all (fun n => bt_j (36864 + n) == bt_n 16 (36864 + n)) = true := by decide +kernel
theorem bt_k10 : (List.range 4096).all (fun n => bt_j (40960 + n) == bt_n 16 (40960 + n)) = true := by decide +kernel
theorem bt_k11 : (List.range 4096).all (fun n => bt_j (45056 + n) == bt_n 16 (45056 + n)) = true := by decide +kernel
theorem bt_k12 : (List.range 4096).all (fun n => bt_j (49152 + n) == bt_n 16 (49152 + n)) = true := by decide +kernel
theorem bt_k13 : (List.range 4096).all (fun n => bt_j (53248 + n) == bt_n 16 (53248 + n)) = true := by decide +kernel
theorem bt_k14 : (List.range 4096).all (fun n => bt_j (57344 + n) == bt_n 16 (57344 + n)) = true := by decide +kernel
theorem bt_k15 : (List.range 4096).all (fun n => bt_j (61440 + n) == bt_n 16 (61440 + n)) = true := by decide +kernel
theorem bt_kk {c S : Nat} (h : (List.range 4096).all (fun n => bt_j (c + n) == bt_n 16 (c + n)) = true) (h1 : c ≤ S) (h2 : S < c + 4096) : bt_j S = bt_n 16 S := by
  have g := List.all_eq_true.mp h (S - c) (List.mem_range.mpr (by omega))
  rw [show c + (S - c) = S by omega] at g
  exact eq_of_beq g
theorem bt_all {S : Nat} (h : S < 65536) : bt_j S = bt_n 16 S := by
  by_cases c0 : S < 4096
  · exact bt_kk bt_k0 (by omega) (by omega)
  by_cases c1 : S < 8192
  · exact bt_kk bt_k1 (by omega) (by omega)
  by_cases c2 : S < 12288
  · exact bt_kk bt_k2 (by omega) (by omega)
  by_cases c3 : S < 16384
  · exact bt_kk bt_k3 (by omega) (by omega)
  by_cases c4 : S < 20480
  · exact bt_kk bt_k4 (by omega) (by omega)
  by_cases c5 : S < 24576
  · exact bt_kk bt_k5 (by omega) (by omega)
  by_cases c6 : S < 28672
  · exact bt_kk bt_k6 (by omega) (by omega)
  by_cases c7 : S < 32768
  · exact bt_kk bt_k7 (by omega) (by omega)
  by_cases c8 : S < 36864
  · exact bt_kk bt_k8 (by omega) (by omega)
  by_cases c9 : S < 40960
  · exact bt_kk bt_k9 (by omega) (by omega)
  by_cases c10 : S < 45056
  · exact bt_kk bt_k10 (by omega) (by omega)
  by_cases c11 : S < 49152
  · exact bt_kk bt_k11 (by omega) (by omega)
  by_cases c12 : S < 53248
  · exact bt_kk bt_k12 (by omega) (by omega)
  by_cases c13 : S < 57344
  · exact bt_kk bt_k13 (by omega) (by omega)
  by_cases c14 : S < 61440
  · exact bt_kk bt_k14 (by omega) (by omega)
  by_cases c15 : S < 65536
  · exact bt_kk bt_k15 (by omega) (by omega)
  omega
/-- both sides count the bits of a set alike -/
theorem bt_eq {S : Nat} (h : S < 65536) : m_bitsOf (nI S) = some (ji_bitCount (nI S)) := by
  rw [bt_ji h, bt_all h, bt_loop h]
