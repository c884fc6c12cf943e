set_option maxRecDepth 100000 in
theorem am_ka_28 : ((List.range 280).drop 271).all am_ckall = true := by decide +kernel
set_option maxRecDepth 100000 in
theorem am_ka_29 : ((List.range 288).drop 280).all am_ckall = true := by decide +kernel
set_option maxRecDepth 100000 in
theorem am_ka_30 : ((List.range 297).drop 288).all am_ckall = true := by decide +kernel
set_option maxRecDepth 100000 in
theorem am_ka_31 : ((List.range 306).drop 297).all am_ckall = true := by decide +kernel
set_option maxRecDepth 100000 in
theorem am_ka_32 : ((List.range 313).drop 306).all am_ckall = true := by decide +kernel
