set_option maxRecDepth 100000 in
theorem am_ka_21 : ((List.range 222).drop 216).all am_ckall = true := by decide +kernel
set_option maxRecDepth 100000 in
theorem am_ka_22 : ((List.range 231).drop 222).all am_ckall = true := by decide +kernel
set_option maxRecDepth 100000 in
theorem am_ka_23 : ((List.range 240).drop 231).all am_ckall = true := by decide +kernel
set_option maxRecDepth 100000 in
theorem am_ka_24 : ((List.range 247).drop 240).all am_ckall = true := by decide +kernel
set_option maxRecDepth 100000 in
theorem am_ka_25 : ((List.range 252).drop 247).all am_ckall = true := by decide +kernel
set_option maxRecDepth 100000 in
theorem am_ka_26 : ((List.range 264).drop 252).all am_ckall = true := by decide +kernel
set_option maxRecDepth 100000 in
theorem am_ka_27 : ((List.range 271).drop 264).all am_ckall = true := by decide +kernel
