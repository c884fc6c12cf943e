set_option maxRecDepth 100000 in
theorem am_ka_14 : ((List.range 149).drop 138).all am_ckall = true := by decide +kernel
set_option maxRecDepth 100000 in
theorem am_ka_15 : ((List.range 166).drop 149).all am_ckall = true := by decide +kernel
set_option maxRecDepth 100000 in
theorem am_ka_16 : ((List.range 180).drop 166).all am_ckall = true := by decide +kernel
set_option maxRecDepth 100000 in
theorem am_ka_17 : ((List.range 195).drop 180).all am_ckall = true := by decide +kernel
set_option maxRecDepth 100000 in
theorem am_ka_18 : ((List.range 200).drop 195).all am_ckall = true := by decide +kernel
set_option maxRecDepth 100000 in
theorem am_ka_19 : ((List.range 209).drop 200).all am_ckall = true := by decide +kernel
set_option maxRecDepth 100000 in
theorem am_ka_20 : ((List.range 216).drop 209).all am_ckall = true := by decide +kernel
