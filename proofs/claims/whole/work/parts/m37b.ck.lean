set_option maxRecDepth 100000 in
theorem am_ka_7 : ((List.range 77).drop 66).all am_ckall = true := by decide +kernel
set_option maxRecDepth 100000 in
theorem am_ka_8 : ((List.range 92).drop 77).all am_ckall = true := by decide +kernel
set_option maxRecDepth 100000 in
theorem am_ka_9 : ((List.range 102).drop 92).all am_ckall = true := by decide +kernel
set_option maxRecDepth 100000 in
theorem am_ka_10 : ((List.range 108).drop 102).all am_ckall = true := by decide +kernel
set_option maxRecDepth 100000 in
theorem am_ka_11 : ((List.range 120).drop 108).all am_ckall = true := by decide +kernel
set_option maxRecDepth 100000 in
theorem am_ka_12 : ((List.range 130).drop 120).all am_ckall = true := by decide +kernel
set_option maxRecDepth 100000 in
theorem am_ka_13 : ((List.range 138).drop 130).all am_ckall = true := by decide +kernel
