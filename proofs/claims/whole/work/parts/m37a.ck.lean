set_option maxRecDepth 100000 in
theorem am_ka_0 : ((List.range 10).drop 0).all am_ckall = true := by decide +kernel
set_option maxRecDepth 100000 in
theorem am_ka_1 : ((List.range 16).drop 10).all am_ckall = true := by decide +kernel
set_option maxRecDepth 100000 in
theorem am_ka_2 : ((List.range 30).drop 16).all am_ckall = true := by decide +kernel
set_option maxRecDepth 100000 in
theorem am_ka_3 : ((List.range 38).drop 30).all am_ckall = true := by decide +kernel
set_option maxRecDepth 100000 in
theorem am_ka_4 : ((List.range 49).drop 38).all am_ckall = true := by decide +kernel
set_option maxRecDepth 100000 in
theorem am_ka_5 : ((List.range 58).drop 49).all am_ckall = true := by decide +kernel
set_option maxRecDepth 100000 in
theorem am_ka_6 : ((List.range 66).drop 58).all am_ckall = true := by decide +kernel
