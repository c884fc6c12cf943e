set_option maxRecDepth 100000 in
theorem am_kl_0 : ((List.range 60).drop 0).all am_cklaw = true := by decide +kernel
set_option maxRecDepth 100000 in
theorem am_kl_1 : ((List.range 120).drop 60).all am_cklaw = true := by decide +kernel
set_option maxRecDepth 100000 in
theorem am_kl_2 : ((List.range 180).drop 120).all am_cklaw = true := by decide +kernel
set_option maxRecDepth 100000 in
theorem am_kl_3 : ((List.range 240).drop 180).all am_cklaw = true := by decide +kernel
set_option maxRecDepth 100000 in
theorem am_kl_4 : ((List.range 300).drop 240).all am_cklaw = true := by decide +kernel
set_option maxRecDepth 100000 in
theorem am_kl_5 : ((List.range 360).drop 300).all am_cklaw = true := by decide +kernel
