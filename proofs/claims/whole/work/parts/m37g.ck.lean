set_option maxRecDepth 100000 in
theorem am_kl_6 : ((List.range 420).drop 360).all am_cklaw = true := by decide +kernel
set_option maxRecDepth 100000 in
theorem am_kl_7 : ((List.range 480).drop 420).all am_cklaw = true := by decide +kernel
set_option maxRecDepth 100000 in
theorem am_kl_8 : ((List.range 540).drop 480).all am_cklaw = true := by decide +kernel
set_option maxRecDepth 100000 in
theorem am_kl_9 : ((List.range 600).drop 540).all am_cklaw = true := by decide +kernel
set_option maxRecDepth 100000 in
theorem am_kl_10 : ((List.range 660).drop 600).all am_cklaw = true := by decide +kernel
set_option maxRecDepth 100000 in
theorem am_kl_11 : ((List.range 720).drop 660).all am_cklaw = true := by decide +kernel
