set_option maxRecDepth 100000 in
theorem am_kl_12 : ((List.range 780).drop 720).all am_cklaw = true := by decide +kernel
set_option maxRecDepth 100000 in
theorem am_kl_13 : ((List.range 840).drop 780).all am_cklaw = true := by decide +kernel
set_option maxRecDepth 100000 in
theorem am_kl_14 : ((List.range 900).drop 840).all am_cklaw = true := by decide +kernel
set_option maxRecDepth 100000 in
theorem am_kl_15 : ((List.range 960).drop 900).all am_cklaw = true := by decide +kernel
set_option maxRecDepth 100000 in
theorem am_kl_16 : ((List.range 1020).drop 960).all am_cklaw = true := by decide +kernel
set_option maxRecDepth 100000 in
theorem am_kl_17 : ((List.range 1055).drop 1020).all am_cklaw = true := by decide +kernel
