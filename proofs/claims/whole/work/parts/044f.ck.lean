set_option maxRecDepth 100000 in
theorem am_kl_2 : ((List.range 1050).drop 700).all am_cklaw = true := by decide +kernel
set_option maxRecDepth 100000 in
theorem am_kl_3 : ((List.range 1055).drop 1050).all am_cklaw = true := by decide +kernel
set_option maxRecDepth 100000 in
theorem am_kl2 : am_ckl2 am_law (am_code 313) = true := by decide +kernel
