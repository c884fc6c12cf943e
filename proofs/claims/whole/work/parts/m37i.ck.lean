set_option maxRecDepth 100000 in
theorem am_kl2 : am_ckl2 am_law (am_code 313) = true := by decide +kernel
