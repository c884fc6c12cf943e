theorem look_1 : am_code 3 = am_c3 := rfl
