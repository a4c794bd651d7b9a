section DC
theorem d_W_init_0 : decode c_W_init 0 = .ok (.aload_n 0, 1) := by decide +kernel
theorem d_W_init_1 : decode c_W_init 1 = .ok (.invokespecial 3, 3) := by decide +kernel
theorem d_W_init_4 : decode c_W_init 4 = .ok (.aload_n 0, 1) := by decide +kernel
theorem d_W_init_5 : decode c_W_init 5 = .ok (.iconst 0, 1) := by decide +kernel
theorem d_W_init_6 : decode c_W_init 6 = .ok (.putfield 9, 3) := by decide +kernel
theorem d_W_init_9 : decode c_W_init 9 = .ok (.aload_n 0, 1) := by decide +kernel
theorem d_W_init_10 : decode c_W_init 10 = .ok (.bipush 90, 2) := by decide +kernel
theorem d_W_init_12 : decode c_W_init 12 = .ok (.newarray .int, 2) := by decide +kernel
theorem d_W_init_14 : decode c_W_init 14 = .ok (.putfield 15, 3) := by decide +kernel
theorem d_W_init_17 : decode c_W_init 17 = .ok (.return_, 1) := by decide +kernel
end DC
