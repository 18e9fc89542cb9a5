theorem d_P_init_0 : decode c_P_init 0 = .ok (.aload_n 0, 1) := by decide +kernel
theorem d_P_init_1 : decode c_P_init 1 = .ok (.invokespecial 1, 3) := by decide +kernel
theorem d_P_init_4 : decode c_P_init 4 = .ok (.aload_n 0, 1) := by decide +kernel
theorem d_P_init_5 : decode c_P_init 5 = .ok (.new 7, 3) := by decide +kernel
theorem d_P_init_8 : decode c_P_init 8 = .ok (.dup, 1) := by decide +kernel
theorem d_P_init_9 : decode c_P_init 9 = .ok (.invokespecial 9, 3) := by decide +kernel
theorem d_P_init_12 : decode c_P_init 12 = .ok (.putfield 10, 3) := by decide +kernel
theorem d_P_init_15 : decode c_P_init 15 = .ok (.return_, 1) := by decide +kernel
theorem d_P_become_0 : decode c_P_become 0 = .ok (.aload_n 0, 1) := by decide +kernel
theorem d_P_become_1 : decode c_P_become 1 = .ok (.iconst 1, 1) := by decide +kernel
theorem d_P_become_2 : decode c_P_become 2 = .ok (.putfield 16, 3) := by decide +kernel
theorem d_P_become_5 : decode c_P_become 5 = .ok (.aload_n 0, 1) := by decide +kernel
theorem d_P_become_6 : decode c_P_become 6 = .ok (.iload_n 1, 1) := by decide +kernel
theorem d_P_become_7 : decode c_P_become 7 = .ok (.putfield 20, 3) := by decide +kernel
theorem d_P_become_10 : decode c_P_become 10 = .ok (.aload_n 0, 1) := by decide +kernel
theorem d_P_become_11 : decode c_P_become 11 = .ok (.iload_n 2, 1) := by decide +kernel
theorem d_P_become_12 : decode c_P_become 12 = .ok (.putfield 24, 3) := by decide +kernel
theorem d_P_become_15 : decode c_P_become 15 = .ok (.aload_n 0, 1) := by decide +kernel
theorem d_P_become_16 : decode c_P_become 16 = .ok (.iload_n 3, 1) := by decide +kernel
theorem d_P_become_17 : decode c_P_become 17 = .ok (.putfield 27, 3) := by decide +kernel
theorem d_P_become_20 : decode c_P_become 20 = .ok (.aload_n 0, 1) := by decide +kernel
theorem d_P_become_21 : decode c_P_become 21 = .ok (.iload 4, 2) := by decide +kernel
theorem d_P_become_23 : decode c_P_become 23 = .ok (.putfield 30, 3) := by decide +kernel
theorem d_P_become_26 : decode c_P_become 26 = .ok (.return_, 1) := by decide +kernel
