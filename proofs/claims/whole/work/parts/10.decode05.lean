theorem d_Z_init_0 : decode c_Z_init 0 = .ok (.aload_n 0, 1) := by decide +kernel
theorem d_Z_init_1 : decode c_Z_init 1 = .ok (.invokespecial 1, 3) := by decide +kernel
theorem d_Z_init_4 : decode c_Z_init 4 = .ok (.aload_n 0, 1) := by decide +kernel
theorem d_Z_init_5 : decode c_Z_init 5 = .ok (.new 7, 3) := by decide +kernel
theorem d_Z_init_8 : decode c_Z_init 8 = .ok (.dup, 1) := by decide +kernel
theorem d_Z_init_9 : decode c_Z_init 9 = .ok (.invokespecial 9, 3) := by decide +kernel
theorem d_Z_init_12 : decode c_Z_init 12 = .ok (.putfield 10, 3) := by decide +kernel
theorem d_Z_init_15 : decode c_Z_init 15 = .ok (.return_, 1) := by decide +kernel
theorem d_Z_become_0 : decode c_Z_become 0 = .ok (.aload_n 0, 1) := by decide +kernel
theorem d_Z_become_1 : decode c_Z_become 1 = .ok (.iload_n 1, 1) := by decide +kernel
theorem d_Z_become_2 : decode c_Z_become 2 = .ok (.putfield 16, 3) := by decide +kernel
theorem d_Z_become_5 : decode c_Z_become 5 = .ok (.aload_n 0, 1) := by decide +kernel
theorem d_Z_become_6 : decode c_Z_become 6 = .ok (.getfield 10, 3) := by decide +kernel
theorem d_Z_become_9 : decode c_Z_become 9 = .ok (.aload_n 2, 1) := by decide +kernel
theorem d_Z_become_10 : decode c_Z_become 10 = .ok (.iconst 0, 1) := by decide +kernel
theorem d_Z_become_11 : decode c_Z_become 11 = .ok (.iconst 0, 1) := by decide +kernel
theorem d_Z_become_12 : decode c_Z_become 12 = .ok (.invokevirtual 20, 3) := by decide +kernel
theorem d_Z_become_15 : decode c_Z_become 15 = .ok (.return_, 1) := by decide +kernel
