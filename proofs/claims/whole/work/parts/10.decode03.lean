theorem d_K_init_0 : decode c_K_init 0 = .ok (.aload_n 0, 1) := by decide +kernel
theorem d_K_init_1 : decode c_K_init 1 = .ok (.invokespecial 3, 3) := by decide +kernel
theorem d_K_init_4 : decode c_K_init 4 = .ok (.aload_n 0, 1) := by decide +kernel
theorem d_K_init_5 : decode c_K_init 5 = .ok (.iconst 4, 1) := by decide +kernel
theorem d_K_init_6 : decode c_K_init 6 = .ok (.anewarray 9, 3) := by decide +kernel
theorem d_K_init_9 : decode c_K_init 9 = .ok (.putfield 11, 3) := by decide +kernel
theorem d_K_init_12 : decode c_K_init 12 = .ok (.iconst 0, 1) := by decide +kernel
theorem d_K_init_13 : decode c_K_init 13 = .ok (.istore_n 1, 1) := by decide +kernel
theorem d_K_init_14 : decode c_K_init 14 = .ok (.iload_n 1, 1) := by decide +kernel
theorem d_K_init_15 : decode c_K_init 15 = .ok (.iconst 4, 1) := by decide +kernel
theorem d_K_init_16 : decode c_K_init 16 = .ok (.if_icmp .ge 22, 3) := by decide +kernel
theorem d_K_init_19 : decode c_K_init 19 = .ok (.aload_n 0, 1) := by decide +kernel
theorem d_K_init_20 : decode c_K_init 20 = .ok (.getfield 11, 3) := by decide +kernel
theorem d_K_init_23 : decode c_K_init 23 = .ok (.iload_n 1, 1) := by decide +kernel
theorem d_K_init_24 : decode c_K_init 24 = .ok (.new 9, 3) := by decide +kernel
theorem d_K_init_27 : decode c_K_init 27 = .ok (.dup, 1) := by decide +kernel
theorem d_K_init_28 : decode c_K_init 28 = .ok (.invokespecial 17, 3) := by decide +kernel
theorem d_K_init_31 : decode c_K_init 31 = .ok (.aastore, 1) := by decide +kernel
theorem d_K_init_32 : decode c_K_init 32 = .ok (.iinc 1 1, 3) := by decide +kernel
theorem d_K_init_35 : decode c_K_init 35 = .ok (.goto (-21), 3) := by decide +kernel
theorem d_K_init_38 : decode c_K_init 38 = .ok (.return_, 1) := by decide +kernel
theorem d_K_become_0 : decode c_K_become 0 = .ok (.aload_n 0, 1) := by decide +kernel
theorem d_K_become_1 : decode c_K_become 1 = .ok (.iload_n 1, 1) := by decide +kernel
theorem d_K_become_2 : decode c_K_become 2 = .ok (.putfield 18, 3) := by decide +kernel
theorem d_K_become_5 : decode c_K_become 5 = .ok (.aload_n 0, 1) := by decide +kernel
theorem d_K_become_6 : decode c_K_become 6 = .ok (.iload_n 2, 1) := by decide +kernel
theorem d_K_become_7 : decode c_K_become 7 = .ok (.putfield 22, 3) := by decide +kernel
theorem d_K_become_10 : decode c_K_become 10 = .ok (.aload_n 0, 1) := by decide +kernel
theorem d_K_become_11 : decode c_K_become 11 = .ok (.getfield 11, 3) := by decide +kernel
theorem d_K_become_14 : decode c_K_become 14 = .ok (.iconst 0, 1) := by decide +kernel
theorem d_K_become_15 : decode c_K_become 15 = .ok (.aaload, 1) := by decide +kernel
theorem d_K_become_16 : decode c_K_become 16 = .ok (.aload_n 3, 1) := by decide +kernel
theorem d_K_become_17 : decode c_K_become 17 = .ok (.aload_n 3, 1) := by decide +kernel
theorem d_K_become_18 : decode c_K_become 18 = .ok (.getfield 25, 3) := by decide +kernel
theorem d_K_become_21 : decode c_K_become 21 = .ok (.ineg, 1) := by decide +kernel
theorem d_K_become_22 : decode c_K_become 22 = .ok (.aload_n 3, 1) := by decide +kernel
theorem d_K_become_23 : decode c_K_become 23 = .ok (.getfield 28, 3) := by decide +kernel
theorem d_K_become_26 : decode c_K_become 26 = .ok (.ineg, 1) := by decide +kernel
theorem d_K_become_27 : decode c_K_become 27 = .ok (.invokevirtual 31, 3) := by decide +kernel
theorem d_K_become_30 : decode c_K_become 30 = .ok (.iconst 1, 1) := by decide +kernel
theorem d_K_become_31 : decode c_K_become 31 = .ok (.istore 4, 2) := by decide +kernel
theorem d_K_become_33 : decode c_K_become 33 = .ok (.iload 4, 2) := by decide +kernel
theorem d_K_become_35 : decode c_K_become 35 = .ok (.iconst 4, 1) := by decide +kernel
theorem d_K_become_36 : decode c_K_become 36 = .ok (.if_icmp .ge 28, 3) := by decide +kernel
theorem d_K_become_39 : decode c_K_become 39 = .ok (.aload_n 0, 1) := by decide +kernel
theorem d_K_become_40 : decode c_K_become 40 = .ok (.getfield 11, 3) := by decide +kernel
theorem d_K_become_43 : decode c_K_become 43 = .ok (.iload 4, 2) := by decide +kernel
theorem d_K_become_45 : decode c_K_become 45 = .ok (.aaload, 1) := by decide +kernel
theorem d_K_become_46 : decode c_K_become 46 = .ok (.aload_n 0, 1) := by decide +kernel
theorem d_K_become_47 : decode c_K_become 47 = .ok (.getfield 11, 3) := by decide +kernel
theorem d_K_become_50 : decode c_K_become 50 = .ok (.iload 4, 2) := by decide +kernel
theorem d_K_become_52 : decode c_K_become 52 = .ok (.iconst 1, 1) := by decide +kernel
theorem d_K_become_53 : decode c_K_become 53 = .ok (.isub, 1) := by decide +kernel
theorem d_K_become_54 : decode c_K_become 54 = .ok (.aaload, 1) := by decide +kernel
theorem d_K_become_55 : decode c_K_become 55 = .ok (.invokevirtual 35, 3) := by decide +kernel
theorem d_K_become_58 : decode c_K_become 58 = .ok (.iinc 4 1, 3) := by decide +kernel
theorem d_K_become_61 : decode c_K_become 61 = .ok (.goto (-28), 3) := by decide +kernel
theorem d_K_become_64 : decode c_K_become 64 = .ok (.return_, 1) := by decide +kernel
theorem d_K_hasTurn_0 : decode c_K_hasTurn 0 = .ok (.aload_n 0, 1) := by decide +kernel
theorem d_K_hasTurn_1 : decode c_K_hasTurn 1 = .ok (.getfield 22, 3) := by decide +kernel
theorem d_K_hasTurn_4 : decode c_K_hasTurn 4 = .ok (.iload_n 1, 1) := by decide +kernel
theorem d_K_hasTurn_5 : decode c_K_hasTurn 5 = .ok (.ishr, 1) := by decide +kernel
theorem d_K_hasTurn_6 : decode c_K_hasTurn 6 = .ok (.iconst 1, 1) := by decide +kernel
theorem d_K_hasTurn_7 : decode c_K_hasTurn 7 = .ok (.iand, 1) := by decide +kernel
theorem d_K_hasTurn_8 : decode c_K_hasTurn 8 = .ok (.iconst 1, 1) := by decide +kernel
theorem d_K_hasTurn_9 : decode c_K_hasTurn 9 = .ok (.if_icmp .ne 7, 3) := by decide +kernel
theorem d_K_hasTurn_12 : decode c_K_hasTurn 12 = .ok (.iconst 1, 1) := by decide +kernel
theorem d_K_hasTurn_13 : decode c_K_hasTurn 13 = .ok (.goto 4, 3) := by decide +kernel
theorem d_K_hasTurn_16 : decode c_K_hasTurn 16 = .ok (.iconst 0, 1) := by decide +kernel
theorem d_K_hasTurn_17 : decode c_K_hasTurn 17 = .ok (.ireturn, 1) := by decide +kernel
