theorem d_S_init_0 : decode c_S_init 0 = .ok (.aload_n 0, 1) := by decide +kernel
theorem d_S_init_1 : decode c_S_init 1 = .ok (.invokespecial 3, 3) := by decide +kernel
theorem d_S_init_4 : decode c_S_init 4 = .ok (.aload_n 0, 1) := by decide +kernel
theorem d_S_init_5 : decode c_S_init 5 = .ok (.bipush 12, 2) := by decide +kernel
theorem d_S_init_7 : decode c_S_init 7 = .ok (.newarray .int, 2) := by decide +kernel
theorem d_S_init_9 : decode c_S_init 9 = .ok (.putfield 9, 3) := by decide +kernel
theorem d_S_init_12 : decode c_S_init 12 = .ok (.aload_n 0, 1) := by decide +kernel
theorem d_S_init_13 : decode c_S_init 13 = .ok (.bipush 12, 2) := by decide +kernel
theorem d_S_init_15 : decode c_S_init 15 = .ok (.newarray .int, 2) := by decide +kernel
theorem d_S_init_17 : decode c_S_init 17 = .ok (.putfield 15, 3) := by decide +kernel
theorem d_S_init_20 : decode c_S_init 20 = .ok (.return_, 1) := by decide +kernel
theorem d_S_empty_0 : decode c_S_empty 0 = .ok (.aload_n 0, 1) := by decide +kernel
theorem d_S_empty_1 : decode c_S_empty 1 = .ok (.iconst 0, 1) := by decide +kernel
theorem d_S_empty_2 : decode c_S_empty 2 = .ok (.putfield 18, 3) := by decide +kernel
theorem d_S_empty_5 : decode c_S_empty 5 = .ok (.return_, 1) := by decide +kernel
theorem d_S_add_0 : decode c_S_add 0 = .ok (.aload_n 0, 1) := by decide +kernel
theorem d_S_add_1 : decode c_S_add 1 = .ok (.getfield 18, 3) := by decide +kernel
theorem d_S_add_4 : decode c_S_add 4 = .ok (.bipush 12, 2) := by decide +kernel
theorem d_S_add_6 : decode c_S_add 6 = .ok (.if_icmp .lt 4, 3) := by decide +kernel
theorem d_S_add_9 : decode c_S_add 9 = .ok (.return_, 1) := by decide +kernel
theorem d_S_add_10 : decode c_S_add 10 = .ok (.aload_n 0, 1) := by decide +kernel
theorem d_S_add_11 : decode c_S_add 11 = .ok (.aload_n 0, 1) := by decide +kernel
theorem d_S_add_12 : decode c_S_add 12 = .ok (.getfield 18, 3) := by decide +kernel
theorem d_S_add_15 : decode c_S_add 15 = .ok (.ifCond .ne 7, 3) := by decide +kernel
theorem d_S_add_18 : decode c_S_add 18 = .ok (.iload_n 1, 1) := by decide +kernel
theorem d_S_add_19 : decode c_S_add 19 = .ok (.goto 11, 3) := by decide +kernel
theorem d_S_add_22 : decode c_S_add 22 = .ok (.aload_n 0, 1) := by decide +kernel
theorem d_S_add_23 : decode c_S_add 23 = .ok (.getfield 22, 3) := by decide +kernel
theorem d_S_add_26 : decode c_S_add 26 = .ok (.iload_n 1, 1) := by decide +kernel
theorem d_S_add_27 : decode c_S_add 27 = .ok (.invokestatic 25, 3) := by decide +kernel
theorem d_S_add_30 : decode c_S_add 30 = .ok (.putfield 22, 3) := by decide +kernel
theorem d_S_add_33 : decode c_S_add 33 = .ok (.aload_n 0, 1) := by decide +kernel
theorem d_S_add_34 : decode c_S_add 34 = .ok (.aload_n 0, 1) := by decide +kernel
theorem d_S_add_35 : decode c_S_add 35 = .ok (.getfield 18, 3) := by decide +kernel
theorem d_S_add_38 : decode c_S_add 38 = .ok (.ifCond .ne 7, 3) := by decide +kernel
theorem d_S_add_41 : decode c_S_add 41 = .ok (.iload_n 1, 1) := by decide +kernel
theorem d_S_add_42 : decode c_S_add 42 = .ok (.goto 11, 3) := by decide +kernel
theorem d_S_add_45 : decode c_S_add 45 = .ok (.aload_n 0, 1) := by decide +kernel
theorem d_S_add_46 : decode c_S_add 46 = .ok (.getfield 31, 3) := by decide +kernel
theorem d_S_add_49 : decode c_S_add 49 = .ok (.iload_n 1, 1) := by decide +kernel
theorem d_S_add_50 : decode c_S_add 50 = .ok (.invokestatic 34, 3) := by decide +kernel
theorem d_S_add_53 : decode c_S_add 53 = .ok (.putfield 31, 3) := by decide +kernel
theorem d_S_add_56 : decode c_S_add 56 = .ok (.aload_n 0, 1) := by decide +kernel
theorem d_S_add_57 : decode c_S_add 57 = .ok (.aload_n 0, 1) := by decide +kernel
theorem d_S_add_58 : decode c_S_add 58 = .ok (.getfield 18, 3) := by decide +kernel
theorem d_S_add_61 : decode c_S_add 61 = .ok (.ifCond .ne 7, 3) := by decide +kernel
theorem d_S_add_64 : decode c_S_add 64 = .ok (.iload_n 2, 1) := by decide +kernel
theorem d_S_add_65 : decode c_S_add 65 = .ok (.goto 11, 3) := by decide +kernel
theorem d_S_add_68 : decode c_S_add 68 = .ok (.aload_n 0, 1) := by decide +kernel
theorem d_S_add_69 : decode c_S_add 69 = .ok (.getfield 37, 3) := by decide +kernel
theorem d_S_add_72 : decode c_S_add 72 = .ok (.iload_n 2, 1) := by decide +kernel
theorem d_S_add_73 : decode c_S_add 73 = .ok (.invokestatic 25, 3) := by decide +kernel
theorem d_S_add_76 : decode c_S_add 76 = .ok (.putfield 37, 3) := by decide +kernel
theorem d_S_add_79 : decode c_S_add 79 = .ok (.aload_n 0, 1) := by decide +kernel
theorem d_S_add_80 : decode c_S_add 80 = .ok (.aload_n 0, 1) := by decide +kernel
theorem d_S_add_81 : decode c_S_add 81 = .ok (.getfield 18, 3) := by decide +kernel
theorem d_S_add_84 : decode c_S_add 84 = .ok (.ifCond .ne 7, 3) := by decide +kernel
theorem d_S_add_87 : decode c_S_add 87 = .ok (.iload_n 2, 1) := by decide +kernel
theorem d_S_add_88 : decode c_S_add 88 = .ok (.goto 11, 3) := by decide +kernel
theorem d_S_add_91 : decode c_S_add 91 = .ok (.aload_n 0, 1) := by decide +kernel
theorem d_S_add_92 : decode c_S_add 92 = .ok (.getfield 40, 3) := by decide +kernel
theorem d_S_add_95 : decode c_S_add 95 = .ok (.iload_n 2, 1) := by decide +kernel
theorem d_S_add_96 : decode c_S_add 96 = .ok (.invokestatic 34, 3) := by decide +kernel
theorem d_S_add_99 : decode c_S_add 99 = .ok (.putfield 40, 3) := by decide +kernel
theorem d_S_add_102 : decode c_S_add 102 = .ok (.aload_n 0, 1) := by decide +kernel
theorem d_S_add_103 : decode c_S_add 103 = .ok (.getfield 9, 3) := by decide +kernel
theorem d_S_add_106 : decode c_S_add 106 = .ok (.aload_n 0, 1) := by decide +kernel
theorem d_S_add_107 : decode c_S_add 107 = .ok (.getfield 18, 3) := by decide +kernel
theorem d_S_add_110 : decode c_S_add 110 = .ok (.iload_n 1, 1) := by decide +kernel
theorem d_S_add_111 : decode c_S_add 111 = .ok (.iastore, 1) := by decide +kernel
theorem d_S_add_112 : decode c_S_add 112 = .ok (.aload_n 0, 1) := by decide +kernel
theorem d_S_add_113 : decode c_S_add 113 = .ok (.getfield 15, 3) := by decide +kernel
theorem d_S_add_116 : decode c_S_add 116 = .ok (.aload_n 0, 1) := by decide +kernel
theorem d_S_add_117 : decode c_S_add 117 = .ok (.getfield 18, 3) := by decide +kernel
theorem d_S_add_120 : decode c_S_add 120 = .ok (.iload_n 2, 1) := by decide +kernel
theorem d_S_add_121 : decode c_S_add 121 = .ok (.iastore, 1) := by decide +kernel
theorem d_S_add_122 : decode c_S_add 122 = .ok (.aload_n 0, 1) := by decide +kernel
theorem d_S_add_123 : decode c_S_add 123 = .ok (.dup, 1) := by decide +kernel
theorem d_S_add_124 : decode c_S_add 124 = .ok (.getfield 18, 3) := by decide +kernel
theorem d_S_add_127 : decode c_S_add 127 = .ok (.iconst 1, 1) := by decide +kernel
theorem d_S_add_128 : decode c_S_add 128 = .ok (.iadd, 1) := by decide +kernel
theorem d_S_add_129 : decode c_S_add 129 = .ok (.putfield 18, 3) := by decide +kernel
theorem d_S_add_132 : decode c_S_add 132 = .ok (.return_, 1) := by decide +kernel
theorem d_S_copy_0 : decode c_S_copy 0 = .ok (.aload_n 0, 1) := by decide +kernel
theorem d_S_copy_1 : decode c_S_copy 1 = .ok (.invokevirtual 43, 3) := by decide +kernel
theorem d_S_copy_4 : decode c_S_copy 4 = .ok (.iconst 0, 1) := by decide +kernel
theorem d_S_copy_5 : decode c_S_copy 5 = .ok (.istore 4, 2) := by decide +kernel
theorem d_S_copy_7 : decode c_S_copy 7 = .ok (.iload 4, 2) := by decide +kernel
theorem d_S_copy_9 : decode c_S_copy 9 = .ok (.aload_n 1, 1) := by decide +kernel
theorem d_S_copy_10 : decode c_S_copy 10 = .ok (.getfield 18, 3) := by decide +kernel
theorem d_S_copy_13 : decode c_S_copy 13 = .ok (.if_icmp .ge 31, 3) := by decide +kernel
theorem d_S_copy_16 : decode c_S_copy 16 = .ok (.aload_n 0, 1) := by decide +kernel
theorem d_S_copy_17 : decode c_S_copy 17 = .ok (.aload_n 1, 1) := by decide +kernel
theorem d_S_copy_18 : decode c_S_copy 18 = .ok (.getfield 9, 3) := by decide +kernel
theorem d_S_copy_21 : decode c_S_copy 21 = .ok (.iload 4, 2) := by decide +kernel
theorem d_S_copy_23 : decode c_S_copy 23 = .ok (.iaload, 1) := by decide +kernel
theorem d_S_copy_24 : decode c_S_copy 24 = .ok (.iload_n 2, 1) := by decide +kernel
theorem d_S_copy_25 : decode c_S_copy 25 = .ok (.iadd, 1) := by decide +kernel
theorem d_S_copy_26 : decode c_S_copy 26 = .ok (.aload_n 1, 1) := by decide +kernel
theorem d_S_copy_27 : decode c_S_copy 27 = .ok (.getfield 15, 3) := by decide +kernel
theorem d_S_copy_30 : decode c_S_copy 30 = .ok (.iload 4, 2) := by decide +kernel
theorem d_S_copy_32 : decode c_S_copy 32 = .ok (.iaload, 1) := by decide +kernel
theorem d_S_copy_33 : decode c_S_copy 33 = .ok (.iload_n 3, 1) := by decide +kernel
theorem d_S_copy_34 : decode c_S_copy 34 = .ok (.iadd, 1) := by decide +kernel
theorem d_S_copy_35 : decode c_S_copy 35 = .ok (.invokevirtual 46, 3) := by decide +kernel
theorem d_S_copy_38 : decode c_S_copy 38 = .ok (.iinc 4 1, 3) := by decide +kernel
theorem d_S_copy_41 : decode c_S_copy 41 = .ok (.goto (-34), 3) := by decide +kernel
theorem d_S_copy_44 : decode c_S_copy 44 = .ok (.return_, 1) := by decide +kernel
theorem d_S_copyLeftward_0 : decode c_S_copyLeftward 0 = .ok (.aload_n 1, 1) := by decide +kernel
theorem d_S_copyLeftward_1 : decode c_S_copyLeftward 1 = .ok (.invokevirtual 50, 3) := by decide +kernel
theorem d_S_copyLeftward_4 : decode c_S_copyLeftward 4 = .ok (.ifCond .le 11, 3) := by decide +kernel
theorem d_S_copyLeftward_7 : decode c_S_copyLeftward 7 = .ok (.aload_n 0, 1) := by decide +kernel
theorem d_S_copyLeftward_8 : decode c_S_copyLeftward 8 = .ok (.aload_n 1, 1) := by decide +kernel
theorem d_S_copyLeftward_9 : decode c_S_copyLeftward 9 = .ok (.iload_n 2, 1) := by decide +kernel
theorem d_S_copyLeftward_10 : decode c_S_copyLeftward 10 = .ok (.iload_n 3, 1) := by decide +kernel
theorem d_S_copyLeftward_11 : decode c_S_copyLeftward 11 = .ok (.invokevirtual 54, 3) := by decide +kernel
theorem d_S_copyLeftward_14 : decode c_S_copyLeftward 14 = .ok (.return_, 1) := by decide +kernel
theorem d_S_copyLeftward_15 : decode c_S_copyLeftward 15 = .ok (.aload_n 0, 1) := by decide +kernel
theorem d_S_copyLeftward_16 : decode c_S_copyLeftward 16 = .ok (.invokevirtual 43, 3) := by decide +kernel
theorem d_S_copyLeftward_19 : decode c_S_copyLeftward 19 = .ok (.aload_n 1, 1) := by decide +kernel
theorem d_S_copyLeftward_20 : decode c_S_copyLeftward 20 = .ok (.getfield 18, 3) := by decide +kernel
theorem d_S_copyLeftward_23 : decode c_S_copyLeftward 23 = .ok (.iconst 1, 1) := by decide +kernel
theorem d_S_copyLeftward_24 : decode c_S_copyLeftward 24 = .ok (.isub, 1) := by decide +kernel
theorem d_S_copyLeftward_25 : decode c_S_copyLeftward 25 = .ok (.istore 4, 2) := by decide +kernel
theorem d_S_copyLeftward_27 : decode c_S_copyLeftward 27 = .ok (.iload 4, 2) := by decide +kernel
theorem d_S_copyLeftward_29 : decode c_S_copyLeftward 29 = .ok (.ifCond .lt 31, 3) := by decide +kernel
theorem d_S_copyLeftward_32 : decode c_S_copyLeftward 32 = .ok (.aload_n 0, 1) := by decide +kernel
theorem d_S_copyLeftward_33 : decode c_S_copyLeftward 33 = .ok (.aload_n 1, 1) := by decide +kernel
theorem d_S_copyLeftward_34 : decode c_S_copyLeftward 34 = .ok (.getfield 9, 3) := by decide +kernel
theorem d_S_copyLeftward_37 : decode c_S_copyLeftward 37 = .ok (.iload 4, 2) := by decide +kernel
theorem d_S_copyLeftward_39 : decode c_S_copyLeftward 39 = .ok (.iaload, 1) := by decide +kernel
theorem d_S_copyLeftward_40 : decode c_S_copyLeftward 40 = .ok (.iload_n 2, 1) := by decide +kernel
theorem d_S_copyLeftward_41 : decode c_S_copyLeftward 41 = .ok (.iadd, 1) := by decide +kernel
theorem d_S_copyLeftward_42 : decode c_S_copyLeftward 42 = .ok (.aload_n 1, 1) := by decide +kernel
theorem d_S_copyLeftward_43 : decode c_S_copyLeftward 43 = .ok (.getfield 15, 3) := by decide +kernel
theorem d_S_copyLeftward_46 : decode c_S_copyLeftward 46 = .ok (.iload 4, 2) := by decide +kernel
theorem d_S_copyLeftward_48 : decode c_S_copyLeftward 48 = .ok (.iaload, 1) := by decide +kernel
theorem d_S_copyLeftward_49 : decode c_S_copyLeftward 49 = .ok (.iload_n 3, 1) := by decide +kernel
theorem d_S_copyLeftward_50 : decode c_S_copyLeftward 50 = .ok (.iadd, 1) := by decide +kernel
theorem d_S_copyLeftward_51 : decode c_S_copyLeftward 51 = .ok (.invokevirtual 46, 3) := by decide +kernel
theorem d_S_copyLeftward_54 : decode c_S_copyLeftward 54 = .ok (.iinc 4 (-1), 3) := by decide +kernel
theorem d_S_copyLeftward_57 : decode c_S_copyLeftward 57 = .ok (.goto (-30), 3) := by decide +kernel
theorem d_S_copyLeftward_60 : decode c_S_copyLeftward 60 = .ok (.return_, 1) := by decide +kernel
theorem d_S_copyTurned_0 : decode c_S_copyTurned 0 = .ok (.aload_n 0, 1) := by decide +kernel
theorem d_S_copyTurned_1 : decode c_S_copyTurned 1 = .ok (.invokevirtual 43, 3) := by decide +kernel
theorem d_S_copyTurned_4 : decode c_S_copyTurned 4 = .ok (.iconst 0, 1) := by decide +kernel
theorem d_S_copyTurned_5 : decode c_S_copyTurned 5 = .ok (.istore_n 2, 1) := by decide +kernel
theorem d_S_copyTurned_6 : decode c_S_copyTurned 6 = .ok (.iload_n 2, 1) := by decide +kernel
theorem d_S_copyTurned_7 : decode c_S_copyTurned 7 = .ok (.aload_n 1, 1) := by decide +kernel
theorem d_S_copyTurned_8 : decode c_S_copyTurned 8 = .ok (.getfield 18, 3) := by decide +kernel
theorem d_S_copyTurned_11 : decode c_S_copyTurned 11 = .ok (.if_icmp .ge 35, 3) := by decide +kernel
theorem d_S_copyTurned_14 : decode c_S_copyTurned 14 = .ok (.aload_n 0, 1) := by decide +kernel
theorem d_S_copyTurned_15 : decode c_S_copyTurned 15 = .ok (.aload_n 1, 1) := by decide +kernel
theorem d_S_copyTurned_16 : decode c_S_copyTurned 16 = .ok (.getfield 40, 3) := by decide +kernel
theorem d_S_copyTurned_19 : decode c_S_copyTurned 19 = .ok (.aload_n 1, 1) := by decide +kernel
theorem d_S_copyTurned_20 : decode c_S_copyTurned 20 = .ok (.getfield 15, 3) := by decide +kernel
theorem d_S_copyTurned_23 : decode c_S_copyTurned 23 = .ok (.iload_n 2, 1) := by decide +kernel
theorem d_S_copyTurned_24 : decode c_S_copyTurned 24 = .ok (.iaload, 1) := by decide +kernel
theorem d_S_copyTurned_25 : decode c_S_copyTurned 25 = .ok (.isub, 1) := by decide +kernel
theorem d_S_copyTurned_26 : decode c_S_copyTurned 26 = .ok (.aload_n 1, 1) := by decide +kernel
theorem d_S_copyTurned_27 : decode c_S_copyTurned 27 = .ok (.getfield 9, 3) := by decide +kernel
theorem d_S_copyTurned_30 : decode c_S_copyTurned 30 = .ok (.iload_n 2, 1) := by decide +kernel
theorem d_S_copyTurned_31 : decode c_S_copyTurned 31 = .ok (.iaload, 1) := by decide +kernel
theorem d_S_copyTurned_32 : decode c_S_copyTurned 32 = .ok (.aload_n 1, 1) := by decide +kernel
theorem d_S_copyTurned_33 : decode c_S_copyTurned 33 = .ok (.getfield 22, 3) := by decide +kernel
theorem d_S_copyTurned_36 : decode c_S_copyTurned 36 = .ok (.isub, 1) := by decide +kernel
theorem d_S_copyTurned_37 : decode c_S_copyTurned 37 = .ok (.invokevirtual 46, 3) := by decide +kernel
theorem d_S_copyTurned_40 : decode c_S_copyTurned 40 = .ok (.iinc 2 1, 3) := by decide +kernel
theorem d_S_copyTurned_43 : decode c_S_copyTurned 43 = .ok (.goto (-37), 3) := by decide +kernel
theorem d_S_copyTurned_46 : decode c_S_copyTurned 46 = .ok (.return_, 1) := by decide +kernel
theorem d_S_next_0 : decode c_S_next 0 = .ok (.iload_n 1, 1) := by decide +kernel
theorem d_S_next_1 : decode c_S_next 1 = .ok (.iconst 1, 1) := by decide +kernel
theorem d_S_next_2 : decode c_S_next 2 = .ok (.iadd, 1) := by decide +kernel
theorem d_S_next_3 : decode c_S_next 3 = .ok (.aload_n 0, 1) := by decide +kernel
theorem d_S_next_4 : decode c_S_next 4 = .ok (.getfield 18, 3) := by decide +kernel
theorem d_S_next_7 : decode c_S_next 7 = .ok (.if_icmp .ge 9, 3) := by decide +kernel
theorem d_S_next_10 : decode c_S_next 10 = .ok (.iload_n 1, 1) := by decide +kernel
theorem d_S_next_11 : decode c_S_next 11 = .ok (.iconst 1, 1) := by decide +kernel
theorem d_S_next_12 : decode c_S_next 12 = .ok (.iadd, 1) := by decide +kernel
theorem d_S_next_13 : decode c_S_next 13 = .ok (.goto 4, 3) := by decide +kernel
theorem d_S_next_16 : decode c_S_next 16 = .ok (.iconst 0, 1) := by decide +kernel
theorem d_S_next_17 : decode c_S_next 17 = .ok (.ireturn, 1) := by decide +kernel
theorem d_S_doubleArea_0 : decode c_S_doubleArea 0 = .ok (.iconst 0, 1) := by decide +kernel
theorem d_S_doubleArea_1 : decode c_S_doubleArea 1 = .ok (.istore_n 1, 1) := by decide +kernel
theorem d_S_doubleArea_2 : decode c_S_doubleArea 2 = .ok (.iconst 0, 1) := by decide +kernel
theorem d_S_doubleArea_3 : decode c_S_doubleArea 3 = .ok (.istore_n 2, 1) := by decide +kernel
theorem d_S_doubleArea_4 : decode c_S_doubleArea 4 = .ok (.iload_n 2, 1) := by decide +kernel
theorem d_S_doubleArea_5 : decode c_S_doubleArea 5 = .ok (.aload_n 0, 1) := by decide +kernel
theorem d_S_doubleArea_6 : decode c_S_doubleArea 6 = .ok (.getfield 18, 3) := by decide +kernel
theorem d_S_doubleArea_9 : decode c_S_doubleArea 9 = .ok (.if_icmp .ge 45, 3) := by decide +kernel
theorem d_S_doubleArea_12 : decode c_S_doubleArea 12 = .ok (.aload_n 0, 1) := by decide +kernel
theorem d_S_doubleArea_13 : decode c_S_doubleArea 13 = .ok (.iload_n 2, 1) := by decide +kernel
theorem d_S_doubleArea_14 : decode c_S_doubleArea 14 = .ok (.invokevirtual 58, 3) := by decide +kernel
theorem d_S_doubleArea_17 : decode c_S_doubleArea 17 = .ok (.istore_n 3, 1) := by decide +kernel
theorem d_S_doubleArea_18 : decode c_S_doubleArea 18 = .ok (.iload_n 1, 1) := by decide +kernel
theorem d_S_doubleArea_19 : decode c_S_doubleArea 19 = .ok (.aload_n 0, 1) := by decide +kernel
theorem d_S_doubleArea_20 : decode c_S_doubleArea 20 = .ok (.getfield 9, 3) := by decide +kernel
theorem d_S_doubleArea_23 : decode c_S_doubleArea 23 = .ok (.iload_n 2, 1) := by decide +kernel
theorem d_S_doubleArea_24 : decode c_S_doubleArea 24 = .ok (.iaload, 1) := by decide +kernel
theorem d_S_doubleArea_25 : decode c_S_doubleArea 25 = .ok (.aload_n 0, 1) := by decide +kernel
theorem d_S_doubleArea_26 : decode c_S_doubleArea 26 = .ok (.getfield 15, 3) := by decide +kernel
theorem d_S_doubleArea_29 : decode c_S_doubleArea 29 = .ok (.iload_n 3, 1) := by decide +kernel
theorem d_S_doubleArea_30 : decode c_S_doubleArea 30 = .ok (.iaload, 1) := by decide +kernel
theorem d_S_doubleArea_31 : decode c_S_doubleArea 31 = .ok (.imul, 1) := by decide +kernel
theorem d_S_doubleArea_32 : decode c_S_doubleArea 32 = .ok (.aload_n 0, 1) := by decide +kernel
theorem d_S_doubleArea_33 : decode c_S_doubleArea 33 = .ok (.getfield 9, 3) := by decide +kernel
theorem d_S_doubleArea_36 : decode c_S_doubleArea 36 = .ok (.iload_n 3, 1) := by decide +kernel
theorem d_S_doubleArea_37 : decode c_S_doubleArea 37 = .ok (.iaload, 1) := by decide +kernel
theorem d_S_doubleArea_38 : decode c_S_doubleArea 38 = .ok (.aload_n 0, 1) := by decide +kernel
theorem d_S_doubleArea_39 : decode c_S_doubleArea 39 = .ok (.getfield 15, 3) := by decide +kernel
theorem d_S_doubleArea_42 : decode c_S_doubleArea 42 = .ok (.iload_n 2, 1) := by decide +kernel
theorem d_S_doubleArea_43 : decode c_S_doubleArea 43 = .ok (.iaload, 1) := by decide +kernel
theorem d_S_doubleArea_44 : decode c_S_doubleArea 44 = .ok (.imul, 1) := by decide +kernel
theorem d_S_doubleArea_45 : decode c_S_doubleArea 45 = .ok (.isub, 1) := by decide +kernel
theorem d_S_doubleArea_46 : decode c_S_doubleArea 46 = .ok (.iadd, 1) := by decide +kernel
theorem d_S_doubleArea_47 : decode c_S_doubleArea 47 = .ok (.istore_n 1, 1) := by decide +kernel
theorem d_S_doubleArea_48 : decode c_S_doubleArea 48 = .ok (.iinc 2 1, 3) := by decide +kernel
theorem d_S_doubleArea_51 : decode c_S_doubleArea 51 = .ok (.goto (-47), 3) := by decide +kernel
theorem d_S_doubleArea_54 : decode c_S_doubleArea 54 = .ok (.iload_n 1, 1) := by decide +kernel
theorem d_S_doubleArea_55 : decode c_S_doubleArea 55 = .ok (.ireturn, 1) := by decide +kernel
theorem d_S_beside_0 : decode c_S_beside 0 = .ok (.iload_n 1, 1) := by decide +kernel
theorem d_S_beside_1 : decode c_S_beside 1 = .ok (.iconst 1, 1) := by decide +kernel
theorem d_S_beside_2 : decode c_S_beside 2 = .ok (.iadd, 1) := by decide +kernel
theorem d_S_beside_3 : decode c_S_beside 3 = .ok (.aload_n 0, 1) := by decide +kernel
theorem d_S_beside_4 : decode c_S_beside 4 = .ok (.getfield 18, 3) := by decide +kernel
theorem d_S_beside_7 : decode c_S_beside 7 = .ok (.if_icmp .ge 9, 3) := by decide +kernel
theorem d_S_beside_10 : decode c_S_beside 10 = .ok (.iload_n 1, 1) := by decide +kernel
theorem d_S_beside_11 : decode c_S_beside 11 = .ok (.iconst 1, 1) := by decide +kernel
theorem d_S_beside_12 : decode c_S_beside 12 = .ok (.iadd, 1) := by decide +kernel
theorem d_S_beside_13 : decode c_S_beside 13 = .ok (.goto 4, 3) := by decide +kernel
theorem d_S_beside_16 : decode c_S_beside 16 = .ok (.iconst 0, 1) := by decide +kernel
theorem d_S_beside_17 : decode c_S_beside 17 = .ok (.istore 4, 2) := by decide +kernel
theorem d_S_beside_19 : decode c_S_beside 19 = .ok (.aload_n 0, 1) := by decide +kernel
theorem d_S_beside_20 : decode c_S_beside 20 = .ok (.getfield 9, 3) := by decide +kernel
theorem d_S_beside_23 : decode c_S_beside 23 = .ok (.iload 4, 2) := by decide +kernel
theorem d_S_beside_25 : decode c_S_beside 25 = .ok (.iaload, 1) := by decide +kernel
theorem d_S_beside_26 : decode c_S_beside 26 = .ok (.aload_n 0, 1) := by decide +kernel
theorem d_S_beside_27 : decode c_S_beside 27 = .ok (.getfield 9, 3) := by decide +kernel
theorem d_S_beside_30 : decode c_S_beside 30 = .ok (.iload_n 1, 1) := by decide +kernel
theorem d_S_beside_31 : decode c_S_beside 31 = .ok (.iaload, 1) := by decide +kernel
theorem d_S_beside_32 : decode c_S_beside 32 = .ok (.isub, 1) := by decide +kernel
theorem d_S_beside_33 : decode c_S_beside 33 = .ok (.iload_n 3, 1) := by decide +kernel
theorem d_S_beside_34 : decode c_S_beside 34 = .ok (.aload_n 0, 1) := by decide +kernel
theorem d_S_beside_35 : decode c_S_beside 35 = .ok (.getfield 15, 3) := by decide +kernel
theorem d_S_beside_38 : decode c_S_beside 38 = .ok (.iload_n 1, 1) := by decide +kernel
theorem d_S_beside_39 : decode c_S_beside 39 = .ok (.iaload, 1) := by decide +kernel
theorem d_S_beside_40 : decode c_S_beside 40 = .ok (.isub, 1) := by decide +kernel
theorem d_S_beside_41 : decode c_S_beside 41 = .ok (.imul, 1) := by decide +kernel
theorem d_S_beside_42 : decode c_S_beside 42 = .ok (.aload_n 0, 1) := by decide +kernel
theorem d_S_beside_43 : decode c_S_beside 43 = .ok (.getfield 15, 3) := by decide +kernel
theorem d_S_beside_46 : decode c_S_beside 46 = .ok (.iload 4, 2) := by decide +kernel
theorem d_S_beside_48 : decode c_S_beside 48 = .ok (.iaload, 1) := by decide +kernel
theorem d_S_beside_49 : decode c_S_beside 49 = .ok (.aload_n 0, 1) := by decide +kernel
theorem d_S_beside_50 : decode c_S_beside 50 = .ok (.getfield 15, 3) := by decide +kernel
theorem d_S_beside_53 : decode c_S_beside 53 = .ok (.iload_n 1, 1) := by decide +kernel
theorem d_S_beside_54 : decode c_S_beside 54 = .ok (.iaload, 1) := by decide +kernel
theorem d_S_beside_55 : decode c_S_beside 55 = .ok (.isub, 1) := by decide +kernel
theorem d_S_beside_56 : decode c_S_beside 56 = .ok (.iload_n 2, 1) := by decide +kernel
theorem d_S_beside_57 : decode c_S_beside 57 = .ok (.aload_n 0, 1) := by decide +kernel
theorem d_S_beside_58 : decode c_S_beside 58 = .ok (.getfield 9, 3) := by decide +kernel
theorem d_S_beside_61 : decode c_S_beside 61 = .ok (.iload_n 1, 1) := by decide +kernel
theorem d_S_beside_62 : decode c_S_beside 62 = .ok (.iaload, 1) := by decide +kernel
theorem d_S_beside_63 : decode c_S_beside 63 = .ok (.isub, 1) := by decide +kernel
theorem d_S_beside_64 : decode c_S_beside 64 = .ok (.imul, 1) := by decide +kernel
theorem d_S_beside_65 : decode c_S_beside 65 = .ok (.isub, 1) := by decide +kernel
theorem d_S_beside_66 : decode c_S_beside 66 = .ok (.ireturn, 1) := by decide +kernel
theorem d_S_isRound_0 : decode c_S_isRound 0 = .ok (.aload_n 0, 1) := by decide +kernel
theorem d_S_isRound_1 : decode c_S_isRound 1 = .ok (.getfield 18, 3) := by decide +kernel
theorem d_S_isRound_4 : decode c_S_isRound 4 = .ok (.iconst 3, 1) := by decide +kernel
theorem d_S_isRound_5 : decode c_S_isRound 5 = .ok (.if_icmp .lt 12, 3) := by decide +kernel
theorem d_S_isRound_8 : decode c_S_isRound 8 = .ok (.aload_n 0, 1) := by decide +kernel
theorem d_S_isRound_9 : decode c_S_isRound 9 = .ok (.getfield 18, 3) := by decide +kernel
theorem d_S_isRound_12 : decode c_S_isRound 12 = .ok (.bipush 6, 2) := by decide +kernel
theorem d_S_isRound_14 : decode c_S_isRound 14 = .ok (.if_icmp .le 5, 3) := by decide +kernel
theorem d_S_isRound_17 : decode c_S_isRound 17 = .ok (.iconst 0, 1) := by decide +kernel
theorem d_S_isRound_18 : decode c_S_isRound 18 = .ok (.ireturn, 1) := by decide +kernel
theorem d_S_isRound_19 : decode c_S_isRound 19 = .ok (.aload_n 0, 1) := by decide +kernel
theorem d_S_isRound_20 : decode c_S_isRound 20 = .ok (.iconst 0, 1) := by decide +kernel
theorem d_S_isRound_21 : decode c_S_isRound 21 = .ok (.aload_n 0, 1) := by decide +kernel
theorem d_S_isRound_22 : decode c_S_isRound 22 = .ok (.getfield 9, 3) := by decide +kernel
theorem d_S_isRound_25 : decode c_S_isRound 25 = .ok (.iconst 2, 1) := by decide +kernel
theorem d_S_isRound_26 : decode c_S_isRound 26 = .ok (.iaload, 1) := by decide +kernel
theorem d_S_isRound_27 : decode c_S_isRound 27 = .ok (.aload_n 0, 1) := by decide +kernel
theorem d_S_isRound_28 : decode c_S_isRound 28 = .ok (.getfield 15, 3) := by decide +kernel
theorem d_S_isRound_31 : decode c_S_isRound 31 = .ok (.iconst 2, 1) := by decide +kernel
theorem d_S_isRound_32 : decode c_S_isRound 32 = .ok (.iaload, 1) := by decide +kernel
theorem d_S_isRound_33 : decode c_S_isRound 33 = .ok (.invokevirtual 62, 3) := by decide +kernel
theorem d_S_isRound_36 : decode c_S_isRound 36 = .ok (.ifCond .le 7, 3) := by decide +kernel
theorem d_S_isRound_39 : decode c_S_isRound 39 = .ok (.iconst 1, 1) := by decide +kernel
theorem d_S_isRound_40 : decode c_S_isRound 40 = .ok (.goto 4, 3) := by decide +kernel
theorem d_S_isRound_43 : decode c_S_isRound 43 = .ok (.iconst (-1), 1) := by decide +kernel
theorem d_S_isRound_44 : decode c_S_isRound 44 = .ok (.istore_n 1, 1) := by decide +kernel
theorem d_S_isRound_45 : decode c_S_isRound 45 = .ok (.iconst 0, 1) := by decide +kernel
theorem d_S_isRound_46 : decode c_S_isRound 46 = .ok (.istore_n 2, 1) := by decide +kernel
theorem d_S_isRound_47 : decode c_S_isRound 47 = .ok (.iload_n 2, 1) := by decide +kernel
theorem d_S_isRound_48 : decode c_S_isRound 48 = .ok (.aload_n 0, 1) := by decide +kernel
theorem d_S_isRound_49 : decode c_S_isRound 49 = .ok (.getfield 18, 3) := by decide +kernel
theorem d_S_isRound_52 : decode c_S_isRound 52 = .ok (.if_icmp .ge 75, 3) := by decide +kernel
theorem d_S_isRound_55 : decode c_S_isRound 55 = .ok (.iconst 0, 1) := by decide +kernel
theorem d_S_isRound_56 : decode c_S_isRound 56 = .ok (.istore_n 3, 1) := by decide +kernel
theorem d_S_isRound_57 : decode c_S_isRound 57 = .ok (.iload_n 3, 1) := by decide +kernel
theorem d_S_isRound_58 : decode c_S_isRound 58 = .ok (.aload_n 0, 1) := by decide +kernel
theorem d_S_isRound_59 : decode c_S_isRound 59 = .ok (.getfield 18, 3) := by decide +kernel
theorem d_S_isRound_62 : decode c_S_isRound 62 = .ok (.if_icmp .ge 59, 3) := by decide +kernel
theorem d_S_isRound_65 : decode c_S_isRound 65 = .ok (.iload_n 3, 1) := by decide +kernel
theorem d_S_isRound_66 : decode c_S_isRound 66 = .ok (.iload_n 2, 1) := by decide +kernel
theorem d_S_isRound_67 : decode c_S_isRound 67 = .ok (.if_icmp .eq 12, 3) := by decide +kernel
theorem d_S_isRound_70 : decode c_S_isRound 70 = .ok (.iload_n 3, 1) := by decide +kernel
theorem d_S_isRound_71 : decode c_S_isRound 71 = .ok (.aload_n 0, 1) := by decide +kernel
theorem d_S_isRound_72 : decode c_S_isRound 72 = .ok (.iload_n 2, 1) := by decide +kernel
theorem d_S_isRound_73 : decode c_S_isRound 73 = .ok (.invokevirtual 58, 3) := by decide +kernel
theorem d_S_isRound_76 : decode c_S_isRound 76 = .ok (.if_icmp .ne 7, 3) := by decide +kernel
theorem d_S_isRound_79 : decode c_S_isRound 79 = .ok (.iconst 1, 1) := by decide +kernel
theorem d_S_isRound_80 : decode c_S_isRound 80 = .ok (.goto 4, 3) := by decide +kernel
theorem d_S_isRound_83 : decode c_S_isRound 83 = .ok (.iconst 0, 1) := by decide +kernel
theorem d_S_isRound_84 : decode c_S_isRound 84 = .ok (.istore 4, 2) := by decide +kernel
theorem d_S_isRound_86 : decode c_S_isRound 86 = .ok (.iload 4, 2) := by decide +kernel
theorem d_S_isRound_88 : decode c_S_isRound 88 = .ok (.ifCond .ne 27, 3) := by decide +kernel
theorem d_S_isRound_91 : decode c_S_isRound 91 = .ok (.iload_n 1, 1) := by decide +kernel
theorem d_S_isRound_92 : decode c_S_isRound 92 = .ok (.aload_n 0, 1) := by decide +kernel
theorem d_S_isRound_93 : decode c_S_isRound 93 = .ok (.iload_n 2, 1) := by decide +kernel
theorem d_S_isRound_94 : decode c_S_isRound 94 = .ok (.aload_n 0, 1) := by decide +kernel
theorem d_S_isRound_95 : decode c_S_isRound 95 = .ok (.getfield 9, 3) := by decide +kernel
theorem d_S_isRound_98 : decode c_S_isRound 98 = .ok (.iload_n 3, 1) := by decide +kernel
theorem d_S_isRound_99 : decode c_S_isRound 99 = .ok (.iaload, 1) := by decide +kernel
theorem d_S_isRound_100 : decode c_S_isRound 100 = .ok (.aload_n 0, 1) := by decide +kernel
theorem d_S_isRound_101 : decode c_S_isRound 101 = .ok (.getfield 15, 3) := by decide +kernel
theorem d_S_isRound_104 : decode c_S_isRound 104 = .ok (.iload_n 3, 1) := by decide +kernel
theorem d_S_isRound_105 : decode c_S_isRound 105 = .ok (.iaload, 1) := by decide +kernel
theorem d_S_isRound_106 : decode c_S_isRound 106 = .ok (.invokevirtual 62, 3) := by decide +kernel
theorem d_S_isRound_109 : decode c_S_isRound 109 = .ok (.imul, 1) := by decide +kernel
theorem d_S_isRound_110 : decode c_S_isRound 110 = .ok (.ifCond .gt 5, 3) := by decide +kernel
theorem d_S_isRound_113 : decode c_S_isRound 113 = .ok (.iconst 0, 1) := by decide +kernel
theorem d_S_isRound_114 : decode c_S_isRound 114 = .ok (.ireturn, 1) := by decide +kernel
theorem d_S_isRound_115 : decode c_S_isRound 115 = .ok (.iinc 3 1, 3) := by decide +kernel
theorem d_S_isRound_118 : decode c_S_isRound 118 = .ok (.goto (-61), 3) := by decide +kernel
theorem d_S_isRound_121 : decode c_S_isRound 121 = .ok (.iinc 2 1, 3) := by decide +kernel
theorem d_S_isRound_124 : decode c_S_isRound 124 = .ok (.goto (-77), 3) := by decide +kernel
theorem d_S_isRound_127 : decode c_S_isRound 127 = .ok (.iconst 1, 1) := by decide +kernel
theorem d_S_isRound_128 : decode c_S_isRound 128 = .ok (.ireturn, 1) := by decide +kernel
theorem d_S_isPlain_0 : decode c_S_isPlain 0 = .ok (.aload_n 0, 1) := by decide +kernel
theorem d_S_isPlain_1 : decode c_S_isPlain 1 = .ok (.getfield 18, 3) := by decide +kernel
theorem d_S_isPlain_4 : decode c_S_isPlain 4 = .ok (.iconst 3, 1) := by decide +kernel
theorem d_S_isPlain_5 : decode c_S_isPlain 5 = .ok (.if_icmp .ge 5, 3) := by decide +kernel
theorem d_S_isPlain_8 : decode c_S_isPlain 8 = .ok (.iconst 0, 1) := by decide +kernel
theorem d_S_isPlain_9 : decode c_S_isPlain 9 = .ok (.ireturn, 1) := by decide +kernel
theorem d_S_isPlain_10 : decode c_S_isPlain 10 = .ok (.iconst 0, 1) := by decide +kernel
theorem d_S_isPlain_11 : decode c_S_isPlain 11 = .ok (.istore_n 1, 1) := by decide +kernel
theorem d_S_isPlain_12 : decode c_S_isPlain 12 = .ok (.iload_n 1, 1) := by decide +kernel
theorem d_S_isPlain_13 : decode c_S_isPlain 13 = .ok (.aload_n 0, 1) := by decide +kernel
theorem d_S_isPlain_14 : decode c_S_isPlain 14 = .ok (.getfield 18, 3) := by decide +kernel
theorem d_S_isPlain_17 : decode c_S_isPlain 17 = .ok (.if_icmp .ge 67, 3) := by decide +kernel
theorem d_S_isPlain_20 : decode c_S_isPlain 20 = .ok (.aload_n 0, 1) := by decide +kernel
theorem d_S_isPlain_21 : decode c_S_isPlain 21 = .ok (.iload_n 1, 1) := by decide +kernel
theorem d_S_isPlain_22 : decode c_S_isPlain 22 = .ok (.invokevirtual 66, 3) := by decide +kernel
theorem d_S_isPlain_25 : decode c_S_isPlain 25 = .ok (.ifCond .eq 5, 3) := by decide +kernel
theorem d_S_isPlain_28 : decode c_S_isPlain 28 = .ok (.iconst 0, 1) := by decide +kernel
theorem d_S_isPlain_29 : decode c_S_isPlain 29 = .ok (.ireturn, 1) := by decide +kernel
theorem d_S_isPlain_30 : decode c_S_isPlain 30 = .ok (.iload_n 1, 1) := by decide +kernel
theorem d_S_isPlain_31 : decode c_S_isPlain 31 = .ok (.iconst 2, 1) := by decide +kernel
theorem d_S_isPlain_32 : decode c_S_isPlain 32 = .ok (.iadd, 1) := by decide +kernel
theorem d_S_isPlain_33 : decode c_S_isPlain 33 = .ok (.istore_n 2, 1) := by decide +kernel
theorem d_S_isPlain_34 : decode c_S_isPlain 34 = .ok (.iload_n 2, 1) := by decide +kernel
theorem d_S_isPlain_35 : decode c_S_isPlain 35 = .ok (.aload_n 0, 1) := by decide +kernel
theorem d_S_isPlain_36 : decode c_S_isPlain 36 = .ok (.getfield 18, 3) := by decide +kernel
theorem d_S_isPlain_39 : decode c_S_isPlain 39 = .ok (.if_icmp .ge 39, 3) := by decide +kernel
theorem d_S_isPlain_42 : decode c_S_isPlain 42 = .ok (.aload_n 0, 1) := by decide +kernel
theorem d_S_isPlain_43 : decode c_S_isPlain 43 = .ok (.iload_n 2, 1) := by decide +kernel
theorem d_S_isPlain_44 : decode c_S_isPlain 44 = .ok (.invokevirtual 58, 3) := by decide +kernel
theorem d_S_isPlain_47 : decode c_S_isPlain 47 = .ok (.iload_n 1, 1) := by decide +kernel
theorem d_S_isPlain_48 : decode c_S_isPlain 48 = .ok (.if_icmp .ne 7, 3) := by decide +kernel
theorem d_S_isPlain_51 : decode c_S_isPlain 51 = .ok (.iconst 1, 1) := by decide +kernel
theorem d_S_isPlain_52 : decode c_S_isPlain 52 = .ok (.goto 4, 3) := by decide +kernel
theorem d_S_isPlain_55 : decode c_S_isPlain 55 = .ok (.iconst 0, 1) := by decide +kernel
theorem d_S_isPlain_56 : decode c_S_isPlain 56 = .ok (.istore_n 3, 1) := by decide +kernel
theorem d_S_isPlain_57 : decode c_S_isPlain 57 = .ok (.iload_n 3, 1) := by decide +kernel
theorem d_S_isPlain_58 : decode c_S_isPlain 58 = .ok (.ifCond .ne 14, 3) := by decide +kernel
theorem d_S_isPlain_61 : decode c_S_isPlain 61 = .ok (.aload_n 0, 1) := by decide +kernel
theorem d_S_isPlain_62 : decode c_S_isPlain 62 = .ok (.iload_n 1, 1) := by decide +kernel
theorem d_S_isPlain_63 : decode c_S_isPlain 63 = .ok (.iload_n 2, 1) := by decide +kernel
theorem d_S_isPlain_64 : decode c_S_isPlain 64 = .ok (.invokevirtual 70, 3) := by decide +kernel
theorem d_S_isPlain_67 : decode c_S_isPlain 67 = .ok (.ifCond .eq 5, 3) := by decide +kernel
theorem d_S_isPlain_70 : decode c_S_isPlain 70 = .ok (.iconst 0, 1) := by decide +kernel
theorem d_S_isPlain_71 : decode c_S_isPlain 71 = .ok (.ireturn, 1) := by decide +kernel
theorem d_S_isPlain_72 : decode c_S_isPlain 72 = .ok (.iinc 2 1, 3) := by decide +kernel
theorem d_S_isPlain_75 : decode c_S_isPlain 75 = .ok (.goto (-41), 3) := by decide +kernel
theorem d_S_isPlain_78 : decode c_S_isPlain 78 = .ok (.iinc 1 1, 3) := by decide +kernel
theorem d_S_isPlain_81 : decode c_S_isPlain 81 = .ok (.goto (-69), 3) := by decide +kernel
theorem d_S_isPlain_84 : decode c_S_isPlain 84 = .ok (.iconst 1, 1) := by decide +kernel
theorem d_S_isPlain_85 : decode c_S_isPlain 85 = .ok (.ireturn, 1) := by decide +kernel
theorem d_S_foldsBack_0 : decode c_S_foldsBack 0 = .ok (.aload_n 0, 1) := by decide +kernel
theorem d_S_foldsBack_1 : decode c_S_foldsBack 1 = .ok (.iload_n 1, 1) := by decide +kernel
theorem d_S_foldsBack_2 : decode c_S_foldsBack 2 = .ok (.invokevirtual 58, 3) := by decide +kernel
theorem d_S_foldsBack_5 : decode c_S_foldsBack 5 = .ok (.istore_n 2, 1) := by decide +kernel
theorem d_S_foldsBack_6 : decode c_S_foldsBack 6 = .ok (.aload_n 0, 1) := by decide +kernel
theorem d_S_foldsBack_7 : decode c_S_foldsBack 7 = .ok (.iload_n 2, 1) := by decide +kernel
theorem d_S_foldsBack_8 : decode c_S_foldsBack 8 = .ok (.invokevirtual 58, 3) := by decide +kernel
theorem d_S_foldsBack_11 : decode c_S_foldsBack 11 = .ok (.istore_n 3, 1) := by decide +kernel
theorem d_S_foldsBack_12 : decode c_S_foldsBack 12 = .ok (.aload_n 0, 1) := by decide +kernel
theorem d_S_foldsBack_13 : decode c_S_foldsBack 13 = .ok (.getfield 9, 3) := by decide +kernel
theorem d_S_foldsBack_16 : decode c_S_foldsBack 16 = .ok (.iload_n 1, 1) := by decide +kernel
theorem d_S_foldsBack_17 : decode c_S_foldsBack 17 = .ok (.iaload, 1) := by decide +kernel
theorem d_S_foldsBack_18 : decode c_S_foldsBack 18 = .ok (.aload_n 0, 1) := by decide +kernel
theorem d_S_foldsBack_19 : decode c_S_foldsBack 19 = .ok (.getfield 9, 3) := by decide +kernel
theorem d_S_foldsBack_22 : decode c_S_foldsBack 22 = .ok (.iload_n 2, 1) := by decide +kernel
theorem d_S_foldsBack_23 : decode c_S_foldsBack 23 = .ok (.iaload, 1) := by decide +kernel
theorem d_S_foldsBack_24 : decode c_S_foldsBack 24 = .ok (.isub, 1) := by decide +kernel
theorem d_S_foldsBack_25 : decode c_S_foldsBack 25 = .ok (.aload_n 0, 1) := by decide +kernel
theorem d_S_foldsBack_26 : decode c_S_foldsBack 26 = .ok (.getfield 9, 3) := by decide +kernel
theorem d_S_foldsBack_29 : decode c_S_foldsBack 29 = .ok (.iload_n 3, 1) := by decide +kernel
theorem d_S_foldsBack_30 : decode c_S_foldsBack 30 = .ok (.iaload, 1) := by decide +kernel
theorem d_S_foldsBack_31 : decode c_S_foldsBack 31 = .ok (.aload_n 0, 1) := by decide +kernel
theorem d_S_foldsBack_32 : decode c_S_foldsBack 32 = .ok (.getfield 9, 3) := by decide +kernel
theorem d_S_foldsBack_35 : decode c_S_foldsBack 35 = .ok (.iload_n 2, 1) := by decide +kernel
theorem d_S_foldsBack_36 : decode c_S_foldsBack 36 = .ok (.iaload, 1) := by decide +kernel
theorem d_S_foldsBack_37 : decode c_S_foldsBack 37 = .ok (.isub, 1) := by decide +kernel
theorem d_S_foldsBack_38 : decode c_S_foldsBack 38 = .ok (.imul, 1) := by decide +kernel
theorem d_S_foldsBack_39 : decode c_S_foldsBack 39 = .ok (.aload_n 0, 1) := by decide +kernel
theorem d_S_foldsBack_40 : decode c_S_foldsBack 40 = .ok (.getfield 15, 3) := by decide +kernel
theorem d_S_foldsBack_43 : decode c_S_foldsBack 43 = .ok (.iload_n 1, 1) := by decide +kernel
theorem d_S_foldsBack_44 : decode c_S_foldsBack 44 = .ok (.iaload, 1) := by decide +kernel
theorem d_S_foldsBack_45 : decode c_S_foldsBack 45 = .ok (.aload_n 0, 1) := by decide +kernel
theorem d_S_foldsBack_46 : decode c_S_foldsBack 46 = .ok (.getfield 15, 3) := by decide +kernel
theorem d_S_foldsBack_49 : decode c_S_foldsBack 49 = .ok (.iload_n 2, 1) := by decide +kernel
theorem d_S_foldsBack_50 : decode c_S_foldsBack 50 = .ok (.iaload, 1) := by decide +kernel
theorem d_S_foldsBack_51 : decode c_S_foldsBack 51 = .ok (.isub, 1) := by decide +kernel
theorem d_S_foldsBack_52 : decode c_S_foldsBack 52 = .ok (.aload_n 0, 1) := by decide +kernel
theorem d_S_foldsBack_53 : decode c_S_foldsBack 53 = .ok (.getfield 15, 3) := by decide +kernel
theorem d_S_foldsBack_56 : decode c_S_foldsBack 56 = .ok (.iload_n 3, 1) := by decide +kernel
theorem d_S_foldsBack_57 : decode c_S_foldsBack 57 = .ok (.iaload, 1) := by decide +kernel
theorem d_S_foldsBack_58 : decode c_S_foldsBack 58 = .ok (.aload_n 0, 1) := by decide +kernel
theorem d_S_foldsBack_59 : decode c_S_foldsBack 59 = .ok (.getfield 15, 3) := by decide +kernel
theorem d_S_foldsBack_62 : decode c_S_foldsBack 62 = .ok (.iload_n 2, 1) := by decide +kernel
theorem d_S_foldsBack_63 : decode c_S_foldsBack 63 = .ok (.iaload, 1) := by decide +kernel
theorem d_S_foldsBack_64 : decode c_S_foldsBack 64 = .ok (.isub, 1) := by decide +kernel
theorem d_S_foldsBack_65 : decode c_S_foldsBack 65 = .ok (.imul, 1) := by decide +kernel
theorem d_S_foldsBack_66 : decode c_S_foldsBack 66 = .ok (.iadd, 1) := by decide +kernel
theorem d_S_foldsBack_67 : decode c_S_foldsBack 67 = .ok (.istore 4, 2) := by decide +kernel
theorem d_S_foldsBack_69 : decode c_S_foldsBack 69 = .ok (.aload_n 0, 1) := by decide +kernel
theorem d_S_foldsBack_70 : decode c_S_foldsBack 70 = .ok (.iload_n 1, 1) := by decide +kernel
theorem d_S_foldsBack_71 : decode c_S_foldsBack 71 = .ok (.aload_n 0, 1) := by decide +kernel
theorem d_S_foldsBack_72 : decode c_S_foldsBack 72 = .ok (.getfield 9, 3) := by decide +kernel
theorem d_S_foldsBack_75 : decode c_S_foldsBack 75 = .ok (.iload_n 3, 1) := by decide +kernel
theorem d_S_foldsBack_76 : decode c_S_foldsBack 76 = .ok (.iaload, 1) := by decide +kernel
theorem d_S_foldsBack_77 : decode c_S_foldsBack 77 = .ok (.aload_n 0, 1) := by decide +kernel
theorem d_S_foldsBack_78 : decode c_S_foldsBack 78 = .ok (.getfield 15, 3) := by decide +kernel
theorem d_S_foldsBack_81 : decode c_S_foldsBack 81 = .ok (.iload_n 3, 1) := by decide +kernel
theorem d_S_foldsBack_82 : decode c_S_foldsBack 82 = .ok (.iaload, 1) := by decide +kernel
theorem d_S_foldsBack_83 : decode c_S_foldsBack 83 = .ok (.invokevirtual 62, 3) := by decide +kernel
theorem d_S_foldsBack_86 : decode c_S_foldsBack 86 = .ok (.ifCond .ne 12, 3) := by decide +kernel
theorem d_S_foldsBack_89 : decode c_S_foldsBack 89 = .ok (.iload 4, 2) := by decide +kernel
theorem d_S_foldsBack_91 : decode c_S_foldsBack 91 = .ok (.ifCond .lt 7, 3) := by decide +kernel
theorem d_S_foldsBack_94 : decode c_S_foldsBack 94 = .ok (.iconst 1, 1) := by decide +kernel
theorem d_S_foldsBack_95 : decode c_S_foldsBack 95 = .ok (.goto 4, 3) := by decide +kernel
theorem d_S_foldsBack_98 : decode c_S_foldsBack 98 = .ok (.iconst 0, 1) := by decide +kernel
theorem d_S_foldsBack_99 : decode c_S_foldsBack 99 = .ok (.ireturn, 1) := by decide +kernel
theorem d_S_sidesMeet_0 : decode c_S_sidesMeet 0 = .ok (.aload_n 0, 1) := by decide +kernel
theorem d_S_sidesMeet_1 : decode c_S_sidesMeet 1 = .ok (.getfield 9, 3) := by decide +kernel
theorem d_S_sidesMeet_4 : decode c_S_sidesMeet 4 = .ok (.iload_n 1, 1) := by decide +kernel
theorem d_S_sidesMeet_5 : decode c_S_sidesMeet 5 = .ok (.iaload, 1) := by decide +kernel
theorem d_S_sidesMeet_6 : decode c_S_sidesMeet 6 = .ok (.aload_n 0, 1) := by decide +kernel
theorem d_S_sidesMeet_7 : decode c_S_sidesMeet 7 = .ok (.getfield 9, 3) := by decide +kernel
theorem d_S_sidesMeet_10 : decode c_S_sidesMeet 10 = .ok (.aload_n 0, 1) := by decide +kernel
theorem d_S_sidesMeet_11 : decode c_S_sidesMeet 11 = .ok (.iload_n 1, 1) := by decide +kernel
theorem d_S_sidesMeet_12 : decode c_S_sidesMeet 12 = .ok (.invokevirtual 58, 3) := by decide +kernel
theorem d_S_sidesMeet_15 : decode c_S_sidesMeet 15 = .ok (.iaload, 1) := by decide +kernel
theorem d_S_sidesMeet_16 : decode c_S_sidesMeet 16 = .ok (.aload_n 0, 1) := by decide +kernel
theorem d_S_sidesMeet_17 : decode c_S_sidesMeet 17 = .ok (.getfield 9, 3) := by decide +kernel
theorem d_S_sidesMeet_20 : decode c_S_sidesMeet 20 = .ok (.iload_n 2, 1) := by decide +kernel
theorem d_S_sidesMeet_21 : decode c_S_sidesMeet 21 = .ok (.iaload, 1) := by decide +kernel
theorem d_S_sidesMeet_22 : decode c_S_sidesMeet 22 = .ok (.aload_n 0, 1) := by decide +kernel
theorem d_S_sidesMeet_23 : decode c_S_sidesMeet 23 = .ok (.getfield 9, 3) := by decide +kernel
theorem d_S_sidesMeet_26 : decode c_S_sidesMeet 26 = .ok (.aload_n 0, 1) := by decide +kernel
theorem d_S_sidesMeet_27 : decode c_S_sidesMeet 27 = .ok (.iload_n 2, 1) := by decide +kernel
theorem d_S_sidesMeet_28 : decode c_S_sidesMeet 28 = .ok (.invokevirtual 58, 3) := by decide +kernel
theorem d_S_sidesMeet_31 : decode c_S_sidesMeet 31 = .ok (.iaload, 1) := by decide +kernel
theorem d_S_sidesMeet_32 : decode c_S_sidesMeet 32 = .ok (.invokestatic 74, 3) := by decide +kernel
theorem d_S_sidesMeet_35 : decode c_S_sidesMeet 35 = .ok (.ifCond .eq 63, 3) := by decide +kernel
theorem d_S_sidesMeet_38 : decode c_S_sidesMeet 38 = .ok (.aload_n 0, 1) := by decide +kernel
theorem d_S_sidesMeet_39 : decode c_S_sidesMeet 39 = .ok (.getfield 15, 3) := by decide +kernel
theorem d_S_sidesMeet_42 : decode c_S_sidesMeet 42 = .ok (.iload_n 1, 1) := by decide +kernel
theorem d_S_sidesMeet_43 : decode c_S_sidesMeet 43 = .ok (.iaload, 1) := by decide +kernel
theorem d_S_sidesMeet_44 : decode c_S_sidesMeet 44 = .ok (.aload_n 0, 1) := by decide +kernel
theorem d_S_sidesMeet_45 : decode c_S_sidesMeet 45 = .ok (.getfield 15, 3) := by decide +kernel
theorem d_S_sidesMeet_48 : decode c_S_sidesMeet 48 = .ok (.aload_n 0, 1) := by decide +kernel
theorem d_S_sidesMeet_49 : decode c_S_sidesMeet 49 = .ok (.iload_n 1, 1) := by decide +kernel
theorem d_S_sidesMeet_50 : decode c_S_sidesMeet 50 = .ok (.invokevirtual 58, 3) := by decide +kernel
theorem d_S_sidesMeet_53 : decode c_S_sidesMeet 53 = .ok (.iaload, 1) := by decide +kernel
theorem d_S_sidesMeet_54 : decode c_S_sidesMeet 54 = .ok (.aload_n 0, 1) := by decide +kernel
theorem d_S_sidesMeet_55 : decode c_S_sidesMeet 55 = .ok (.getfield 15, 3) := by decide +kernel
theorem d_S_sidesMeet_58 : decode c_S_sidesMeet 58 = .ok (.iload_n 2, 1) := by decide +kernel
theorem d_S_sidesMeet_59 : decode c_S_sidesMeet 59 = .ok (.iaload, 1) := by decide +kernel
theorem d_S_sidesMeet_60 : decode c_S_sidesMeet 60 = .ok (.aload_n 0, 1) := by decide +kernel
theorem d_S_sidesMeet_61 : decode c_S_sidesMeet 61 = .ok (.getfield 15, 3) := by decide +kernel
theorem d_S_sidesMeet_64 : decode c_S_sidesMeet 64 = .ok (.aload_n 0, 1) := by decide +kernel
theorem d_S_sidesMeet_65 : decode c_S_sidesMeet 65 = .ok (.iload_n 2, 1) := by decide +kernel
theorem d_S_sidesMeet_66 : decode c_S_sidesMeet 66 = .ok (.invokevirtual 58, 3) := by decide +kernel
theorem d_S_sidesMeet_69 : decode c_S_sidesMeet 69 = .ok (.iaload, 1) := by decide +kernel
theorem d_S_sidesMeet_70 : decode c_S_sidesMeet 70 = .ok (.invokestatic 74, 3) := by decide +kernel
theorem d_S_sidesMeet_73 : decode c_S_sidesMeet 73 = .ok (.ifCond .eq 25, 3) := by decide +kernel
theorem d_S_sidesMeet_76 : decode c_S_sidesMeet 76 = .ok (.aload_n 0, 1) := by decide +kernel
theorem d_S_sidesMeet_77 : decode c_S_sidesMeet 77 = .ok (.iload_n 1, 1) := by decide +kernel
theorem d_S_sidesMeet_78 : decode c_S_sidesMeet 78 = .ok (.iload_n 2, 1) := by decide +kernel
theorem d_S_sidesMeet_79 : decode c_S_sidesMeet 79 = .ok (.invokevirtual 78, 3) := by decide +kernel
theorem d_S_sidesMeet_82 : decode c_S_sidesMeet 82 = .ok (.ifCond .eq 16, 3) := by decide +kernel
theorem d_S_sidesMeet_85 : decode c_S_sidesMeet 85 = .ok (.aload_n 0, 1) := by decide +kernel
theorem d_S_sidesMeet_86 : decode c_S_sidesMeet 86 = .ok (.iload_n 2, 1) := by decide +kernel
theorem d_S_sidesMeet_87 : decode c_S_sidesMeet 87 = .ok (.iload_n 1, 1) := by decide +kernel
theorem d_S_sidesMeet_88 : decode c_S_sidesMeet 88 = .ok (.invokevirtual 78, 3) := by decide +kernel
theorem d_S_sidesMeet_91 : decode c_S_sidesMeet 91 = .ok (.ifCond .eq 7, 3) := by decide +kernel
theorem d_S_sidesMeet_94 : decode c_S_sidesMeet 94 = .ok (.iconst 1, 1) := by decide +kernel
theorem d_S_sidesMeet_95 : decode c_S_sidesMeet 95 = .ok (.goto 4, 3) := by decide +kernel
theorem d_S_sidesMeet_98 : decode c_S_sidesMeet 98 = .ok (.iconst 0, 1) := by decide +kernel
theorem d_S_sidesMeet_99 : decode c_S_sidesMeet 99 = .ok (.ireturn, 1) := by decide +kernel
theorem d_S_lineMeets_0 : decode c_S_lineMeets 0 = .ok (.aload_n 0, 1) := by decide +kernel
theorem d_S_lineMeets_1 : decode c_S_lineMeets 1 = .ok (.iload_n 2, 1) := by decide +kernel
theorem d_S_lineMeets_2 : decode c_S_lineMeets 2 = .ok (.invokevirtual 58, 3) := by decide +kernel
theorem d_S_lineMeets_5 : decode c_S_lineMeets 5 = .ok (.istore_n 3, 1) := by decide +kernel
theorem d_S_lineMeets_6 : decode c_S_lineMeets 6 = .ok (.aload_n 0, 1) := by decide +kernel
theorem d_S_lineMeets_7 : decode c_S_lineMeets 7 = .ok (.iload_n 1, 1) := by decide +kernel
theorem d_S_lineMeets_8 : decode c_S_lineMeets 8 = .ok (.aload_n 0, 1) := by decide +kernel
theorem d_S_lineMeets_9 : decode c_S_lineMeets 9 = .ok (.getfield 9, 3) := by decide +kernel
theorem d_S_lineMeets_12 : decode c_S_lineMeets 12 = .ok (.iload_n 2, 1) := by decide +kernel
theorem d_S_lineMeets_13 : decode c_S_lineMeets 13 = .ok (.iaload, 1) := by decide +kernel
theorem d_S_lineMeets_14 : decode c_S_lineMeets 14 = .ok (.aload_n 0, 1) := by decide +kernel
theorem d_S_lineMeets_15 : decode c_S_lineMeets 15 = .ok (.getfield 15, 3) := by decide +kernel
theorem d_S_lineMeets_18 : decode c_S_lineMeets 18 = .ok (.iload_n 2, 1) := by decide +kernel
theorem d_S_lineMeets_19 : decode c_S_lineMeets 19 = .ok (.iaload, 1) := by decide +kernel
theorem d_S_lineMeets_20 : decode c_S_lineMeets 20 = .ok (.invokevirtual 62, 3) := by decide +kernel
theorem d_S_lineMeets_23 : decode c_S_lineMeets 23 = .ok (.invokestatic 81, 3) := by decide +kernel
theorem d_S_lineMeets_26 : decode c_S_lineMeets 26 = .ok (.istore 4, 2) := by decide +kernel
theorem d_S_lineMeets_28 : decode c_S_lineMeets 28 = .ok (.aload_n 0, 1) := by decide +kernel
theorem d_S_lineMeets_29 : decode c_S_lineMeets 29 = .ok (.iload_n 1, 1) := by decide +kernel
theorem d_S_lineMeets_30 : decode c_S_lineMeets 30 = .ok (.aload_n 0, 1) := by decide +kernel
theorem d_S_lineMeets_31 : decode c_S_lineMeets 31 = .ok (.getfield 9, 3) := by decide +kernel
theorem d_S_lineMeets_34 : decode c_S_lineMeets 34 = .ok (.iload_n 3, 1) := by decide +kernel
theorem d_S_lineMeets_35 : decode c_S_lineMeets 35 = .ok (.iaload, 1) := by decide +kernel
theorem d_S_lineMeets_36 : decode c_S_lineMeets 36 = .ok (.aload_n 0, 1) := by decide +kernel
theorem d_S_lineMeets_37 : decode c_S_lineMeets 37 = .ok (.getfield 15, 3) := by decide +kernel
theorem d_S_lineMeets_40 : decode c_S_lineMeets 40 = .ok (.iload_n 3, 1) := by decide +kernel
theorem d_S_lineMeets_41 : decode c_S_lineMeets 41 = .ok (.iaload, 1) := by decide +kernel
theorem d_S_lineMeets_42 : decode c_S_lineMeets 42 = .ok (.invokevirtual 62, 3) := by decide +kernel
theorem d_S_lineMeets_45 : decode c_S_lineMeets 45 = .ok (.invokestatic 81, 3) := by decide +kernel
theorem d_S_lineMeets_48 : decode c_S_lineMeets 48 = .ok (.istore 5, 2) := by decide +kernel
theorem d_S_lineMeets_50 : decode c_S_lineMeets 50 = .ok (.iload 4, 2) := by decide +kernel
theorem d_S_lineMeets_52 : decode c_S_lineMeets 52 = .ok (.iload 5, 2) := by decide +kernel
theorem d_S_lineMeets_54 : decode c_S_lineMeets 54 = .ok (.imul, 1) := by decide +kernel
theorem d_S_lineMeets_55 : decode c_S_lineMeets 55 = .ok (.ifCond .gt 7, 3) := by decide +kernel
theorem d_S_lineMeets_58 : decode c_S_lineMeets 58 = .ok (.iconst 1, 1) := by decide +kernel
theorem d_S_lineMeets_59 : decode c_S_lineMeets 59 = .ok (.goto 4, 3) := by decide +kernel
theorem d_S_lineMeets_62 : decode c_S_lineMeets 62 = .ok (.iconst 0, 1) := by decide +kernel
theorem d_S_lineMeets_63 : decode c_S_lineMeets 63 = .ok (.ireturn, 1) := by decide +kernel
theorem d_S_rangesMeet_0 : decode c_S_rangesMeet 0 = .ok (.iload_n 0, 1) := by decide +kernel
theorem d_S_rangesMeet_1 : decode c_S_rangesMeet 1 = .ok (.iload_n 1, 1) := by decide +kernel
theorem d_S_rangesMeet_2 : decode c_S_rangesMeet 2 = .ok (.invokestatic 34, 3) := by decide +kernel
theorem d_S_rangesMeet_5 : decode c_S_rangesMeet 5 = .ok (.iload_n 2, 1) := by decide +kernel
theorem d_S_rangesMeet_6 : decode c_S_rangesMeet 6 = .ok (.iload_n 3, 1) := by decide +kernel
theorem d_S_rangesMeet_7 : decode c_S_rangesMeet 7 = .ok (.invokestatic 25, 3) := by decide +kernel
theorem d_S_rangesMeet_10 : decode c_S_rangesMeet 10 = .ok (.if_icmp .lt 20, 3) := by decide +kernel
theorem d_S_rangesMeet_13 : decode c_S_rangesMeet 13 = .ok (.iload_n 2, 1) := by decide +kernel
theorem d_S_rangesMeet_14 : decode c_S_rangesMeet 14 = .ok (.iload_n 3, 1) := by decide +kernel
theorem d_S_rangesMeet_15 : decode c_S_rangesMeet 15 = .ok (.invokestatic 34, 3) := by decide +kernel
theorem d_S_rangesMeet_18 : decode c_S_rangesMeet 18 = .ok (.iload_n 0, 1) := by decide +kernel
theorem d_S_rangesMeet_19 : decode c_S_rangesMeet 19 = .ok (.iload_n 1, 1) := by decide +kernel
theorem d_S_rangesMeet_20 : decode c_S_rangesMeet 20 = .ok (.invokestatic 25, 3) := by decide +kernel
theorem d_S_rangesMeet_23 : decode c_S_rangesMeet 23 = .ok (.if_icmp .lt 7, 3) := by decide +kernel
theorem d_S_rangesMeet_26 : decode c_S_rangesMeet 26 = .ok (.iconst 1, 1) := by decide +kernel
theorem d_S_rangesMeet_27 : decode c_S_rangesMeet 27 = .ok (.goto 4, 3) := by decide +kernel
theorem d_S_rangesMeet_30 : decode c_S_rangesMeet 30 = .ok (.iconst 0, 1) := by decide +kernel
theorem d_S_rangesMeet_31 : decode c_S_rangesMeet 31 = .ok (.ireturn, 1) := by decide +kernel
theorem d_S_boxHolds_0 : decode c_S_boxHolds 0 = .ok (.aload_n 1, 1) := by decide +kernel
theorem d_S_boxHolds_1 : decode c_S_boxHolds 1 = .ok (.getfield 22, 3) := by decide +kernel
theorem d_S_boxHolds_4 : decode c_S_boxHolds 4 = .ok (.iload_n 2, 1) := by decide +kernel
theorem d_S_boxHolds_5 : decode c_S_boxHolds 5 = .ok (.iadd, 1) := by decide +kernel
theorem d_S_boxHolds_6 : decode c_S_boxHolds 6 = .ok (.aload_n 0, 1) := by decide +kernel
theorem d_S_boxHolds_7 : decode c_S_boxHolds 7 = .ok (.getfield 22, 3) := by decide +kernel
theorem d_S_boxHolds_10 : decode c_S_boxHolds 10 = .ok (.if_icmp .lt 46, 3) := by decide +kernel
theorem d_S_boxHolds_13 : decode c_S_boxHolds 13 = .ok (.aload_n 1, 1) := by decide +kernel
theorem d_S_boxHolds_14 : decode c_S_boxHolds 14 = .ok (.getfield 31, 3) := by decide +kernel
theorem d_S_boxHolds_17 : decode c_S_boxHolds 17 = .ok (.iload_n 2, 1) := by decide +kernel
theorem d_S_boxHolds_18 : decode c_S_boxHolds 18 = .ok (.iadd, 1) := by decide +kernel
theorem d_S_boxHolds_19 : decode c_S_boxHolds 19 = .ok (.aload_n 0, 1) := by decide +kernel
theorem d_S_boxHolds_20 : decode c_S_boxHolds 20 = .ok (.getfield 31, 3) := by decide +kernel
theorem d_S_boxHolds_23 : decode c_S_boxHolds 23 = .ok (.if_icmp .gt 33, 3) := by decide +kernel
theorem d_S_boxHolds_26 : decode c_S_boxHolds 26 = .ok (.aload_n 1, 1) := by decide +kernel
theorem d_S_boxHolds_27 : decode c_S_boxHolds 27 = .ok (.getfield 37, 3) := by decide +kernel
theorem d_S_boxHolds_30 : decode c_S_boxHolds 30 = .ok (.iload_n 3, 1) := by decide +kernel
theorem d_S_boxHolds_31 : decode c_S_boxHolds 31 = .ok (.iadd, 1) := by decide +kernel
theorem d_S_boxHolds_32 : decode c_S_boxHolds 32 = .ok (.aload_n 0, 1) := by decide +kernel
theorem d_S_boxHolds_33 : decode c_S_boxHolds 33 = .ok (.getfield 37, 3) := by decide +kernel
theorem d_S_boxHolds_36 : decode c_S_boxHolds 36 = .ok (.if_icmp .lt 20, 3) := by decide +kernel
theorem d_S_boxHolds_39 : decode c_S_boxHolds 39 = .ok (.aload_n 1, 1) := by decide +kernel
theorem d_S_boxHolds_40 : decode c_S_boxHolds 40 = .ok (.getfield 40, 3) := by decide +kernel
theorem d_S_boxHolds_43 : decode c_S_boxHolds 43 = .ok (.iload_n 3, 1) := by decide +kernel
theorem d_S_boxHolds_44 : decode c_S_boxHolds 44 = .ok (.iadd, 1) := by decide +kernel
theorem d_S_boxHolds_45 : decode c_S_boxHolds 45 = .ok (.aload_n 0, 1) := by decide +kernel
theorem d_S_boxHolds_46 : decode c_S_boxHolds 46 = .ok (.getfield 40, 3) := by decide +kernel
theorem d_S_boxHolds_49 : decode c_S_boxHolds 49 = .ok (.if_icmp .gt 7, 3) := by decide +kernel
theorem d_S_boxHolds_52 : decode c_S_boxHolds 52 = .ok (.iconst 1, 1) := by decide +kernel
theorem d_S_boxHolds_53 : decode c_S_boxHolds 53 = .ok (.goto 4, 3) := by decide +kernel
