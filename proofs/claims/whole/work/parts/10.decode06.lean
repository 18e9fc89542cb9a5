theorem d_R_init_0 : decode c_R_init 0 = .ok (.aload_n 0, 1) := by decide +kernel
theorem d_R_init_1 : decode c_R_init 1 = .ok (.invokespecial 1, 3) := by decide +kernel
theorem d_R_init_4 : decode c_R_init 4 = .ok (.aload_n 0, 1) := by decide +kernel
theorem d_R_init_5 : decode c_R_init 5 = .ok (.new 7, 3) := by decide +kernel
theorem d_R_init_8 : decode c_R_init 8 = .ok (.dup, 1) := by decide +kernel
theorem d_R_init_9 : decode c_R_init 9 = .ok (.invokespecial 9, 3) := by decide +kernel
theorem d_R_init_12 : decode c_R_init 12 = .ok (.putfield 10, 3) := by decide +kernel
theorem d_R_init_15 : decode c_R_init 15 = .ok (.aload_n 0, 1) := by decide +kernel
theorem d_R_init_16 : decode c_R_init 16 = .ok (.new 7, 3) := by decide +kernel
theorem d_R_init_19 : decode c_R_init 19 = .ok (.dup, 1) := by decide +kernel
theorem d_R_init_20 : decode c_R_init 20 = .ok (.invokespecial 9, 3) := by decide +kernel
theorem d_R_init_23 : decode c_R_init 23 = .ok (.putfield 16, 3) := by decide +kernel
theorem d_R_init_26 : decode c_R_init 26 = .ok (.aload_n 0, 1) := by decide +kernel
theorem d_R_init_27 : decode c_R_init 27 = .ok (.new 7, 3) := by decide +kernel
theorem d_R_init_30 : decode c_R_init 30 = .ok (.dup, 1) := by decide +kernel
theorem d_R_init_31 : decode c_R_init 31 = .ok (.invokespecial 9, 3) := by decide +kernel
theorem d_R_init_34 : decode c_R_init 34 = .ok (.putfield 19, 3) := by decide +kernel
theorem d_R_init_37 : decode c_R_init 37 = .ok (.aload_n 0, 1) := by decide +kernel
theorem d_R_init_38 : decode c_R_init 38 = .ok (.iconst 5, 1) := by decide +kernel
theorem d_R_init_39 : decode c_R_init 39 = .ok (.anewarray 22, 3) := by decide +kernel
theorem d_R_init_42 : decode c_R_init 42 = .ok (.putfield 24, 3) := by decide +kernel
theorem d_R_init_45 : decode c_R_init 45 = .ok (.aload_n 0, 1) := by decide +kernel
theorem d_R_init_46 : decode c_R_init 46 = .ok (.bipush 6, 2) := by decide +kernel
theorem d_R_init_48 : decode c_R_init 48 = .ok (.anewarray 28, 3) := by decide +kernel
theorem d_R_init_51 : decode c_R_init 51 = .ok (.putfield 30, 3) := by decide +kernel
theorem d_R_init_54 : decode c_R_init 54 = .ok (.aload_n 0, 1) := by decide +kernel
theorem d_R_init_55 : decode c_R_init 55 = .ok (.bipush 12, 2) := by decide +kernel
theorem d_R_init_57 : decode c_R_init 57 = .ok (.anewarray 34, 3) := by decide +kernel
theorem d_R_init_60 : decode c_R_init 60 = .ok (.putfield 36, 3) := by decide +kernel
theorem d_R_init_63 : decode c_R_init 63 = .ok (.iconst 0, 1) := by decide +kernel
theorem d_R_init_64 : decode c_R_init 64 = .ok (.istore_n 1, 1) := by decide +kernel
theorem d_R_init_65 : decode c_R_init 65 = .ok (.iload_n 1, 1) := by decide +kernel
theorem d_R_init_66 : decode c_R_init 66 = .ok (.iconst 5, 1) := by decide +kernel
theorem d_R_init_67 : decode c_R_init 67 = .ok (.if_icmp .ge 22, 3) := by decide +kernel
theorem d_R_init_70 : decode c_R_init 70 = .ok (.aload_n 0, 1) := by decide +kernel
theorem d_R_init_71 : decode c_R_init 71 = .ok (.getfield 24, 3) := by decide +kernel
theorem d_R_init_74 : decode c_R_init 74 = .ok (.iload_n 1, 1) := by decide +kernel
theorem d_R_init_75 : decode c_R_init 75 = .ok (.new 22, 3) := by decide +kernel
theorem d_R_init_78 : decode c_R_init 78 = .ok (.dup, 1) := by decide +kernel
theorem d_R_init_79 : decode c_R_init 79 = .ok (.invokespecial 40, 3) := by decide +kernel
theorem d_R_init_82 : decode c_R_init 82 = .ok (.aastore, 1) := by decide +kernel
theorem d_R_init_83 : decode c_R_init 83 = .ok (.iinc 1 1, 3) := by decide +kernel
theorem d_R_init_86 : decode c_R_init 86 = .ok (.goto (-21), 3) := by decide +kernel
theorem d_R_init_89 : decode c_R_init 89 = .ok (.iconst 0, 1) := by decide +kernel
theorem d_R_init_90 : decode c_R_init 90 = .ok (.istore_n 1, 1) := by decide +kernel
theorem d_R_init_91 : decode c_R_init 91 = .ok (.iload_n 1, 1) := by decide +kernel
theorem d_R_init_92 : decode c_R_init 92 = .ok (.bipush 6, 2) := by decide +kernel
theorem d_R_init_94 : decode c_R_init 94 = .ok (.if_icmp .ge 22, 3) := by decide +kernel
theorem d_R_init_97 : decode c_R_init 97 = .ok (.aload_n 0, 1) := by decide +kernel
theorem d_R_init_98 : decode c_R_init 98 = .ok (.getfield 30, 3) := by decide +kernel
theorem d_R_init_101 : decode c_R_init 101 = .ok (.iload_n 1, 1) := by decide +kernel
theorem d_R_init_102 : decode c_R_init 102 = .ok (.new 28, 3) := by decide +kernel
theorem d_R_init_105 : decode c_R_init 105 = .ok (.dup, 1) := by decide +kernel
theorem d_R_init_106 : decode c_R_init 106 = .ok (.invokespecial 41, 3) := by decide +kernel
theorem d_R_init_109 : decode c_R_init 109 = .ok (.aastore, 1) := by decide +kernel
theorem d_R_init_110 : decode c_R_init 110 = .ok (.iinc 1 1, 3) := by decide +kernel
theorem d_R_init_113 : decode c_R_init 113 = .ok (.goto (-22), 3) := by decide +kernel
theorem d_R_init_116 : decode c_R_init 116 = .ok (.iconst 0, 1) := by decide +kernel
theorem d_R_init_117 : decode c_R_init 117 = .ok (.istore_n 1, 1) := by decide +kernel
theorem d_R_init_118 : decode c_R_init 118 = .ok (.iload_n 1, 1) := by decide +kernel
theorem d_R_init_119 : decode c_R_init 119 = .ok (.bipush 12, 2) := by decide +kernel
theorem d_R_init_121 : decode c_R_init 121 = .ok (.if_icmp .ge 22, 3) := by decide +kernel
theorem d_R_init_124 : decode c_R_init 124 = .ok (.aload_n 0, 1) := by decide +kernel
theorem d_R_init_125 : decode c_R_init 125 = .ok (.getfield 36, 3) := by decide +kernel
theorem d_R_init_128 : decode c_R_init 128 = .ok (.iload_n 1, 1) := by decide +kernel
theorem d_R_init_129 : decode c_R_init 129 = .ok (.new 34, 3) := by decide +kernel
theorem d_R_init_132 : decode c_R_init 132 = .ok (.dup, 1) := by decide +kernel
theorem d_R_init_133 : decode c_R_init 133 = .ok (.invokespecial 42, 3) := by decide +kernel
theorem d_R_init_136 : decode c_R_init 136 = .ok (.aastore, 1) := by decide +kernel
theorem d_R_init_137 : decode c_R_init 137 = .ok (.iinc 1 1, 3) := by decide +kernel
theorem d_R_init_140 : decode c_R_init 140 = .ok (.goto (-22), 3) := by decide +kernel
theorem d_R_init_143 : decode c_R_init 143 = .ok (.return_, 1) := by decide +kernel
theorem d_R_corner_0 : decode c_R_corner 0 = .ok (.iload_n 1, 1) := by decide +kernel
theorem d_R_corner_1 : decode c_R_corner 1 = .ok (.iload_n 2, 1) := by decide +kernel
theorem d_R_corner_2 : decode c_R_corner 2 = .ok (.invokestatic 43, 3) := by decide +kernel
theorem d_R_corner_5 : decode c_R_corner 5 = .ok (.ifCond .ne 13, 3) := by decide +kernel
theorem d_R_corner_8 : decode c_R_corner 8 = .ok (.new 47, 3) := by decide +kernel
theorem d_R_corner_11 : decode c_R_corner 11 = .ok (.dup, 1) := by decide +kernel
theorem d_R_corner_12 : decode c_R_corner 12 = .ok (.ldc 49, 2) := by decide +kernel
theorem d_R_corner_14 : decode c_R_corner 14 = .ok (.invokespecial 51, 3) := by decide +kernel
theorem d_R_corner_17 : decode c_R_corner 17 = .ok (.athrow, 1) := by decide +kernel
theorem d_R_corner_18 : decode c_R_corner 18 = .ok (.aload_n 0, 1) := by decide +kernel
theorem d_R_corner_19 : decode c_R_corner 19 = .ok (.getfield 10, 3) := by decide +kernel
theorem d_R_corner_22 : decode c_R_corner 22 = .ok (.getfield 54, 3) := by decide +kernel
theorem d_R_corner_25 : decode c_R_corner 25 = .ok (.bipush 12, 2) := by decide +kernel
theorem d_R_corner_27 : decode c_R_corner 27 = .ok (.if_icmp .lt 13, 3) := by decide +kernel
theorem d_R_corner_30 : decode c_R_corner 30 = .ok (.new 58, 3) := by decide +kernel
theorem d_R_corner_33 : decode c_R_corner 33 = .ok (.dup, 1) := by decide +kernel
theorem d_R_corner_34 : decode c_R_corner 34 = .ok (.ldc 60, 2) := by decide +kernel
theorem d_R_corner_36 : decode c_R_corner 36 = .ok (.invokespecial 62, 3) := by decide +kernel
theorem d_R_corner_39 : decode c_R_corner 39 = .ok (.athrow, 1) := by decide +kernel
theorem d_R_corner_40 : decode c_R_corner 40 = .ok (.aload_n 0, 1) := by decide +kernel
theorem d_R_corner_41 : decode c_R_corner 41 = .ok (.getfield 10, 3) := by decide +kernel
theorem d_R_corner_44 : decode c_R_corner 44 = .ok (.iload_n 1, 1) := by decide +kernel
theorem d_R_corner_45 : decode c_R_corner 45 = .ok (.iload_n 2, 1) := by decide +kernel
theorem d_R_corner_46 : decode c_R_corner 46 = .ok (.invokevirtual 63, 3) := by decide +kernel
theorem d_R_corner_49 : decode c_R_corner 49 = .ok (.aload_n 0, 1) := by decide +kernel
theorem d_R_corner_50 : decode c_R_corner 50 = .ok (.getfield 10, 3) := by decide +kernel
theorem d_R_corner_53 : decode c_R_corner 53 = .ok (.getfield 54, 3) := by decide +kernel
theorem d_R_corner_56 : decode c_R_corner 56 = .ok (.ireturn, 1) := by decide +kernel
theorem d_R_hide_0 : decode c_R_hide 0 = .ok (.aload_n 0, 1) := by decide +kernel
theorem d_R_hide_1 : decode c_R_hide 1 = .ok (.getfield 67, 3) := by decide +kernel
theorem d_R_hide_4 : decode c_R_hide 4 = .ok (.ifCond .le 13, 3) := by decide +kernel
theorem d_R_hide_7 : decode c_R_hide 7 = .ok (.new 58, 3) := by decide +kernel
theorem d_R_hide_10 : decode c_R_hide 10 = .ok (.dup, 1) := by decide +kernel
theorem d_R_hide_11 : decode c_R_hide 11 = .ok (.ldc 70, 2) := by decide +kernel
theorem d_R_hide_13 : decode c_R_hide 13 = .ok (.invokespecial 62, 3) := by decide +kernel
theorem d_R_hide_16 : decode c_R_hide 16 = .ok (.athrow, 1) := by decide +kernel
theorem d_R_hide_17 : decode c_R_hide 17 = .ok (.aload_n 0, 1) := by decide +kernel
theorem d_R_hide_18 : decode c_R_hide 18 = .ok (.invokevirtual 72, 3) := by decide +kernel
theorem d_R_hide_21 : decode c_R_hide 21 = .ok (.astore_n 1, 1) := by decide +kernel
theorem d_R_hide_22 : decode c_R_hide 22 = .ok (.aload_n 1, 1) := by decide +kernel
theorem d_R_hide_23 : decode c_R_hide 23 = .ok (.invokevirtual 76, 3) := by decide +kernel
theorem d_R_hide_26 : decode c_R_hide 26 = .ok (.ifCond .ne 13, 3) := by decide +kernel
theorem d_R_hide_29 : decode c_R_hide 29 = .ok (.new 47, 3) := by decide +kernel
theorem d_R_hide_32 : decode c_R_hide 32 = .ok (.dup, 1) := by decide +kernel
theorem d_R_hide_33 : decode c_R_hide 33 = .ok (.ldc 80, 2) := by decide +kernel
theorem d_R_hide_35 : decode c_R_hide 35 = .ok (.invokespecial 51, 3) := by decide +kernel
theorem d_R_hide_38 : decode c_R_hide 38 = .ok (.athrow, 1) := by decide +kernel
theorem d_R_hide_39 : decode c_R_hide 39 = .ok (.aload_n 0, 1) := by decide +kernel
theorem d_R_hide_40 : decode c_R_hide 40 = .ok (.getfield 19, 3) := by decide +kernel
theorem d_R_hide_43 : decode c_R_hide 43 = .ok (.aload_n 1, 1) := by decide +kernel
theorem d_R_hide_44 : decode c_R_hide 44 = .ok (.iconst 0, 1) := by decide +kernel
theorem d_R_hide_45 : decode c_R_hide 45 = .ok (.iconst 0, 1) := by decide +kernel
theorem d_R_hide_46 : decode c_R_hide 46 = .ok (.invokevirtual 82, 3) := by decide +kernel
theorem d_R_hide_49 : decode c_R_hide 49 = .ok (.return_, 1) := by decide +kernel
theorem d_R_zone_0 : decode c_R_zone 0 = .ok (.iload_n 1, 1) := by decide +kernel
theorem d_R_zone_1 : decode c_R_zone 1 = .ok (.iconst 1, 1) := by decide +kernel
theorem d_R_zone_2 : decode c_R_zone 2 = .ok (.if_icmp .lt 8, 3) := by decide +kernel
theorem d_R_zone_5 : decode c_R_zone 5 = .ok (.iload_n 1, 1) := by decide +kernel
theorem d_R_zone_6 : decode c_R_zone 6 = .ok (.iconst 3, 1) := by decide +kernel
theorem d_R_zone_7 : decode c_R_zone 7 = .ok (.if_icmp .le 13, 3) := by decide +kernel
theorem d_R_zone_10 : decode c_R_zone 10 = .ok (.new 47, 3) := by decide +kernel
theorem d_R_zone_13 : decode c_R_zone 13 = .ok (.dup, 1) := by decide +kernel
theorem d_R_zone_14 : decode c_R_zone 14 = .ok (.ldc 86, 2) := by decide +kernel
theorem d_R_zone_16 : decode c_R_zone 16 = .ok (.invokespecial 51, 3) := by decide +kernel
theorem d_R_zone_19 : decode c_R_zone 19 = .ok (.athrow, 1) := by decide +kernel
theorem d_R_zone_20 : decode c_R_zone 20 = .ok (.aload_n 0, 1) := by decide +kernel
theorem d_R_zone_21 : decode c_R_zone 21 = .ok (.invokevirtual 72, 3) := by decide +kernel
theorem d_R_zone_24 : decode c_R_zone 24 = .ok (.astore_n 2, 1) := by decide +kernel
theorem d_R_zone_25 : decode c_R_zone 25 = .ok (.aload_n 2, 1) := by decide +kernel
theorem d_R_zone_26 : decode c_R_zone 26 = .ok (.invokevirtual 88, 3) := by decide +kernel
theorem d_R_zone_29 : decode c_R_zone 29 = .ok (.ifCond .ne 13, 3) := by decide +kernel
theorem d_R_zone_32 : decode c_R_zone 32 = .ok (.new 47, 3) := by decide +kernel
theorem d_R_zone_35 : decode c_R_zone 35 = .ok (.dup, 1) := by decide +kernel
theorem d_R_zone_36 : decode c_R_zone 36 = .ok (.ldc 91, 2) := by decide +kernel
theorem d_R_zone_38 : decode c_R_zone 38 = .ok (.invokespecial 51, 3) := by decide +kernel
theorem d_R_zone_41 : decode c_R_zone 41 = .ok (.athrow, 1) := by decide +kernel
theorem d_R_zone_42 : decode c_R_zone 42 = .ok (.aload_n 0, 1) := by decide +kernel
theorem d_R_zone_43 : decode c_R_zone 43 = .ok (.getfield 93, 3) := by decide +kernel
theorem d_R_zone_46 : decode c_R_zone 46 = .ok (.iconst 5, 1) := by decide +kernel
theorem d_R_zone_47 : decode c_R_zone 47 = .ok (.if_icmp .lt 13, 3) := by decide +kernel
theorem d_R_zone_50 : decode c_R_zone 50 = .ok (.new 58, 3) := by decide +kernel
theorem d_R_zone_53 : decode c_R_zone 53 = .ok (.dup, 1) := by decide +kernel
theorem d_R_zone_54 : decode c_R_zone 54 = .ok (.ldc 96, 2) := by decide +kernel
theorem d_R_zone_56 : decode c_R_zone 56 = .ok (.invokespecial 62, 3) := by decide +kernel
theorem d_R_zone_59 : decode c_R_zone 59 = .ok (.athrow, 1) := by decide +kernel
theorem d_R_zone_60 : decode c_R_zone 60 = .ok (.aload_n 0, 1) := by decide +kernel
theorem d_R_zone_61 : decode c_R_zone 61 = .ok (.getfield 67, 3) := by decide +kernel
theorem d_R_zone_64 : decode c_R_zone 64 = .ok (.ifCond .le 13, 3) := by decide +kernel
theorem d_R_zone_67 : decode c_R_zone 67 = .ok (.new 58, 3) := by decide +kernel
theorem d_R_zone_70 : decode c_R_zone 70 = .ok (.dup, 1) := by decide +kernel
theorem d_R_zone_71 : decode c_R_zone 71 = .ok (.ldc 70, 2) := by decide +kernel
theorem d_R_zone_73 : decode c_R_zone 73 = .ok (.invokespecial 62, 3) := by decide +kernel
theorem d_R_zone_76 : decode c_R_zone 76 = .ok (.athrow, 1) := by decide +kernel
theorem d_R_zone_77 : decode c_R_zone 77 = .ok (.aload_n 0, 1) := by decide +kernel
theorem d_R_zone_78 : decode c_R_zone 78 = .ok (.getfield 24, 3) := by decide +kernel
theorem d_R_zone_81 : decode c_R_zone 81 = .ok (.aload_n 0, 1) := by decide +kernel
theorem d_R_zone_82 : decode c_R_zone 82 = .ok (.getfield 93, 3) := by decide +kernel
theorem d_R_zone_85 : decode c_R_zone 85 = .ok (.aaload, 1) := by decide +kernel
theorem d_R_zone_86 : decode c_R_zone 86 = .ok (.iload_n 1, 1) := by decide +kernel
theorem d_R_zone_87 : decode c_R_zone 87 = .ok (.aload_n 2, 1) := by decide +kernel
theorem d_R_zone_88 : decode c_R_zone 88 = .ok (.invokevirtual 98, 3) := by decide +kernel
theorem d_R_zone_91 : decode c_R_zone 91 = .ok (.aload_n 0, 1) := by decide +kernel
theorem d_R_zone_92 : decode c_R_zone 92 = .ok (.dup, 1) := by decide +kernel
theorem d_R_zone_93 : decode c_R_zone 93 = .ok (.getfield 93, 3) := by decide +kernel
theorem d_R_zone_96 : decode c_R_zone 96 = .ok (.iconst 1, 1) := by decide +kernel
theorem d_R_zone_97 : decode c_R_zone 97 = .ok (.iadd, 1) := by decide +kernel
theorem d_R_zone_98 : decode c_R_zone 98 = .ok (.putfield 93, 3) := by decide +kernel
theorem d_R_zone_101 : decode c_R_zone 101 = .ok (.aload_n 0, 1) := by decide +kernel
theorem d_R_zone_102 : decode c_R_zone 102 = .ok (.getfield 93, 3) := by decide +kernel
theorem d_R_zone_105 : decode c_R_zone 105 = .ok (.ireturn, 1) := by decide +kernel
theorem d_R_clear_0 : decode c_R_clear 0 = .ok (.aload_n 0, 1) := by decide +kernel
theorem d_R_clear_1 : decode c_R_clear 1 = .ok (.getfield 67, 3) := by decide +kernel
theorem d_R_clear_4 : decode c_R_clear 4 = .ok (.ifCond .le 13, 3) := by decide +kernel
theorem d_R_clear_7 : decode c_R_clear 7 = .ok (.new 58, 3) := by decide +kernel
theorem d_R_clear_10 : decode c_R_clear 10 = .ok (.dup, 1) := by decide +kernel
theorem d_R_clear_11 : decode c_R_clear 11 = .ok (.ldc 70, 2) := by decide +kernel
theorem d_R_clear_13 : decode c_R_clear 13 = .ok (.invokespecial 62, 3) := by decide +kernel
theorem d_R_clear_16 : decode c_R_clear 16 = .ok (.athrow, 1) := by decide +kernel
theorem d_R_clear_17 : decode c_R_clear 17 = .ok (.aload_n 0, 1) := by decide +kernel
theorem d_R_clear_18 : decode c_R_clear 18 = .ok (.iconst 0, 1) := by decide +kernel
theorem d_R_clear_19 : decode c_R_clear 19 = .ok (.putfield 93, 3) := by decide +kernel
theorem d_R_clear_22 : decode c_R_clear 22 = .ok (.return_, 1) := by decide +kernel
theorem d_R_kind_0 : decode c_R_kind 0 = .ok (.iload_n 1, 1) := by decide +kernel
theorem d_R_kind_1 : decode c_R_kind 1 = .ok (.iconst 1, 1) := by decide +kernel
theorem d_R_kind_2 : decode c_R_kind 2 = .ok (.if_icmp .lt 8, 3) := by decide +kernel
theorem d_R_kind_5 : decode c_R_kind 5 = .ok (.iload_n 1, 1) := by decide +kernel
theorem d_R_kind_6 : decode c_R_kind 6 = .ok (.iconst 4, 1) := by decide +kernel
theorem d_R_kind_7 : decode c_R_kind 7 = .ok (.if_icmp .le 13, 3) := by decide +kernel
theorem d_R_kind_10 : decode c_R_kind 10 = .ok (.new 47, 3) := by decide +kernel
theorem d_R_kind_13 : decode c_R_kind 13 = .ok (.dup, 1) := by decide +kernel
theorem d_R_kind_14 : decode c_R_kind 14 = .ok (.ldc 102, 2) := by decide +kernel
theorem d_R_kind_16 : decode c_R_kind 16 = .ok (.invokespecial 51, 3) := by decide +kernel
theorem d_R_kind_19 : decode c_R_kind 19 = .ok (.athrow, 1) := by decide +kernel
theorem d_R_kind_20 : decode c_R_kind 20 = .ok (.iload_n 2, 1) := by decide +kernel
theorem d_R_kind_21 : decode c_R_kind 21 = .ok (.iconst 1, 1) := by decide +kernel
theorem d_R_kind_22 : decode c_R_kind 22 = .ok (.if_icmp .lt 9, 3) := by decide +kernel
theorem d_R_kind_25 : decode c_R_kind 25 = .ok (.iload_n 2, 1) := by decide +kernel
theorem d_R_kind_26 : decode c_R_kind 26 = .ok (.bipush 15, 2) := by decide +kernel
theorem d_R_kind_28 : decode c_R_kind 28 = .ok (.if_icmp .le 13, 3) := by decide +kernel
theorem d_R_kind_31 : decode c_R_kind 31 = .ok (.new 47, 3) := by decide +kernel
theorem d_R_kind_34 : decode c_R_kind 34 = .ok (.dup, 1) := by decide +kernel
theorem d_R_kind_35 : decode c_R_kind 35 = .ok (.ldc 104, 2) := by decide +kernel
theorem d_R_kind_37 : decode c_R_kind 37 = .ok (.invokespecial 51, 3) := by decide +kernel
theorem d_R_kind_40 : decode c_R_kind 40 = .ok (.athrow, 1) := by decide +kernel
theorem d_R_kind_41 : decode c_R_kind 41 = .ok (.aload_n 0, 1) := by decide +kernel
theorem d_R_kind_42 : decode c_R_kind 42 = .ok (.invokevirtual 72, 3) := by decide +kernel
theorem d_R_kind_45 : decode c_R_kind 45 = .ok (.astore_n 3, 1) := by decide +kernel
theorem d_R_kind_46 : decode c_R_kind 46 = .ok (.aload_n 3, 1) := by decide +kernel
theorem d_R_kind_47 : decode c_R_kind 47 = .ok (.invokevirtual 88, 3) := by decide +kernel
theorem d_R_kind_50 : decode c_R_kind 50 = .ok (.ifCond .ne 13, 3) := by decide +kernel
theorem d_R_kind_53 : decode c_R_kind 53 = .ok (.new 47, 3) := by decide +kernel
theorem d_R_kind_56 : decode c_R_kind 56 = .ok (.dup, 1) := by decide +kernel
theorem d_R_kind_57 : decode c_R_kind 57 = .ok (.ldc 91, 2) := by decide +kernel
theorem d_R_kind_59 : decode c_R_kind 59 = .ok (.invokespecial 51, 3) := by decide +kernel
theorem d_R_kind_62 : decode c_R_kind 62 = .ok (.athrow, 1) := by decide +kernel
theorem d_R_kind_63 : decode c_R_kind 63 = .ok (.aload_n 3, 1) := by decide +kernel
theorem d_R_kind_64 : decode c_R_kind 64 = .ok (.getfield 106, 3) := by decide +kernel
theorem d_R_kind_67 : decode c_R_kind 67 = .ok (.bipush 12, 2) := by decide +kernel
theorem d_R_kind_69 : decode c_R_kind 69 = .ok (.if_icmp .gt 12, 3) := by decide +kernel
theorem d_R_kind_72 : decode c_R_kind 72 = .ok (.aload_n 3, 1) := by decide +kernel
theorem d_R_kind_73 : decode c_R_kind 73 = .ok (.getfield 109, 3) := by decide +kernel
theorem d_R_kind_76 : decode c_R_kind 76 = .ok (.bipush 12, 2) := by decide +kernel
theorem d_R_kind_78 : decode c_R_kind 78 = .ok (.if_icmp .le 13, 3) := by decide +kernel
theorem d_R_kind_81 : decode c_R_kind 81 = .ok (.new 47, 3) := by decide +kernel
theorem d_R_kind_84 : decode c_R_kind 84 = .ok (.dup, 1) := by decide +kernel
theorem d_R_kind_85 : decode c_R_kind 85 = .ok (.ldc 112, 2) := by decide +kernel
theorem d_R_kind_87 : decode c_R_kind 87 = .ok (.invokespecial 51, 3) := by decide +kernel
theorem d_R_kind_90 : decode c_R_kind 90 = .ok (.athrow, 1) := by decide +kernel
theorem d_R_kind_91 : decode c_R_kind 91 = .ok (.aload_n 0, 1) := by decide +kernel
theorem d_R_kind_92 : decode c_R_kind 92 = .ok (.getfield 114, 3) := by decide +kernel
theorem d_R_kind_95 : decode c_R_kind 95 = .ok (.bipush 6, 2) := by decide +kernel
theorem d_R_kind_97 : decode c_R_kind 97 = .ok (.if_icmp .lt 13, 3) := by decide +kernel
theorem d_R_kind_100 : decode c_R_kind 100 = .ok (.new 58, 3) := by decide +kernel
theorem d_R_kind_103 : decode c_R_kind 103 = .ok (.dup, 1) := by decide +kernel
theorem d_R_kind_104 : decode c_R_kind 104 = .ok (.ldc 117, 2) := by decide +kernel
theorem d_R_kind_106 : decode c_R_kind 106 = .ok (.invokespecial 62, 3) := by decide +kernel
theorem d_R_kind_109 : decode c_R_kind 109 = .ok (.athrow, 1) := by decide +kernel
theorem d_R_kind_110 : decode c_R_kind 110 = .ok (.aload_n 0, 1) := by decide +kernel
theorem d_R_kind_111 : decode c_R_kind 111 = .ok (.getfield 30, 3) := by decide +kernel
theorem d_R_kind_114 : decode c_R_kind 114 = .ok (.aload_n 0, 1) := by decide +kernel
theorem d_R_kind_115 : decode c_R_kind 115 = .ok (.getfield 114, 3) := by decide +kernel
theorem d_R_kind_118 : decode c_R_kind 118 = .ok (.aaload, 1) := by decide +kernel
theorem d_R_kind_119 : decode c_R_kind 119 = .ok (.iload_n 1, 1) := by decide +kernel
theorem d_R_kind_120 : decode c_R_kind 120 = .ok (.iload_n 2, 1) := by decide +kernel
theorem d_R_kind_121 : decode c_R_kind 121 = .ok (.aload_n 3, 1) := by decide +kernel
theorem d_R_kind_122 : decode c_R_kind 122 = .ok (.invokevirtual 119, 3) := by decide +kernel
theorem d_R_kind_125 : decode c_R_kind 125 = .ok (.aload_n 0, 1) := by decide +kernel
theorem d_R_kind_126 : decode c_R_kind 126 = .ok (.dup, 1) := by decide +kernel
theorem d_R_kind_127 : decode c_R_kind 127 = .ok (.getfield 114, 3) := by decide +kernel
theorem d_R_kind_130 : decode c_R_kind 130 = .ok (.iconst 1, 1) := by decide +kernel
theorem d_R_kind_131 : decode c_R_kind 131 = .ok (.iadd, 1) := by decide +kernel
theorem d_R_kind_132 : decode c_R_kind 132 = .ok (.putfield 114, 3) := by decide +kernel
theorem d_R_kind_135 : decode c_R_kind 135 = .ok (.aload_n 0, 1) := by decide +kernel
theorem d_R_kind_136 : decode c_R_kind 136 = .ok (.getfield 114, 3) := by decide +kernel
theorem d_R_kind_139 : decode c_R_kind 139 = .ok (.iconst 1, 1) := by decide +kernel
theorem d_R_kind_140 : decode c_R_kind 140 = .ok (.isub, 1) := by decide +kernel
theorem d_R_kind_141 : decode c_R_kind 141 = .ok (.ireturn, 1) := by decide +kernel
theorem d_R_fits_0 : decode c_R_fits 0 = .ok (.aload_n 0, 1) := by decide +kernel
theorem d_R_fits_1 : decode c_R_fits 1 = .ok (.iload_n 1, 1) := by decide +kernel
theorem d_R_fits_2 : decode c_R_fits 2 = .ok (.invokevirtual 122, 3) := by decide +kernel
theorem d_R_fits_5 : decode c_R_fits 5 = .ok (.ifCond .eq 19, 3) := by decide +kernel
theorem d_R_fits_8 : decode c_R_fits 8 = .ok (.iload_n 2, 1) := by decide +kernel
theorem d_R_fits_9 : decode c_R_fits 9 = .ok (.iload_n 3, 1) := by decide +kernel
theorem d_R_fits_10 : decode c_R_fits 10 = .ok (.invokestatic 43, 3) := by decide +kernel
theorem d_R_fits_13 : decode c_R_fits 13 = .ok (.ifCond .eq 11, 3) := by decide +kernel
theorem d_R_fits_16 : decode c_R_fits 16 = .ok (.iload 4, 2) := by decide +kernel
theorem d_R_fits_18 : decode c_R_fits 18 = .ok (.invokestatic 126, 3) := by decide +kernel
theorem d_R_fits_21 : decode c_R_fits 21 = .ok (.ifCond .ne 13, 3) := by decide +kernel
theorem d_R_fits_24 : decode c_R_fits 24 = .ok (.new 47, 3) := by decide +kernel
theorem d_R_fits_27 : decode c_R_fits 27 = .ok (.dup, 1) := by decide +kernel
theorem d_R_fits_28 : decode c_R_fits 28 = .ok (.ldc 129, 2) := by decide +kernel
theorem d_R_fits_30 : decode c_R_fits 30 = .ok (.invokespecial 51, 3) := by decide +kernel
theorem d_R_fits_33 : decode c_R_fits 33 = .ok (.athrow, 1) := by decide +kernel
theorem d_R_fits_34 : decode c_R_fits 34 = .ok (.aload_n 0, 1) := by decide +kernel
theorem d_R_fits_35 : decode c_R_fits 35 = .ok (.aload_n 0, 1) := by decide +kernel
theorem d_R_fits_36 : decode c_R_fits 36 = .ok (.getfield 30, 3) := by decide +kernel
theorem d_R_fits_39 : decode c_R_fits 39 = .ok (.iload_n 1, 1) := by decide +kernel
theorem d_R_fits_40 : decode c_R_fits 40 = .ok (.aaload, 1) := by decide +kernel
theorem d_R_fits_41 : decode c_R_fits 41 = .ok (.iload_n 2, 1) := by decide +kernel
theorem d_R_fits_42 : decode c_R_fits 42 = .ok (.iload_n 3, 1) := by decide +kernel
theorem d_R_fits_43 : decode c_R_fits 43 = .ok (.iload 4, 2) := by decide +kernel
theorem d_R_fits_45 : decode c_R_fits 45 = .ok (.invokevirtual 131, 3) := by decide +kernel
theorem d_R_fits_48 : decode c_R_fits 48 = .ok (.ireturn, 1) := by decide +kernel
theorem d_R_best_0 : decode c_R_best 0 = .ok (.aload_n 0, 1) := by decide +kernel
theorem d_R_best_1 : decode c_R_best 1 = .ok (.iload_n 1, 1) := by decide +kernel
theorem d_R_best_2 : decode c_R_best 2 = .ok (.invokevirtual 122, 3) := by decide +kernel
theorem d_R_best_5 : decode c_R_best 5 = .ok (.ifCond .ne 13, 3) := by decide +kernel
theorem d_R_best_8 : decode c_R_best 8 = .ok (.new 47, 3) := by decide +kernel
theorem d_R_best_11 : decode c_R_best 11 = .ok (.dup, 1) := by decide +kernel
theorem d_R_best_12 : decode c_R_best 12 = .ok (.ldc 135, 2) := by decide +kernel
theorem d_R_best_14 : decode c_R_best 14 = .ok (.invokespecial 51, 3) := by decide +kernel
theorem d_R_best_17 : decode c_R_best 17 = .ok (.athrow, 1) := by decide +kernel
theorem d_R_best_18 : decode c_R_best 18 = .ok (.aload_n 0, 1) := by decide +kernel
theorem d_R_best_19 : decode c_R_best 19 = .ok (.aload_n 0, 1) := by decide +kernel
theorem d_R_best_20 : decode c_R_best 20 = .ok (.getfield 30, 3) := by decide +kernel
theorem d_R_best_23 : decode c_R_best 23 = .ok (.iload_n 1, 1) := by decide +kernel
theorem d_R_best_24 : decode c_R_best 24 = .ok (.aaload, 1) := by decide +kernel
theorem d_R_best_25 : decode c_R_best 25 = .ok (.invokevirtual 137, 3) := by decide +kernel
theorem d_R_best_28 : decode c_R_best 28 = .ok (.istore_n 2, 1) := by decide +kernel
theorem d_R_best_29 : decode c_R_best 29 = .ok (.iload_n 2, 1) := by decide +kernel
theorem d_R_best_30 : decode c_R_best 30 = .ok (.iconst (-1), 1) := by decide +kernel
theorem d_R_best_31 : decode c_R_best 31 = .ok (.if_icmp .ne 13, 3) := by decide +kernel
theorem d_R_best_34 : decode c_R_best 34 = .ok (.new 141, 3) := by decide +kernel
theorem d_R_best_37 : decode c_R_best 37 = .ok (.dup, 1) := by decide +kernel
theorem d_R_best_38 : decode c_R_best 38 = .ok (.ldc 143, 2) := by decide +kernel
theorem d_R_best_40 : decode c_R_best 40 = .ok (.invokespecial 145, 3) := by decide +kernel
theorem d_R_best_43 : decode c_R_best 43 = .ok (.athrow, 1) := by decide +kernel
theorem d_R_best_44 : decode c_R_best 44 = .ok (.iload_n 2, 1) := by decide +kernel
theorem d_R_best_45 : decode c_R_best 45 = .ok (.ireturn, 1) := by decide +kernel
theorem d_R_lay_0 : decode c_R_lay 0 = .ok (.aload_n 0, 1) := by decide +kernel
theorem d_R_lay_1 : decode c_R_lay 1 = .ok (.iload_n 1, 1) := by decide +kernel
theorem d_R_lay_2 : decode c_R_lay 2 = .ok (.invokevirtual 122, 3) := by decide +kernel
theorem d_R_lay_5 : decode c_R_lay 5 = .ok (.ifCond .ne 13, 3) := by decide +kernel
theorem d_R_lay_8 : decode c_R_lay 8 = .ok (.new 47, 3) := by decide +kernel
theorem d_R_lay_11 : decode c_R_lay 11 = .ok (.dup, 1) := by decide +kernel
theorem d_R_lay_12 : decode c_R_lay 12 = .ok (.ldc 135, 2) := by decide +kernel
theorem d_R_lay_14 : decode c_R_lay 14 = .ok (.invokespecial 51, 3) := by decide +kernel
theorem d_R_lay_17 : decode c_R_lay 17 = .ok (.athrow, 1) := by decide +kernel
theorem d_R_lay_18 : decode c_R_lay 18 = .ok (.aload_n 0, 1) := by decide +kernel
theorem d_R_lay_19 : decode c_R_lay 19 = .ok (.getfield 67, 3) := by decide +kernel
theorem d_R_lay_22 : decode c_R_lay 22 = .ok (.bipush 12, 2) := by decide +kernel
theorem d_R_lay_24 : decode c_R_lay 24 = .ok (.if_icmp .lt 13, 3) := by decide +kernel
theorem d_R_lay_27 : decode c_R_lay 27 = .ok (.new 58, 3) := by decide +kernel
theorem d_R_lay_30 : decode c_R_lay 30 = .ok (.dup, 1) := by decide +kernel
theorem d_R_lay_31 : decode c_R_lay 31 = .ok (.ldc 146, 2) := by decide +kernel
theorem d_R_lay_33 : decode c_R_lay 33 = .ok (.invokespecial 62, 3) := by decide +kernel
theorem d_R_lay_36 : decode c_R_lay 36 = .ok (.athrow, 1) := by decide +kernel
theorem d_R_lay_37 : decode c_R_lay 37 = .ok (.aload_n 0, 1) := by decide +kernel
theorem d_R_lay_38 : decode c_R_lay 38 = .ok (.aload_n 0, 1) := by decide +kernel
theorem d_R_lay_39 : decode c_R_lay 39 = .ok (.getfield 30, 3) := by decide +kernel
theorem d_R_lay_42 : decode c_R_lay 42 = .ok (.iload_n 1, 1) := by decide +kernel
theorem d_R_lay_43 : decode c_R_lay 43 = .ok (.aaload, 1) := by decide +kernel
theorem d_R_lay_44 : decode c_R_lay 44 = .ok (.invokevirtual 137, 3) := by decide +kernel
theorem d_R_lay_47 : decode c_R_lay 47 = .ok (.istore_n 2, 1) := by decide +kernel
theorem d_R_lay_48 : decode c_R_lay 48 = .ok (.iload_n 2, 1) := by decide +kernel
theorem d_R_lay_49 : decode c_R_lay 49 = .ok (.iconst (-1), 1) := by decide +kernel
theorem d_R_lay_50 : decode c_R_lay 50 = .ok (.if_icmp .ne 13, 3) := by decide +kernel
theorem d_R_lay_53 : decode c_R_lay 53 = .ok (.new 141, 3) := by decide +kernel
theorem d_R_lay_56 : decode c_R_lay 56 = .ok (.dup, 1) := by decide +kernel
theorem d_R_lay_57 : decode c_R_lay 57 = .ok (.ldc 143, 2) := by decide +kernel
theorem d_R_lay_59 : decode c_R_lay 59 = .ok (.invokespecial 145, 3) := by decide +kernel
theorem d_R_lay_62 : decode c_R_lay 62 = .ok (.athrow, 1) := by decide +kernel
theorem d_R_lay_63 : decode c_R_lay 63 = .ok (.iload_n 2, 1) := by decide +kernel
theorem d_R_lay_64 : decode c_R_lay 64 = .ok (.sipush 1024, 3) := by decide +kernel
theorem d_R_lay_67 : decode c_R_lay 67 = .ok (.idiv, 1) := by decide +kernel
theorem d_R_lay_68 : decode c_R_lay 68 = .ok (.istore_n 3, 1) := by decide +kernel
theorem d_R_lay_69 : decode c_R_lay 69 = .ok (.iload_n 2, 1) := by decide +kernel
theorem d_R_lay_70 : decode c_R_lay 70 = .ok (.sipush 1024, 3) := by decide +kernel
theorem d_R_lay_73 : decode c_R_lay 73 = .ok (.irem, 1) := by decide +kernel
theorem d_R_lay_74 : decode c_R_lay 74 = .ok (.bipush 32, 2) := by decide +kernel
theorem d_R_lay_76 : decode c_R_lay 76 = .ok (.idiv, 1) := by decide +kernel
theorem d_R_lay_77 : decode c_R_lay 77 = .ok (.istore 4, 2) := by decide +kernel
theorem d_R_lay_79 : decode c_R_lay 79 = .ok (.iload_n 2, 1) := by decide +kernel
theorem d_R_lay_80 : decode c_R_lay 80 = .ok (.bipush 32, 2) := by decide +kernel
theorem d_R_lay_82 : decode c_R_lay 82 = .ok (.irem, 1) := by decide +kernel
theorem d_R_lay_83 : decode c_R_lay 83 = .ok (.istore 5, 2) := by decide +kernel
theorem d_R_lay_85 : decode c_R_lay 85 = .ok (.aload_n 0, 1) := by decide +kernel
theorem d_R_lay_86 : decode c_R_lay 86 = .ok (.iload_n 1, 1) := by decide +kernel
theorem d_R_lay_87 : decode c_R_lay 87 = .ok (.iload 5, 2) := by decide +kernel
theorem d_R_lay_89 : decode c_R_lay 89 = .ok (.iload 4, 2) := by decide +kernel
theorem d_R_lay_91 : decode c_R_lay 91 = .ok (.iload_n 3, 1) := by decide +kernel
theorem d_R_lay_92 : decode c_R_lay 92 = .ok (.invokevirtual 148, 3) := by decide +kernel
theorem d_R_lay_95 : decode c_R_lay 95 = .ok (.ireturn, 1) := by decide +kernel
theorem d_R_put_0 : decode c_R_put 0 = .ok (.aload_n 0, 1) := by decide +kernel
theorem d_R_put_1 : decode c_R_put 1 = .ok (.iload_n 1, 1) := by decide +kernel
theorem d_R_put_2 : decode c_R_put 2 = .ok (.invokevirtual 122, 3) := by decide +kernel
theorem d_R_put_5 : decode c_R_put 5 = .ok (.ifCond .eq 19, 3) := by decide +kernel
theorem d_R_put_8 : decode c_R_put 8 = .ok (.iload_n 2, 1) := by decide +kernel
theorem d_R_put_9 : decode c_R_put 9 = .ok (.iload_n 3, 1) := by decide +kernel
theorem d_R_put_10 : decode c_R_put 10 = .ok (.invokestatic 43, 3) := by decide +kernel
theorem d_R_put_13 : decode c_R_put 13 = .ok (.ifCond .eq 11, 3) := by decide +kernel
theorem d_R_put_16 : decode c_R_put 16 = .ok (.iload 4, 2) := by decide +kernel
theorem d_R_put_18 : decode c_R_put 18 = .ok (.invokestatic 126, 3) := by decide +kernel
theorem d_R_put_21 : decode c_R_put 21 = .ok (.ifCond .ne 13, 3) := by decide +kernel
theorem d_R_put_24 : decode c_R_put 24 = .ok (.new 47, 3) := by decide +kernel
theorem d_R_put_27 : decode c_R_put 27 = .ok (.dup, 1) := by decide +kernel
theorem d_R_put_28 : decode c_R_put 28 = .ok (.ldc 129, 2) := by decide +kernel
theorem d_R_put_30 : decode c_R_put 30 = .ok (.invokespecial 51, 3) := by decide +kernel
theorem d_R_put_33 : decode c_R_put 33 = .ok (.athrow, 1) := by decide +kernel
theorem d_R_put_34 : decode c_R_put 34 = .ok (.aload_n 0, 1) := by decide +kernel
theorem d_R_put_35 : decode c_R_put 35 = .ok (.getfield 67, 3) := by decide +kernel
theorem d_R_put_38 : decode c_R_put 38 = .ok (.bipush 12, 2) := by decide +kernel
theorem d_R_put_40 : decode c_R_put 40 = .ok (.if_icmp .lt 13, 3) := by decide +kernel
theorem d_R_put_43 : decode c_R_put 43 = .ok (.new 58, 3) := by decide +kernel
theorem d_R_put_46 : decode c_R_put 46 = .ok (.dup, 1) := by decide +kernel
theorem d_R_put_47 : decode c_R_put 47 = .ok (.ldc 146, 2) := by decide +kernel
theorem d_R_put_49 : decode c_R_put 49 = .ok (.invokespecial 62, 3) := by decide +kernel
theorem d_R_put_52 : decode c_R_put 52 = .ok (.athrow, 1) := by decide +kernel
theorem d_R_put_53 : decode c_R_put 53 = .ok (.aload_n 0, 1) := by decide +kernel
theorem d_R_put_54 : decode c_R_put 54 = .ok (.aload_n 0, 1) := by decide +kernel
theorem d_R_put_55 : decode c_R_put 55 = .ok (.getfield 30, 3) := by decide +kernel
theorem d_R_put_58 : decode c_R_put 58 = .ok (.iload_n 1, 1) := by decide +kernel
theorem d_R_put_59 : decode c_R_put 59 = .ok (.aaload, 1) := by decide +kernel
theorem d_R_put_60 : decode c_R_put 60 = .ok (.iload_n 2, 1) := by decide +kernel
theorem d_R_put_61 : decode c_R_put 61 = .ok (.iload_n 3, 1) := by decide +kernel
theorem d_R_put_62 : decode c_R_put 62 = .ok (.iload 4, 2) := by decide +kernel
theorem d_R_put_64 : decode c_R_put 64 = .ok (.invokevirtual 131, 3) := by decide +kernel
theorem d_R_put_67 : decode c_R_put 67 = .ok (.ifCond .ne 13, 3) := by decide +kernel
theorem d_R_put_70 : decode c_R_put 70 = .ok (.new 152, 3) := by decide +kernel
theorem d_R_put_73 : decode c_R_put 73 = .ok (.dup, 1) := by decide +kernel
theorem d_R_put_74 : decode c_R_put 74 = .ok (.ldc 154, 2) := by decide +kernel
theorem d_R_put_76 : decode c_R_put 76 = .ok (.invokespecial 156, 3) := by decide +kernel
theorem d_R_put_79 : decode c_R_put 79 = .ok (.athrow, 1) := by decide +kernel
theorem d_R_put_80 : decode c_R_put 80 = .ok (.aload_n 0, 1) := by decide +kernel
theorem d_R_put_81 : decode c_R_put 81 = .ok (.iload_n 1, 1) := by decide +kernel
theorem d_R_put_82 : decode c_R_put 82 = .ok (.iload_n 2, 1) := by decide +kernel
theorem d_R_put_83 : decode c_R_put 83 = .ok (.iload_n 3, 1) := by decide +kernel
theorem d_R_put_84 : decode c_R_put 84 = .ok (.iload 4, 2) := by decide +kernel
theorem d_R_put_86 : decode c_R_put 86 = .ok (.invokevirtual 148, 3) := by decide +kernel
theorem d_R_put_89 : decode c_R_put 89 = .ok (.ireturn, 1) := by decide +kernel
theorem d_R_take_0 : decode c_R_take 0 = .ok (.aload_n 0, 1) := by decide +kernel
theorem d_R_take_1 : decode c_R_take 1 = .ok (.iload_n 1, 1) := by decide +kernel
theorem d_R_take_2 : decode c_R_take 2 = .ok (.invokevirtual 157, 3) := by decide +kernel
theorem d_R_take_5 : decode c_R_take 5 = .ok (.ifCond .ne 13, 3) := by decide +kernel
theorem d_R_take_8 : decode c_R_take 8 = .ok (.new 141, 3) := by decide +kernel
theorem d_R_take_11 : decode c_R_take 11 = .ok (.dup, 1) := by decide +kernel
theorem d_R_take_12 : decode c_R_take 12 = .ok (.ldc 160, 2) := by decide +kernel
theorem d_R_take_14 : decode c_R_take 14 = .ok (.invokespecial 145, 3) := by decide +kernel
theorem d_R_take_17 : decode c_R_take 17 = .ok (.athrow, 1) := by decide +kernel
theorem d_R_take_18 : decode c_R_take 18 = .ok (.aload_n 0, 1) := by decide +kernel
theorem d_R_take_19 : decode c_R_take 19 = .ok (.getfield 36, 3) := by decide +kernel
theorem d_R_take_22 : decode c_R_take 22 = .ok (.iload_n 1, 1) := by decide +kernel
theorem d_R_take_23 : decode c_R_take 23 = .ok (.aaload, 1) := by decide +kernel
theorem d_R_take_24 : decode c_R_take 24 = .ok (.iconst 0, 1) := by decide +kernel
theorem d_R_take_25 : decode c_R_take 25 = .ok (.putfield 162, 3) := by decide +kernel
theorem d_R_take_28 : decode c_R_take 28 = .ok (.aload_n 0, 1) := by decide +kernel
theorem d_R_take_29 : decode c_R_take 29 = .ok (.dup, 1) := by decide +kernel
theorem d_R_take_30 : decode c_R_take 30 = .ok (.getfield 67, 3) := by decide +kernel
theorem d_R_take_33 : decode c_R_take 33 = .ok (.iconst 1, 1) := by decide +kernel
theorem d_R_take_34 : decode c_R_take 34 = .ok (.isub, 1) := by decide +kernel
theorem d_R_take_35 : decode c_R_take 35 = .ok (.putfield 67, 3) := by decide +kernel
theorem d_R_take_38 : decode c_R_take 38 = .ok (.aload_n 0, 1) := by decide +kernel
theorem d_R_take_39 : decode c_R_take 39 = .ok (.getfield 36, 3) := by decide +kernel
theorem d_R_take_42 : decode c_R_take 42 = .ok (.iload_n 1, 1) := by decide +kernel
theorem d_R_take_43 : decode c_R_take 43 = .ok (.aaload, 1) := by decide +kernel
theorem d_R_take_44 : decode c_R_take 44 = .ok (.getfield 166, 3) := by decide +kernel
theorem d_R_take_47 : decode c_R_take 47 = .ok (.ireturn, 1) := by decide +kernel
theorem d_R_strip_0 : decode c_R_strip 0 = .ok (.aload_n 0, 1) := by decide +kernel
theorem d_R_strip_1 : decode c_R_strip 1 = .ok (.getfield 67, 3) := by decide +kernel
theorem d_R_strip_4 : decode c_R_strip 4 = .ok (.istore_n 1, 1) := by decide +kernel
theorem d_R_strip_5 : decode c_R_strip 5 = .ok (.iconst 0, 1) := by decide +kernel
theorem d_R_strip_6 : decode c_R_strip 6 = .ok (.istore_n 2, 1) := by decide +kernel
theorem d_R_strip_7 : decode c_R_strip 7 = .ok (.iload_n 2, 1) := by decide +kernel
theorem d_R_strip_8 : decode c_R_strip 8 = .ok (.bipush 12, 2) := by decide +kernel
theorem d_R_strip_10 : decode c_R_strip 10 = .ok (.if_icmp .ge 19, 3) := by decide +kernel
theorem d_R_strip_13 : decode c_R_strip 13 = .ok (.aload_n 0, 1) := by decide +kernel
theorem d_R_strip_14 : decode c_R_strip 14 = .ok (.getfield 36, 3) := by decide +kernel
theorem d_R_strip_17 : decode c_R_strip 17 = .ok (.iload_n 2, 1) := by decide +kernel
theorem d_R_strip_18 : decode c_R_strip 18 = .ok (.aaload, 1) := by decide +kernel
theorem d_R_strip_19 : decode c_R_strip 19 = .ok (.iconst 0, 1) := by decide +kernel
theorem d_R_strip_20 : decode c_R_strip 20 = .ok (.putfield 162, 3) := by decide +kernel
theorem d_R_strip_23 : decode c_R_strip 23 = .ok (.iinc 2 1, 3) := by decide +kernel
theorem d_R_strip_26 : decode c_R_strip 26 = .ok (.goto (-19), 3) := by decide +kernel
theorem d_R_strip_29 : decode c_R_strip 29 = .ok (.aload_n 0, 1) := by decide +kernel
theorem d_R_strip_30 : decode c_R_strip 30 = .ok (.iconst 0, 1) := by decide +kernel
theorem d_R_strip_31 : decode c_R_strip 31 = .ok (.putfield 67, 3) := by decide +kernel
theorem d_R_strip_34 : decode c_R_strip 34 = .ok (.iload_n 1, 1) := by decide +kernel
theorem d_R_strip_35 : decode c_R_strip 35 = .ok (.ireturn, 1) := by decide +kernel
theorem d_R_part_0 : decode c_R_part 0 = .ok (.iload_n 2, 1) := by decide +kernel
theorem d_R_part_1 : decode c_R_part 1 = .ok (.ifCond .lt 8, 3) := by decide +kernel
theorem d_R_part_4 : decode c_R_part 4 = .ok (.iload_n 2, 1) := by decide +kernel
theorem d_R_part_5 : decode c_R_part 5 = .ok (.iconst 3, 1) := by decide +kernel
theorem d_R_part_6 : decode c_R_part 6 = .ok (.if_icmp .le 13, 3) := by decide +kernel
theorem d_R_part_9 : decode c_R_part 9 = .ok (.new 47, 3) := by decide +kernel
theorem d_R_part_12 : decode c_R_part 12 = .ok (.dup, 1) := by decide +kernel
theorem d_R_part_13 : decode c_R_part 13 = .ok (.ldc 169, 2) := by decide +kernel
theorem d_R_part_15 : decode c_R_part 15 = .ok (.invokespecial 51, 3) := by decide +kernel
theorem d_R_part_18 : decode c_R_part 18 = .ok (.athrow, 1) := by decide +kernel
theorem d_R_part_19 : decode c_R_part 19 = .ok (.aload_n 0, 1) := by decide +kernel
theorem d_R_part_20 : decode c_R_part 20 = .ok (.iload_n 1, 1) := by decide +kernel
theorem d_R_part_21 : decode c_R_part 21 = .ok (.invokevirtual 157, 3) := by decide +kernel
theorem d_R_part_24 : decode c_R_part 24 = .ok (.ifCond .ne 13, 3) := by decide +kernel
theorem d_R_part_27 : decode c_R_part 27 = .ok (.new 141, 3) := by decide +kernel
theorem d_R_part_30 : decode c_R_part 30 = .ok (.dup, 1) := by decide +kernel
theorem d_R_part_31 : decode c_R_part 31 = .ok (.ldc 160, 2) := by decide +kernel
theorem d_R_part_33 : decode c_R_part 33 = .ok (.invokespecial 145, 3) := by decide +kernel
theorem d_R_part_36 : decode c_R_part 36 = .ok (.athrow, 1) := by decide +kernel
theorem d_R_part_37 : decode c_R_part 37 = .ok (.iload_n 2, 1) := by decide +kernel
theorem d_R_part_38 : decode c_R_part 38 = .ok (.tableswitch 56 0 2 #[26, 36, 46], 26) := by decide +kernel
theorem d_R_part_64 : decode c_R_part 64 = .ok (.aload_n 0, 1) := by decide +kernel
theorem d_R_part_65 : decode c_R_part 65 = .ok (.getfield 36, 3) := by decide +kernel
theorem d_R_part_68 : decode c_R_part 68 = .ok (.iload_n 1, 1) := by decide +kernel
theorem d_R_part_69 : decode c_R_part 69 = .ok (.aaload, 1) := by decide +kernel
theorem d_R_part_70 : decode c_R_part 70 = .ok (.getfield 166, 3) := by decide +kernel
theorem d_R_part_73 : decode c_R_part 73 = .ok (.ireturn, 1) := by decide +kernel
theorem d_R_part_74 : decode c_R_part 74 = .ok (.aload_n 0, 1) := by decide +kernel
theorem d_R_part_75 : decode c_R_part 75 = .ok (.getfield 36, 3) := by decide +kernel
theorem d_R_part_78 : decode c_R_part 78 = .ok (.iload_n 1, 1) := by decide +kernel
theorem d_R_part_79 : decode c_R_part 79 = .ok (.aaload, 1) := by decide +kernel
theorem d_R_part_80 : decode c_R_part 80 = .ok (.getfield 171, 3) := by decide +kernel
theorem d_R_part_83 : decode c_R_part 83 = .ok (.ireturn, 1) := by decide +kernel
theorem d_R_part_84 : decode c_R_part 84 = .ok (.aload_n 0, 1) := by decide +kernel
theorem d_R_part_85 : decode c_R_part 85 = .ok (.getfield 36, 3) := by decide +kernel
theorem d_R_part_88 : decode c_R_part 88 = .ok (.iload_n 1, 1) := by decide +kernel
theorem d_R_part_89 : decode c_R_part 89 = .ok (.aaload, 1) := by decide +kernel
theorem d_R_part_90 : decode c_R_part 90 = .ok (.getfield 174, 3) := by decide +kernel
theorem d_R_part_93 : decode c_R_part 93 = .ok (.ireturn, 1) := by decide +kernel
theorem d_R_part_94 : decode c_R_part 94 = .ok (.aload_n 0, 1) := by decide +kernel
theorem d_R_part_95 : decode c_R_part 95 = .ok (.getfield 36, 3) := by decide +kernel
theorem d_R_part_98 : decode c_R_part 98 = .ok (.iload_n 1, 1) := by decide +kernel
theorem d_R_part_99 : decode c_R_part 99 = .ok (.aaload, 1) := by decide +kernel
theorem d_R_part_100 : decode c_R_part 100 = .ok (.getfield 177, 3) := by decide +kernel
theorem d_R_part_103 : decode c_R_part 103 = .ok (.ireturn, 1) := by decide +kernel
theorem d_R_parts_0 : decode c_R_parts 0 = .ok (.aload_n 0, 1) := by decide +kernel
theorem d_R_parts_1 : decode c_R_parts 1 = .ok (.getfield 67, 3) := by decide +kernel
theorem d_R_parts_4 : decode c_R_parts 4 = .ok (.ireturn, 1) := by decide +kernel
theorem d_R_free_0 : decode c_R_free 0 = .ok (.aload_n 0, 1) := by decide +kernel
theorem d_R_free_1 : decode c_R_free 1 = .ok (.getfield 19, 3) := by decide +kernel
theorem d_R_free_4 : decode c_R_free 4 = .ok (.invokevirtual 180, 3) := by decide +kernel
theorem d_R_free_7 : decode c_R_free 7 = .ok (.invokestatic 184, 3) := by decide +kernel
theorem d_R_free_10 : decode c_R_free 10 = .ok (.istore_n 1, 1) := by decide +kernel
theorem d_R_free_11 : decode c_R_free 11 = .ok (.iconst 0, 1) := by decide +kernel
theorem d_R_free_12 : decode c_R_free 12 = .ok (.istore_n 2, 1) := by decide +kernel
theorem d_R_free_13 : decode c_R_free 13 = .ok (.iload_n 2, 1) := by decide +kernel
theorem d_R_free_14 : decode c_R_free 14 = .ok (.bipush 12, 2) := by decide +kernel
theorem d_R_free_16 : decode c_R_free 16 = .ok (.if_icmp .ge 36, 3) := by decide +kernel
theorem d_R_free_19 : decode c_R_free 19 = .ok (.aload_n 0, 1) := by decide +kernel
theorem d_R_free_20 : decode c_R_free 20 = .ok (.getfield 36, 3) := by decide +kernel
theorem d_R_free_23 : decode c_R_free 23 = .ok (.iload_n 2, 1) := by decide +kernel
theorem d_R_free_24 : decode c_R_free 24 = .ok (.aaload, 1) := by decide +kernel
theorem d_R_free_25 : decode c_R_free 25 = .ok (.getfield 162, 3) := by decide +kernel
theorem d_R_free_28 : decode c_R_free 28 = .ok (.ifCond .eq 18, 3) := by decide +kernel
theorem d_R_free_31 : decode c_R_free 31 = .ok (.iload_n 1, 1) := by decide +kernel
theorem d_R_free_32 : decode c_R_free 32 = .ok (.aload_n 0, 1) := by decide +kernel
theorem d_R_free_33 : decode c_R_free 33 = .ok (.getfield 36, 3) := by decide +kernel
theorem d_R_free_36 : decode c_R_free 36 = .ok (.iload_n 2, 1) := by decide +kernel
theorem d_R_free_37 : decode c_R_free 37 = .ok (.aaload, 1) := by decide +kernel
theorem d_R_free_38 : decode c_R_free 38 = .ok (.getfield 190, 3) := by decide +kernel
theorem d_R_free_41 : decode c_R_free 41 = .ok (.invokevirtual 180, 3) := by decide +kernel
theorem d_R_free_44 : decode c_R_free 44 = .ok (.isub, 1) := by decide +kernel
theorem d_R_free_45 : decode c_R_free 45 = .ok (.istore_n 1, 1) := by decide +kernel
theorem d_R_free_46 : decode c_R_free 46 = .ok (.iinc 2 1, 3) := by decide +kernel
theorem d_R_free_49 : decode c_R_free 49 = .ok (.goto (-36), 3) := by decide +kernel
theorem d_R_free_52 : decode c_R_free 52 = .ok (.iload_n 1, 1) := by decide +kernel
theorem d_R_free_53 : decode c_R_free 53 = .ok (.ireturn, 1) := by decide +kernel
theorem d_R_isPoint_0 : decode c_R_isPoint 0 = .ok (.iload_n 0, 1) := by decide +kernel
theorem d_R_isPoint_1 : decode c_R_isPoint 1 = .ok (.ifCond .lt 23, 3) := by decide +kernel
theorem d_R_isPoint_4 : decode c_R_isPoint 4 = .ok (.iload_n 0, 1) := by decide +kernel
theorem d_R_isPoint_5 : decode c_R_isPoint 5 = .ok (.bipush 30, 2) := by decide +kernel
theorem d_R_isPoint_7 : decode c_R_isPoint 7 = .ok (.if_icmp .gt 17, 3) := by decide +kernel
theorem d_R_isPoint_10 : decode c_R_isPoint 10 = .ok (.iload_n 1, 1) := by decide +kernel
theorem d_R_isPoint_11 : decode c_R_isPoint 11 = .ok (.ifCond .lt 13, 3) := by decide +kernel
theorem d_R_isPoint_14 : decode c_R_isPoint 14 = .ok (.iload_n 1, 1) := by decide +kernel
theorem d_R_isPoint_15 : decode c_R_isPoint 15 = .ok (.bipush 30, 2) := by decide +kernel
theorem d_R_isPoint_17 : decode c_R_isPoint 17 = .ok (.if_icmp .gt 7, 3) := by decide +kernel
theorem d_R_isPoint_20 : decode c_R_isPoint 20 = .ok (.iconst 1, 1) := by decide +kernel
theorem d_R_isPoint_21 : decode c_R_isPoint 21 = .ok (.goto 4, 3) := by decide +kernel
theorem d_R_isPoint_24 : decode c_R_isPoint 24 = .ok (.iconst 0, 1) := by decide +kernel
theorem d_R_isPoint_25 : decode c_R_isPoint 25 = .ok (.ireturn, 1) := by decide +kernel
theorem d_R_isTurn_0 : decode c_R_isTurn 0 = .ok (.iload_n 0, 1) := by decide +kernel
theorem d_R_isTurn_1 : decode c_R_isTurn 1 = .ok (.ifCond .lt 12, 3) := by decide +kernel
theorem d_R_isTurn_4 : decode c_R_isTurn 4 = .ok (.iload_n 0, 1) := by decide +kernel
theorem d_R_isTurn_5 : decode c_R_isTurn 5 = .ok (.iconst 4, 1) := by decide +kernel
theorem d_R_isTurn_6 : decode c_R_isTurn 6 = .ok (.if_icmp .ge 7, 3) := by decide +kernel
theorem d_R_isTurn_9 : decode c_R_isTurn 9 = .ok (.iconst 1, 1) := by decide +kernel
theorem d_R_isTurn_10 : decode c_R_isTurn 10 = .ok (.goto 4, 3) := by decide +kernel
theorem d_R_isTurn_13 : decode c_R_isTurn 13 = .ok (.iconst 0, 1) := by decide +kernel
theorem d_R_isTurn_14 : decode c_R_isTurn 14 = .ok (.ireturn, 1) := by decide +kernel
theorem d_R_isKind_0 : decode c_R_isKind 0 = .ok (.iload_n 1, 1) := by decide +kernel
theorem d_R_isKind_1 : decode c_R_isKind 1 = .ok (.ifCond .lt 15, 3) := by decide +kernel
theorem d_R_isKind_4 : decode c_R_isKind 4 = .ok (.iload_n 1, 1) := by decide +kernel
theorem d_R_isKind_5 : decode c_R_isKind 5 = .ok (.aload_n 0, 1) := by decide +kernel
theorem d_R_isKind_6 : decode c_R_isKind 6 = .ok (.getfield 114, 3) := by decide +kernel
theorem d_R_isKind_9 : decode c_R_isKind 9 = .ok (.if_icmp .ge 7, 3) := by decide +kernel
theorem d_R_isKind_12 : decode c_R_isKind 12 = .ok (.iconst 1, 1) := by decide +kernel
theorem d_R_isKind_13 : decode c_R_isKind 13 = .ok (.goto 4, 3) := by decide +kernel
theorem d_R_isKind_16 : decode c_R_isKind 16 = .ok (.iconst 0, 1) := by decide +kernel
theorem d_R_isKind_17 : decode c_R_isKind 17 = .ok (.ireturn, 1) := by decide +kernel
theorem d_R_isPart_0 : decode c_R_isPart 0 = .ok (.iload_n 1, 1) := by decide +kernel
theorem d_R_isPart_1 : decode c_R_isPart 1 = .ok (.ifCond .lt 25, 3) := by decide +kernel
theorem d_R_isPart_4 : decode c_R_isPart 4 = .ok (.iload_n 1, 1) := by decide +kernel
theorem d_R_isPart_5 : decode c_R_isPart 5 = .ok (.bipush 12, 2) := by decide +kernel
theorem d_R_isPart_7 : decode c_R_isPart 7 = .ok (.if_icmp .ge 19, 3) := by decide +kernel
theorem d_R_isPart_10 : decode c_R_isPart 10 = .ok (.aload_n 0, 1) := by decide +kernel
theorem d_R_isPart_11 : decode c_R_isPart 11 = .ok (.getfield 36, 3) := by decide +kernel
theorem d_R_isPart_14 : decode c_R_isPart 14 = .ok (.iload_n 1, 1) := by decide +kernel
theorem d_R_isPart_15 : decode c_R_isPart 15 = .ok (.aaload, 1) := by decide +kernel
theorem d_R_isPart_16 : decode c_R_isPart 16 = .ok (.getfield 162, 3) := by decide +kernel
theorem d_R_isPart_19 : decode c_R_isPart 19 = .ok (.ifCond .eq 7, 3) := by decide +kernel
theorem d_R_isPart_22 : decode c_R_isPart 22 = .ok (.iconst 1, 1) := by decide +kernel
theorem d_R_isPart_23 : decode c_R_isPart 23 = .ok (.goto 4, 3) := by decide +kernel
theorem d_R_isPart_26 : decode c_R_isPart 26 = .ok (.iconst 0, 1) := by decide +kernel
theorem d_R_isPart_27 : decode c_R_isPart 27 = .ok (.ireturn, 1) := by decide +kernel
theorem d_R_endWait_0 : decode c_R_endWait 0 = .ok (.aload_n 0, 1) := by decide +kernel
theorem d_R_endWait_1 : decode c_R_endWait 1 = .ok (.getfield 16, 3) := by decide +kernel
theorem d_R_endWait_4 : decode c_R_endWait 4 = .ok (.aload_n 0, 1) := by decide +kernel
theorem d_R_endWait_5 : decode c_R_endWait 5 = .ok (.getfield 10, 3) := by decide +kernel
theorem d_R_endWait_8 : decode c_R_endWait 8 = .ok (.iconst 0, 1) := by decide +kernel
