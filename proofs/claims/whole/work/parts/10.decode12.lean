theorem d_L_corner_0 : decode c_L_corner 0 = .ok (.aload_n 3, 1) := by decide +kernel
theorem d_L_corner_1 : decode c_L_corner 1 = .ok (.iconst 0, 1) := by decide +kernel
theorem d_L_corner_2 : decode c_L_corner 2 = .ok (.aload_n 0, 1) := by decide +kernel
theorem d_L_corner_3 : decode c_L_corner 3 = .ok (.iload_n 1, 1) := by decide +kernel
theorem d_L_corner_4 : decode c_L_corner 4 = .ok (.iload_n 2, 1) := by decide +kernel
theorem d_L_corner_5 : decode c_L_corner 5 = .ok (.invokevirtual 7, 3) := by decide +kernel
theorem d_L_corner_8 : decode c_L_corner 8 = .ok (.i2l, 1) := by decide +kernel
theorem d_L_corner_9 : decode c_L_corner 9 = .ok (.lastore, 1) := by decide +kernel
theorem d_L_corner_10 : decode c_L_corner 10 = .ok (.goto 11, 3) := by decide +kernel
theorem d_L_corner_13 : decode c_L_corner 13 = .ok (.astore 4, 2) := by decide +kernel
theorem d_L_corner_15 : decode c_L_corner 15 = .ok (.iconst 1, 1) := by decide +kernel
theorem d_L_corner_16 : decode c_L_corner 16 = .ok (.ireturn, 1) := by decide +kernel
theorem d_L_corner_17 : decode c_L_corner 17 = .ok (.astore 4, 2) := by decide +kernel
theorem d_L_corner_19 : decode c_L_corner 19 = .ok (.iconst 2, 1) := by decide +kernel
theorem d_L_corner_20 : decode c_L_corner 20 = .ok (.ireturn, 1) := by decide +kernel
theorem d_L_corner_21 : decode c_L_corner 21 = .ok (.iconst 0, 1) := by decide +kernel
theorem d_L_corner_22 : decode c_L_corner 22 = .ok (.ireturn, 1) := by decide +kernel
theorem d_L_hide_0 : decode c_L_hide 0 = .ok (.aload_n 0, 1) := by decide +kernel
theorem d_L_hide_1 : decode c_L_hide 1 = .ok (.invokevirtual 17, 3) := by decide +kernel
theorem d_L_hide_4 : decode c_L_hide 4 = .ok (.goto 9, 3) := by decide +kernel
theorem d_L_hide_7 : decode c_L_hide 7 = .ok (.astore_n 1, 1) := by decide +kernel
theorem d_L_hide_8 : decode c_L_hide 8 = .ok (.iconst 1, 1) := by decide +kernel
theorem d_L_hide_9 : decode c_L_hide 9 = .ok (.ireturn, 1) := by decide +kernel
theorem d_L_hide_10 : decode c_L_hide 10 = .ok (.astore_n 1, 1) := by decide +kernel
theorem d_L_hide_11 : decode c_L_hide 11 = .ok (.iconst 2, 1) := by decide +kernel
theorem d_L_hide_12 : decode c_L_hide 12 = .ok (.ireturn, 1) := by decide +kernel
theorem d_L_hide_13 : decode c_L_hide 13 = .ok (.iconst 0, 1) := by decide +kernel
theorem d_L_hide_14 : decode c_L_hide 14 = .ok (.ireturn, 1) := by decide +kernel
theorem d_L_zone_0 : decode c_L_zone 0 = .ok (.aload_n 2, 1) := by decide +kernel
theorem d_L_zone_1 : decode c_L_zone 1 = .ok (.iconst 0, 1) := by decide +kernel
theorem d_L_zone_2 : decode c_L_zone 2 = .ok (.aload_n 0, 1) := by decide +kernel
theorem d_L_zone_3 : decode c_L_zone 3 = .ok (.iload_n 1, 1) := by decide +kernel
theorem d_L_zone_4 : decode c_L_zone 4 = .ok (.invokevirtual 20, 3) := by decide +kernel
theorem d_L_zone_7 : decode c_L_zone 7 = .ok (.i2l, 1) := by decide +kernel
theorem d_L_zone_8 : decode c_L_zone 8 = .ok (.lastore, 1) := by decide +kernel
theorem d_L_zone_9 : decode c_L_zone 9 = .ok (.goto 9, 3) := by decide +kernel
theorem d_L_zone_12 : decode c_L_zone 12 = .ok (.astore_n 3, 1) := by decide +kernel
theorem d_L_zone_13 : decode c_L_zone 13 = .ok (.iconst 1, 1) := by decide +kernel
theorem d_L_zone_14 : decode c_L_zone 14 = .ok (.ireturn, 1) := by decide +kernel
theorem d_L_zone_15 : decode c_L_zone 15 = .ok (.astore_n 3, 1) := by decide +kernel
theorem d_L_zone_16 : decode c_L_zone 16 = .ok (.iconst 2, 1) := by decide +kernel
theorem d_L_zone_17 : decode c_L_zone 17 = .ok (.ireturn, 1) := by decide +kernel
theorem d_L_zone_18 : decode c_L_zone 18 = .ok (.iconst 0, 1) := by decide +kernel
theorem d_L_zone_19 : decode c_L_zone 19 = .ok (.ireturn, 1) := by decide +kernel
theorem d_L_clear_0 : decode c_L_clear 0 = .ok (.aload_n 0, 1) := by decide +kernel
theorem d_L_clear_1 : decode c_L_clear 1 = .ok (.invokevirtual 24, 3) := by decide +kernel
theorem d_L_clear_4 : decode c_L_clear 4 = .ok (.goto 6, 3) := by decide +kernel
theorem d_L_clear_7 : decode c_L_clear 7 = .ok (.astore_n 1, 1) := by decide +kernel
theorem d_L_clear_8 : decode c_L_clear 8 = .ok (.iconst 1, 1) := by decide +kernel
theorem d_L_clear_9 : decode c_L_clear 9 = .ok (.ireturn, 1) := by decide +kernel
theorem d_L_clear_10 : decode c_L_clear 10 = .ok (.iconst 0, 1) := by decide +kernel
theorem d_L_clear_11 : decode c_L_clear 11 = .ok (.ireturn, 1) := by decide +kernel
theorem d_L_kind_0 : decode c_L_kind 0 = .ok (.aload_n 3, 1) := by decide +kernel
theorem d_L_kind_1 : decode c_L_kind 1 = .ok (.iconst 0, 1) := by decide +kernel
theorem d_L_kind_2 : decode c_L_kind 2 = .ok (.aload_n 0, 1) := by decide +kernel
theorem d_L_kind_3 : decode c_L_kind 3 = .ok (.iload_n 1, 1) := by decide +kernel
theorem d_L_kind_4 : decode c_L_kind 4 = .ok (.iload_n 2, 1) := by decide +kernel
theorem d_L_kind_5 : decode c_L_kind 5 = .ok (.invokevirtual 27, 3) := by decide +kernel
theorem d_L_kind_8 : decode c_L_kind 8 = .ok (.i2l, 1) := by decide +kernel
theorem d_L_kind_9 : decode c_L_kind 9 = .ok (.lastore, 1) := by decide +kernel
theorem d_L_kind_10 : decode c_L_kind 10 = .ok (.goto 11, 3) := by decide +kernel
theorem d_L_kind_13 : decode c_L_kind 13 = .ok (.astore 4, 2) := by decide +kernel
theorem d_L_kind_15 : decode c_L_kind 15 = .ok (.iconst 1, 1) := by decide +kernel
theorem d_L_kind_16 : decode c_L_kind 16 = .ok (.ireturn, 1) := by decide +kernel
theorem d_L_kind_17 : decode c_L_kind 17 = .ok (.astore 4, 2) := by decide +kernel
theorem d_L_kind_19 : decode c_L_kind 19 = .ok (.iconst 2, 1) := by decide +kernel
theorem d_L_kind_20 : decode c_L_kind 20 = .ok (.ireturn, 1) := by decide +kernel
theorem d_L_kind_21 : decode c_L_kind 21 = .ok (.iconst 0, 1) := by decide +kernel
theorem d_L_kind_22 : decode c_L_kind 22 = .ok (.ireturn, 1) := by decide +kernel
theorem d_L_fits_0 : decode c_L_fits 0 = .ok (.aload 5, 2) := by decide +kernel
theorem d_L_fits_2 : decode c_L_fits 2 = .ok (.iconst 0, 1) := by decide +kernel
theorem d_L_fits_3 : decode c_L_fits 3 = .ok (.aload_n 0, 1) := by decide +kernel
theorem d_L_fits_4 : decode c_L_fits 4 = .ok (.iload_n 1, 1) := by decide +kernel
theorem d_L_fits_5 : decode c_L_fits 5 = .ok (.iload_n 2, 1) := by decide +kernel
theorem d_L_fits_6 : decode c_L_fits 6 = .ok (.iload_n 3, 1) := by decide +kernel
theorem d_L_fits_7 : decode c_L_fits 7 = .ok (.iload 4, 2) := by decide +kernel
theorem d_L_fits_9 : decode c_L_fits 9 = .ok (.invokevirtual 30, 3) := by decide +kernel
theorem d_L_fits_12 : decode c_L_fits 12 = .ok (.ifCond .eq 7, 3) := by decide +kernel
theorem d_L_fits_15 : decode c_L_fits 15 = .ok (.lconst 1, 1) := by decide +kernel
theorem d_L_fits_16 : decode c_L_fits 16 = .ok (.goto 4, 3) := by decide +kernel
theorem d_L_fits_19 : decode c_L_fits 19 = .ok (.lconst 0, 1) := by decide +kernel
theorem d_L_fits_20 : decode c_L_fits 20 = .ok (.lastore, 1) := by decide +kernel
theorem d_L_fits_21 : decode c_L_fits 21 = .ok (.goto 7, 3) := by decide +kernel
theorem d_L_fits_24 : decode c_L_fits 24 = .ok (.astore 6, 2) := by decide +kernel
theorem d_L_fits_26 : decode c_L_fits 26 = .ok (.iconst 1, 1) := by decide +kernel
theorem d_L_fits_27 : decode c_L_fits 27 = .ok (.ireturn, 1) := by decide +kernel
theorem d_L_fits_28 : decode c_L_fits 28 = .ok (.iconst 0, 1) := by decide +kernel
theorem d_L_fits_29 : decode c_L_fits 29 = .ok (.ireturn, 1) := by decide +kernel
theorem d_L_best_0 : decode c_L_best 0 = .ok (.aload_n 2, 1) := by decide +kernel
theorem d_L_best_1 : decode c_L_best 1 = .ok (.iconst 0, 1) := by decide +kernel
theorem d_L_best_2 : decode c_L_best 2 = .ok (.aload_n 0, 1) := by decide +kernel
theorem d_L_best_3 : decode c_L_best 3 = .ok (.iload_n 1, 1) := by decide +kernel
theorem d_L_best_4 : decode c_L_best 4 = .ok (.invokevirtual 34, 3) := by decide +kernel
theorem d_L_best_7 : decode c_L_best 7 = .ok (.i2l, 1) := by decide +kernel
theorem d_L_best_8 : decode c_L_best 8 = .ok (.lastore, 1) := by decide +kernel
theorem d_L_best_9 : decode c_L_best 9 = .ok (.goto 9, 3) := by decide +kernel
theorem d_L_best_12 : decode c_L_best 12 = .ok (.astore_n 3, 1) := by decide +kernel
theorem d_L_best_13 : decode c_L_best 13 = .ok (.iconst 1, 1) := by decide +kernel
theorem d_L_best_14 : decode c_L_best 14 = .ok (.ireturn, 1) := by decide +kernel
theorem d_L_best_15 : decode c_L_best 15 = .ok (.astore_n 3, 1) := by decide +kernel
theorem d_L_best_16 : decode c_L_best 16 = .ok (.iconst 2, 1) := by decide +kernel
theorem d_L_best_17 : decode c_L_best 17 = .ok (.ireturn, 1) := by decide +kernel
theorem d_L_best_18 : decode c_L_best 18 = .ok (.iconst 0, 1) := by decide +kernel
theorem d_L_best_19 : decode c_L_best 19 = .ok (.ireturn, 1) := by decide +kernel
theorem d_L_lay_0 : decode c_L_lay 0 = .ok (.aload_n 2, 1) := by decide +kernel
theorem d_L_lay_1 : decode c_L_lay 1 = .ok (.iconst 0, 1) := by decide +kernel
theorem d_L_lay_2 : decode c_L_lay 2 = .ok (.aload_n 0, 1) := by decide +kernel
theorem d_L_lay_3 : decode c_L_lay 3 = .ok (.iload_n 1, 1) := by decide +kernel
theorem d_L_lay_4 : decode c_L_lay 4 = .ok (.invokevirtual 39, 3) := by decide +kernel
theorem d_L_lay_7 : decode c_L_lay 7 = .ok (.i2l, 1) := by decide +kernel
theorem d_L_lay_8 : decode c_L_lay 8 = .ok (.lastore, 1) := by decide +kernel
theorem d_L_lay_9 : decode c_L_lay 9 = .ok (.goto 12, 3) := by decide +kernel
theorem d_L_lay_12 : decode c_L_lay 12 = .ok (.astore_n 3, 1) := by decide +kernel
theorem d_L_lay_13 : decode c_L_lay 13 = .ok (.iconst 1, 1) := by decide +kernel
theorem d_L_lay_14 : decode c_L_lay 14 = .ok (.ireturn, 1) := by decide +kernel
theorem d_L_lay_15 : decode c_L_lay 15 = .ok (.astore_n 3, 1) := by decide +kernel
theorem d_L_lay_16 : decode c_L_lay 16 = .ok (.iconst 2, 1) := by decide +kernel
theorem d_L_lay_17 : decode c_L_lay 17 = .ok (.ireturn, 1) := by decide +kernel
theorem d_L_lay_18 : decode c_L_lay 18 = .ok (.astore_n 3, 1) := by decide +kernel
theorem d_L_lay_19 : decode c_L_lay 19 = .ok (.iconst 3, 1) := by decide +kernel
theorem d_L_lay_20 : decode c_L_lay 20 = .ok (.ireturn, 1) := by decide +kernel
theorem d_L_lay_21 : decode c_L_lay 21 = .ok (.iconst 0, 1) := by decide +kernel
theorem d_L_lay_22 : decode c_L_lay 22 = .ok (.ireturn, 1) := by decide +kernel
theorem d_L_put_0 : decode c_L_put 0 = .ok (.aload 5, 2) := by decide +kernel
theorem d_L_put_2 : decode c_L_put 2 = .ok (.iconst 0, 1) := by decide +kernel
theorem d_L_put_3 : decode c_L_put 3 = .ok (.aload_n 0, 1) := by decide +kernel
theorem d_L_put_4 : decode c_L_put 4 = .ok (.iload_n 1, 1) := by decide +kernel
theorem d_L_put_5 : decode c_L_put 5 = .ok (.iload_n 2, 1) := by decide +kernel
theorem d_L_put_6 : decode c_L_put 6 = .ok (.iload_n 3, 1) := by decide +kernel
theorem d_L_put_7 : decode c_L_put 7 = .ok (.iload 4, 2) := by decide +kernel
theorem d_L_put_9 : decode c_L_put 9 = .ok (.invokevirtual 42, 3) := by decide +kernel
theorem d_L_put_12 : decode c_L_put 12 = .ok (.i2l, 1) := by decide +kernel
theorem d_L_put_13 : decode c_L_put 13 = .ok (.lastore, 1) := by decide +kernel
theorem d_L_put_14 : decode c_L_put 14 = .ok (.goto 15, 3) := by decide +kernel
theorem d_L_put_17 : decode c_L_put 17 = .ok (.astore 6, 2) := by decide +kernel
theorem d_L_put_19 : decode c_L_put 19 = .ok (.iconst 1, 1) := by decide +kernel
theorem d_L_put_20 : decode c_L_put 20 = .ok (.ireturn, 1) := by decide +kernel
theorem d_L_put_21 : decode c_L_put 21 = .ok (.astore 6, 2) := by decide +kernel
theorem d_L_put_23 : decode c_L_put 23 = .ok (.iconst 2, 1) := by decide +kernel
theorem d_L_put_24 : decode c_L_put 24 = .ok (.ireturn, 1) := by decide +kernel
theorem d_L_put_25 : decode c_L_put 25 = .ok (.astore 6, 2) := by decide +kernel
theorem d_L_put_27 : decode c_L_put 27 = .ok (.iconst 3, 1) := by decide +kernel
theorem d_L_put_28 : decode c_L_put 28 = .ok (.ireturn, 1) := by decide +kernel
theorem d_L_put_29 : decode c_L_put 29 = .ok (.iconst 0, 1) := by decide +kernel
theorem d_L_put_30 : decode c_L_put 30 = .ok (.ireturn, 1) := by decide +kernel
theorem d_L_take_0 : decode c_L_take 0 = .ok (.aload_n 2, 1) := by decide +kernel
theorem d_L_take_1 : decode c_L_take 1 = .ok (.iconst 0, 1) := by decide +kernel
theorem d_L_take_2 : decode c_L_take 2 = .ok (.aload_n 0, 1) := by decide +kernel
theorem d_L_take_3 : decode c_L_take 3 = .ok (.iload_n 1, 1) := by decide +kernel
theorem d_L_take_4 : decode c_L_take 4 = .ok (.invokevirtual 48, 3) := by decide +kernel
theorem d_L_take_7 : decode c_L_take 7 = .ok (.i2l, 1) := by decide +kernel
theorem d_L_take_8 : decode c_L_take 8 = .ok (.lastore, 1) := by decide +kernel
theorem d_L_take_9 : decode c_L_take 9 = .ok (.goto 6, 3) := by decide +kernel
theorem d_L_take_12 : decode c_L_take 12 = .ok (.astore_n 3, 1) := by decide +kernel
theorem d_L_take_13 : decode c_L_take 13 = .ok (.iconst 1, 1) := by decide +kernel
theorem d_L_take_14 : decode c_L_take 14 = .ok (.ireturn, 1) := by decide +kernel
theorem d_L_take_15 : decode c_L_take 15 = .ok (.iconst 0, 1) := by decide +kernel
theorem d_L_take_16 : decode c_L_take 16 = .ok (.ireturn, 1) := by decide +kernel
theorem d_L_part_0 : decode c_L_part 0 = .ok (.aload_n 3, 1) := by decide +kernel
theorem d_L_part_1 : decode c_L_part 1 = .ok (.iconst 0, 1) := by decide +kernel
theorem d_L_part_2 : decode c_L_part 2 = .ok (.aload_n 0, 1) := by decide +kernel
theorem d_L_part_3 : decode c_L_part 3 = .ok (.iload_n 1, 1) := by decide +kernel
theorem d_L_part_4 : decode c_L_part 4 = .ok (.iload_n 2, 1) := by decide +kernel
theorem d_L_part_5 : decode c_L_part 5 = .ok (.invokevirtual 51, 3) := by decide +kernel
theorem d_L_part_8 : decode c_L_part 8 = .ok (.i2l, 1) := by decide +kernel
theorem d_L_part_9 : decode c_L_part 9 = .ok (.lastore, 1) := by decide +kernel
theorem d_L_part_10 : decode c_L_part 10 = .ok (.goto 11, 3) := by decide +kernel
theorem d_L_part_13 : decode c_L_part 13 = .ok (.astore 4, 2) := by decide +kernel
theorem d_L_part_15 : decode c_L_part 15 = .ok (.iconst 1, 1) := by decide +kernel
theorem d_L_part_16 : decode c_L_part 16 = .ok (.ireturn, 1) := by decide +kernel
theorem d_L_part_17 : decode c_L_part 17 = .ok (.astore 4, 2) := by decide +kernel
theorem d_L_part_19 : decode c_L_part 19 = .ok (.iconst 2, 1) := by decide +kernel
theorem d_L_part_20 : decode c_L_part 20 = .ok (.ireturn, 1) := by decide +kernel
theorem d_L_part_21 : decode c_L_part 21 = .ok (.iconst 0, 1) := by decide +kernel
theorem d_L_part_22 : decode c_L_part 22 = .ok (.ireturn, 1) := by decide +kernel
theorem d_L_law_0 : decode c_L_law 0 = .ok (.new 8, 3) := by decide +kernel
theorem d_L_law_3 : decode c_L_law 3 = .ok (.dup, 1) := by decide +kernel
theorem d_L_law_4 : decode c_L_law 4 = .ok (.invokespecial 54, 3) := by decide +kernel
theorem d_L_law_7 : decode c_L_law 7 = .ok (.astore_n 1, 1) := by decide +kernel
theorem d_L_law_8 : decode c_L_law 8 = .ok (.new 55, 3) := by decide +kernel
theorem d_L_law_11 : decode c_L_law 11 = .ok (.dup, 1) := by decide +kernel
theorem d_L_law_12 : decode c_L_law 12 = .ok (.invokespecial 57, 3) := by decide +kernel
theorem d_L_law_15 : decode c_L_law 15 = .ok (.astore_n 2, 1) := by decide +kernel
theorem d_L_law_16 : decode c_L_law 16 = .ok (.iconst 1, 1) := by decide +kernel
theorem d_L_law_17 : decode c_L_law 17 = .ok (.newarray .long, 2) := by decide +kernel
theorem d_L_law_19 : decode c_L_law 19 = .ok (.astore_n 3, 1) := by decide +kernel
theorem d_L_law_20 : decode c_L_law 20 = .ok (.iconst 0, 1) := by decide +kernel
theorem d_L_law_21 : decode c_L_law 21 = .ok (.istore 4, 2) := by decide +kernel
theorem d_L_law_23 : decode c_L_law 23 = .ok (.iload 4, 2) := by decide +kernel
theorem d_L_law_25 : decode c_L_law 25 = .ok (.aload_n 0, 1) := by decide +kernel
theorem d_L_law_26 : decode c_L_law 26 = .ok (.arraylength, 1) := by decide +kernel
theorem d_L_law_27 : decode c_L_law 27 = .ok (.iconst 5, 1) := by decide +kernel
theorem d_L_law_28 : decode c_L_law 28 = .ok (.isub, 1) := by decide +kernel
theorem d_L_law_29 : decode c_L_law 29 = .ok (.if_icmp .gt 791, 3) := by decide +kernel
theorem d_L_law_32 : decode c_L_law 32 = .ok (.aload_n 0, 1) := by decide +kernel
theorem d_L_law_33 : decode c_L_law 33 = .ok (.iload 4, 2) := by decide +kernel
theorem d_L_law_35 : decode c_L_law 35 = .ok (.iaload, 1) := by decide +kernel
theorem d_L_law_36 : decode c_L_law 36 = .ok (.bipush 15, 2) := by decide +kernel
theorem d_L_law_38 : decode c_L_law 38 = .ok (.iand, 1) := by decide +kernel
theorem d_L_law_39 : decode c_L_law 39 = .ok (.tableswitch 775 0 13 #[69, 137, 161, 217, 241, 309, 408, 464, 520, 612, 668, 681, 749, 762], 69) := by decide +kernel
theorem d_L_law_108 : decode c_L_law 108 = .ok (.aload_n 1, 1) := by decide +kernel
theorem d_L_law_109 : decode c_L_law 109 = .ok (.aload_n 0, 1) := by decide +kernel
theorem d_L_law_110 : decode c_L_law 110 = .ok (.iload 4, 2) := by decide +kernel
theorem d_L_law_112 : decode c_L_law 112 = .ok (.iconst 1, 1) := by decide +kernel
theorem d_L_law_113 : decode c_L_law 113 = .ok (.iadd, 1) := by decide +kernel
theorem d_L_law_114 : decode c_L_law 114 = .ok (.iaload, 1) := by decide +kernel
theorem d_L_law_115 : decode c_L_law 115 = .ok (.aload_n 0, 1) := by decide +kernel
theorem d_L_law_116 : decode c_L_law 116 = .ok (.iload 4, 2) := by decide +kernel
theorem d_L_law_118 : decode c_L_law 118 = .ok (.iconst 2, 1) := by decide +kernel
theorem d_L_law_119 : decode c_L_law 119 = .ok (.iadd, 1) := by decide +kernel
theorem d_L_law_120 : decode c_L_law 120 = .ok (.iaload, 1) := by decide +kernel
theorem d_L_law_121 : decode c_L_law 121 = .ok (.aload_n 3, 1) := by decide +kernel
theorem d_L_law_122 : decode c_L_law 122 = .ok (.invokestatic 58, 3) := by decide +kernel
theorem d_L_law_125 : decode c_L_law 125 = .ok (.istore 5, 2) := by decide +kernel
theorem d_L_law_127 : decode c_L_law 127 = .ok (.aload_n 2, 1) := by decide +kernel
theorem d_L_law_128 : decode c_L_law 128 = .ok (.aload_n 0, 1) := by decide +kernel
theorem d_L_law_129 : decode c_L_law 129 = .ok (.iload 4, 2) := by decide +kernel
theorem d_L_law_131 : decode c_L_law 131 = .ok (.iconst 1, 1) := by decide +kernel
theorem d_L_law_132 : decode c_L_law 132 = .ok (.iadd, 1) := by decide +kernel
theorem d_L_law_133 : decode c_L_law 133 = .ok (.iaload, 1) := by decide +kernel
theorem d_L_law_134 : decode c_L_law 134 = .ok (.aload_n 0, 1) := by decide +kernel
theorem d_L_law_135 : decode c_L_law 135 = .ok (.iload 4, 2) := by decide +kernel
theorem d_L_law_137 : decode c_L_law 137 = .ok (.iconst 2, 1) := by decide +kernel
theorem d_L_law_138 : decode c_L_law 138 = .ok (.iadd, 1) := by decide +kernel
theorem d_L_law_139 : decode c_L_law 139 = .ok (.iaload, 1) := by decide +kernel
theorem d_L_law_140 : decode c_L_law 140 = .ok (.invokevirtual 63, 3) := by decide +kernel
theorem d_L_law_143 : decode c_L_law 143 = .ok (.istore 6, 2) := by decide +kernel
theorem d_L_law_145 : decode c_L_law 145 = .ok (.aload_n 2, 1) := by decide +kernel
theorem d_L_law_146 : decode c_L_law 146 = .ok (.invokevirtual 64, 3) := by decide +kernel
theorem d_L_law_149 : decode c_L_law 149 = .ok (.iload 5, 2) := by decide +kernel
theorem d_L_law_151 : decode c_L_law 151 = .ok (.if_icmp .eq 5, 3) := by decide +kernel
theorem d_L_law_154 : decode c_L_law 154 = .ok (.iconst 0, 1) := by decide +kernel
theorem d_L_law_155 : decode c_L_law 155 = .ok (.ireturn, 1) := by decide +kernel
theorem d_L_law_156 : decode c_L_law 156 = .ok (.iload 5, 2) := by decide +kernel
theorem d_L_law_158 : decode c_L_law 158 = .ok (.ifCond .ne 15, 3) := by decide +kernel
theorem d_L_law_161 : decode c_L_law 161 = .ok (.aload_n 3, 1) := by decide +kernel
theorem d_L_law_162 : decode c_L_law 162 = .ok (.iconst 0, 1) := by decide +kernel
theorem d_L_law_163 : decode c_L_law 163 = .ok (.laload, 1) := by decide +kernel
theorem d_L_law_164 : decode c_L_law 164 = .ok (.iload 6, 2) := by decide +kernel
theorem d_L_law_166 : decode c_L_law 166 = .ok (.i2l, 1) := by decide +kernel
theorem d_L_law_167 : decode c_L_law 167 = .ok (.lcmp, 1) := by decide +kernel
theorem d_L_law_168 : decode c_L_law 168 = .ok (.ifCond .eq 5, 3) := by decide +kernel
theorem d_L_law_171 : decode c_L_law 171 = .ok (.iconst 0, 1) := by decide +kernel
theorem d_L_law_172 : decode c_L_law 172 = .ok (.ireturn, 1) := by decide +kernel
theorem d_L_law_173 : decode c_L_law 173 = .ok (.goto 641, 3) := by decide +kernel
theorem d_L_law_176 : decode c_L_law 176 = .ok (.aload_n 1, 1) := by decide +kernel
theorem d_L_law_177 : decode c_L_law 177 = .ok (.invokestatic 68, 3) := by decide +kernel
theorem d_L_law_180 : decode c_L_law 180 = .ok (.istore 5, 2) := by decide +kernel
theorem d_L_law_182 : decode c_L_law 182 = .ok (.aload_n 2, 1) := by decide +kernel
theorem d_L_law_183 : decode c_L_law 183 = .ok (.invokevirtual 71, 3) := by decide +kernel
theorem d_L_law_186 : decode c_L_law 186 = .ok (.aload_n 2, 1) := by decide +kernel
theorem d_L_law_187 : decode c_L_law 187 = .ok (.invokevirtual 64, 3) := by decide +kernel
theorem d_L_law_190 : decode c_L_law 190 = .ok (.iload 5, 2) := by decide +kernel
theorem d_L_law_192 : decode c_L_law 192 = .ok (.if_icmp .eq 5, 3) := by decide +kernel
theorem d_L_law_195 : decode c_L_law 195 = .ok (.iconst 0, 1) := by decide +kernel
theorem d_L_law_196 : decode c_L_law 196 = .ok (.ireturn, 1) := by decide +kernel
theorem d_L_law_197 : decode c_L_law 197 = .ok (.goto 617, 3) := by decide +kernel
theorem d_L_law_200 : decode c_L_law 200 = .ok (.aload_n 1, 1) := by decide +kernel
theorem d_L_law_201 : decode c_L_law 201 = .ok (.aload_n 0, 1) := by decide +kernel
theorem d_L_law_202 : decode c_L_law 202 = .ok (.iload 4, 2) := by decide +kernel
theorem d_L_law_204 : decode c_L_law 204 = .ok (.iconst 1, 1) := by decide +kernel
theorem d_L_law_205 : decode c_L_law 205 = .ok (.iadd, 1) := by decide +kernel
theorem d_L_law_206 : decode c_L_law 206 = .ok (.iaload, 1) := by decide +kernel
theorem d_L_law_207 : decode c_L_law 207 = .ok (.aload_n 3, 1) := by decide +kernel
theorem d_L_law_208 : decode c_L_law 208 = .ok (.invokestatic 72, 3) := by decide +kernel
theorem d_L_law_211 : decode c_L_law 211 = .ok (.istore 5, 2) := by decide +kernel
theorem d_L_law_213 : decode c_L_law 213 = .ok (.aload_n 2, 1) := by decide +kernel
theorem d_L_law_214 : decode c_L_law 214 = .ok (.aload_n 0, 1) := by decide +kernel
theorem d_L_law_215 : decode c_L_law 215 = .ok (.iload 4, 2) := by decide +kernel
theorem d_L_law_217 : decode c_L_law 217 = .ok (.iconst 1, 1) := by decide +kernel
theorem d_L_law_218 : decode c_L_law 218 = .ok (.iadd, 1) := by decide +kernel
theorem d_L_law_219 : decode c_L_law 219 = .ok (.iaload, 1) := by decide +kernel
theorem d_L_law_220 : decode c_L_law 220 = .ok (.invokevirtual 75, 3) := by decide +kernel
theorem d_L_law_223 : decode c_L_law 223 = .ok (.istore 6, 2) := by decide +kernel
theorem d_L_law_225 : decode c_L_law 225 = .ok (.aload_n 2, 1) := by decide +kernel
theorem d_L_law_226 : decode c_L_law 226 = .ok (.invokevirtual 64, 3) := by decide +kernel
theorem d_L_law_229 : decode c_L_law 229 = .ok (.iload 5, 2) := by decide +kernel
theorem d_L_law_231 : decode c_L_law 231 = .ok (.if_icmp .eq 5, 3) := by decide +kernel
theorem d_L_law_234 : decode c_L_law 234 = .ok (.iconst 0, 1) := by decide +kernel
theorem d_L_law_235 : decode c_L_law 235 = .ok (.ireturn, 1) := by decide +kernel
theorem d_L_law_236 : decode c_L_law 236 = .ok (.iload 5, 2) := by decide +kernel
theorem d_L_law_238 : decode c_L_law 238 = .ok (.ifCond .ne 15, 3) := by decide +kernel
theorem d_L_law_241 : decode c_L_law 241 = .ok (.aload_n 3, 1) := by decide +kernel
theorem d_L_law_242 : decode c_L_law 242 = .ok (.iconst 0, 1) := by decide +kernel
theorem d_L_law_243 : decode c_L_law 243 = .ok (.laload, 1) := by decide +kernel
theorem d_L_law_244 : decode c_L_law 244 = .ok (.iload 6, 2) := by decide +kernel
theorem d_L_law_246 : decode c_L_law 246 = .ok (.i2l, 1) := by decide +kernel
theorem d_L_law_247 : decode c_L_law 247 = .ok (.lcmp, 1) := by decide +kernel
theorem d_L_law_248 : decode c_L_law 248 = .ok (.ifCond .eq 5, 3) := by decide +kernel
theorem d_L_law_251 : decode c_L_law 251 = .ok (.iconst 0, 1) := by decide +kernel
theorem d_L_law_252 : decode c_L_law 252 = .ok (.ireturn, 1) := by decide +kernel
theorem d_L_law_253 : decode c_L_law 253 = .ok (.goto 561, 3) := by decide +kernel
theorem d_L_law_256 : decode c_L_law 256 = .ok (.aload_n 1, 1) := by decide +kernel
theorem d_L_law_257 : decode c_L_law 257 = .ok (.invokestatic 76, 3) := by decide +kernel
theorem d_L_law_260 : decode c_L_law 260 = .ok (.istore 5, 2) := by decide +kernel
theorem d_L_law_262 : decode c_L_law 262 = .ok (.aload_n 2, 1) := by decide +kernel
theorem d_L_law_263 : decode c_L_law 263 = .ok (.invokevirtual 78, 3) := by decide +kernel
theorem d_L_law_266 : decode c_L_law 266 = .ok (.aload_n 2, 1) := by decide +kernel
theorem d_L_law_267 : decode c_L_law 267 = .ok (.invokevirtual 64, 3) := by decide +kernel
theorem d_L_law_270 : decode c_L_law 270 = .ok (.iload 5, 2) := by decide +kernel
theorem d_L_law_272 : decode c_L_law 272 = .ok (.if_icmp .eq 5, 3) := by decide +kernel
theorem d_L_law_275 : decode c_L_law 275 = .ok (.iconst 0, 1) := by decide +kernel
theorem d_L_law_276 : decode c_L_law 276 = .ok (.ireturn, 1) := by decide +kernel
theorem d_L_law_277 : decode c_L_law 277 = .ok (.goto 537, 3) := by decide +kernel
theorem d_L_law_280 : decode c_L_law 280 = .ok (.aload_n 1, 1) := by decide +kernel
theorem d_L_law_281 : decode c_L_law 281 = .ok (.aload_n 0, 1) := by decide +kernel
theorem d_L_law_282 : decode c_L_law 282 = .ok (.iload 4, 2) := by decide +kernel
theorem d_L_law_284 : decode c_L_law 284 = .ok (.iconst 1, 1) := by decide +kernel
theorem d_L_law_285 : decode c_L_law 285 = .ok (.iadd, 1) := by decide +kernel
theorem d_L_law_286 : decode c_L_law 286 = .ok (.iaload, 1) := by decide +kernel
theorem d_L_law_287 : decode c_L_law 287 = .ok (.aload_n 0, 1) := by decide +kernel
theorem d_L_law_288 : decode c_L_law 288 = .ok (.iload 4, 2) := by decide +kernel
theorem d_L_law_290 : decode c_L_law 290 = .ok (.iconst 2, 1) := by decide +kernel
theorem d_L_law_291 : decode c_L_law 291 = .ok (.iadd, 1) := by decide +kernel
theorem d_L_law_292 : decode c_L_law 292 = .ok (.iaload, 1) := by decide +kernel
theorem d_L_law_293 : decode c_L_law 293 = .ok (.aload_n 3, 1) := by decide +kernel
theorem d_L_law_294 : decode c_L_law 294 = .ok (.invokestatic 79, 3) := by decide +kernel
theorem d_L_law_297 : decode c_L_law 297 = .ok (.istore 5, 2) := by decide +kernel
theorem d_L_law_299 : decode c_L_law 299 = .ok (.aload_n 2, 1) := by decide +kernel
theorem d_L_law_300 : decode c_L_law 300 = .ok (.aload_n 0, 1) := by decide +kernel
theorem d_L_law_301 : decode c_L_law 301 = .ok (.iload 4, 2) := by decide +kernel
theorem d_L_law_303 : decode c_L_law 303 = .ok (.iconst 1, 1) := by decide +kernel
theorem d_L_law_304 : decode c_L_law 304 = .ok (.iadd, 1) := by decide +kernel
theorem d_L_law_305 : decode c_L_law 305 = .ok (.iaload, 1) := by decide +kernel
theorem d_L_law_306 : decode c_L_law 306 = .ok (.aload_n 0, 1) := by decide +kernel
theorem d_L_law_307 : decode c_L_law 307 = .ok (.iload 4, 2) := by decide +kernel
theorem d_L_law_309 : decode c_L_law 309 = .ok (.iconst 2, 1) := by decide +kernel
theorem d_L_law_310 : decode c_L_law 310 = .ok (.iadd, 1) := by decide +kernel
theorem d_L_law_311 : decode c_L_law 311 = .ok (.iaload, 1) := by decide +kernel
theorem d_L_law_312 : decode c_L_law 312 = .ok (.invokevirtual 81, 3) := by decide +kernel
theorem d_L_law_315 : decode c_L_law 315 = .ok (.istore 6, 2) := by decide +kernel
theorem d_L_law_317 : decode c_L_law 317 = .ok (.aload_n 2, 1) := by decide +kernel
theorem d_L_law_318 : decode c_L_law 318 = .ok (.invokevirtual 64, 3) := by decide +kernel
theorem d_L_law_321 : decode c_L_law 321 = .ok (.iload 5, 2) := by decide +kernel
theorem d_L_law_323 : decode c_L_law 323 = .ok (.if_icmp .eq 5, 3) := by decide +kernel
theorem d_L_law_326 : decode c_L_law 326 = .ok (.iconst 0, 1) := by decide +kernel
theorem d_L_law_327 : decode c_L_law 327 = .ok (.ireturn, 1) := by decide +kernel
theorem d_L_law_328 : decode c_L_law 328 = .ok (.iload 5, 2) := by decide +kernel
theorem d_L_law_330 : decode c_L_law 330 = .ok (.ifCond .ne 15, 3) := by decide +kernel
theorem d_L_law_333 : decode c_L_law 333 = .ok (.aload_n 3, 1) := by decide +kernel
theorem d_L_law_334 : decode c_L_law 334 = .ok (.iconst 0, 1) := by decide +kernel
theorem d_L_law_335 : decode c_L_law 335 = .ok (.laload, 1) := by decide +kernel
theorem d_L_law_336 : decode c_L_law 336 = .ok (.iload 6, 2) := by decide +kernel
theorem d_L_law_338 : decode c_L_law 338 = .ok (.i2l, 1) := by decide +kernel
theorem d_L_law_339 : decode c_L_law 339 = .ok (.lcmp, 1) := by decide +kernel
theorem d_L_law_340 : decode c_L_law 340 = .ok (.ifCond .eq 5, 3) := by decide +kernel
theorem d_L_law_343 : decode c_L_law 343 = .ok (.iconst 0, 1) := by decide +kernel
theorem d_L_law_344 : decode c_L_law 344 = .ok (.ireturn, 1) := by decide +kernel
theorem d_L_law_345 : decode c_L_law 345 = .ok (.goto 469, 3) := by decide +kernel
theorem d_L_law_348 : decode c_L_law 348 = .ok (.aload_n 1, 1) := by decide +kernel
theorem d_L_law_349 : decode c_L_law 349 = .ok (.aload_n 0, 1) := by decide +kernel
theorem d_L_law_350 : decode c_L_law 350 = .ok (.iload 4, 2) := by decide +kernel
theorem d_L_law_352 : decode c_L_law 352 = .ok (.iconst 1, 1) := by decide +kernel
theorem d_L_law_353 : decode c_L_law 353 = .ok (.iadd, 1) := by decide +kernel
theorem d_L_law_354 : decode c_L_law 354 = .ok (.iaload, 1) := by decide +kernel
theorem d_L_law_355 : decode c_L_law 355 = .ok (.aload_n 0, 1) := by decide +kernel
theorem d_L_law_356 : decode c_L_law 356 = .ok (.iload 4, 2) := by decide +kernel
theorem d_L_law_358 : decode c_L_law 358 = .ok (.iconst 2, 1) := by decide +kernel
theorem d_L_law_359 : decode c_L_law 359 = .ok (.iadd, 1) := by decide +kernel
theorem d_L_law_360 : decode c_L_law 360 = .ok (.iaload, 1) := by decide +kernel
theorem d_L_law_361 : decode c_L_law 361 = .ok (.aload_n 0, 1) := by decide +kernel
theorem d_L_law_362 : decode c_L_law 362 = .ok (.iload 4, 2) := by decide +kernel
theorem d_L_law_364 : decode c_L_law 364 = .ok (.iconst 3, 1) := by decide +kernel
theorem d_L_law_365 : decode c_L_law 365 = .ok (.iadd, 1) := by decide +kernel
theorem d_L_law_366 : decode c_L_law 366 = .ok (.iaload, 1) := by decide +kernel
theorem d_L_law_367 : decode c_L_law 367 = .ok (.aload_n 0, 1) := by decide +kernel
theorem d_L_law_368 : decode c_L_law 368 = .ok (.iload 4, 2) := by decide +kernel
theorem d_L_law_370 : decode c_L_law 370 = .ok (.iconst 4, 1) := by decide +kernel
theorem d_L_law_371 : decode c_L_law 371 = .ok (.iadd, 1) := by decide +kernel
theorem d_L_law_372 : decode c_L_law 372 = .ok (.iaload, 1) := by decide +kernel
theorem d_L_law_373 : decode c_L_law 373 = .ok (.aload_n 3, 1) := by decide +kernel
theorem d_L_law_374 : decode c_L_law 374 = .ok (.invokestatic 82, 3) := by decide +kernel
theorem d_L_law_377 : decode c_L_law 377 = .ok (.istore 5, 2) := by decide +kernel
theorem d_L_law_379 : decode c_L_law 379 = .ok (.aload_n 2, 1) := by decide +kernel
theorem d_L_law_380 : decode c_L_law 380 = .ok (.aload_n 0, 1) := by decide +kernel
theorem d_L_law_381 : decode c_L_law 381 = .ok (.iload 4, 2) := by decide +kernel
theorem d_L_law_383 : decode c_L_law 383 = .ok (.iconst 1, 1) := by decide +kernel
theorem d_L_law_384 : decode c_L_law 384 = .ok (.iadd, 1) := by decide +kernel
theorem d_L_law_385 : decode c_L_law 385 = .ok (.iaload, 1) := by decide +kernel
theorem d_L_law_386 : decode c_L_law 386 = .ok (.aload_n 0, 1) := by decide +kernel
theorem d_L_law_387 : decode c_L_law 387 = .ok (.iload 4, 2) := by decide +kernel
theorem d_L_law_389 : decode c_L_law 389 = .ok (.iconst 2, 1) := by decide +kernel
theorem d_L_law_390 : decode c_L_law 390 = .ok (.iadd, 1) := by decide +kernel
theorem d_L_law_391 : decode c_L_law 391 = .ok (.iaload, 1) := by decide +kernel
theorem d_L_law_392 : decode c_L_law 392 = .ok (.aload_n 0, 1) := by decide +kernel
theorem d_L_law_393 : decode c_L_law 393 = .ok (.iload 4, 2) := by decide +kernel
theorem d_L_law_395 : decode c_L_law 395 = .ok (.iconst 3, 1) := by decide +kernel
theorem d_L_law_396 : decode c_L_law 396 = .ok (.iadd, 1) := by decide +kernel
theorem d_L_law_397 : decode c_L_law 397 = .ok (.iaload, 1) := by decide +kernel
theorem d_L_law_398 : decode c_L_law 398 = .ok (.aload_n 0, 1) := by decide +kernel
theorem d_L_law_399 : decode c_L_law 399 = .ok (.iload 4, 2) := by decide +kernel
theorem d_L_law_401 : decode c_L_law 401 = .ok (.iconst 4, 1) := by decide +kernel
theorem d_L_law_402 : decode c_L_law 402 = .ok (.iadd, 1) := by decide +kernel
theorem d_L_law_403 : decode c_L_law 403 = .ok (.iaload, 1) := by decide +kernel
theorem d_L_law_404 : decode c_L_law 404 = .ok (.invokevirtual 85, 3) := by decide +kernel
theorem d_L_law_407 : decode c_L_law 407 = .ok (.istore 6, 2) := by decide +kernel
theorem d_L_law_409 : decode c_L_law 409 = .ok (.aload_n 2, 1) := by decide +kernel
theorem d_L_law_410 : decode c_L_law 410 = .ok (.invokevirtual 64, 3) := by decide +kernel
theorem d_L_law_413 : decode c_L_law 413 = .ok (.iload 5, 2) := by decide +kernel
theorem d_L_law_415 : decode c_L_law 415 = .ok (.if_icmp .eq 5, 3) := by decide +kernel
theorem d_L_law_418 : decode c_L_law 418 = .ok (.iconst 0, 1) := by decide +kernel
theorem d_L_law_419 : decode c_L_law 419 = .ok (.ireturn, 1) := by decide +kernel
theorem d_L_law_420 : decode c_L_law 420 = .ok (.iload 5, 2) := by decide +kernel
theorem d_L_law_422 : decode c_L_law 422 = .ok (.ifCond .ne 22, 3) := by decide +kernel
theorem d_L_law_425 : decode c_L_law 425 = .ok (.aload_n 3, 1) := by decide +kernel
theorem d_L_law_426 : decode c_L_law 426 = .ok (.iconst 0, 1) := by decide +kernel
theorem d_L_law_427 : decode c_L_law 427 = .ok (.laload, 1) := by decide +kernel
theorem d_L_law_428 : decode c_L_law 428 = .ok (.iload 6, 2) := by decide +kernel
theorem d_L_law_430 : decode c_L_law 430 = .ok (.ifCond .eq 7, 3) := by decide +kernel
theorem d_L_law_433 : decode c_L_law 433 = .ok (.lconst 1, 1) := by decide +kernel
theorem d_L_law_434 : decode c_L_law 434 = .ok (.goto 4, 3) := by decide +kernel
theorem d_L_law_437 : decode c_L_law 437 = .ok (.lconst 0, 1) := by decide +kernel
theorem d_L_law_438 : decode c_L_law 438 = .ok (.lcmp, 1) := by decide +kernel
theorem d_L_law_439 : decode c_L_law 439 = .ok (.ifCond .eq 5, 3) := by decide +kernel
theorem d_L_law_442 : decode c_L_law 442 = .ok (.iconst 0, 1) := by decide +kernel
theorem d_L_law_443 : decode c_L_law 443 = .ok (.ireturn, 1) := by decide +kernel
theorem d_L_law_444 : decode c_L_law 444 = .ok (.goto 370, 3) := by decide +kernel
theorem d_L_law_447 : decode c_L_law 447 = .ok (.aload_n 1, 1) := by decide +kernel
theorem d_L_law_448 : decode c_L_law 448 = .ok (.aload_n 0, 1) := by decide +kernel
theorem d_L_law_449 : decode c_L_law 449 = .ok (.iload 4, 2) := by decide +kernel
theorem d_L_law_451 : decode c_L_law 451 = .ok (.iconst 1, 1) := by decide +kernel
theorem d_L_law_452 : decode c_L_law 452 = .ok (.iadd, 1) := by decide +kernel
theorem d_L_law_453 : decode c_L_law 453 = .ok (.iaload, 1) := by decide +kernel
theorem d_L_law_454 : decode c_L_law 454 = .ok (.aload_n 3, 1) := by decide +kernel
theorem d_L_law_455 : decode c_L_law 455 = .ok (.invokestatic 86, 3) := by decide +kernel
theorem d_L_law_458 : decode c_L_law 458 = .ok (.istore 5, 2) := by decide +kernel
theorem d_L_law_460 : decode c_L_law 460 = .ok (.aload_n 2, 1) := by decide +kernel
theorem d_L_law_461 : decode c_L_law 461 = .ok (.aload_n 0, 1) := by decide +kernel
theorem d_L_law_462 : decode c_L_law 462 = .ok (.iload 4, 2) := by decide +kernel
theorem d_L_law_464 : decode c_L_law 464 = .ok (.iconst 1, 1) := by decide +kernel
theorem d_L_law_465 : decode c_L_law 465 = .ok (.iadd, 1) := by decide +kernel
theorem d_L_law_466 : decode c_L_law 466 = .ok (.iaload, 1) := by decide +kernel
theorem d_L_law_467 : decode c_L_law 467 = .ok (.invokevirtual 88, 3) := by decide +kernel
theorem d_L_law_470 : decode c_L_law 470 = .ok (.istore 6, 2) := by decide +kernel
theorem d_L_law_472 : decode c_L_law 472 = .ok (.aload_n 2, 1) := by decide +kernel
theorem d_L_law_473 : decode c_L_law 473 = .ok (.invokevirtual 64, 3) := by decide +kernel
theorem d_L_law_476 : decode c_L_law 476 = .ok (.iload 5, 2) := by decide +kernel
theorem d_L_law_478 : decode c_L_law 478 = .ok (.if_icmp .eq 5, 3) := by decide +kernel
theorem d_L_law_481 : decode c_L_law 481 = .ok (.iconst 0, 1) := by decide +kernel
theorem d_L_law_482 : decode c_L_law 482 = .ok (.ireturn, 1) := by decide +kernel
theorem d_L_law_483 : decode c_L_law 483 = .ok (.iload 5, 2) := by decide +kernel
theorem d_L_law_485 : decode c_L_law 485 = .ok (.ifCond .ne 15, 3) := by decide +kernel
theorem d_L_law_488 : decode c_L_law 488 = .ok (.aload_n 3, 1) := by decide +kernel
theorem d_L_law_489 : decode c_L_law 489 = .ok (.iconst 0, 1) := by decide +kernel
theorem d_L_law_490 : decode c_L_law 490 = .ok (.laload, 1) := by decide +kernel
theorem d_L_law_491 : decode c_L_law 491 = .ok (.iload 6, 2) := by decide +kernel
theorem d_L_law_493 : decode c_L_law 493 = .ok (.i2l, 1) := by decide +kernel
theorem d_L_law_494 : decode c_L_law 494 = .ok (.lcmp, 1) := by decide +kernel
theorem d_L_law_495 : decode c_L_law 495 = .ok (.ifCond .eq 5, 3) := by decide +kernel
theorem d_L_law_498 : decode c_L_law 498 = .ok (.iconst 0, 1) := by decide +kernel
theorem d_L_law_499 : decode c_L_law 499 = .ok (.ireturn, 1) := by decide +kernel
theorem d_L_law_500 : decode c_L_law 500 = .ok (.goto 314, 3) := by decide +kernel
theorem d_L_law_503 : decode c_L_law 503 = .ok (.aload_n 1, 1) := by decide +kernel
theorem d_L_law_504 : decode c_L_law 504 = .ok (.aload_n 0, 1) := by decide +kernel
theorem d_L_law_505 : decode c_L_law 505 = .ok (.iload 4, 2) := by decide +kernel
theorem d_L_law_507 : decode c_L_law 507 = .ok (.iconst 1, 1) := by decide +kernel
theorem d_L_law_508 : decode c_L_law 508 = .ok (.iadd, 1) := by decide +kernel
theorem d_L_law_509 : decode c_L_law 509 = .ok (.iaload, 1) := by decide +kernel
theorem d_L_law_510 : decode c_L_law 510 = .ok (.aload_n 3, 1) := by decide +kernel
theorem d_L_law_511 : decode c_L_law 511 = .ok (.invokestatic 89, 3) := by decide +kernel
theorem d_L_law_514 : decode c_L_law 514 = .ok (.istore 5, 2) := by decide +kernel
theorem d_L_law_516 : decode c_L_law 516 = .ok (.aload_n 2, 1) := by decide +kernel
theorem d_L_law_517 : decode c_L_law 517 = .ok (.aload_n 0, 1) := by decide +kernel
theorem d_L_law_518 : decode c_L_law 518 = .ok (.iload 4, 2) := by decide +kernel
theorem d_L_law_520 : decode c_L_law 520 = .ok (.iconst 1, 1) := by decide +kernel
theorem d_L_law_521 : decode c_L_law 521 = .ok (.iadd, 1) := by decide +kernel
theorem d_L_law_522 : decode c_L_law 522 = .ok (.iaload, 1) := by decide +kernel
theorem d_L_law_523 : decode c_L_law 523 = .ok (.invokevirtual 91, 3) := by decide +kernel
theorem d_L_law_526 : decode c_L_law 526 = .ok (.istore 6, 2) := by decide +kernel
theorem d_L_law_528 : decode c_L_law 528 = .ok (.aload_n 2, 1) := by decide +kernel
theorem d_L_law_529 : decode c_L_law 529 = .ok (.invokevirtual 64, 3) := by decide +kernel
theorem d_L_law_532 : decode c_L_law 532 = .ok (.iload 5, 2) := by decide +kernel
theorem d_L_law_534 : decode c_L_law 534 = .ok (.if_icmp .eq 5, 3) := by decide +kernel
theorem d_L_law_537 : decode c_L_law 537 = .ok (.iconst 0, 1) := by decide +kernel
theorem d_L_law_538 : decode c_L_law 538 = .ok (.ireturn, 1) := by decide +kernel
theorem d_L_law_539 : decode c_L_law 539 = .ok (.iload 5, 2) := by decide +kernel
theorem d_L_law_541 : decode c_L_law 541 = .ok (.ifCond .ne 15, 3) := by decide +kernel
theorem d_L_law_544 : decode c_L_law 544 = .ok (.aload_n 3, 1) := by decide +kernel
theorem d_L_law_545 : decode c_L_law 545 = .ok (.iconst 0, 1) := by decide +kernel
theorem d_L_law_546 : decode c_L_law 546 = .ok (.laload, 1) := by decide +kernel
theorem d_L_law_547 : decode c_L_law 547 = .ok (.iload 6, 2) := by decide +kernel
theorem d_L_law_549 : decode c_L_law 549 = .ok (.i2l, 1) := by decide +kernel
theorem d_L_law_550 : decode c_L_law 550 = .ok (.lcmp, 1) := by decide +kernel
theorem d_L_law_551 : decode c_L_law 551 = .ok (.ifCond .eq 5, 3) := by decide +kernel
theorem d_L_law_554 : decode c_L_law 554 = .ok (.iconst 0, 1) := by decide +kernel
theorem d_L_law_555 : decode c_L_law 555 = .ok (.ireturn, 1) := by decide +kernel
theorem d_L_law_556 : decode c_L_law 556 = .ok (.goto 258, 3) := by decide +kernel
theorem d_L_law_559 : decode c_L_law 559 = .ok (.aload_n 1, 1) := by decide +kernel
theorem d_L_law_560 : decode c_L_law 560 = .ok (.aload_n 0, 1) := by decide +kernel
theorem d_L_law_561 : decode c_L_law 561 = .ok (.iload 4, 2) := by decide +kernel
theorem d_L_law_563 : decode c_L_law 563 = .ok (.iconst 1, 1) := by decide +kernel
theorem d_L_law_564 : decode c_L_law 564 = .ok (.iadd, 1) := by decide +kernel
theorem d_L_law_565 : decode c_L_law 565 = .ok (.iaload, 1) := by decide +kernel
theorem d_L_law_566 : decode c_L_law 566 = .ok (.aload_n 0, 1) := by decide +kernel
theorem d_L_law_567 : decode c_L_law 567 = .ok (.iload 4, 2) := by decide +kernel
theorem d_L_law_569 : decode c_L_law 569 = .ok (.iconst 2, 1) := by decide +kernel
theorem d_L_law_570 : decode c_L_law 570 = .ok (.iadd, 1) := by decide +kernel
theorem d_L_law_571 : decode c_L_law 571 = .ok (.iaload, 1) := by decide +kernel
theorem d_L_law_572 : decode c_L_law 572 = .ok (.aload_n 0, 1) := by decide +kernel
theorem d_L_law_573 : decode c_L_law 573 = .ok (.iload 4, 2) := by decide +kernel
theorem d_L_law_575 : decode c_L_law 575 = .ok (.iconst 3, 1) := by decide +kernel
theorem d_L_law_576 : decode c_L_law 576 = .ok (.iadd, 1) := by decide +kernel
theorem d_L_law_577 : decode c_L_law 577 = .ok (.iaload, 1) := by decide +kernel
theorem d_L_law_578 : decode c_L_law 578 = .ok (.aload_n 0, 1) := by decide +kernel
theorem d_L_law_579 : decode c_L_law 579 = .ok (.iload 4, 2) := by decide +kernel
theorem d_L_law_581 : decode c_L_law 581 = .ok (.iconst 4, 1) := by decide +kernel
theorem d_L_law_582 : decode c_L_law 582 = .ok (.iadd, 1) := by decide +kernel
theorem d_L_law_583 : decode c_L_law 583 = .ok (.iaload, 1) := by decide +kernel
theorem d_L_law_584 : decode c_L_law 584 = .ok (.aload_n 3, 1) := by decide +kernel
theorem d_L_law_585 : decode c_L_law 585 = .ok (.invokestatic 92, 3) := by decide +kernel
theorem d_L_law_588 : decode c_L_law 588 = .ok (.istore 5, 2) := by decide +kernel
theorem d_L_law_590 : decode c_L_law 590 = .ok (.aload_n 2, 1) := by decide +kernel
theorem d_L_law_591 : decode c_L_law 591 = .ok (.aload_n 0, 1) := by decide +kernel
theorem d_L_law_592 : decode c_L_law 592 = .ok (.iload 4, 2) := by decide +kernel
theorem d_L_law_594 : decode c_L_law 594 = .ok (.iconst 1, 1) := by decide +kernel
theorem d_L_law_595 : decode c_L_law 595 = .ok (.iadd, 1) := by decide +kernel
theorem d_L_law_596 : decode c_L_law 596 = .ok (.iaload, 1) := by decide +kernel
theorem d_L_law_597 : decode c_L_law 597 = .ok (.aload_n 0, 1) := by decide +kernel
theorem d_L_law_598 : decode c_L_law 598 = .ok (.iload 4, 2) := by decide +kernel
theorem d_L_law_600 : decode c_L_law 600 = .ok (.iconst 2, 1) := by decide +kernel
theorem d_L_law_601 : decode c_L_law 601 = .ok (.iadd, 1) := by decide +kernel
theorem d_L_law_602 : decode c_L_law 602 = .ok (.iaload, 1) := by decide +kernel
theorem d_L_law_603 : decode c_L_law 603 = .ok (.aload_n 0, 1) := by decide +kernel
theorem d_L_law_604 : decode c_L_law 604 = .ok (.iload 4, 2) := by decide +kernel
theorem d_L_law_606 : decode c_L_law 606 = .ok (.iconst 3, 1) := by decide +kernel
theorem d_L_law_607 : decode c_L_law 607 = .ok (.iadd, 1) := by decide +kernel
theorem d_L_law_608 : decode c_L_law 608 = .ok (.iaload, 1) := by decide +kernel
theorem d_L_law_609 : decode c_L_law 609 = .ok (.aload_n 0, 1) := by decide +kernel
theorem d_L_law_610 : decode c_L_law 610 = .ok (.iload 4, 2) := by decide +kernel
theorem d_L_law_612 : decode c_L_law 612 = .ok (.iconst 4, 1) := by decide +kernel
theorem d_L_law_613 : decode c_L_law 613 = .ok (.iadd, 1) := by decide +kernel
theorem d_L_law_614 : decode c_L_law 614 = .ok (.iaload, 1) := by decide +kernel
theorem d_L_law_615 : decode c_L_law 615 = .ok (.invokevirtual 94, 3) := by decide +kernel
theorem d_L_law_618 : decode c_L_law 618 = .ok (.istore 6, 2) := by decide +kernel
theorem d_L_law_620 : decode c_L_law 620 = .ok (.aload_n 2, 1) := by decide +kernel
theorem d_L_law_621 : decode c_L_law 621 = .ok (.invokevirtual 64, 3) := by decide +kernel
theorem d_L_law_624 : decode c_L_law 624 = .ok (.iload 5, 2) := by decide +kernel
theorem d_L_law_626 : decode c_L_law 626 = .ok (.if_icmp .eq 5, 3) := by decide +kernel
theorem d_L_law_629 : decode c_L_law 629 = .ok (.iconst 0, 1) := by decide +kernel
theorem d_L_law_630 : decode c_L_law 630 = .ok (.ireturn, 1) := by decide +kernel
theorem d_L_law_631 : decode c_L_law 631 = .ok (.iload 5, 2) := by decide +kernel
theorem d_L_law_633 : decode c_L_law 633 = .ok (.ifCond .ne 15, 3) := by decide +kernel
theorem d_L_law_636 : decode c_L_law 636 = .ok (.aload_n 3, 1) := by decide +kernel
theorem d_L_law_637 : decode c_L_law 637 = .ok (.iconst 0, 1) := by decide +kernel
theorem d_L_law_638 : decode c_L_law 638 = .ok (.laload, 1) := by decide +kernel
theorem d_L_law_639 : decode c_L_law 639 = .ok (.iload 6, 2) := by decide +kernel
theorem d_L_law_641 : decode c_L_law 641 = .ok (.i2l, 1) := by decide +kernel
theorem d_L_law_642 : decode c_L_law 642 = .ok (.lcmp, 1) := by decide +kernel
theorem d_L_law_643 : decode c_L_law 643 = .ok (.ifCond .eq 5, 3) := by decide +kernel
theorem d_L_law_646 : decode c_L_law 646 = .ok (.iconst 0, 1) := by decide +kernel
theorem d_L_law_647 : decode c_L_law 647 = .ok (.ireturn, 1) := by decide +kernel
theorem d_L_law_648 : decode c_L_law 648 = .ok (.goto 166, 3) := by decide +kernel
theorem d_L_law_651 : decode c_L_law 651 = .ok (.aload_n 1, 1) := by decide +kernel
theorem d_L_law_652 : decode c_L_law 652 = .ok (.aload_n 0, 1) := by decide +kernel
theorem d_L_law_653 : decode c_L_law 653 = .ok (.iload 4, 2) := by decide +kernel
theorem d_L_law_655 : decode c_L_law 655 = .ok (.iconst 1, 1) := by decide +kernel
theorem d_L_law_656 : decode c_L_law 656 = .ok (.iadd, 1) := by decide +kernel
theorem d_L_law_657 : decode c_L_law 657 = .ok (.iaload, 1) := by decide +kernel
theorem d_L_law_658 : decode c_L_law 658 = .ok (.aload_n 3, 1) := by decide +kernel
theorem d_L_law_659 : decode c_L_law 659 = .ok (.invokestatic 95, 3) := by decide +kernel
theorem d_L_law_662 : decode c_L_law 662 = .ok (.istore 5, 2) := by decide +kernel
theorem d_L_law_664 : decode c_L_law 664 = .ok (.aload_n 2, 1) := by decide +kernel
theorem d_L_law_665 : decode c_L_law 665 = .ok (.aload_n 0, 1) := by decide +kernel
theorem d_L_law_666 : decode c_L_law 666 = .ok (.iload 4, 2) := by decide +kernel
theorem d_L_law_668 : decode c_L_law 668 = .ok (.iconst 1, 1) := by decide +kernel
theorem d_L_law_669 : decode c_L_law 669 = .ok (.iadd, 1) := by decide +kernel
theorem d_L_law_670 : decode c_L_law 670 = .ok (.iaload, 1) := by decide +kernel
theorem d_L_law_671 : decode c_L_law 671 = .ok (.invokevirtual 97, 3) := by decide +kernel
theorem d_L_law_674 : decode c_L_law 674 = .ok (.istore 6, 2) := by decide +kernel
theorem d_L_law_676 : decode c_L_law 676 = .ok (.aload_n 2, 1) := by decide +kernel
theorem d_L_law_677 : decode c_L_law 677 = .ok (.invokevirtual 64, 3) := by decide +kernel
theorem d_L_law_680 : decode c_L_law 680 = .ok (.iload 5, 2) := by decide +kernel
theorem d_L_law_682 : decode c_L_law 682 = .ok (.if_icmp .eq 5, 3) := by decide +kernel
theorem d_L_law_685 : decode c_L_law 685 = .ok (.iconst 0, 1) := by decide +kernel
theorem d_L_law_686 : decode c_L_law 686 = .ok (.ireturn, 1) := by decide +kernel
theorem d_L_law_687 : decode c_L_law 687 = .ok (.iload 5, 2) := by decide +kernel
theorem d_L_law_689 : decode c_L_law 689 = .ok (.ifCond .ne 15, 3) := by decide +kernel
theorem d_L_law_692 : decode c_L_law 692 = .ok (.aload_n 3, 1) := by decide +kernel
theorem d_L_law_693 : decode c_L_law 693 = .ok (.iconst 0, 1) := by decide +kernel
theorem d_L_law_694 : decode c_L_law 694 = .ok (.laload, 1) := by decide +kernel
theorem d_L_law_695 : decode c_L_law 695 = .ok (.iload 6, 2) := by decide +kernel
theorem d_L_law_697 : decode c_L_law 697 = .ok (.i2l, 1) := by decide +kernel
theorem d_L_law_698 : decode c_L_law 698 = .ok (.lcmp, 1) := by decide +kernel
theorem d_L_law_699 : decode c_L_law 699 = .ok (.ifCond .eq 5, 3) := by decide +kernel
theorem d_L_law_702 : decode c_L_law 702 = .ok (.iconst 0, 1) := by decide +kernel
theorem d_L_law_703 : decode c_L_law 703 = .ok (.ireturn, 1) := by decide +kernel
theorem d_L_law_704 : decode c_L_law 704 = .ok (.goto 110, 3) := by decide +kernel
theorem d_L_law_707 : decode c_L_law 707 = .ok (.aload_n 1, 1) := by decide +kernel
theorem d_L_law_708 : decode c_L_law 708 = .ok (.invokevirtual 98, 3) := by decide +kernel
theorem d_L_law_711 : decode c_L_law 711 = .ok (.aload_n 2, 1) := by decide +kernel
theorem d_L_law_712 : decode c_L_law 712 = .ok (.invokevirtual 101, 3) := by decide +kernel
theorem d_L_law_715 : decode c_L_law 715 = .ok (.if_icmp .eq 99, 3) := by decide +kernel
theorem d_L_law_718 : decode c_L_law 718 = .ok (.iconst 0, 1) := by decide +kernel
theorem d_L_law_719 : decode c_L_law 719 = .ok (.ireturn, 1) := by decide +kernel
theorem d_L_law_720 : decode c_L_law 720 = .ok (.aload_n 1, 1) := by decide +kernel
theorem d_L_law_721 : decode c_L_law 721 = .ok (.aload_n 0, 1) := by decide +kernel
theorem d_L_law_722 : decode c_L_law 722 = .ok (.iload 4, 2) := by decide +kernel
theorem d_L_law_724 : decode c_L_law 724 = .ok (.iconst 1, 1) := by decide +kernel
theorem d_L_law_725 : decode c_L_law 725 = .ok (.iadd, 1) := by decide +kernel
theorem d_L_law_726 : decode c_L_law 726 = .ok (.iaload, 1) := by decide +kernel
