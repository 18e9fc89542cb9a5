theorem d_S_boxHolds_56 : decode c_S_boxHolds 56 = .ok (.iconst 0, 1) := by decide +kernel
theorem d_S_boxHolds_57 : decode c_S_boxHolds 57 = .ok (.ireturn, 1) := by decide +kernel
theorem d_S_overlaps_0 : decode c_S_overlaps 0 = .ok (.aload_n 1, 1) := by decide +kernel
theorem d_S_overlaps_1 : decode c_S_overlaps 1 = .ok (.getfield 31, 3) := by decide +kernel
theorem d_S_overlaps_4 : decode c_S_overlaps 4 = .ok (.iload_n 2, 1) := by decide +kernel
theorem d_S_overlaps_5 : decode c_S_overlaps 5 = .ok (.iadd, 1) := by decide +kernel
theorem d_S_overlaps_6 : decode c_S_overlaps 6 = .ok (.aload_n 0, 1) := by decide +kernel
theorem d_S_overlaps_7 : decode c_S_overlaps 7 = .ok (.getfield 22, 3) := by decide +kernel
theorem d_S_overlaps_10 : decode c_S_overlaps 10 = .ok (.if_icmp .le 42, 3) := by decide +kernel
theorem d_S_overlaps_13 : decode c_S_overlaps 13 = .ok (.aload_n 1, 1) := by decide +kernel
theorem d_S_overlaps_14 : decode c_S_overlaps 14 = .ok (.getfield 22, 3) := by decide +kernel
theorem d_S_overlaps_17 : decode c_S_overlaps 17 = .ok (.iload_n 2, 1) := by decide +kernel
theorem d_S_overlaps_18 : decode c_S_overlaps 18 = .ok (.iadd, 1) := by decide +kernel
theorem d_S_overlaps_19 : decode c_S_overlaps 19 = .ok (.aload_n 0, 1) := by decide +kernel
theorem d_S_overlaps_20 : decode c_S_overlaps 20 = .ok (.getfield 31, 3) := by decide +kernel
theorem d_S_overlaps_23 : decode c_S_overlaps 23 = .ok (.if_icmp .ge 29, 3) := by decide +kernel
theorem d_S_overlaps_26 : decode c_S_overlaps 26 = .ok (.aload_n 1, 1) := by decide +kernel
theorem d_S_overlaps_27 : decode c_S_overlaps 27 = .ok (.getfield 40, 3) := by decide +kernel
theorem d_S_overlaps_30 : decode c_S_overlaps 30 = .ok (.iload_n 3, 1) := by decide +kernel
theorem d_S_overlaps_31 : decode c_S_overlaps 31 = .ok (.iadd, 1) := by decide +kernel
theorem d_S_overlaps_32 : decode c_S_overlaps 32 = .ok (.aload_n 0, 1) := by decide +kernel
theorem d_S_overlaps_33 : decode c_S_overlaps 33 = .ok (.getfield 37, 3) := by decide +kernel
theorem d_S_overlaps_36 : decode c_S_overlaps 36 = .ok (.if_icmp .le 16, 3) := by decide +kernel
theorem d_S_overlaps_39 : decode c_S_overlaps 39 = .ok (.aload_n 1, 1) := by decide +kernel
theorem d_S_overlaps_40 : decode c_S_overlaps 40 = .ok (.getfield 37, 3) := by decide +kernel
theorem d_S_overlaps_43 : decode c_S_overlaps 43 = .ok (.iload_n 3, 1) := by decide +kernel
theorem d_S_overlaps_44 : decode c_S_overlaps 44 = .ok (.iadd, 1) := by decide +kernel
theorem d_S_overlaps_45 : decode c_S_overlaps 45 = .ok (.aload_n 0, 1) := by decide +kernel
theorem d_S_overlaps_46 : decode c_S_overlaps 46 = .ok (.getfield 40, 3) := by decide +kernel
theorem d_S_overlaps_49 : decode c_S_overlaps 49 = .ok (.if_icmp .lt 7, 3) := by decide +kernel
theorem d_S_overlaps_52 : decode c_S_overlaps 52 = .ok (.iconst 1, 1) := by decide +kernel
theorem d_S_overlaps_53 : decode c_S_overlaps 53 = .ok (.goto 4, 3) := by decide +kernel
theorem d_S_overlaps_56 : decode c_S_overlaps 56 = .ok (.iconst 0, 1) := by decide +kernel
theorem d_S_overlaps_57 : decode c_S_overlaps 57 = .ok (.istore 4, 2) := by decide +kernel
theorem d_S_overlaps_59 : decode c_S_overlaps 59 = .ok (.iload 4, 2) := by decide +kernel
theorem d_S_overlaps_61 : decode c_S_overlaps 61 = .ok (.ifCond .ne 29, 3) := by decide +kernel
theorem d_S_overlaps_64 : decode c_S_overlaps 64 = .ok (.aload_n 0, 1) := by decide +kernel
theorem d_S_overlaps_65 : decode c_S_overlaps 65 = .ok (.aload_n 1, 1) := by decide +kernel
theorem d_S_overlaps_66 : decode c_S_overlaps 66 = .ok (.iload_n 2, 1) := by decide +kernel
theorem d_S_overlaps_67 : decode c_S_overlaps 67 = .ok (.iload_n 3, 1) := by decide +kernel
theorem d_S_overlaps_68 : decode c_S_overlaps 68 = .ok (.invokevirtual 86, 3) := by decide +kernel
theorem d_S_overlaps_71 : decode c_S_overlaps 71 = .ok (.ifCond .ne 19, 3) := by decide +kernel
theorem d_S_overlaps_74 : decode c_S_overlaps 74 = .ok (.aload_n 1, 1) := by decide +kernel
theorem d_S_overlaps_75 : decode c_S_overlaps 75 = .ok (.aload_n 0, 1) := by decide +kernel
theorem d_S_overlaps_76 : decode c_S_overlaps 76 = .ok (.iload_n 2, 1) := by decide +kernel
theorem d_S_overlaps_77 : decode c_S_overlaps 77 = .ok (.ineg, 1) := by decide +kernel
theorem d_S_overlaps_78 : decode c_S_overlaps 78 = .ok (.iload_n 3, 1) := by decide +kernel
theorem d_S_overlaps_79 : decode c_S_overlaps 79 = .ok (.ineg, 1) := by decide +kernel
theorem d_S_overlaps_80 : decode c_S_overlaps 80 = .ok (.invokevirtual 86, 3) := by decide +kernel
theorem d_S_overlaps_83 : decode c_S_overlaps 83 = .ok (.ifCond .ne 7, 3) := by decide +kernel
theorem d_S_overlaps_86 : decode c_S_overlaps 86 = .ok (.iconst 1, 1) := by decide +kernel
theorem d_S_overlaps_87 : decode c_S_overlaps 87 = .ok (.goto 4, 3) := by decide +kernel
theorem d_S_overlaps_90 : decode c_S_overlaps 90 = .ok (.iconst 0, 1) := by decide +kernel
theorem d_S_overlaps_91 : decode c_S_overlaps 91 = .ok (.ireturn, 1) := by decide +kernel
theorem d_S_sideParts_0 : decode c_S_sideParts 0 = .ok (.iconst 0, 1) := by decide +kernel
theorem d_S_sideParts_1 : decode c_S_sideParts 1 = .ok (.istore 4, 2) := by decide +kernel
theorem d_S_sideParts_3 : decode c_S_sideParts 3 = .ok (.iload 4, 2) := by decide +kernel
theorem d_S_sideParts_5 : decode c_S_sideParts 5 = .ok (.aload_n 0, 1) := by decide +kernel
theorem d_S_sideParts_6 : decode c_S_sideParts 6 = .ok (.getfield 18, 3) := by decide +kernel
theorem d_S_sideParts_9 : decode c_S_sideParts 9 = .ok (.if_icmp .ge 76, 3) := by decide +kernel
theorem d_S_sideParts_12 : decode c_S_sideParts 12 = .ok (.iconst 1, 1) := by decide +kernel
theorem d_S_sideParts_13 : decode c_S_sideParts 13 = .ok (.istore 5, 2) := by decide +kernel
theorem d_S_sideParts_15 : decode c_S_sideParts 15 = .ok (.iconst 0, 1) := by decide +kernel
theorem d_S_sideParts_16 : decode c_S_sideParts 16 = .ok (.istore 6, 2) := by decide +kernel
theorem d_S_sideParts_18 : decode c_S_sideParts 18 = .ok (.iload 6, 2) := by decide +kernel
theorem d_S_sideParts_20 : decode c_S_sideParts 20 = .ok (.aload_n 1, 1) := by decide +kernel
theorem d_S_sideParts_21 : decode c_S_sideParts 21 = .ok (.getfield 18, 3) := by decide +kernel
theorem d_S_sideParts_24 : decode c_S_sideParts 24 = .ok (.if_icmp .ge 48, 3) := by decide +kernel
theorem d_S_sideParts_27 : decode c_S_sideParts 27 = .ok (.iload 5, 2) := by decide +kernel
theorem d_S_sideParts_29 : decode c_S_sideParts 29 = .ok (.ifCond .eq 43, 3) := by decide +kernel
theorem d_S_sideParts_32 : decode c_S_sideParts 32 = .ok (.aload_n 0, 1) := by decide +kernel
theorem d_S_sideParts_33 : decode c_S_sideParts 33 = .ok (.iload 4, 2) := by decide +kernel
theorem d_S_sideParts_35 : decode c_S_sideParts 35 = .ok (.aload_n 1, 1) := by decide +kernel
theorem d_S_sideParts_36 : decode c_S_sideParts 36 = .ok (.getfield 9, 3) := by decide +kernel
theorem d_S_sideParts_39 : decode c_S_sideParts 39 = .ok (.iload 6, 2) := by decide +kernel
theorem d_S_sideParts_41 : decode c_S_sideParts 41 = .ok (.iaload, 1) := by decide +kernel
theorem d_S_sideParts_42 : decode c_S_sideParts 42 = .ok (.iload_n 2, 1) := by decide +kernel
theorem d_S_sideParts_43 : decode c_S_sideParts 43 = .ok (.iadd, 1) := by decide +kernel
theorem d_S_sideParts_44 : decode c_S_sideParts 44 = .ok (.aload_n 1, 1) := by decide +kernel
theorem d_S_sideParts_45 : decode c_S_sideParts 45 = .ok (.getfield 15, 3) := by decide +kernel
theorem d_S_sideParts_48 : decode c_S_sideParts 48 = .ok (.iload 6, 2) := by decide +kernel
theorem d_S_sideParts_50 : decode c_S_sideParts 50 = .ok (.iaload, 1) := by decide +kernel
theorem d_S_sideParts_51 : decode c_S_sideParts 51 = .ok (.iload_n 3, 1) := by decide +kernel
theorem d_S_sideParts_52 : decode c_S_sideParts 52 = .ok (.iadd, 1) := by decide +kernel
theorem d_S_sideParts_53 : decode c_S_sideParts 53 = .ok (.invokevirtual 62, 3) := by decide +kernel
theorem d_S_sideParts_56 : decode c_S_sideParts 56 = .ok (.ifCond .gt 7, 3) := by decide +kernel
theorem d_S_sideParts_59 : decode c_S_sideParts 59 = .ok (.iconst 1, 1) := by decide +kernel
theorem d_S_sideParts_60 : decode c_S_sideParts 60 = .ok (.goto 4, 3) := by decide +kernel
theorem d_S_sideParts_63 : decode c_S_sideParts 63 = .ok (.iconst 0, 1) := by decide +kernel
theorem d_S_sideParts_64 : decode c_S_sideParts 64 = .ok (.istore 5, 2) := by decide +kernel
theorem d_S_sideParts_66 : decode c_S_sideParts 66 = .ok (.iinc 6 1, 3) := by decide +kernel
theorem d_S_sideParts_69 : decode c_S_sideParts 69 = .ok (.goto (-51), 3) := by decide +kernel
theorem d_S_sideParts_72 : decode c_S_sideParts 72 = .ok (.iload 5, 2) := by decide +kernel
theorem d_S_sideParts_74 : decode c_S_sideParts 74 = .ok (.ifCond .eq 5, 3) := by decide +kernel
theorem d_S_sideParts_77 : decode c_S_sideParts 77 = .ok (.iconst 1, 1) := by decide +kernel
theorem d_S_sideParts_78 : decode c_S_sideParts 78 = .ok (.ireturn, 1) := by decide +kernel
theorem d_S_sideParts_79 : decode c_S_sideParts 79 = .ok (.iinc 4 1, 3) := by decide +kernel
theorem d_S_sideParts_82 : decode c_S_sideParts 82 = .ok (.goto (-79), 3) := by decide +kernel
theorem d_S_sideParts_85 : decode c_S_sideParts 85 = .ok (.iconst 0, 1) := by decide +kernel
theorem d_S_sideParts_86 : decode c_S_sideParts 86 = .ok (.ireturn, 1) := by decide +kernel
theorem d_S_holds_0 : decode c_S_holds 0 = .ok (.iconst 0, 1) := by decide +kernel
theorem d_S_holds_1 : decode c_S_holds 1 = .ok (.istore 4, 2) := by decide +kernel
theorem d_S_holds_3 : decode c_S_holds 3 = .ok (.iload 4, 2) := by decide +kernel
theorem d_S_holds_5 : decode c_S_holds 5 = .ok (.aload_n 0, 1) := by decide +kernel
theorem d_S_holds_6 : decode c_S_holds 6 = .ok (.getfield 18, 3) := by decide +kernel
theorem d_S_holds_9 : decode c_S_holds 9 = .ok (.if_icmp .ge 23, 3) := by decide +kernel
theorem d_S_holds_12 : decode c_S_holds 12 = .ok (.aload_n 0, 1) := by decide +kernel
theorem d_S_holds_13 : decode c_S_holds 13 = .ok (.iload 4, 2) := by decide +kernel
theorem d_S_holds_15 : decode c_S_holds 15 = .ok (.aload_n 1, 1) := by decide +kernel
theorem d_S_holds_16 : decode c_S_holds 16 = .ok (.iload_n 2, 1) := by decide +kernel
theorem d_S_holds_17 : decode c_S_holds 17 = .ok (.iload_n 3, 1) := by decide +kernel
theorem d_S_holds_18 : decode c_S_holds 18 = .ok (.invokevirtual 90, 3) := by decide +kernel
theorem d_S_holds_21 : decode c_S_holds 21 = .ok (.ifCond .eq 5, 3) := by decide +kernel
theorem d_S_holds_24 : decode c_S_holds 24 = .ok (.iconst 0, 1) := by decide +kernel
theorem d_S_holds_25 : decode c_S_holds 25 = .ok (.ireturn, 1) := by decide +kernel
theorem d_S_holds_26 : decode c_S_holds 26 = .ok (.iinc 4 1, 3) := by decide +kernel
theorem d_S_holds_29 : decode c_S_holds 29 = .ok (.goto (-26), 3) := by decide +kernel
theorem d_S_holds_32 : decode c_S_holds 32 = .ok (.aload_n 1, 1) := by decide +kernel
theorem d_S_holds_33 : decode c_S_holds 33 = .ok (.getfield 9, 3) := by decide +kernel
theorem d_S_holds_36 : decode c_S_holds 36 = .ok (.iconst 0, 1) := by decide +kernel
theorem d_S_holds_37 : decode c_S_holds 37 = .ok (.iaload, 1) := by decide +kernel
theorem d_S_holds_38 : decode c_S_holds 38 = .ok (.aload_n 1, 1) := by decide +kernel
theorem d_S_holds_39 : decode c_S_holds 39 = .ok (.getfield 9, 3) := by decide +kernel
theorem d_S_holds_42 : decode c_S_holds 42 = .ok (.iconst 1, 1) := by decide +kernel
theorem d_S_holds_43 : decode c_S_holds 43 = .ok (.iaload, 1) := by decide +kernel
theorem d_S_holds_44 : decode c_S_holds 44 = .ok (.iadd, 1) := by decide +kernel
theorem d_S_holds_45 : decode c_S_holds 45 = .ok (.aload_n 1, 1) := by decide +kernel
theorem d_S_holds_46 : decode c_S_holds 46 = .ok (.getfield 9, 3) := by decide +kernel
theorem d_S_holds_49 : decode c_S_holds 49 = .ok (.iconst 2, 1) := by decide +kernel
theorem d_S_holds_50 : decode c_S_holds 50 = .ok (.iaload, 1) := by decide +kernel
theorem d_S_holds_51 : decode c_S_holds 51 = .ok (.iadd, 1) := by decide +kernel
theorem d_S_holds_52 : decode c_S_holds 52 = .ok (.istore 4, 2) := by decide +kernel
theorem d_S_holds_54 : decode c_S_holds 54 = .ok (.aload_n 1, 1) := by decide +kernel
theorem d_S_holds_55 : decode c_S_holds 55 = .ok (.getfield 15, 3) := by decide +kernel
theorem d_S_holds_58 : decode c_S_holds 58 = .ok (.iconst 0, 1) := by decide +kernel
theorem d_S_holds_59 : decode c_S_holds 59 = .ok (.iaload, 1) := by decide +kernel
theorem d_S_holds_60 : decode c_S_holds 60 = .ok (.aload_n 1, 1) := by decide +kernel
theorem d_S_holds_61 : decode c_S_holds 61 = .ok (.getfield 15, 3) := by decide +kernel
theorem d_S_holds_64 : decode c_S_holds 64 = .ok (.iconst 1, 1) := by decide +kernel
theorem d_S_holds_65 : decode c_S_holds 65 = .ok (.iaload, 1) := by decide +kernel
theorem d_S_holds_66 : decode c_S_holds 66 = .ok (.iadd, 1) := by decide +kernel
theorem d_S_holds_67 : decode c_S_holds 67 = .ok (.aload_n 1, 1) := by decide +kernel
theorem d_S_holds_68 : decode c_S_holds 68 = .ok (.getfield 15, 3) := by decide +kernel
theorem d_S_holds_71 : decode c_S_holds 71 = .ok (.iconst 2, 1) := by decide +kernel
theorem d_S_holds_72 : decode c_S_holds 72 = .ok (.iaload, 1) := by decide +kernel
theorem d_S_holds_73 : decode c_S_holds 73 = .ok (.iadd, 1) := by decide +kernel
theorem d_S_holds_74 : decode c_S_holds 74 = .ok (.istore 5, 2) := by decide +kernel
theorem d_S_holds_76 : decode c_S_holds 76 = .ok (.aload_n 0, 1) := by decide +kernel
theorem d_S_holds_77 : decode c_S_holds 77 = .ok (.iload 4, 2) := by decide +kernel
theorem d_S_holds_79 : decode c_S_holds 79 = .ok (.iconst 3, 1) := by decide +kernel
theorem d_S_holds_80 : decode c_S_holds 80 = .ok (.iload_n 2, 1) := by decide +kernel
theorem d_S_holds_81 : decode c_S_holds 81 = .ok (.imul, 1) := by decide +kernel
theorem d_S_holds_82 : decode c_S_holds 82 = .ok (.iadd, 1) := by decide +kernel
theorem d_S_holds_83 : decode c_S_holds 83 = .ok (.iload 5, 2) := by decide +kernel
theorem d_S_holds_85 : decode c_S_holds 85 = .ok (.iconst 3, 1) := by decide +kernel
theorem d_S_holds_86 : decode c_S_holds 86 = .ok (.iload_n 3, 1) := by decide +kernel
theorem d_S_holds_87 : decode c_S_holds 87 = .ok (.imul, 1) := by decide +kernel
theorem d_S_holds_88 : decode c_S_holds 88 = .ok (.iadd, 1) := by decide +kernel
theorem d_S_holds_89 : decode c_S_holds 89 = .ok (.invokevirtual 94, 3) := by decide +kernel
theorem d_S_holds_92 : decode c_S_holds 92 = .ok (.ireturn, 1) := by decide +kernel
theorem d_S_sideCuts_0 : decode c_S_sideCuts 0 = .ok (.aload_n 0, 1) := by decide +kernel
theorem d_S_sideCuts_1 : decode c_S_sideCuts 1 = .ok (.iload_n 1, 1) := by decide +kernel
theorem d_S_sideCuts_2 : decode c_S_sideCuts 2 = .ok (.invokevirtual 58, 3) := by decide +kernel
theorem d_S_sideCuts_5 : decode c_S_sideCuts 5 = .ok (.istore 5, 2) := by decide +kernel
theorem d_S_sideCuts_7 : decode c_S_sideCuts 7 = .ok (.aload_n 0, 1) := by decide +kernel
theorem d_S_sideCuts_8 : decode c_S_sideCuts 8 = .ok (.getfield 9, 3) := by decide +kernel
theorem d_S_sideCuts_11 : decode c_S_sideCuts 11 = .ok (.iload_n 1, 1) := by decide +kernel
theorem d_S_sideCuts_12 : decode c_S_sideCuts 12 = .ok (.iaload, 1) := by decide +kernel
theorem d_S_sideCuts_13 : decode c_S_sideCuts 13 = .ok (.iload_n 3, 1) := by decide +kernel
theorem d_S_sideCuts_14 : decode c_S_sideCuts 14 = .ok (.isub, 1) := by decide +kernel
theorem d_S_sideCuts_15 : decode c_S_sideCuts 15 = .ok (.istore 6, 2) := by decide +kernel
theorem d_S_sideCuts_17 : decode c_S_sideCuts 17 = .ok (.aload_n 0, 1) := by decide +kernel
theorem d_S_sideCuts_18 : decode c_S_sideCuts 18 = .ok (.getfield 15, 3) := by decide +kernel
theorem d_S_sideCuts_21 : decode c_S_sideCuts 21 = .ok (.iload_n 1, 1) := by decide +kernel
theorem d_S_sideCuts_22 : decode c_S_sideCuts 22 = .ok (.iaload, 1) := by decide +kernel
theorem d_S_sideCuts_23 : decode c_S_sideCuts 23 = .ok (.iload 4, 2) := by decide +kernel
theorem d_S_sideCuts_25 : decode c_S_sideCuts 25 = .ok (.isub, 1) := by decide +kernel
theorem d_S_sideCuts_26 : decode c_S_sideCuts 26 = .ok (.istore 7, 2) := by decide +kernel
theorem d_S_sideCuts_28 : decode c_S_sideCuts 28 = .ok (.aload_n 0, 1) := by decide +kernel
theorem d_S_sideCuts_29 : decode c_S_sideCuts 29 = .ok (.getfield 9, 3) := by decide +kernel
theorem d_S_sideCuts_32 : decode c_S_sideCuts 32 = .ok (.iload 5, 2) := by decide +kernel
theorem d_S_sideCuts_34 : decode c_S_sideCuts 34 = .ok (.iaload, 1) := by decide +kernel
theorem d_S_sideCuts_35 : decode c_S_sideCuts 35 = .ok (.iload_n 3, 1) := by decide +kernel
theorem d_S_sideCuts_36 : decode c_S_sideCuts 36 = .ok (.isub, 1) := by decide +kernel
theorem d_S_sideCuts_37 : decode c_S_sideCuts 37 = .ok (.istore 8, 2) := by decide +kernel
theorem d_S_sideCuts_39 : decode c_S_sideCuts 39 = .ok (.aload_n 0, 1) := by decide +kernel
theorem d_S_sideCuts_40 : decode c_S_sideCuts 40 = .ok (.getfield 15, 3) := by decide +kernel
theorem d_S_sideCuts_43 : decode c_S_sideCuts 43 = .ok (.iload 5, 2) := by decide +kernel
theorem d_S_sideCuts_45 : decode c_S_sideCuts 45 = .ok (.iaload, 1) := by decide +kernel
theorem d_S_sideCuts_46 : decode c_S_sideCuts 46 = .ok (.iload 4, 2) := by decide +kernel
theorem d_S_sideCuts_48 : decode c_S_sideCuts 48 = .ok (.isub, 1) := by decide +kernel
theorem d_S_sideCuts_49 : decode c_S_sideCuts 49 = .ok (.istore 9, 2) := by decide +kernel
theorem d_S_sideCuts_51 : decode c_S_sideCuts 51 = .ok (.iload 6, 2) := by decide +kernel
theorem d_S_sideCuts_53 : decode c_S_sideCuts 53 = .ok (.iload 8, 2) := by decide +kernel
theorem d_S_sideCuts_55 : decode c_S_sideCuts 55 = .ok (.invokestatic 34, 3) := by decide +kernel
theorem d_S_sideCuts_58 : decode c_S_sideCuts 58 = .ok (.aload_n 2, 1) := by decide +kernel
theorem d_S_sideCuts_59 : decode c_S_sideCuts 59 = .ok (.getfield 22, 3) := by decide +kernel
theorem d_S_sideCuts_62 : decode c_S_sideCuts 62 = .ok (.if_icmp .le 45, 3) := by decide +kernel
theorem d_S_sideCuts_65 : decode c_S_sideCuts 65 = .ok (.iload 6, 2) := by decide +kernel
theorem d_S_sideCuts_67 : decode c_S_sideCuts 67 = .ok (.iload 8, 2) := by decide +kernel
theorem d_S_sideCuts_69 : decode c_S_sideCuts 69 = .ok (.invokestatic 25, 3) := by decide +kernel
theorem d_S_sideCuts_72 : decode c_S_sideCuts 72 = .ok (.aload_n 2, 1) := by decide +kernel
theorem d_S_sideCuts_73 : decode c_S_sideCuts 73 = .ok (.getfield 31, 3) := by decide +kernel
theorem d_S_sideCuts_76 : decode c_S_sideCuts 76 = .ok (.if_icmp .ge 31, 3) := by decide +kernel
theorem d_S_sideCuts_79 : decode c_S_sideCuts 79 = .ok (.iload 7, 2) := by decide +kernel
theorem d_S_sideCuts_81 : decode c_S_sideCuts 81 = .ok (.iload 9, 2) := by decide +kernel
theorem d_S_sideCuts_83 : decode c_S_sideCuts 83 = .ok (.invokestatic 34, 3) := by decide +kernel
theorem d_S_sideCuts_86 : decode c_S_sideCuts 86 = .ok (.aload_n 2, 1) := by decide +kernel
theorem d_S_sideCuts_87 : decode c_S_sideCuts 87 = .ok (.getfield 37, 3) := by decide +kernel
theorem d_S_sideCuts_90 : decode c_S_sideCuts 90 = .ok (.if_icmp .le 17, 3) := by decide +kernel
theorem d_S_sideCuts_93 : decode c_S_sideCuts 93 = .ok (.iload 7, 2) := by decide +kernel
theorem d_S_sideCuts_95 : decode c_S_sideCuts 95 = .ok (.iload 9, 2) := by decide +kernel
theorem d_S_sideCuts_97 : decode c_S_sideCuts 97 = .ok (.invokestatic 25, 3) := by decide +kernel
theorem d_S_sideCuts_100 : decode c_S_sideCuts 100 = .ok (.aload_n 2, 1) := by decide +kernel
theorem d_S_sideCuts_101 : decode c_S_sideCuts 101 = .ok (.getfield 40, 3) := by decide +kernel
theorem d_S_sideCuts_104 : decode c_S_sideCuts 104 = .ok (.if_icmp .lt 7, 3) := by decide +kernel
theorem d_S_sideCuts_107 : decode c_S_sideCuts 107 = .ok (.iconst 1, 1) := by decide +kernel
theorem d_S_sideCuts_108 : decode c_S_sideCuts 108 = .ok (.goto 4, 3) := by decide +kernel
theorem d_S_sideCuts_111 : decode c_S_sideCuts 111 = .ok (.iconst 0, 1) := by decide +kernel
theorem d_S_sideCuts_112 : decode c_S_sideCuts 112 = .ok (.istore 10, 2) := by decide +kernel
theorem d_S_sideCuts_114 : decode c_S_sideCuts 114 = .ok (.iload 10, 2) := by decide +kernel
theorem d_S_sideCuts_116 : decode c_S_sideCuts 116 = .ok (.ifCond .ne 34, 3) := by decide +kernel
theorem d_S_sideCuts_119 : decode c_S_sideCuts 119 = .ok (.aload_n 0, 1) := by decide +kernel
theorem d_S_sideCuts_120 : decode c_S_sideCuts 120 = .ok (.iload_n 1, 1) := by decide +kernel
theorem d_S_sideCuts_121 : decode c_S_sideCuts 121 = .ok (.aload_n 2, 1) := by decide +kernel
theorem d_S_sideCuts_122 : decode c_S_sideCuts 122 = .ok (.iload_n 3, 1) := by decide +kernel
theorem d_S_sideCuts_123 : decode c_S_sideCuts 123 = .ok (.iload 4, 2) := by decide +kernel
theorem d_S_sideCuts_125 : decode c_S_sideCuts 125 = .ok (.invokevirtual 97, 3) := by decide +kernel
theorem d_S_sideCuts_128 : decode c_S_sideCuts 128 = .ok (.ifCond .eq 22, 3) := by decide +kernel
theorem d_S_sideCuts_131 : decode c_S_sideCuts 131 = .ok (.aload_n 2, 1) := by decide +kernel
theorem d_S_sideCuts_132 : decode c_S_sideCuts 132 = .ok (.iload 6, 2) := by decide +kernel
theorem d_S_sideCuts_134 : decode c_S_sideCuts 134 = .ok (.iload 7, 2) := by decide +kernel
theorem d_S_sideCuts_136 : decode c_S_sideCuts 136 = .ok (.iload 8, 2) := by decide +kernel
theorem d_S_sideCuts_138 : decode c_S_sideCuts 138 = .ok (.iload 9, 2) := by decide +kernel
theorem d_S_sideCuts_140 : decode c_S_sideCuts 140 = .ok (.invokevirtual 100, 3) := by decide +kernel
theorem d_S_sideCuts_143 : decode c_S_sideCuts 143 = .ok (.ifCond .ne 7, 3) := by decide +kernel
theorem d_S_sideCuts_146 : decode c_S_sideCuts 146 = .ok (.iconst 1, 1) := by decide +kernel
theorem d_S_sideCuts_147 : decode c_S_sideCuts 147 = .ok (.goto 4, 3) := by decide +kernel
theorem d_S_sideCuts_150 : decode c_S_sideCuts 150 = .ok (.iconst 0, 1) := by decide +kernel
theorem d_S_sideCuts_151 : decode c_S_sideCuts 151 = .ok (.ireturn, 1) := by decide +kernel
theorem d_S_lineCuts_0 : decode c_S_lineCuts 0 = .ok (.iconst 0, 1) := by decide +kernel
theorem d_S_lineCuts_1 : decode c_S_lineCuts 1 = .ok (.istore 5, 2) := by decide +kernel
theorem d_S_lineCuts_3 : decode c_S_lineCuts 3 = .ok (.iconst 0, 1) := by decide +kernel
theorem d_S_lineCuts_4 : decode c_S_lineCuts 4 = .ok (.istore 6, 2) := by decide +kernel
theorem d_S_lineCuts_6 : decode c_S_lineCuts 6 = .ok (.iconst 0, 1) := by decide +kernel
theorem d_S_lineCuts_7 : decode c_S_lineCuts 7 = .ok (.istore 7, 2) := by decide +kernel
theorem d_S_lineCuts_9 : decode c_S_lineCuts 9 = .ok (.iload 7, 2) := by decide +kernel
theorem d_S_lineCuts_11 : decode c_S_lineCuts 11 = .ok (.aload_n 2, 1) := by decide +kernel
theorem d_S_lineCuts_12 : decode c_S_lineCuts 12 = .ok (.getfield 18, 3) := by decide +kernel
theorem d_S_lineCuts_15 : decode c_S_lineCuts 15 = .ok (.if_icmp .ge 69, 3) := by decide +kernel
theorem d_S_lineCuts_18 : decode c_S_lineCuts 18 = .ok (.aload_n 0, 1) := by decide +kernel
theorem d_S_lineCuts_19 : decode c_S_lineCuts 19 = .ok (.iload_n 1, 1) := by decide +kernel
theorem d_S_lineCuts_20 : decode c_S_lineCuts 20 = .ok (.aload_n 2, 1) := by decide +kernel
theorem d_S_lineCuts_21 : decode c_S_lineCuts 21 = .ok (.getfield 9, 3) := by decide +kernel
theorem d_S_lineCuts_24 : decode c_S_lineCuts 24 = .ok (.iload 7, 2) := by decide +kernel
theorem d_S_lineCuts_26 : decode c_S_lineCuts 26 = .ok (.iaload, 1) := by decide +kernel
theorem d_S_lineCuts_27 : decode c_S_lineCuts 27 = .ok (.iload_n 3, 1) := by decide +kernel
theorem d_S_lineCuts_28 : decode c_S_lineCuts 28 = .ok (.iadd, 1) := by decide +kernel
theorem d_S_lineCuts_29 : decode c_S_lineCuts 29 = .ok (.aload_n 2, 1) := by decide +kernel
theorem d_S_lineCuts_30 : decode c_S_lineCuts 30 = .ok (.getfield 15, 3) := by decide +kernel
theorem d_S_lineCuts_33 : decode c_S_lineCuts 33 = .ok (.iload 7, 2) := by decide +kernel
theorem d_S_lineCuts_35 : decode c_S_lineCuts 35 = .ok (.iaload, 1) := by decide +kernel
theorem d_S_lineCuts_36 : decode c_S_lineCuts 36 = .ok (.iload 4, 2) := by decide +kernel
theorem d_S_lineCuts_38 : decode c_S_lineCuts 38 = .ok (.iadd, 1) := by decide +kernel
theorem d_S_lineCuts_39 : decode c_S_lineCuts 39 = .ok (.invokevirtual 62, 3) := by decide +kernel
theorem d_S_lineCuts_42 : decode c_S_lineCuts 42 = .ok (.istore 8, 2) := by decide +kernel
theorem d_S_lineCuts_44 : decode c_S_lineCuts 44 = .ok (.iload 5, 2) := by decide +kernel
theorem d_S_lineCuts_46 : decode c_S_lineCuts 46 = .ok (.ifCond .ne 8, 3) := by decide +kernel
theorem d_S_lineCuts_49 : decode c_S_lineCuts 49 = .ok (.iload 8, 2) := by decide +kernel
theorem d_S_lineCuts_51 : decode c_S_lineCuts 51 = .ok (.ifCond .le 7, 3) := by decide +kernel
theorem d_S_lineCuts_54 : decode c_S_lineCuts 54 = .ok (.iconst 1, 1) := by decide +kernel
theorem d_S_lineCuts_55 : decode c_S_lineCuts 55 = .ok (.goto 4, 3) := by decide +kernel
theorem d_S_lineCuts_58 : decode c_S_lineCuts 58 = .ok (.iconst 0, 1) := by decide +kernel
theorem d_S_lineCuts_59 : decode c_S_lineCuts 59 = .ok (.istore 5, 2) := by decide +kernel
theorem d_S_lineCuts_61 : decode c_S_lineCuts 61 = .ok (.iload 6, 2) := by decide +kernel
theorem d_S_lineCuts_63 : decode c_S_lineCuts 63 = .ok (.ifCond .ne 8, 3) := by decide +kernel
theorem d_S_lineCuts_66 : decode c_S_lineCuts 66 = .ok (.iload 8, 2) := by decide +kernel
theorem d_S_lineCuts_68 : decode c_S_lineCuts 68 = .ok (.ifCond .ge 7, 3) := by decide +kernel
theorem d_S_lineCuts_71 : decode c_S_lineCuts 71 = .ok (.iconst 1, 1) := by decide +kernel
theorem d_S_lineCuts_72 : decode c_S_lineCuts 72 = .ok (.goto 4, 3) := by decide +kernel
theorem d_S_lineCuts_75 : decode c_S_lineCuts 75 = .ok (.iconst 0, 1) := by decide +kernel
theorem d_S_lineCuts_76 : decode c_S_lineCuts 76 = .ok (.istore 6, 2) := by decide +kernel
theorem d_S_lineCuts_78 : decode c_S_lineCuts 78 = .ok (.iinc 7 1, 3) := by decide +kernel
theorem d_S_lineCuts_81 : decode c_S_lineCuts 81 = .ok (.goto (-72), 3) := by decide +kernel
theorem d_S_lineCuts_84 : decode c_S_lineCuts 84 = .ok (.iload 5, 2) := by decide +kernel
theorem d_S_lineCuts_86 : decode c_S_lineCuts 86 = .ok (.ifCond .eq 12, 3) := by decide +kernel
theorem d_S_lineCuts_89 : decode c_S_lineCuts 89 = .ok (.iload 6, 2) := by decide +kernel
theorem d_S_lineCuts_91 : decode c_S_lineCuts 91 = .ok (.ifCond .eq 7, 3) := by decide +kernel
theorem d_S_lineCuts_94 : decode c_S_lineCuts 94 = .ok (.iconst 1, 1) := by decide +kernel
theorem d_S_lineCuts_95 : decode c_S_lineCuts 95 = .ok (.goto 4, 3) := by decide +kernel
theorem d_S_lineCuts_98 : decode c_S_lineCuts 98 = .ok (.iconst 0, 1) := by decide +kernel
theorem d_S_lineCuts_99 : decode c_S_lineCuts 99 = .ok (.ireturn, 1) := by decide +kernel
theorem d_S_isBeyond_0 : decode c_S_isBeyond 0 = .ok (.iconst 0, 1) := by decide +kernel
theorem d_S_isBeyond_1 : decode c_S_isBeyond 1 = .ok (.istore 5, 2) := by decide +kernel
theorem d_S_isBeyond_3 : decode c_S_isBeyond 3 = .ok (.iload 5, 2) := by decide +kernel
theorem d_S_isBeyond_5 : decode c_S_isBeyond 5 = .ok (.aload_n 0, 1) := by decide +kernel
theorem d_S_isBeyond_6 : decode c_S_isBeyond 6 = .ok (.getfield 18, 3) := by decide +kernel
theorem d_S_isBeyond_9 : decode c_S_isBeyond 9 = .ok (.if_icmp .ge 34, 3) := by decide +kernel
theorem d_S_isBeyond_12 : decode c_S_isBeyond 12 = .ok (.aload_n 0, 1) := by decide +kernel
theorem d_S_isBeyond_13 : decode c_S_isBeyond 13 = .ok (.iload 5, 2) := by decide +kernel
theorem d_S_isBeyond_15 : decode c_S_isBeyond 15 = .ok (.iload_n 1, 1) := by decide +kernel
theorem d_S_isBeyond_16 : decode c_S_isBeyond 16 = .ok (.iload_n 2, 1) := by decide +kernel
theorem d_S_isBeyond_17 : decode c_S_isBeyond 17 = .ok (.invokevirtual 62, 3) := by decide +kernel
theorem d_S_isBeyond_20 : decode c_S_isBeyond 20 = .ok (.ifCond .gt 17, 3) := by decide +kernel
theorem d_S_isBeyond_23 : decode c_S_isBeyond 23 = .ok (.aload_n 0, 1) := by decide +kernel
theorem d_S_isBeyond_24 : decode c_S_isBeyond 24 = .ok (.iload 5, 2) := by decide +kernel
theorem d_S_isBeyond_26 : decode c_S_isBeyond 26 = .ok (.iload_n 3, 1) := by decide +kernel
theorem d_S_isBeyond_27 : decode c_S_isBeyond 27 = .ok (.iload 4, 2) := by decide +kernel
theorem d_S_isBeyond_29 : decode c_S_isBeyond 29 = .ok (.invokevirtual 62, 3) := by decide +kernel
theorem d_S_isBeyond_32 : decode c_S_isBeyond 32 = .ok (.ifCond .gt 5, 3) := by decide +kernel
theorem d_S_isBeyond_35 : decode c_S_isBeyond 35 = .ok (.iconst 1, 1) := by decide +kernel
theorem d_S_isBeyond_36 : decode c_S_isBeyond 36 = .ok (.ireturn, 1) := by decide +kernel
theorem d_S_isBeyond_37 : decode c_S_isBeyond 37 = .ok (.iinc 5 1, 3) := by decide +kernel
theorem d_S_isBeyond_40 : decode c_S_isBeyond 40 = .ok (.goto (-37), 3) := by decide +kernel
theorem d_S_isBeyond_43 : decode c_S_isBeyond 43 = .ok (.iconst 0, 1) := by decide +kernel
theorem d_S_isBeyond_44 : decode c_S_isBeyond 44 = .ok (.ireturn, 1) := by decide +kernel
theorem d_S_surrounds_0 : decode c_S_surrounds 0 = .ok (.iconst 0, 1) := by decide +kernel
theorem d_S_surrounds_1 : decode c_S_surrounds 1 = .ok (.istore_n 3, 1) := by decide +kernel
theorem d_S_surrounds_2 : decode c_S_surrounds 2 = .ok (.iconst 0, 1) := by decide +kernel
theorem d_S_surrounds_3 : decode c_S_surrounds 3 = .ok (.istore 4, 2) := by decide +kernel
theorem d_S_surrounds_5 : decode c_S_surrounds 5 = .ok (.iload 4, 2) := by decide +kernel
theorem d_S_surrounds_7 : decode c_S_surrounds 7 = .ok (.aload_n 0, 1) := by decide +kernel
theorem d_S_surrounds_8 : decode c_S_surrounds 8 = .ok (.getfield 18, 3) := by decide +kernel
theorem d_S_surrounds_11 : decode c_S_surrounds 11 = .ok (.if_icmp .ge 149, 3) := by decide +kernel
theorem d_S_surrounds_14 : decode c_S_surrounds 14 = .ok (.aload_n 0, 1) := by decide +kernel
theorem d_S_surrounds_15 : decode c_S_surrounds 15 = .ok (.iload 4, 2) := by decide +kernel
theorem d_S_surrounds_17 : decode c_S_surrounds 17 = .ok (.invokevirtual 58, 3) := by decide +kernel
theorem d_S_surrounds_20 : decode c_S_surrounds 20 = .ok (.istore 5, 2) := by decide +kernel
theorem d_S_surrounds_22 : decode c_S_surrounds 22 = .ok (.iconst 3, 1) := by decide +kernel
theorem d_S_surrounds_23 : decode c_S_surrounds 23 = .ok (.aload_n 0, 1) := by decide +kernel
theorem d_S_surrounds_24 : decode c_S_surrounds 24 = .ok (.getfield 15, 3) := by decide +kernel
theorem d_S_surrounds_27 : decode c_S_surrounds 27 = .ok (.iload 4, 2) := by decide +kernel
theorem d_S_surrounds_29 : decode c_S_surrounds 29 = .ok (.iaload, 1) := by decide +kernel
theorem d_S_surrounds_30 : decode c_S_surrounds 30 = .ok (.imul, 1) := by decide +kernel
theorem d_S_surrounds_31 : decode c_S_surrounds 31 = .ok (.iload_n 2, 1) := by decide +kernel
theorem d_S_surrounds_32 : decode c_S_surrounds 32 = .ok (.if_icmp .le 7, 3) := by decide +kernel
theorem d_S_surrounds_35 : decode c_S_surrounds 35 = .ok (.iconst 1, 1) := by decide +kernel
theorem d_S_surrounds_36 : decode c_S_surrounds 36 = .ok (.goto 4, 3) := by decide +kernel
theorem d_S_surrounds_39 : decode c_S_surrounds 39 = .ok (.iconst 0, 1) := by decide +kernel
theorem d_S_surrounds_40 : decode c_S_surrounds 40 = .ok (.istore 6, 2) := by decide +kernel
theorem d_S_surrounds_42 : decode c_S_surrounds 42 = .ok (.iconst 3, 1) := by decide +kernel
theorem d_S_surrounds_43 : decode c_S_surrounds 43 = .ok (.aload_n 0, 1) := by decide +kernel
theorem d_S_surrounds_44 : decode c_S_surrounds 44 = .ok (.getfield 15, 3) := by decide +kernel
theorem d_S_surrounds_47 : decode c_S_surrounds 47 = .ok (.iload 5, 2) := by decide +kernel
theorem d_S_surrounds_49 : decode c_S_surrounds 49 = .ok (.iaload, 1) := by decide +kernel
theorem d_S_surrounds_50 : decode c_S_surrounds 50 = .ok (.imul, 1) := by decide +kernel
theorem d_S_surrounds_51 : decode c_S_surrounds 51 = .ok (.iload_n 2, 1) := by decide +kernel
theorem d_S_surrounds_52 : decode c_S_surrounds 52 = .ok (.if_icmp .le 7, 3) := by decide +kernel
theorem d_S_surrounds_55 : decode c_S_surrounds 55 = .ok (.iconst 1, 1) := by decide +kernel
theorem d_S_surrounds_56 : decode c_S_surrounds 56 = .ok (.goto 4, 3) := by decide +kernel
theorem d_S_surrounds_59 : decode c_S_surrounds 59 = .ok (.iconst 0, 1) := by decide +kernel
theorem d_S_surrounds_60 : decode c_S_surrounds 60 = .ok (.istore 7, 2) := by decide +kernel
theorem d_S_surrounds_62 : decode c_S_surrounds 62 = .ok (.aload_n 0, 1) := by decide +kernel
theorem d_S_surrounds_63 : decode c_S_surrounds 63 = .ok (.getfield 9, 3) := by decide +kernel
theorem d_S_surrounds_66 : decode c_S_surrounds 66 = .ok (.iload 5, 2) := by decide +kernel
theorem d_S_surrounds_68 : decode c_S_surrounds 68 = .ok (.iaload, 1) := by decide +kernel
theorem d_S_surrounds_69 : decode c_S_surrounds 69 = .ok (.aload_n 0, 1) := by decide +kernel
theorem d_S_surrounds_70 : decode c_S_surrounds 70 = .ok (.getfield 9, 3) := by decide +kernel
theorem d_S_surrounds_73 : decode c_S_surrounds 73 = .ok (.iload 4, 2) := by decide +kernel
theorem d_S_surrounds_75 : decode c_S_surrounds 75 = .ok (.iaload, 1) := by decide +kernel
theorem d_S_surrounds_76 : decode c_S_surrounds 76 = .ok (.isub, 1) := by decide +kernel
theorem d_S_surrounds_77 : decode c_S_surrounds 77 = .ok (.iload_n 2, 1) := by decide +kernel
theorem d_S_surrounds_78 : decode c_S_surrounds 78 = .ok (.iconst 3, 1) := by decide +kernel
theorem d_S_surrounds_79 : decode c_S_surrounds 79 = .ok (.aload_n 0, 1) := by decide +kernel
theorem d_S_surrounds_80 : decode c_S_surrounds 80 = .ok (.getfield 15, 3) := by decide +kernel
theorem d_S_surrounds_83 : decode c_S_surrounds 83 = .ok (.iload 4, 2) := by decide +kernel
theorem d_S_surrounds_85 : decode c_S_surrounds 85 = .ok (.iaload, 1) := by decide +kernel
theorem d_S_surrounds_86 : decode c_S_surrounds 86 = .ok (.imul, 1) := by decide +kernel
theorem d_S_surrounds_87 : decode c_S_surrounds 87 = .ok (.isub, 1) := by decide +kernel
theorem d_S_surrounds_88 : decode c_S_surrounds 88 = .ok (.imul, 1) := by decide +kernel
theorem d_S_surrounds_89 : decode c_S_surrounds 89 = .ok (.aload_n 0, 1) := by decide +kernel
theorem d_S_surrounds_90 : decode c_S_surrounds 90 = .ok (.getfield 15, 3) := by decide +kernel
theorem d_S_surrounds_93 : decode c_S_surrounds 93 = .ok (.iload 5, 2) := by decide +kernel
theorem d_S_surrounds_95 : decode c_S_surrounds 95 = .ok (.iaload, 1) := by decide +kernel
theorem d_S_surrounds_96 : decode c_S_surrounds 96 = .ok (.aload_n 0, 1) := by decide +kernel
theorem d_S_surrounds_97 : decode c_S_surrounds 97 = .ok (.getfield 15, 3) := by decide +kernel
theorem d_S_surrounds_100 : decode c_S_surrounds 100 = .ok (.iload 4, 2) := by decide +kernel
theorem d_S_surrounds_102 : decode c_S_surrounds 102 = .ok (.iaload, 1) := by decide +kernel
theorem d_S_surrounds_103 : decode c_S_surrounds 103 = .ok (.isub, 1) := by decide +kernel
theorem d_S_surrounds_104 : decode c_S_surrounds 104 = .ok (.iload_n 1, 1) := by decide +kernel
theorem d_S_surrounds_105 : decode c_S_surrounds 105 = .ok (.iconst 3, 1) := by decide +kernel
theorem d_S_surrounds_106 : decode c_S_surrounds 106 = .ok (.aload_n 0, 1) := by decide +kernel
theorem d_S_surrounds_107 : decode c_S_surrounds 107 = .ok (.getfield 9, 3) := by decide +kernel
theorem d_S_surrounds_110 : decode c_S_surrounds 110 = .ok (.iload 4, 2) := by decide +kernel
theorem d_S_surrounds_112 : decode c_S_surrounds 112 = .ok (.iaload, 1) := by decide +kernel
theorem d_S_surrounds_113 : decode c_S_surrounds 113 = .ok (.imul, 1) := by decide +kernel
theorem d_S_surrounds_114 : decode c_S_surrounds 114 = .ok (.isub, 1) := by decide +kernel
theorem d_S_surrounds_115 : decode c_S_surrounds 115 = .ok (.imul, 1) := by decide +kernel
theorem d_S_surrounds_116 : decode c_S_surrounds 116 = .ok (.isub, 1) := by decide +kernel
theorem d_S_surrounds_117 : decode c_S_surrounds 117 = .ok (.istore 8, 2) := by decide +kernel
theorem d_S_surrounds_119 : decode c_S_surrounds 119 = .ok (.iload 6, 2) := by decide +kernel
theorem d_S_surrounds_121 : decode c_S_surrounds 121 = .ok (.iload 7, 2) := by decide +kernel
theorem d_S_surrounds_123 : decode c_S_surrounds 123 = .ok (.if_icmp .eq 31, 3) := by decide +kernel
theorem d_S_surrounds_126 : decode c_S_surrounds 126 = .ok (.iload 7, 2) := by decide +kernel
theorem d_S_surrounds_128 : decode c_S_surrounds 128 = .ok (.ifCond .eq 11, 3) := by decide +kernel
theorem d_S_surrounds_131 : decode c_S_surrounds 131 = .ok (.iload 8, 2) := by decide +kernel
theorem d_S_surrounds_133 : decode c_S_surrounds 133 = .ok (.ifCond .le 21, 3) := by decide +kernel
theorem d_S_surrounds_136 : decode c_S_surrounds 136 = .ok (.goto 8, 3) := by decide +kernel
theorem d_S_surrounds_139 : decode c_S_surrounds 139 = .ok (.iload 8, 2) := by decide +kernel
theorem d_S_surrounds_141 : decode c_S_surrounds 141 = .ok (.ifCond .ge 13, 3) := by decide +kernel
theorem d_S_surrounds_144 : decode c_S_surrounds 144 = .ok (.iload_n 3, 1) := by decide +kernel
theorem d_S_surrounds_145 : decode c_S_surrounds 145 = .ok (.ifCond .ne 7, 3) := by decide +kernel
theorem d_S_surrounds_148 : decode c_S_surrounds 148 = .ok (.iconst 1, 1) := by decide +kernel
theorem d_S_surrounds_149 : decode c_S_surrounds 149 = .ok (.goto 4, 3) := by decide +kernel
theorem d_S_surrounds_152 : decode c_S_surrounds 152 = .ok (.iconst 0, 1) := by decide +kernel
theorem d_S_surrounds_153 : decode c_S_surrounds 153 = .ok (.istore_n 3, 1) := by decide +kernel
theorem d_S_surrounds_154 : decode c_S_surrounds 154 = .ok (.iinc 4 1, 3) := by decide +kernel
theorem d_S_surrounds_157 : decode c_S_surrounds 157 = .ok (.goto (-152), 3) := by decide +kernel
theorem d_S_surrounds_160 : decode c_S_surrounds 160 = .ok (.iload_n 3, 1) := by decide +kernel
theorem d_S_surrounds_161 : decode c_S_surrounds 161 = .ok (.ireturn, 1) := by decide +kernel
