theorem d_M_lay_44 : decode c_M_lay 44 = .ok (.istore_n 2, 1) := by decide +kernel
theorem d_M_lay_45 : decode c_M_lay 45 = .ok (.aload_n 0, 1) := by decide +kernel
theorem d_M_lay_46 : decode c_M_lay 46 = .ok (.iload_n 2, 1) := by decide +kernel
theorem d_M_lay_47 : decode c_M_lay 47 = .ok (.ifCond .ge 7, 3) := by decide +kernel
theorem d_M_lay_50 : decode c_M_lay 50 = .ok (.iconst 3, 1) := by decide +kernel
theorem d_M_lay_51 : decode c_M_lay 51 = .ok (.goto 4, 3) := by decide +kernel
theorem d_M_lay_54 : decode c_M_lay 54 = .ok (.iconst 0, 1) := by decide +kernel
theorem d_M_lay_55 : decode c_M_lay 55 = .ok (.putfield 79, 3) := by decide +kernel
theorem d_M_lay_58 : decode c_M_lay 58 = .ok (.aload_n 0, 1) := by decide +kernel
theorem d_M_lay_59 : decode c_M_lay 59 = .ok (.getfield 79, 3) := by decide +kernel
theorem d_M_lay_62 : decode c_M_lay 62 = .ok (.ifCond .le 7, 3) := by decide +kernel
theorem d_M_lay_65 : decode c_M_lay 65 = .ok (.iconst 0, 1) := by decide +kernel
theorem d_M_lay_66 : decode c_M_lay 66 = .ok (.goto 22, 3) := by decide +kernel
theorem d_M_lay_69 : decode c_M_lay 69 = .ok (.aload_n 0, 1) := by decide +kernel
theorem d_M_lay_70 : decode c_M_lay 70 = .ok (.iload_n 1, 1) := by decide +kernel
theorem d_M_lay_71 : decode c_M_lay 71 = .ok (.iload_n 2, 1) := by decide +kernel
theorem d_M_lay_72 : decode c_M_lay 72 = .ok (.bipush 31, 2) := by decide +kernel
theorem d_M_lay_74 : decode c_M_lay 74 = .ok (.iand, 1) := by decide +kernel
theorem d_M_lay_75 : decode c_M_lay 75 = .ok (.iload_n 2, 1) := by decide +kernel
theorem d_M_lay_76 : decode c_M_lay 76 = .ok (.iconst 5, 1) := by decide +kernel
theorem d_M_lay_77 : decode c_M_lay 77 = .ok (.ishr, 1) := by decide +kernel
theorem d_M_lay_78 : decode c_M_lay 78 = .ok (.bipush 31, 2) := by decide +kernel
theorem d_M_lay_80 : decode c_M_lay 80 = .ok (.iand, 1) := by decide +kernel
theorem d_M_lay_81 : decode c_M_lay 81 = .ok (.iload_n 2, 1) := by decide +kernel
theorem d_M_lay_82 : decode c_M_lay 82 = .ok (.bipush 10, 2) := by decide +kernel
theorem d_M_lay_84 : decode c_M_lay 84 = .ok (.ishr, 1) := by decide +kernel
theorem d_M_lay_85 : decode c_M_lay 85 = .ok (.invokevirtual 169, 3) := by decide +kernel
theorem d_M_lay_88 : decode c_M_lay 88 = .ok (.ireturn, 1) := by decide +kernel
theorem d_M_put_0 : decode c_M_put 0 = .ok (.aload_n 0, 1) := by decide +kernel
theorem d_M_put_1 : decode c_M_put 1 = .ok (.aload_n 0, 1) := by decide +kernel
theorem d_M_put_2 : decode c_M_put 2 = .ok (.iload_n 1, 1) := by decide +kernel
theorem d_M_put_3 : decode c_M_put 3 = .ok (.invokevirtual 155, 3) := by decide +kernel
theorem d_M_put_6 : decode c_M_put 6 = .ok (.ifCond .eq 14, 3) := by decide +kernel
theorem d_M_put_9 : decode c_M_put 9 = .ok (.aload_n 0, 1) := by decide +kernel
theorem d_M_put_10 : decode c_M_put 10 = .ok (.iload_n 2, 1) := by decide +kernel
theorem d_M_put_11 : decode c_M_put 11 = .ok (.iload_n 3, 1) := by decide +kernel
theorem d_M_put_12 : decode c_M_put 12 = .ok (.iload 4, 2) := by decide +kernel
theorem d_M_put_14 : decode c_M_put 14 = .ok (.invokevirtual 158, 3) := by decide +kernel
theorem d_M_put_17 : decode c_M_put 17 = .ok (.ifCond .ne 7, 3) := by decide +kernel
theorem d_M_put_20 : decode c_M_put 20 = .ok (.iconst 1, 1) := by decide +kernel
theorem d_M_put_21 : decode c_M_put 21 = .ok (.goto 17, 3) := by decide +kernel
theorem d_M_put_24 : decode c_M_put 24 = .ok (.aload_n 0, 1) := by decide +kernel
theorem d_M_put_25 : decode c_M_put 25 = .ok (.invokevirtual 100, 3) := by decide +kernel
theorem d_M_put_28 : decode c_M_put 28 = .ok (.bipush 12, 2) := by decide +kernel
theorem d_M_put_30 : decode c_M_put 30 = .ok (.if_icmp .ne 7, 3) := by decide +kernel
theorem d_M_put_33 : decode c_M_put 33 = .ok (.iconst 2, 1) := by decide +kernel
theorem d_M_put_34 : decode c_M_put 34 = .ok (.goto 4, 3) := by decide +kernel
theorem d_M_put_37 : decode c_M_put 37 = .ok (.iconst 0, 1) := by decide +kernel
theorem d_M_put_38 : decode c_M_put 38 = .ok (.putfield 79, 3) := by decide +kernel
theorem d_M_put_41 : decode c_M_put 41 = .ok (.aload_n 0, 1) := by decide +kernel
theorem d_M_put_42 : decode c_M_put 42 = .ok (.getfield 79, 3) := by decide +kernel
theorem d_M_put_45 : decode c_M_put 45 = .ok (.ifCond .le 5, 3) := by decide +kernel
theorem d_M_put_48 : decode c_M_put 48 = .ok (.iconst 0, 1) := by decide +kernel
theorem d_M_put_49 : decode c_M_put 49 = .ok (.ireturn, 1) := by decide +kernel
theorem d_M_put_50 : decode c_M_put 50 = .ok (.aload_n 0, 1) := by decide +kernel
theorem d_M_put_51 : decode c_M_put 51 = .ok (.aload_n 0, 1) := by decide +kernel
theorem d_M_put_52 : decode c_M_put 52 = .ok (.iload_n 1, 1) := by decide +kernel
theorem d_M_put_53 : decode c_M_put 53 = .ok (.iload_n 2, 1) := by decide +kernel
theorem d_M_put_54 : decode c_M_put 54 = .ok (.iload_n 3, 1) := by decide +kernel
theorem d_M_put_55 : decode c_M_put 55 = .ok (.iload 4, 2) := by decide +kernel
theorem d_M_put_57 : decode c_M_put 57 = .ok (.invokevirtual 161, 3) := by decide +kernel
theorem d_M_put_60 : decode c_M_put 60 = .ok (.ifCond .eq 7, 3) := by decide +kernel
theorem d_M_put_63 : decode c_M_put 63 = .ok (.iconst 0, 1) := by decide +kernel
theorem d_M_put_64 : decode c_M_put 64 = .ok (.goto 4, 3) := by decide +kernel
theorem d_M_put_67 : decode c_M_put 67 = .ok (.iconst 3, 1) := by decide +kernel
theorem d_M_put_68 : decode c_M_put 68 = .ok (.putfield 79, 3) := by decide +kernel
theorem d_M_put_71 : decode c_M_put 71 = .ok (.aload_n 0, 1) := by decide +kernel
theorem d_M_put_72 : decode c_M_put 72 = .ok (.getfield 79, 3) := by decide +kernel
theorem d_M_put_75 : decode c_M_put 75 = .ok (.ifCond .le 7, 3) := by decide +kernel
theorem d_M_put_78 : decode c_M_put 78 = .ok (.iconst 0, 1) := by decide +kernel
theorem d_M_put_79 : decode c_M_put 79 = .ok (.goto 12, 3) := by decide +kernel
theorem d_M_put_82 : decode c_M_put 82 = .ok (.aload_n 0, 1) := by decide +kernel
theorem d_M_put_83 : decode c_M_put 83 = .ok (.iload_n 1, 1) := by decide +kernel
theorem d_M_put_84 : decode c_M_put 84 = .ok (.iload_n 2, 1) := by decide +kernel
theorem d_M_put_85 : decode c_M_put 85 = .ok (.iload_n 3, 1) := by decide +kernel
theorem d_M_put_86 : decode c_M_put 86 = .ok (.iload 4, 2) := by decide +kernel
theorem d_M_put_88 : decode c_M_put 88 = .ok (.invokevirtual 169, 3) := by decide +kernel
theorem d_M_put_91 : decode c_M_put 91 = .ok (.ireturn, 1) := by decide +kernel
theorem d_M_isPart_0 : decode c_M_isPart 0 = .ok (.iload_n 1, 1) := by decide +kernel
theorem d_M_isPart_1 : decode c_M_isPart 1 = .ok (.ifCond .lt 22, 3) := by decide +kernel
theorem d_M_isPart_4 : decode c_M_isPart 4 = .ok (.iload_n 1, 1) := by decide +kernel
theorem d_M_isPart_5 : decode c_M_isPart 5 = .ok (.bipush 12, 2) := by decide +kernel
theorem d_M_isPart_7 : decode c_M_isPart 7 = .ok (.if_icmp .ge 16, 3) := by decide +kernel
theorem d_M_isPart_10 : decode c_M_isPart 10 = .ok (.aload_n 0, 1) := by decide +kernel
theorem d_M_isPart_11 : decode c_M_isPart 11 = .ok (.getfield 49, 3) := by decide +kernel
theorem d_M_isPart_14 : decode c_M_isPart 14 = .ok (.iload_n 1, 1) := by decide +kernel
theorem d_M_isPart_15 : decode c_M_isPart 15 = .ok (.iaload, 1) := by decide +kernel
theorem d_M_isPart_16 : decode c_M_isPart 16 = .ok (.ifCond .lt 7, 3) := by decide +kernel
theorem d_M_isPart_19 : decode c_M_isPart 19 = .ok (.iconst 1, 1) := by decide +kernel
theorem d_M_isPart_20 : decode c_M_isPart 20 = .ok (.goto 4, 3) := by decide +kernel
theorem d_M_isPart_23 : decode c_M_isPart 23 = .ok (.iconst 0, 1) := by decide +kernel
theorem d_M_isPart_24 : decode c_M_isPart 24 = .ok (.ireturn, 1) := by decide +kernel
theorem d_M_take_0 : decode c_M_take 0 = .ok (.aload_n 0, 1) := by decide +kernel
theorem d_M_take_1 : decode c_M_take 1 = .ok (.aload_n 0, 1) := by decide +kernel
theorem d_M_take_2 : decode c_M_take 2 = .ok (.iload_n 1, 1) := by decide +kernel
theorem d_M_take_3 : decode c_M_take 3 = .ok (.invokevirtual 173, 3) := by decide +kernel
theorem d_M_take_6 : decode c_M_take 6 = .ok (.ifCond .eq 7, 3) := by decide +kernel
theorem d_M_take_9 : decode c_M_take 9 = .ok (.iconst 0, 1) := by decide +kernel
theorem d_M_take_10 : decode c_M_take 10 = .ok (.goto 4, 3) := by decide +kernel
theorem d_M_take_13 : decode c_M_take 13 = .ok (.iconst 1, 1) := by decide +kernel
theorem d_M_take_14 : decode c_M_take 14 = .ok (.putfield 79, 3) := by decide +kernel
theorem d_M_take_17 : decode c_M_take 17 = .ok (.aload_n 0, 1) := by decide +kernel
theorem d_M_take_18 : decode c_M_take 18 = .ok (.getfield 79, 3) := by decide +kernel
theorem d_M_take_21 : decode c_M_take 21 = .ok (.ifCond .le 5, 3) := by decide +kernel
theorem d_M_take_24 : decode c_M_take 24 = .ok (.iconst 0, 1) := by decide +kernel
theorem d_M_take_25 : decode c_M_take 25 = .ok (.ireturn, 1) := by decide +kernel
theorem d_M_take_26 : decode c_M_take 26 = .ok (.aload_n 0, 1) := by decide +kernel
theorem d_M_take_27 : decode c_M_take 27 = .ok (.getfield 49, 3) := by decide +kernel
theorem d_M_take_30 : decode c_M_take 30 = .ok (.iload_n 1, 1) := by decide +kernel
theorem d_M_take_31 : decode c_M_take 31 = .ok (.iaload, 1) := by decide +kernel
theorem d_M_take_32 : decode c_M_take 32 = .ok (.istore_n 2, 1) := by decide +kernel
theorem d_M_take_33 : decode c_M_take 33 = .ok (.aload_n 0, 1) := by decide +kernel
theorem d_M_take_34 : decode c_M_take 34 = .ok (.getfield 49, 3) := by decide +kernel
theorem d_M_take_37 : decode c_M_take 37 = .ok (.iload_n 1, 1) := by decide +kernel
theorem d_M_take_38 : decode c_M_take 38 = .ok (.iconst (-1), 1) := by decide +kernel
theorem d_M_take_39 : decode c_M_take 39 = .ok (.iastore, 1) := by decide +kernel
theorem d_M_take_40 : decode c_M_take 40 = .ok (.iload_n 2, 1) := by decide +kernel
theorem d_M_take_41 : decode c_M_take 41 = .ok (.ireturn, 1) := by decide +kernel
theorem d_M_strip_0 : decode c_M_strip 0 = .ok (.aload_n 0, 1) := by decide +kernel
theorem d_M_strip_1 : decode c_M_strip 1 = .ok (.iconst 0, 1) := by decide +kernel
theorem d_M_strip_2 : decode c_M_strip 2 = .ok (.putfield 79, 3) := by decide +kernel
theorem d_M_strip_5 : decode c_M_strip 5 = .ok (.aload_n 0, 1) := by decide +kernel
theorem d_M_strip_6 : decode c_M_strip 6 = .ok (.invokevirtual 100, 3) := by decide +kernel
theorem d_M_strip_9 : decode c_M_strip 9 = .ok (.istore_n 1, 1) := by decide +kernel
theorem d_M_strip_10 : decode c_M_strip 10 = .ok (.iconst 0, 1) := by decide +kernel
theorem d_M_strip_11 : decode c_M_strip 11 = .ok (.istore_n 2, 1) := by decide +kernel
theorem d_M_strip_12 : decode c_M_strip 12 = .ok (.iload_n 2, 1) := by decide +kernel
theorem d_M_strip_13 : decode c_M_strip 13 = .ok (.bipush 12, 2) := by decide +kernel
theorem d_M_strip_15 : decode c_M_strip 15 = .ok (.if_icmp .ge 16, 3) := by decide +kernel
theorem d_M_strip_18 : decode c_M_strip 18 = .ok (.aload_n 0, 1) := by decide +kernel
theorem d_M_strip_19 : decode c_M_strip 19 = .ok (.getfield 49, 3) := by decide +kernel
theorem d_M_strip_22 : decode c_M_strip 22 = .ok (.iload_n 2, 1) := by decide +kernel
theorem d_M_strip_23 : decode c_M_strip 23 = .ok (.iconst (-1), 1) := by decide +kernel
theorem d_M_strip_24 : decode c_M_strip 24 = .ok (.iastore, 1) := by decide +kernel
theorem d_M_strip_25 : decode c_M_strip 25 = .ok (.iinc 2 1, 3) := by decide +kernel
theorem d_M_strip_28 : decode c_M_strip 28 = .ok (.goto (-16), 3) := by decide +kernel
theorem d_M_strip_31 : decode c_M_strip 31 = .ok (.iload_n 1, 1) := by decide +kernel
theorem d_M_strip_32 : decode c_M_strip 32 = .ok (.ireturn, 1) := by decide +kernel
theorem d_M_part_0 : decode c_M_part 0 = .ok (.aload_n 0, 1) := by decide +kernel
theorem d_M_part_1 : decode c_M_part 1 = .ok (.iload_n 2, 1) := by decide +kernel
theorem d_M_part_2 : decode c_M_part 2 = .ok (.ifCond .lt 8, 3) := by decide +kernel
theorem d_M_part_5 : decode c_M_part 5 = .ok (.iload_n 2, 1) := by decide +kernel
theorem d_M_part_6 : decode c_M_part 6 = .ok (.iconst 3, 1) := by decide +kernel
theorem d_M_part_7 : decode c_M_part 7 = .ok (.if_icmp .le 7, 3) := by decide +kernel
theorem d_M_part_10 : decode c_M_part 10 = .ok (.iconst 1, 1) := by decide +kernel
theorem d_M_part_11 : decode c_M_part 11 = .ok (.goto 16, 3) := by decide +kernel
theorem d_M_part_14 : decode c_M_part 14 = .ok (.aload_n 0, 1) := by decide +kernel
theorem d_M_part_15 : decode c_M_part 15 = .ok (.iload_n 1, 1) := by decide +kernel
theorem d_M_part_16 : decode c_M_part 16 = .ok (.invokevirtual 173, 3) := by decide +kernel
theorem d_M_part_19 : decode c_M_part 19 = .ok (.ifCond .ne 7, 3) := by decide +kernel
theorem d_M_part_22 : decode c_M_part 22 = .ok (.iconst 2, 1) := by decide +kernel
theorem d_M_part_23 : decode c_M_part 23 = .ok (.goto 4, 3) := by decide +kernel
theorem d_M_part_26 : decode c_M_part 26 = .ok (.iconst 0, 1) := by decide +kernel
theorem d_M_part_27 : decode c_M_part 27 = .ok (.putfield 79, 3) := by decide +kernel
theorem d_M_part_30 : decode c_M_part 30 = .ok (.aload_n 0, 1) := by decide +kernel
theorem d_M_part_31 : decode c_M_part 31 = .ok (.getfield 79, 3) := by decide +kernel
theorem d_M_part_34 : decode c_M_part 34 = .ok (.ifCond .le 5, 3) := by decide +kernel
theorem d_M_part_37 : decode c_M_part 37 = .ok (.iconst 0, 1) := by decide +kernel
theorem d_M_part_38 : decode c_M_part 38 = .ok (.ireturn, 1) := by decide +kernel
theorem d_M_part_39 : decode c_M_part 39 = .ok (.iload_n 2, 1) := by decide +kernel
theorem d_M_part_40 : decode c_M_part 40 = .ok (.ifCond .ne 12, 3) := by decide +kernel
theorem d_M_part_43 : decode c_M_part 43 = .ok (.aload_n 0, 1) := by decide +kernel
theorem d_M_part_44 : decode c_M_part 44 = .ok (.getfield 49, 3) := by decide +kernel
theorem d_M_part_47 : decode c_M_part 47 = .ok (.iload_n 1, 1) := by decide +kernel
theorem d_M_part_48 : decode c_M_part 48 = .ok (.iaload, 1) := by decide +kernel
theorem d_M_part_49 : decode c_M_part 49 = .ok (.goto 37, 3) := by decide +kernel
theorem d_M_part_52 : decode c_M_part 52 = .ok (.iload_n 2, 1) := by decide +kernel
theorem d_M_part_53 : decode c_M_part 53 = .ok (.iconst 1, 1) := by decide +kernel
theorem d_M_part_54 : decode c_M_part 54 = .ok (.if_icmp .ne 12, 3) := by decide +kernel
theorem d_M_part_57 : decode c_M_part 57 = .ok (.aload_n 0, 1) := by decide +kernel
theorem d_M_part_58 : decode c_M_part 58 = .ok (.getfield 52, 3) := by decide +kernel
theorem d_M_part_61 : decode c_M_part 61 = .ok (.iload_n 1, 1) := by decide +kernel
theorem d_M_part_62 : decode c_M_part 62 = .ok (.iaload, 1) := by decide +kernel
theorem d_M_part_63 : decode c_M_part 63 = .ok (.goto 23, 3) := by decide +kernel
theorem d_M_part_66 : decode c_M_part 66 = .ok (.iload_n 2, 1) := by decide +kernel
theorem d_M_part_67 : decode c_M_part 67 = .ok (.iconst 2, 1) := by decide +kernel
theorem d_M_part_68 : decode c_M_part 68 = .ok (.if_icmp .ne 12, 3) := by decide +kernel
theorem d_M_part_71 : decode c_M_part 71 = .ok (.aload_n 0, 1) := by decide +kernel
theorem d_M_part_72 : decode c_M_part 72 = .ok (.getfield 55, 3) := by decide +kernel
theorem d_M_part_75 : decode c_M_part 75 = .ok (.iload_n 1, 1) := by decide +kernel
theorem d_M_part_76 : decode c_M_part 76 = .ok (.iaload, 1) := by decide +kernel
theorem d_M_part_77 : decode c_M_part 77 = .ok (.goto 9, 3) := by decide +kernel
theorem d_M_part_80 : decode c_M_part 80 = .ok (.aload_n 0, 1) := by decide +kernel
theorem d_M_part_81 : decode c_M_part 81 = .ok (.getfield 58, 3) := by decide +kernel
theorem d_M_part_84 : decode c_M_part 84 = .ok (.iload_n 1, 1) := by decide +kernel
theorem d_M_part_85 : decode c_M_part 85 = .ok (.iaload, 1) := by decide +kernel
theorem d_M_part_86 : decode c_M_part 86 = .ok (.ireturn, 1) := by decide +kernel
theorem d_M_parts_0 : decode c_M_parts 0 = .ok (.aload_n 0, 1) := by decide +kernel
theorem d_M_parts_1 : decode c_M_parts 1 = .ok (.iconst 0, 1) := by decide +kernel
theorem d_M_parts_2 : decode c_M_parts 2 = .ok (.putfield 79, 3) := by decide +kernel
theorem d_M_parts_5 : decode c_M_parts 5 = .ok (.aload_n 0, 1) := by decide +kernel
theorem d_M_parts_6 : decode c_M_parts 6 = .ok (.invokevirtual 100, 3) := by decide +kernel
theorem d_M_parts_9 : decode c_M_parts 9 = .ok (.ireturn, 1) := by decide +kernel
theorem d_M_size_0 : decode c_M_size 0 = .ok (.iload_n 0, 1) := by decide +kernel
theorem d_M_size_1 : decode c_M_size 1 = .ok (.ifCond .ge 8, 3) := by decide +kernel
theorem d_M_size_4 : decode c_M_size 4 = .ok (.iload_n 0, 1) := by decide +kernel
theorem d_M_size_5 : decode c_M_size 5 = .ok (.ineg, 1) := by decide +kernel
theorem d_M_size_6 : decode c_M_size 6 = .ok (.goto 4, 3) := by decide +kernel
theorem d_M_size_9 : decode c_M_size 9 = .ok (.iload_n 0, 1) := by decide +kernel
theorem d_M_size_10 : decode c_M_size 10 = .ok (.ireturn, 1) := by decide +kernel
theorem d_M_free_0 : decode c_M_free 0 = .ok (.aload_n 0, 1) := by decide +kernel
theorem d_M_free_1 : decode c_M_free 1 = .ok (.iconst 0, 1) := by decide +kernel
theorem d_M_free_2 : decode c_M_free 2 = .ok (.putfield 79, 3) := by decide +kernel
theorem d_M_free_5 : decode c_M_free 5 = .ok (.iconst 0, 1) := by decide +kernel
theorem d_M_free_6 : decode c_M_free 6 = .ok (.istore_n 1, 1) := by decide +kernel
theorem d_M_free_7 : decode c_M_free 7 = .ok (.iconst 0, 1) := by decide +kernel
theorem d_M_free_8 : decode c_M_free 8 = .ok (.istore_n 2, 1) := by decide +kernel
theorem d_M_free_9 : decode c_M_free 9 = .ok (.iload_n 2, 1) := by decide +kernel
theorem d_M_free_10 : decode c_M_free 10 = .ok (.aload_n 0, 1) := by decide +kernel
theorem d_M_free_11 : decode c_M_free 11 = .ok (.getfield 108, 3) := by decide +kernel
theorem d_M_free_14 : decode c_M_free 14 = .ok (.if_icmp .ge 48, 3) := by decide +kernel
theorem d_M_free_17 : decode c_M_free 17 = .ok (.iload_n 2, 1) := by decide +kernel
theorem d_M_free_18 : decode c_M_free 18 = .ok (.iconst 1, 1) := by decide +kernel
theorem d_M_free_19 : decode c_M_free 19 = .ok (.iadd, 1) := by decide +kernel
theorem d_M_free_20 : decode c_M_free 20 = .ok (.aload_n 0, 1) := by decide +kernel
theorem d_M_free_21 : decode c_M_free 21 = .ok (.getfield 108, 3) := by decide +kernel
theorem d_M_free_24 : decode c_M_free 24 = .ok (.irem, 1) := by decide +kernel
theorem d_M_free_25 : decode c_M_free 25 = .ok (.istore_n 3, 1) := by decide +kernel
theorem d_M_free_26 : decode c_M_free 26 = .ok (.iload_n 1, 1) := by decide +kernel
theorem d_M_free_27 : decode c_M_free 27 = .ok (.aload_n 0, 1) := by decide +kernel
theorem d_M_free_28 : decode c_M_free 28 = .ok (.getfield 16, 3) := by decide +kernel
theorem d_M_free_31 : decode c_M_free 31 = .ok (.iload_n 2, 1) := by decide +kernel
theorem d_M_free_32 : decode c_M_free 32 = .ok (.iaload, 1) := by decide +kernel
theorem d_M_free_33 : decode c_M_free 33 = .ok (.aload_n 0, 1) := by decide +kernel
theorem d_M_free_34 : decode c_M_free 34 = .ok (.getfield 19, 3) := by decide +kernel
theorem d_M_free_37 : decode c_M_free 37 = .ok (.iload_n 3, 1) := by decide +kernel
theorem d_M_free_38 : decode c_M_free 38 = .ok (.iaload, 1) := by decide +kernel
theorem d_M_free_39 : decode c_M_free 39 = .ok (.imul, 1) := by decide +kernel
theorem d_M_free_40 : decode c_M_free 40 = .ok (.aload_n 0, 1) := by decide +kernel
theorem d_M_free_41 : decode c_M_free 41 = .ok (.getfield 16, 3) := by decide +kernel
theorem d_M_free_44 : decode c_M_free 44 = .ok (.iload_n 3, 1) := by decide +kernel
theorem d_M_free_45 : decode c_M_free 45 = .ok (.iaload, 1) := by decide +kernel
theorem d_M_free_46 : decode c_M_free 46 = .ok (.aload_n 0, 1) := by decide +kernel
theorem d_M_free_47 : decode c_M_free 47 = .ok (.getfield 19, 3) := by decide +kernel
theorem d_M_free_50 : decode c_M_free 50 = .ok (.iload_n 2, 1) := by decide +kernel
theorem d_M_free_51 : decode c_M_free 51 = .ok (.iaload, 1) := by decide +kernel
theorem d_M_free_52 : decode c_M_free 52 = .ok (.imul, 1) := by decide +kernel
theorem d_M_free_53 : decode c_M_free 53 = .ok (.isub, 1) := by decide +kernel
theorem d_M_free_54 : decode c_M_free 54 = .ok (.iadd, 1) := by decide +kernel
theorem d_M_free_55 : decode c_M_free 55 = .ok (.istore_n 1, 1) := by decide +kernel
theorem d_M_free_56 : decode c_M_free 56 = .ok (.iinc 2 1, 3) := by decide +kernel
theorem d_M_free_59 : decode c_M_free 59 = .ok (.goto (-50), 3) := by decide +kernel
theorem d_M_free_62 : decode c_M_free 62 = .ok (.iload_n 1, 1) := by decide +kernel
theorem d_M_free_63 : decode c_M_free 63 = .ok (.invokestatic 176, 3) := by decide +kernel
theorem d_M_free_66 : decode c_M_free 66 = .ok (.istore_n 1, 1) := by decide +kernel
theorem d_M_free_67 : decode c_M_free 67 = .ok (.iconst 0, 1) := by decide +kernel
theorem d_M_free_68 : decode c_M_free 68 = .ok (.istore_n 2, 1) := by decide +kernel
theorem d_M_free_69 : decode c_M_free 69 = .ok (.iload_n 2, 1) := by decide +kernel
theorem d_M_free_70 : decode c_M_free 70 = .ok (.bipush 12, 2) := by decide +kernel
theorem d_M_free_72 : decode c_M_free 72 = .ok (.if_icmp .ge 119, 3) := by decide +kernel
theorem d_M_free_75 : decode c_M_free 75 = .ok (.aload_n 0, 1) := by decide +kernel
theorem d_M_free_76 : decode c_M_free 76 = .ok (.getfield 49, 3) := by decide +kernel
theorem d_M_free_79 : decode c_M_free 79 = .ok (.iload_n 2, 1) := by decide +kernel
theorem d_M_free_80 : decode c_M_free 80 = .ok (.iaload, 1) := by decide +kernel
theorem d_M_free_81 : decode c_M_free 81 = .ok (.ifCond .ge 7, 3) := by decide +kernel
theorem d_M_free_84 : decode c_M_free 84 = .ok (.iconst 0, 1) := by decide +kernel
theorem d_M_free_85 : decode c_M_free 85 = .ok (.goto 14, 3) := by decide +kernel
theorem d_M_free_88 : decode c_M_free 88 = .ok (.aload_n 0, 1) := by decide +kernel
theorem d_M_free_89 : decode c_M_free 89 = .ok (.getfield 40, 3) := by decide +kernel
theorem d_M_free_92 : decode c_M_free 92 = .ok (.aload_n 0, 1) := by decide +kernel
theorem d_M_free_93 : decode c_M_free 93 = .ok (.getfield 49, 3) := by decide +kernel
theorem d_M_free_96 : decode c_M_free 96 = .ok (.iload_n 2, 1) := by decide +kernel
theorem d_M_free_97 : decode c_M_free 97 = .ok (.iaload, 1) := by decide +kernel
theorem d_M_free_98 : decode c_M_free 98 = .ok (.iaload, 1) := by decide +kernel
theorem d_M_free_99 : decode c_M_free 99 = .ok (.istore_n 3, 1) := by decide +kernel
theorem d_M_free_100 : decode c_M_free 100 = .ok (.iconst 0, 1) := by decide +kernel
theorem d_M_free_101 : decode c_M_free 101 = .ok (.istore 4, 2) := by decide +kernel
theorem d_M_free_103 : decode c_M_free 103 = .ok (.iconst 0, 1) := by decide +kernel
theorem d_M_free_104 : decode c_M_free 104 = .ok (.istore 5, 2) := by decide +kernel
theorem d_M_free_106 : decode c_M_free 106 = .ok (.iload 5, 2) := by decide +kernel
theorem d_M_free_108 : decode c_M_free 108 = .ok (.iload_n 3, 1) := by decide +kernel
theorem d_M_free_109 : decode c_M_free 109 = .ok (.if_icmp .ge 68, 3) := by decide +kernel
theorem d_M_free_112 : decode c_M_free 112 = .ok (.bipush 6, 2) := by decide +kernel
theorem d_M_free_114 : decode c_M_free 114 = .ok (.iload_n 2, 1) := by decide +kernel
theorem d_M_free_115 : decode c_M_free 115 = .ok (.imul, 1) := by decide +kernel
theorem d_M_free_116 : decode c_M_free 116 = .ok (.iload 5, 2) := by decide +kernel
theorem d_M_free_118 : decode c_M_free 118 = .ok (.iconst 1, 1) := by decide +kernel
theorem d_M_free_119 : decode c_M_free 119 = .ok (.iadd, 1) := by decide +kernel
theorem d_M_free_120 : decode c_M_free 120 = .ok (.iload_n 3, 1) := by decide +kernel
theorem d_M_free_121 : decode c_M_free 121 = .ok (.irem, 1) := by decide +kernel
theorem d_M_free_122 : decode c_M_free 122 = .ok (.iadd, 1) := by decide +kernel
theorem d_M_free_123 : decode c_M_free 123 = .ok (.istore 6, 2) := by decide +kernel
theorem d_M_free_125 : decode c_M_free 125 = .ok (.iload 4, 2) := by decide +kernel
theorem d_M_free_127 : decode c_M_free 127 = .ok (.aload_n 0, 1) := by decide +kernel
theorem d_M_free_128 : decode c_M_free 128 = .ok (.getfield 61, 3) := by decide +kernel
theorem d_M_free_131 : decode c_M_free 131 = .ok (.bipush 6, 2) := by decide +kernel
theorem d_M_free_133 : decode c_M_free 133 = .ok (.iload_n 2, 1) := by decide +kernel
theorem d_M_free_134 : decode c_M_free 134 = .ok (.imul, 1) := by decide +kernel
theorem d_M_free_135 : decode c_M_free 135 = .ok (.iload 5, 2) := by decide +kernel
theorem d_M_free_137 : decode c_M_free 137 = .ok (.iadd, 1) := by decide +kernel
theorem d_M_free_138 : decode c_M_free 138 = .ok (.iaload, 1) := by decide +kernel
theorem d_M_free_139 : decode c_M_free 139 = .ok (.aload_n 0, 1) := by decide +kernel
theorem d_M_free_140 : decode c_M_free 140 = .ok (.getfield 64, 3) := by decide +kernel
theorem d_M_free_143 : decode c_M_free 143 = .ok (.iload 6, 2) := by decide +kernel
theorem d_M_free_145 : decode c_M_free 145 = .ok (.iaload, 1) := by decide +kernel
theorem d_M_free_146 : decode c_M_free 146 = .ok (.imul, 1) := by decide +kernel
theorem d_M_free_147 : decode c_M_free 147 = .ok (.aload_n 0, 1) := by decide +kernel
theorem d_M_free_148 : decode c_M_free 148 = .ok (.getfield 61, 3) := by decide +kernel
theorem d_M_free_151 : decode c_M_free 151 = .ok (.iload 6, 2) := by decide +kernel
theorem d_M_free_153 : decode c_M_free 153 = .ok (.iaload, 1) := by decide +kernel
theorem d_M_free_154 : decode c_M_free 154 = .ok (.aload_n 0, 1) := by decide +kernel
theorem d_M_free_155 : decode c_M_free 155 = .ok (.getfield 64, 3) := by decide +kernel
theorem d_M_free_158 : decode c_M_free 158 = .ok (.bipush 6, 2) := by decide +kernel
theorem d_M_free_160 : decode c_M_free 160 = .ok (.iload_n 2, 1) := by decide +kernel
theorem d_M_free_161 : decode c_M_free 161 = .ok (.imul, 1) := by decide +kernel
theorem d_M_free_162 : decode c_M_free 162 = .ok (.iload 5, 2) := by decide +kernel
theorem d_M_free_164 : decode c_M_free 164 = .ok (.iadd, 1) := by decide +kernel
theorem d_M_free_165 : decode c_M_free 165 = .ok (.iaload, 1) := by decide +kernel
theorem d_M_free_166 : decode c_M_free 166 = .ok (.imul, 1) := by decide +kernel
theorem d_M_free_167 : decode c_M_free 167 = .ok (.isub, 1) := by decide +kernel
theorem d_M_free_168 : decode c_M_free 168 = .ok (.iadd, 1) := by decide +kernel
theorem d_M_free_169 : decode c_M_free 169 = .ok (.istore 4, 2) := by decide +kernel
theorem d_M_free_171 : decode c_M_free 171 = .ok (.iinc 5 1, 3) := by decide +kernel
theorem d_M_free_174 : decode c_M_free 174 = .ok (.goto (-68), 3) := by decide +kernel
theorem d_M_free_177 : decode c_M_free 177 = .ok (.iload_n 1, 1) := by decide +kernel
theorem d_M_free_178 : decode c_M_free 178 = .ok (.iload 4, 2) := by decide +kernel
theorem d_M_free_180 : decode c_M_free 180 = .ok (.invokestatic 176, 3) := by decide +kernel
theorem d_M_free_183 : decode c_M_free 183 = .ok (.isub, 1) := by decide +kernel
theorem d_M_free_184 : decode c_M_free 184 = .ok (.istore_n 1, 1) := by decide +kernel
theorem d_M_free_185 : decode c_M_free 185 = .ok (.iinc 2 1, 3) := by decide +kernel
theorem d_M_free_188 : decode c_M_free 188 = .ok (.goto (-119), 3) := by decide +kernel
theorem d_M_free_191 : decode c_M_free 191 = .ok (.iload_n 1, 1) := by decide +kernel
theorem d_M_free_192 : decode c_M_free 192 = .ok (.ireturn, 1) := by decide +kernel
