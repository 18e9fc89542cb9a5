theorem d_M_init_0 : decode c_M_init 0 = .ok (.aload_n 0, 1) := by decide +kernel
theorem d_M_init_1 : decode c_M_init 1 = .ok (.invokespecial 1, 3) := by decide +kernel
theorem d_M_init_4 : decode c_M_init 4 = .ok (.aload_n 0, 1) := by decide +kernel
theorem d_M_init_5 : decode c_M_init 5 = .ok (.bipush 12, 2) := by decide +kernel
theorem d_M_init_7 : decode c_M_init 7 = .ok (.newarray .int, 2) := by decide +kernel
theorem d_M_init_9 : decode c_M_init 9 = .ok (.putfield 7, 3) := by decide +kernel
theorem d_M_init_12 : decode c_M_init 12 = .ok (.aload_n 0, 1) := by decide +kernel
theorem d_M_init_13 : decode c_M_init 13 = .ok (.bipush 12, 2) := by decide +kernel
theorem d_M_init_15 : decode c_M_init 15 = .ok (.newarray .int, 2) := by decide +kernel
theorem d_M_init_17 : decode c_M_init 17 = .ok (.putfield 13, 3) := by decide +kernel
theorem d_M_init_20 : decode c_M_init 20 = .ok (.aload_n 0, 1) := by decide +kernel
theorem d_M_init_21 : decode c_M_init 21 = .ok (.bipush 12, 2) := by decide +kernel
theorem d_M_init_23 : decode c_M_init 23 = .ok (.newarray .int, 2) := by decide +kernel
theorem d_M_init_25 : decode c_M_init 25 = .ok (.putfield 16, 3) := by decide +kernel
theorem d_M_init_28 : decode c_M_init 28 = .ok (.aload_n 0, 1) := by decide +kernel
theorem d_M_init_29 : decode c_M_init 29 = .ok (.bipush 12, 2) := by decide +kernel
theorem d_M_init_31 : decode c_M_init 31 = .ok (.newarray .int, 2) := by decide +kernel
theorem d_M_init_33 : decode c_M_init 33 = .ok (.putfield 19, 3) := by decide +kernel
theorem d_M_init_36 : decode c_M_init 36 = .ok (.aload_n 0, 1) := by decide +kernel
theorem d_M_init_37 : decode c_M_init 37 = .ok (.bipush 30, 2) := by decide +kernel
theorem d_M_init_39 : decode c_M_init 39 = .ok (.newarray .int, 2) := by decide +kernel
theorem d_M_init_41 : decode c_M_init 41 = .ok (.putfield 22, 3) := by decide +kernel
theorem d_M_init_44 : decode c_M_init 44 = .ok (.aload_n 0, 1) := by decide +kernel
theorem d_M_init_45 : decode c_M_init 45 = .ok (.bipush 30, 2) := by decide +kernel
theorem d_M_init_47 : decode c_M_init 47 = .ok (.newarray .int, 2) := by decide +kernel
theorem d_M_init_49 : decode c_M_init 49 = .ok (.putfield 25, 3) := by decide +kernel
theorem d_M_init_52 : decode c_M_init 52 = .ok (.aload_n 0, 1) := by decide +kernel
theorem d_M_init_53 : decode c_M_init 53 = .ok (.iconst 5, 1) := by decide +kernel
theorem d_M_init_54 : decode c_M_init 54 = .ok (.newarray .int, 2) := by decide +kernel
theorem d_M_init_56 : decode c_M_init 56 = .ok (.putfield 28, 3) := by decide +kernel
theorem d_M_init_59 : decode c_M_init 59 = .ok (.aload_n 0, 1) := by decide +kernel
theorem d_M_init_60 : decode c_M_init 60 = .ok (.iconst 5, 1) := by decide +kernel
theorem d_M_init_61 : decode c_M_init 61 = .ok (.newarray .int, 2) := by decide +kernel
theorem d_M_init_63 : decode c_M_init 63 = .ok (.putfield 31, 3) := by decide +kernel
theorem d_M_init_66 : decode c_M_init 66 = .ok (.aload_n 0, 1) := by decide +kernel
theorem d_M_init_67 : decode c_M_init 67 = .ok (.bipush 36, 2) := by decide +kernel
theorem d_M_init_69 : decode c_M_init 69 = .ok (.newarray .int, 2) := by decide +kernel
theorem d_M_init_71 : decode c_M_init 71 = .ok (.putfield 34, 3) := by decide +kernel
theorem d_M_init_74 : decode c_M_init 74 = .ok (.aload_n 0, 1) := by decide +kernel
theorem d_M_init_75 : decode c_M_init 75 = .ok (.bipush 36, 2) := by decide +kernel
theorem d_M_init_77 : decode c_M_init 77 = .ok (.newarray .int, 2) := by decide +kernel
theorem d_M_init_79 : decode c_M_init 79 = .ok (.putfield 37, 3) := by decide +kernel
theorem d_M_init_82 : decode c_M_init 82 = .ok (.aload_n 0, 1) := by decide +kernel
theorem d_M_init_83 : decode c_M_init 83 = .ok (.bipush 6, 2) := by decide +kernel
theorem d_M_init_85 : decode c_M_init 85 = .ok (.newarray .int, 2) := by decide +kernel
theorem d_M_init_87 : decode c_M_init 87 = .ok (.putfield 40, 3) := by decide +kernel
theorem d_M_init_90 : decode c_M_init 90 = .ok (.aload_n 0, 1) := by decide +kernel
theorem d_M_init_91 : decode c_M_init 91 = .ok (.bipush 6, 2) := by decide +kernel
theorem d_M_init_93 : decode c_M_init 93 = .ok (.newarray .int, 2) := by decide +kernel
theorem d_M_init_95 : decode c_M_init 95 = .ok (.putfield 43, 3) := by decide +kernel
theorem d_M_init_98 : decode c_M_init 98 = .ok (.aload_n 0, 1) := by decide +kernel
theorem d_M_init_99 : decode c_M_init 99 = .ok (.bipush 6, 2) := by decide +kernel
theorem d_M_init_101 : decode c_M_init 101 = .ok (.newarray .int, 2) := by decide +kernel
theorem d_M_init_103 : decode c_M_init 103 = .ok (.putfield 46, 3) := by decide +kernel
theorem d_M_init_106 : decode c_M_init 106 = .ok (.aload_n 0, 1) := by decide +kernel
theorem d_M_init_107 : decode c_M_init 107 = .ok (.bipush 12, 2) := by decide +kernel
theorem d_M_init_109 : decode c_M_init 109 = .ok (.newarray .int, 2) := by decide +kernel
theorem d_M_init_111 : decode c_M_init 111 = .ok (.putfield 49, 3) := by decide +kernel
theorem d_M_init_114 : decode c_M_init 114 = .ok (.aload_n 0, 1) := by decide +kernel
theorem d_M_init_115 : decode c_M_init 115 = .ok (.bipush 12, 2) := by decide +kernel
theorem d_M_init_117 : decode c_M_init 117 = .ok (.newarray .int, 2) := by decide +kernel
theorem d_M_init_119 : decode c_M_init 119 = .ok (.putfield 52, 3) := by decide +kernel
theorem d_M_init_122 : decode c_M_init 122 = .ok (.aload_n 0, 1) := by decide +kernel
theorem d_M_init_123 : decode c_M_init 123 = .ok (.bipush 12, 2) := by decide +kernel
theorem d_M_init_125 : decode c_M_init 125 = .ok (.newarray .int, 2) := by decide +kernel
theorem d_M_init_127 : decode c_M_init 127 = .ok (.putfield 55, 3) := by decide +kernel
theorem d_M_init_130 : decode c_M_init 130 = .ok (.aload_n 0, 1) := by decide +kernel
theorem d_M_init_131 : decode c_M_init 131 = .ok (.bipush 12, 2) := by decide +kernel
theorem d_M_init_133 : decode c_M_init 133 = .ok (.newarray .int, 2) := by decide +kernel
theorem d_M_init_135 : decode c_M_init 135 = .ok (.putfield 58, 3) := by decide +kernel
theorem d_M_init_138 : decode c_M_init 138 = .ok (.aload_n 0, 1) := by decide +kernel
theorem d_M_init_139 : decode c_M_init 139 = .ok (.bipush 72, 2) := by decide +kernel
theorem d_M_init_141 : decode c_M_init 141 = .ok (.newarray .int, 2) := by decide +kernel
theorem d_M_init_143 : decode c_M_init 143 = .ok (.putfield 61, 3) := by decide +kernel
theorem d_M_init_146 : decode c_M_init 146 = .ok (.aload_n 0, 1) := by decide +kernel
theorem d_M_init_147 : decode c_M_init 147 = .ok (.bipush 72, 2) := by decide +kernel
theorem d_M_init_149 : decode c_M_init 149 = .ok (.newarray .int, 2) := by decide +kernel
theorem d_M_init_151 : decode c_M_init 151 = .ok (.putfield 64, 3) := by decide +kernel
theorem d_M_init_154 : decode c_M_init 154 = .ok (.aload_n 0, 1) := by decide +kernel
theorem d_M_init_155 : decode c_M_init 155 = .ok (.bipush 6, 2) := by decide +kernel
theorem d_M_init_157 : decode c_M_init 157 = .ok (.newarray .int, 2) := by decide +kernel
theorem d_M_init_159 : decode c_M_init 159 = .ok (.putfield 67, 3) := by decide +kernel
theorem d_M_init_162 : decode c_M_init 162 = .ok (.aload_n 0, 1) := by decide +kernel
theorem d_M_init_163 : decode c_M_init 163 = .ok (.bipush 6, 2) := by decide +kernel
theorem d_M_init_165 : decode c_M_init 165 = .ok (.newarray .int, 2) := by decide +kernel
theorem d_M_init_167 : decode c_M_init 167 = .ok (.putfield 70, 3) := by decide +kernel
theorem d_M_init_170 : decode c_M_init 170 = .ok (.aload_n 0, 1) := by decide +kernel
theorem d_M_init_171 : decode c_M_init 171 = .ok (.bipush 12, 2) := by decide +kernel
theorem d_M_init_173 : decode c_M_init 173 = .ok (.newarray .int, 2) := by decide +kernel
theorem d_M_init_175 : decode c_M_init 175 = .ok (.putfield 73, 3) := by decide +kernel
theorem d_M_init_178 : decode c_M_init 178 = .ok (.aload_n 0, 1) := by decide +kernel
theorem d_M_init_179 : decode c_M_init 179 = .ok (.bipush 12, 2) := by decide +kernel
theorem d_M_init_181 : decode c_M_init 181 = .ok (.newarray .int, 2) := by decide +kernel
theorem d_M_init_183 : decode c_M_init 183 = .ok (.putfield 76, 3) := by decide +kernel
theorem d_M_init_186 : decode c_M_init 186 = .ok (.iconst 0, 1) := by decide +kernel
theorem d_M_init_187 : decode c_M_init 187 = .ok (.istore_n 1, 1) := by decide +kernel
theorem d_M_init_188 : decode c_M_init 188 = .ok (.iload_n 1, 1) := by decide +kernel
theorem d_M_init_189 : decode c_M_init 189 = .ok (.bipush 12, 2) := by decide +kernel
theorem d_M_init_191 : decode c_M_init 191 = .ok (.if_icmp .ge 16, 3) := by decide +kernel
theorem d_M_init_194 : decode c_M_init 194 = .ok (.aload_n 0, 1) := by decide +kernel
theorem d_M_init_195 : decode c_M_init 195 = .ok (.getfield 49, 3) := by decide +kernel
theorem d_M_init_198 : decode c_M_init 198 = .ok (.iload_n 1, 1) := by decide +kernel
theorem d_M_init_199 : decode c_M_init 199 = .ok (.iconst (-1), 1) := by decide +kernel
theorem d_M_init_200 : decode c_M_init 200 = .ok (.iastore, 1) := by decide +kernel
theorem d_M_init_201 : decode c_M_init 201 = .ok (.iinc 1 1, 3) := by decide +kernel
theorem d_M_init_204 : decode c_M_init 204 = .ok (.goto (-16), 3) := by decide +kernel
theorem d_M_init_207 : decode c_M_init 207 = .ok (.return_, 1) := by decide +kernel
theorem d_M_thrown_0 : decode c_M_thrown 0 = .ok (.aload_n 0, 1) := by decide +kernel
theorem d_M_thrown_1 : decode c_M_thrown 1 = .ok (.getfield 79, 3) := by decide +kernel
theorem d_M_thrown_4 : decode c_M_thrown 4 = .ok (.ireturn, 1) := by decide +kernel
theorem d_M_count_0 : decode c_M_count 0 = .ok (.iconst 0, 1) := by decide +kernel
theorem d_M_count_1 : decode c_M_count 1 = .ok (.istore_n 1, 1) := by decide +kernel
theorem d_M_count_2 : decode c_M_count 2 = .ok (.iconst 0, 1) := by decide +kernel
theorem d_M_count_3 : decode c_M_count 3 = .ok (.istore_n 2, 1) := by decide +kernel
theorem d_M_count_4 : decode c_M_count 4 = .ok (.iload_n 2, 1) := by decide +kernel
theorem d_M_count_5 : decode c_M_count 5 = .ok (.bipush 12, 2) := by decide +kernel
theorem d_M_count_7 : decode c_M_count 7 = .ok (.if_icmp .ge 26, 3) := by decide +kernel
theorem d_M_count_10 : decode c_M_count 10 = .ok (.iload_n 1, 1) := by decide +kernel
theorem d_M_count_11 : decode c_M_count 11 = .ok (.aload_n 0, 1) := by decide +kernel
theorem d_M_count_12 : decode c_M_count 12 = .ok (.getfield 49, 3) := by decide +kernel
theorem d_M_count_15 : decode c_M_count 15 = .ok (.iload_n 2, 1) := by decide +kernel
theorem d_M_count_16 : decode c_M_count 16 = .ok (.iaload, 1) := by decide +kernel
theorem d_M_count_17 : decode c_M_count 17 = .ok (.ifCond .lt 7, 3) := by decide +kernel
theorem d_M_count_20 : decode c_M_count 20 = .ok (.iconst 1, 1) := by decide +kernel
theorem d_M_count_21 : decode c_M_count 21 = .ok (.goto 4, 3) := by decide +kernel
theorem d_M_count_24 : decode c_M_count 24 = .ok (.iconst 0, 1) := by decide +kernel
theorem d_M_count_25 : decode c_M_count 25 = .ok (.iadd, 1) := by decide +kernel
theorem d_M_count_26 : decode c_M_count 26 = .ok (.istore_n 1, 1) := by decide +kernel
theorem d_M_count_27 : decode c_M_count 27 = .ok (.iinc 2 1, 3) := by decide +kernel
theorem d_M_count_30 : decode c_M_count 30 = .ok (.goto (-26), 3) := by decide +kernel
theorem d_M_count_33 : decode c_M_count 33 = .ok (.iload_n 1, 1) := by decide +kernel
theorem d_M_count_34 : decode c_M_count 34 = .ok (.ireturn, 1) := by decide +kernel
theorem d_M_corner_0 : decode c_M_corner 0 = .ok (.aload_n 0, 1) := by decide +kernel
theorem d_M_corner_1 : decode c_M_corner 1 = .ok (.iload_n 1, 1) := by decide +kernel
theorem d_M_corner_2 : decode c_M_corner 2 = .ok (.ifCond .lt 19, 3) := by decide +kernel
theorem d_M_corner_5 : decode c_M_corner 5 = .ok (.iload_n 1, 1) := by decide +kernel
theorem d_M_corner_6 : decode c_M_corner 6 = .ok (.bipush 30, 2) := by decide +kernel
theorem d_M_corner_8 : decode c_M_corner 8 = .ok (.if_icmp .gt 13, 3) := by decide +kernel
theorem d_M_corner_11 : decode c_M_corner 11 = .ok (.iload_n 2, 1) := by decide +kernel
theorem d_M_corner_12 : decode c_M_corner 12 = .ok (.ifCond .lt 9, 3) := by decide +kernel
theorem d_M_corner_15 : decode c_M_corner 15 = .ok (.iload_n 2, 1) := by decide +kernel
theorem d_M_corner_16 : decode c_M_corner 16 = .ok (.bipush 30, 2) := by decide +kernel
theorem d_M_corner_18 : decode c_M_corner 18 = .ok (.if_icmp .le 7, 3) := by decide +kernel
theorem d_M_corner_21 : decode c_M_corner 21 = .ok (.iconst 1, 1) := by decide +kernel
theorem d_M_corner_22 : decode c_M_corner 22 = .ok (.goto 17, 3) := by decide +kernel
theorem d_M_corner_25 : decode c_M_corner 25 = .ok (.aload_n 0, 1) := by decide +kernel
theorem d_M_corner_26 : decode c_M_corner 26 = .ok (.getfield 83, 3) := by decide +kernel
theorem d_M_corner_29 : decode c_M_corner 29 = .ok (.bipush 12, 2) := by decide +kernel
theorem d_M_corner_31 : decode c_M_corner 31 = .ok (.if_icmp .ne 7, 3) := by decide +kernel
theorem d_M_corner_34 : decode c_M_corner 34 = .ok (.iconst 2, 1) := by decide +kernel
theorem d_M_corner_35 : decode c_M_corner 35 = .ok (.goto 4, 3) := by decide +kernel
theorem d_M_corner_38 : decode c_M_corner 38 = .ok (.iconst 0, 1) := by decide +kernel
theorem d_M_corner_39 : decode c_M_corner 39 = .ok (.putfield 79, 3) := by decide +kernel
theorem d_M_corner_42 : decode c_M_corner 42 = .ok (.aload_n 0, 1) := by decide +kernel
theorem d_M_corner_43 : decode c_M_corner 43 = .ok (.getfield 79, 3) := by decide +kernel
theorem d_M_corner_46 : decode c_M_corner 46 = .ok (.ifCond .le 5, 3) := by decide +kernel
theorem d_M_corner_49 : decode c_M_corner 49 = .ok (.iconst 0, 1) := by decide +kernel
theorem d_M_corner_50 : decode c_M_corner 50 = .ok (.ireturn, 1) := by decide +kernel
theorem d_M_corner_51 : decode c_M_corner 51 = .ok (.aload_n 0, 1) := by decide +kernel
theorem d_M_corner_52 : decode c_M_corner 52 = .ok (.getfield 7, 3) := by decide +kernel
theorem d_M_corner_55 : decode c_M_corner 55 = .ok (.aload_n 0, 1) := by decide +kernel
theorem d_M_corner_56 : decode c_M_corner 56 = .ok (.getfield 83, 3) := by decide +kernel
theorem d_M_corner_59 : decode c_M_corner 59 = .ok (.iload_n 1, 1) := by decide +kernel
theorem d_M_corner_60 : decode c_M_corner 60 = .ok (.iastore, 1) := by decide +kernel
theorem d_M_corner_61 : decode c_M_corner 61 = .ok (.aload_n 0, 1) := by decide +kernel
theorem d_M_corner_62 : decode c_M_corner 62 = .ok (.getfield 13, 3) := by decide +kernel
theorem d_M_corner_65 : decode c_M_corner 65 = .ok (.aload_n 0, 1) := by decide +kernel
theorem d_M_corner_66 : decode c_M_corner 66 = .ok (.getfield 83, 3) := by decide +kernel
theorem d_M_corner_69 : decode c_M_corner 69 = .ok (.iload_n 2, 1) := by decide +kernel
theorem d_M_corner_70 : decode c_M_corner 70 = .ok (.iastore, 1) := by decide +kernel
theorem d_M_corner_71 : decode c_M_corner 71 = .ok (.aload_n 0, 1) := by decide +kernel
theorem d_M_corner_72 : decode c_M_corner 72 = .ok (.dup, 1) := by decide +kernel
theorem d_M_corner_73 : decode c_M_corner 73 = .ok (.getfield 83, 3) := by decide +kernel
theorem d_M_corner_76 : decode c_M_corner 76 = .ok (.iconst 1, 1) := by decide +kernel
theorem d_M_corner_77 : decode c_M_corner 77 = .ok (.iadd, 1) := by decide +kernel
theorem d_M_corner_78 : decode c_M_corner 78 = .ok (.putfield 83, 3) := by decide +kernel
theorem d_M_corner_81 : decode c_M_corner 81 = .ok (.aload_n 0, 1) := by decide +kernel
theorem d_M_corner_82 : decode c_M_corner 82 = .ok (.getfield 83, 3) := by decide +kernel
theorem d_M_corner_85 : decode c_M_corner 85 = .ok (.ireturn, 1) := by decide +kernel
theorem d_M_side_0 : decode c_M_side 0 = .ok (.aload_n 0, 1) := by decide +kernel
theorem d_M_side_1 : decode c_M_side 1 = .ok (.getfield 7, 3) := by decide +kernel
theorem d_M_side_4 : decode c_M_side 4 = .ok (.iload_n 2, 1) := by decide +kernel
theorem d_M_side_5 : decode c_M_side 5 = .ok (.iaload, 1) := by decide +kernel
theorem d_M_side_6 : decode c_M_side 6 = .ok (.aload_n 0, 1) := by decide +kernel
theorem d_M_side_7 : decode c_M_side 7 = .ok (.getfield 7, 3) := by decide +kernel
theorem d_M_side_10 : decode c_M_side 10 = .ok (.iload_n 1, 1) := by decide +kernel
theorem d_M_side_11 : decode c_M_side 11 = .ok (.iaload, 1) := by decide +kernel
theorem d_M_side_12 : decode c_M_side 12 = .ok (.isub, 1) := by decide +kernel
theorem d_M_side_13 : decode c_M_side 13 = .ok (.aload_n 0, 1) := by decide +kernel
theorem d_M_side_14 : decode c_M_side 14 = .ok (.getfield 13, 3) := by decide +kernel
theorem d_M_side_17 : decode c_M_side 17 = .ok (.iload_n 3, 1) := by decide +kernel
theorem d_M_side_18 : decode c_M_side 18 = .ok (.iaload, 1) := by decide +kernel
theorem d_M_side_19 : decode c_M_side 19 = .ok (.aload_n 0, 1) := by decide +kernel
theorem d_M_side_20 : decode c_M_side 20 = .ok (.getfield 13, 3) := by decide +kernel
theorem d_M_side_23 : decode c_M_side 23 = .ok (.iload_n 1, 1) := by decide +kernel
theorem d_M_side_24 : decode c_M_side 24 = .ok (.iaload, 1) := by decide +kernel
theorem d_M_side_25 : decode c_M_side 25 = .ok (.isub, 1) := by decide +kernel
theorem d_M_side_26 : decode c_M_side 26 = .ok (.imul, 1) := by decide +kernel
theorem d_M_side_27 : decode c_M_side 27 = .ok (.aload_n 0, 1) := by decide +kernel
theorem d_M_side_28 : decode c_M_side 28 = .ok (.getfield 13, 3) := by decide +kernel
theorem d_M_side_31 : decode c_M_side 31 = .ok (.iload_n 2, 1) := by decide +kernel
theorem d_M_side_32 : decode c_M_side 32 = .ok (.iaload, 1) := by decide +kernel
theorem d_M_side_33 : decode c_M_side 33 = .ok (.aload_n 0, 1) := by decide +kernel
theorem d_M_side_34 : decode c_M_side 34 = .ok (.getfield 13, 3) := by decide +kernel
theorem d_M_side_37 : decode c_M_side 37 = .ok (.iload_n 1, 1) := by decide +kernel
theorem d_M_side_38 : decode c_M_side 38 = .ok (.iaload, 1) := by decide +kernel
theorem d_M_side_39 : decode c_M_side 39 = .ok (.isub, 1) := by decide +kernel
theorem d_M_side_40 : decode c_M_side 40 = .ok (.aload_n 0, 1) := by decide +kernel
theorem d_M_side_41 : decode c_M_side 41 = .ok (.getfield 7, 3) := by decide +kernel
theorem d_M_side_44 : decode c_M_side 44 = .ok (.iload_n 3, 1) := by decide +kernel
theorem d_M_side_45 : decode c_M_side 45 = .ok (.iaload, 1) := by decide +kernel
theorem d_M_side_46 : decode c_M_side 46 = .ok (.aload_n 0, 1) := by decide +kernel
theorem d_M_side_47 : decode c_M_side 47 = .ok (.getfield 7, 3) := by decide +kernel
theorem d_M_side_50 : decode c_M_side 50 = .ok (.iload_n 1, 1) := by decide +kernel
theorem d_M_side_51 : decode c_M_side 51 = .ok (.iaload, 1) := by decide +kernel
theorem d_M_side_52 : decode c_M_side 52 = .ok (.isub, 1) := by decide +kernel
theorem d_M_side_53 : decode c_M_side 53 = .ok (.imul, 1) := by decide +kernel
theorem d_M_side_54 : decode c_M_side 54 = .ok (.isub, 1) := by decide +kernel
theorem d_M_side_55 : decode c_M_side 55 = .ok (.ireturn, 1) := by decide +kernel
theorem d_M_within_0 : decode c_M_within 0 = .ok (.aload_n 0, 1) := by decide +kernel
theorem d_M_within_1 : decode c_M_within 1 = .ok (.getfield 7, 3) := by decide +kernel
theorem d_M_within_4 : decode c_M_within 4 = .ok (.iload_n 1, 1) := by decide +kernel
theorem d_M_within_5 : decode c_M_within 5 = .ok (.iaload, 1) := by decide +kernel
theorem d_M_within_6 : decode c_M_within 6 = .ok (.aload_n 0, 1) := by decide +kernel
theorem d_M_within_7 : decode c_M_within 7 = .ok (.getfield 7, 3) := by decide +kernel
theorem d_M_within_10 : decode c_M_within 10 = .ok (.iload_n 2, 1) := by decide +kernel
theorem d_M_within_11 : decode c_M_within 11 = .ok (.iaload, 1) := by decide +kernel
theorem d_M_within_12 : decode c_M_within 12 = .ok (.if_icmp .ge 12, 3) := by decide +kernel
theorem d_M_within_15 : decode c_M_within 15 = .ok (.aload_n 0, 1) := by decide +kernel
theorem d_M_within_16 : decode c_M_within 16 = .ok (.getfield 7, 3) := by decide +kernel
theorem d_M_within_19 : decode c_M_within 19 = .ok (.iload_n 1, 1) := by decide +kernel
theorem d_M_within_20 : decode c_M_within 20 = .ok (.iaload, 1) := by decide +kernel
theorem d_M_within_21 : decode c_M_within 21 = .ok (.goto 9, 3) := by decide +kernel
theorem d_M_within_24 : decode c_M_within 24 = .ok (.aload_n 0, 1) := by decide +kernel
theorem d_M_within_25 : decode c_M_within 25 = .ok (.getfield 7, 3) := by decide +kernel
theorem d_M_within_28 : decode c_M_within 28 = .ok (.iload_n 2, 1) := by decide +kernel
theorem d_M_within_29 : decode c_M_within 29 = .ok (.iaload, 1) := by decide +kernel
theorem d_M_within_30 : decode c_M_within 30 = .ok (.istore 4, 2) := by decide +kernel
theorem d_M_within_32 : decode c_M_within 32 = .ok (.aload_n 0, 1) := by decide +kernel
theorem d_M_within_33 : decode c_M_within 33 = .ok (.getfield 7, 3) := by decide +kernel
theorem d_M_within_36 : decode c_M_within 36 = .ok (.iload_n 1, 1) := by decide +kernel
theorem d_M_within_37 : decode c_M_within 37 = .ok (.iaload, 1) := by decide +kernel
theorem d_M_within_38 : decode c_M_within 38 = .ok (.aload_n 0, 1) := by decide +kernel
theorem d_M_within_39 : decode c_M_within 39 = .ok (.getfield 7, 3) := by decide +kernel
theorem d_M_within_42 : decode c_M_within 42 = .ok (.iload_n 2, 1) := by decide +kernel
theorem d_M_within_43 : decode c_M_within 43 = .ok (.iaload, 1) := by decide +kernel
theorem d_M_within_44 : decode c_M_within 44 = .ok (.if_icmp .ge 12, 3) := by decide +kernel
theorem d_M_within_47 : decode c_M_within 47 = .ok (.aload_n 0, 1) := by decide +kernel
theorem d_M_within_48 : decode c_M_within 48 = .ok (.getfield 7, 3) := by decide +kernel
theorem d_M_within_51 : decode c_M_within 51 = .ok (.iload_n 2, 1) := by decide +kernel
theorem d_M_within_52 : decode c_M_within 52 = .ok (.iaload, 1) := by decide +kernel
theorem d_M_within_53 : decode c_M_within 53 = .ok (.goto 9, 3) := by decide +kernel
theorem d_M_within_56 : decode c_M_within 56 = .ok (.aload_n 0, 1) := by decide +kernel
theorem d_M_within_57 : decode c_M_within 57 = .ok (.getfield 7, 3) := by decide +kernel
theorem d_M_within_60 : decode c_M_within 60 = .ok (.iload_n 1, 1) := by decide +kernel
theorem d_M_within_61 : decode c_M_within 61 = .ok (.iaload, 1) := by decide +kernel
theorem d_M_within_62 : decode c_M_within 62 = .ok (.istore 5, 2) := by decide +kernel
theorem d_M_within_64 : decode c_M_within 64 = .ok (.aload_n 0, 1) := by decide +kernel
theorem d_M_within_65 : decode c_M_within 65 = .ok (.getfield 13, 3) := by decide +kernel
theorem d_M_within_68 : decode c_M_within 68 = .ok (.iload_n 1, 1) := by decide +kernel
theorem d_M_within_69 : decode c_M_within 69 = .ok (.iaload, 1) := by decide +kernel
theorem d_M_within_70 : decode c_M_within 70 = .ok (.aload_n 0, 1) := by decide +kernel
theorem d_M_within_71 : decode c_M_within 71 = .ok (.getfield 13, 3) := by decide +kernel
theorem d_M_within_74 : decode c_M_within 74 = .ok (.iload_n 2, 1) := by decide +kernel
theorem d_M_within_75 : decode c_M_within 75 = .ok (.iaload, 1) := by decide +kernel
theorem d_M_within_76 : decode c_M_within 76 = .ok (.if_icmp .ge 12, 3) := by decide +kernel
theorem d_M_within_79 : decode c_M_within 79 = .ok (.aload_n 0, 1) := by decide +kernel
theorem d_M_within_80 : decode c_M_within 80 = .ok (.getfield 13, 3) := by decide +kernel
theorem d_M_within_83 : decode c_M_within 83 = .ok (.iload_n 1, 1) := by decide +kernel
theorem d_M_within_84 : decode c_M_within 84 = .ok (.iaload, 1) := by decide +kernel
theorem d_M_within_85 : decode c_M_within 85 = .ok (.goto 9, 3) := by decide +kernel
theorem d_M_within_88 : decode c_M_within 88 = .ok (.aload_n 0, 1) := by decide +kernel
theorem d_M_within_89 : decode c_M_within 89 = .ok (.getfield 13, 3) := by decide +kernel
theorem d_M_within_92 : decode c_M_within 92 = .ok (.iload_n 2, 1) := by decide +kernel
theorem d_M_within_93 : decode c_M_within 93 = .ok (.iaload, 1) := by decide +kernel
theorem d_M_within_94 : decode c_M_within 94 = .ok (.istore 6, 2) := by decide +kernel
theorem d_M_within_96 : decode c_M_within 96 = .ok (.aload_n 0, 1) := by decide +kernel
theorem d_M_within_97 : decode c_M_within 97 = .ok (.getfield 13, 3) := by decide +kernel
theorem d_M_within_100 : decode c_M_within 100 = .ok (.iload_n 1, 1) := by decide +kernel
theorem d_M_within_101 : decode c_M_within 101 = .ok (.iaload, 1) := by decide +kernel
theorem d_M_within_102 : decode c_M_within 102 = .ok (.aload_n 0, 1) := by decide +kernel
theorem d_M_within_103 : decode c_M_within 103 = .ok (.getfield 13, 3) := by decide +kernel
theorem d_M_within_106 : decode c_M_within 106 = .ok (.iload_n 2, 1) := by decide +kernel
theorem d_M_within_107 : decode c_M_within 107 = .ok (.iaload, 1) := by decide +kernel
theorem d_M_within_108 : decode c_M_within 108 = .ok (.if_icmp .ge 12, 3) := by decide +kernel
theorem d_M_within_111 : decode c_M_within 111 = .ok (.aload_n 0, 1) := by decide +kernel
theorem d_M_within_112 : decode c_M_within 112 = .ok (.getfield 13, 3) := by decide +kernel
theorem d_M_within_115 : decode c_M_within 115 = .ok (.iload_n 2, 1) := by decide +kernel
theorem d_M_within_116 : decode c_M_within 116 = .ok (.iaload, 1) := by decide +kernel
theorem d_M_within_117 : decode c_M_within 117 = .ok (.goto 9, 3) := by decide +kernel
theorem d_M_within_120 : decode c_M_within 120 = .ok (.aload_n 0, 1) := by decide +kernel
theorem d_M_within_121 : decode c_M_within 121 = .ok (.getfield 13, 3) := by decide +kernel
theorem d_M_within_124 : decode c_M_within 124 = .ok (.iload_n 1, 1) := by decide +kernel
theorem d_M_within_125 : decode c_M_within 125 = .ok (.iaload, 1) := by decide +kernel
theorem d_M_within_126 : decode c_M_within 126 = .ok (.istore 7, 2) := by decide +kernel
theorem d_M_within_128 : decode c_M_within 128 = .ok (.aload_n 0, 1) := by decide +kernel
theorem d_M_within_129 : decode c_M_within 129 = .ok (.getfield 7, 3) := by decide +kernel
theorem d_M_within_132 : decode c_M_within 132 = .ok (.iload_n 3, 1) := by decide +kernel
theorem d_M_within_133 : decode c_M_within 133 = .ok (.iaload, 1) := by decide +kernel
theorem d_M_within_134 : decode c_M_within 134 = .ok (.iload 4, 2) := by decide +kernel
theorem d_M_within_136 : decode c_M_within 136 = .ok (.if_icmp .lt 40, 3) := by decide +kernel
theorem d_M_within_139 : decode c_M_within 139 = .ok (.aload_n 0, 1) := by decide +kernel
theorem d_M_within_140 : decode c_M_within 140 = .ok (.getfield 7, 3) := by decide +kernel
theorem d_M_within_143 : decode c_M_within 143 = .ok (.iload_n 3, 1) := by decide +kernel
theorem d_M_within_144 : decode c_M_within 144 = .ok (.iaload, 1) := by decide +kernel
theorem d_M_within_145 : decode c_M_within 145 = .ok (.iload 5, 2) := by decide +kernel
theorem d_M_within_147 : decode c_M_within 147 = .ok (.if_icmp .gt 29, 3) := by decide +kernel
theorem d_M_within_150 : decode c_M_within 150 = .ok (.aload_n 0, 1) := by decide +kernel
theorem d_M_within_151 : decode c_M_within 151 = .ok (.getfield 13, 3) := by decide +kernel
theorem d_M_within_154 : decode c_M_within 154 = .ok (.iload_n 3, 1) := by decide +kernel
theorem d_M_within_155 : decode c_M_within 155 = .ok (.iaload, 1) := by decide +kernel
theorem d_M_within_156 : decode c_M_within 156 = .ok (.iload 6, 2) := by decide +kernel
theorem d_M_within_158 : decode c_M_within 158 = .ok (.if_icmp .lt 18, 3) := by decide +kernel
theorem d_M_within_161 : decode c_M_within 161 = .ok (.aload_n 0, 1) := by decide +kernel
theorem d_M_within_162 : decode c_M_within 162 = .ok (.getfield 13, 3) := by decide +kernel
theorem d_M_within_165 : decode c_M_within 165 = .ok (.iload_n 3, 1) := by decide +kernel
theorem d_M_within_166 : decode c_M_within 166 = .ok (.iaload, 1) := by decide +kernel
theorem d_M_within_167 : decode c_M_within 167 = .ok (.iload 7, 2) := by decide +kernel
theorem d_M_within_169 : decode c_M_within 169 = .ok (.if_icmp .gt 7, 3) := by decide +kernel
theorem d_M_within_172 : decode c_M_within 172 = .ok (.iconst 1, 1) := by decide +kernel
theorem d_M_within_173 : decode c_M_within 173 = .ok (.goto 4, 3) := by decide +kernel
theorem d_M_within_176 : decode c_M_within 176 = .ok (.iconst 0, 1) := by decide +kernel
theorem d_M_within_177 : decode c_M_within 177 = .ok (.ireturn, 1) := by decide +kernel
theorem d_M_isOn_0 : decode c_M_isOn 0 = .ok (.aload_n 0, 1) := by decide +kernel
theorem d_M_isOn_1 : decode c_M_isOn 1 = .ok (.iload_n 1, 1) := by decide +kernel
theorem d_M_isOn_2 : decode c_M_isOn 2 = .ok (.iload_n 2, 1) := by decide +kernel
theorem d_M_isOn_3 : decode c_M_isOn 3 = .ok (.iload_n 3, 1) := by decide +kernel
theorem d_M_isOn_4 : decode c_M_isOn 4 = .ok (.invokevirtual 86, 3) := by decide +kernel
theorem d_M_isOn_7 : decode c_M_isOn 7 = .ok (.ifCond .ne 17, 3) := by decide +kernel
theorem d_M_isOn_10 : decode c_M_isOn 10 = .ok (.aload_n 0, 1) := by decide +kernel
theorem d_M_isOn_11 : decode c_M_isOn 11 = .ok (.iload_n 1, 1) := by decide +kernel
theorem d_M_isOn_12 : decode c_M_isOn 12 = .ok (.iload_n 2, 1) := by decide +kernel
theorem d_M_isOn_13 : decode c_M_isOn 13 = .ok (.iload_n 3, 1) := by decide +kernel
theorem d_M_isOn_14 : decode c_M_isOn 14 = .ok (.invokevirtual 90, 3) := by decide +kernel
theorem d_M_isOn_17 : decode c_M_isOn 17 = .ok (.ifCond .eq 7, 3) := by decide +kernel
theorem d_M_isOn_20 : decode c_M_isOn 20 = .ok (.iconst 1, 1) := by decide +kernel
theorem d_M_isOn_21 : decode c_M_isOn 21 = .ok (.goto 4, 3) := by decide +kernel
theorem d_M_isOn_24 : decode c_M_isOn 24 = .ok (.iconst 0, 1) := by decide +kernel
theorem d_M_isOn_25 : decode c_M_isOn 25 = .ok (.ireturn, 1) := by decide +kernel
theorem d_M_meet_0 : decode c_M_meet 0 = .ok (.iload_n 1, 1) := by decide +kernel
theorem d_M_meet_1 : decode c_M_meet 1 = .ok (.iconst 1, 1) := by decide +kernel
theorem d_M_meet_2 : decode c_M_meet 2 = .ok (.iadd, 1) := by decide +kernel
theorem d_M_meet_3 : decode c_M_meet 3 = .ok (.iload_n 3, 1) := by decide +kernel
theorem d_M_meet_4 : decode c_M_meet 4 = .ok (.irem, 1) := by decide +kernel
theorem d_M_meet_5 : decode c_M_meet 5 = .ok (.istore 4, 2) := by decide +kernel
theorem d_M_meet_7 : decode c_M_meet 7 = .ok (.iload_n 2, 1) := by decide +kernel
theorem d_M_meet_8 : decode c_M_meet 8 = .ok (.iconst 1, 1) := by decide +kernel
theorem d_M_meet_9 : decode c_M_meet 9 = .ok (.iadd, 1) := by decide +kernel
theorem d_M_meet_10 : decode c_M_meet 10 = .ok (.iload_n 3, 1) := by decide +kernel
theorem d_M_meet_11 : decode c_M_meet 11 = .ok (.irem, 1) := by decide +kernel
theorem d_M_meet_12 : decode c_M_meet 12 = .ok (.istore 5, 2) := by decide +kernel
theorem d_M_meet_14 : decode c_M_meet 14 = .ok (.aload_n 0, 1) := by decide +kernel
theorem d_M_meet_15 : decode c_M_meet 15 = .ok (.iload_n 1, 1) := by decide +kernel
theorem d_M_meet_16 : decode c_M_meet 16 = .ok (.iload 4, 2) := by decide +kernel
theorem d_M_meet_18 : decode c_M_meet 18 = .ok (.iload_n 2, 1) := by decide +kernel
theorem d_M_meet_19 : decode c_M_meet 19 = .ok (.invokevirtual 94, 3) := by decide +kernel
theorem d_M_meet_22 : decode c_M_meet 22 = .ok (.ifCond .ne 38, 3) := by decide +kernel
theorem d_M_meet_25 : decode c_M_meet 25 = .ok (.aload_n 0, 1) := by decide +kernel
theorem d_M_meet_26 : decode c_M_meet 26 = .ok (.iload_n 1, 1) := by decide +kernel
theorem d_M_meet_27 : decode c_M_meet 27 = .ok (.iload 4, 2) := by decide +kernel
theorem d_M_meet_29 : decode c_M_meet 29 = .ok (.iload 5, 2) := by decide +kernel
theorem d_M_meet_31 : decode c_M_meet 31 = .ok (.invokevirtual 94, 3) := by decide +kernel
theorem d_M_meet_34 : decode c_M_meet 34 = .ok (.ifCond .ne 26, 3) := by decide +kernel
theorem d_M_meet_37 : decode c_M_meet 37 = .ok (.aload_n 0, 1) := by decide +kernel
theorem d_M_meet_38 : decode c_M_meet 38 = .ok (.iload_n 2, 1) := by decide +kernel
theorem d_M_meet_39 : decode c_M_meet 39 = .ok (.iload 5, 2) := by decide +kernel
theorem d_M_meet_41 : decode c_M_meet 41 = .ok (.iload_n 1, 1) := by decide +kernel
theorem d_M_meet_42 : decode c_M_meet 42 = .ok (.invokevirtual 94, 3) := by decide +kernel
theorem d_M_meet_45 : decode c_M_meet 45 = .ok (.ifCond .ne 15, 3) := by decide +kernel
theorem d_M_meet_48 : decode c_M_meet 48 = .ok (.aload_n 0, 1) := by decide +kernel
theorem d_M_meet_49 : decode c_M_meet 49 = .ok (.iload_n 2, 1) := by decide +kernel
theorem d_M_meet_50 : decode c_M_meet 50 = .ok (.iload 5, 2) := by decide +kernel
theorem d_M_meet_52 : decode c_M_meet 52 = .ok (.iload 4, 2) := by decide +kernel
theorem d_M_meet_54 : decode c_M_meet 54 = .ok (.invokevirtual 94, 3) := by decide +kernel
theorem d_M_meet_57 : decode c_M_meet 57 = .ok (.ifCond .eq 5, 3) := by decide +kernel
theorem d_M_meet_60 : decode c_M_meet 60 = .ok (.iconst 1, 1) := by decide +kernel
theorem d_M_meet_61 : decode c_M_meet 61 = .ok (.ireturn, 1) := by decide +kernel
theorem d_M_meet_62 : decode c_M_meet 62 = .ok (.aload_n 0, 1) := by decide +kernel
theorem d_M_meet_63 : decode c_M_meet 63 = .ok (.iload_n 1, 1) := by decide +kernel
theorem d_M_meet_64 : decode c_M_meet 64 = .ok (.iload 4, 2) := by decide +kernel
theorem d_M_meet_66 : decode c_M_meet 66 = .ok (.iload_n 2, 1) := by decide +kernel
theorem d_M_meet_67 : decode c_M_meet 67 = .ok (.invokevirtual 86, 3) := by decide +kernel
theorem d_M_meet_70 : decode c_M_meet 70 = .ok (.ifCond .le 7, 3) := by decide +kernel
theorem d_M_meet_73 : decode c_M_meet 73 = .ok (.iconst 1, 1) := by decide +kernel
theorem d_M_meet_74 : decode c_M_meet 74 = .ok (.goto 4, 3) := by decide +kernel
theorem d_M_meet_77 : decode c_M_meet 77 = .ok (.iconst 0, 1) := by decide +kernel
theorem d_M_meet_78 : decode c_M_meet 78 = .ok (.aload_n 0, 1) := by decide +kernel
theorem d_M_meet_79 : decode c_M_meet 79 = .ok (.iload_n 1, 1) := by decide +kernel
theorem d_M_meet_80 : decode c_M_meet 80 = .ok (.iload 4, 2) := by decide +kernel
theorem d_M_meet_82 : decode c_M_meet 82 = .ok (.iload 5, 2) := by decide +kernel
theorem d_M_meet_84 : decode c_M_meet 84 = .ok (.invokevirtual 86, 3) := by decide +kernel
theorem d_M_meet_87 : decode c_M_meet 87 = .ok (.ifCond .le 7, 3) := by decide +kernel
theorem d_M_meet_90 : decode c_M_meet 90 = .ok (.iconst 1, 1) := by decide +kernel
theorem d_M_meet_91 : decode c_M_meet 91 = .ok (.goto 4, 3) := by decide +kernel
theorem d_M_meet_94 : decode c_M_meet 94 = .ok (.iconst 0, 1) := by decide +kernel
theorem d_M_meet_95 : decode c_M_meet 95 = .ok (.if_icmp .eq 39, 3) := by decide +kernel
theorem d_M_meet_98 : decode c_M_meet 98 = .ok (.aload_n 0, 1) := by decide +kernel
theorem d_M_meet_99 : decode c_M_meet 99 = .ok (.iload_n 2, 1) := by decide +kernel
theorem d_M_meet_100 : decode c_M_meet 100 = .ok (.iload 5, 2) := by decide +kernel
theorem d_M_meet_102 : decode c_M_meet 102 = .ok (.iload_n 1, 1) := by decide +kernel
theorem d_M_meet_103 : decode c_M_meet 103 = .ok (.invokevirtual 86, 3) := by decide +kernel
theorem d_M_meet_106 : decode c_M_meet 106 = .ok (.ifCond .le 7, 3) := by decide +kernel
theorem d_M_meet_109 : decode c_M_meet 109 = .ok (.iconst 1, 1) := by decide +kernel
theorem d_M_meet_110 : decode c_M_meet 110 = .ok (.goto 4, 3) := by decide +kernel
theorem d_M_meet_113 : decode c_M_meet 113 = .ok (.iconst 0, 1) := by decide +kernel
theorem d_M_meet_114 : decode c_M_meet 114 = .ok (.aload_n 0, 1) := by decide +kernel
theorem d_M_meet_115 : decode c_M_meet 115 = .ok (.iload_n 2, 1) := by decide +kernel
theorem d_M_meet_116 : decode c_M_meet 116 = .ok (.iload 5, 2) := by decide +kernel
theorem d_M_meet_118 : decode c_M_meet 118 = .ok (.iload 4, 2) := by decide +kernel
theorem d_M_meet_120 : decode c_M_meet 120 = .ok (.invokevirtual 86, 3) := by decide +kernel
theorem d_M_meet_123 : decode c_M_meet 123 = .ok (.ifCond .le 7, 3) := by decide +kernel
theorem d_M_meet_126 : decode c_M_meet 126 = .ok (.iconst 1, 1) := by decide +kernel
theorem d_M_meet_127 : decode c_M_meet 127 = .ok (.goto 4, 3) := by decide +kernel
theorem d_M_meet_130 : decode c_M_meet 130 = .ok (.iconst 0, 1) := by decide +kernel
theorem d_M_meet_131 : decode c_M_meet 131 = .ok (.if_icmp .ne 7, 3) := by decide +kernel
theorem d_M_meet_134 : decode c_M_meet 134 = .ok (.iconst 1, 1) := by decide +kernel
theorem d_M_meet_135 : decode c_M_meet 135 = .ok (.goto 4, 3) := by decide +kernel
theorem d_M_meet_138 : decode c_M_meet 138 = .ok (.iconst 0, 1) := by decide +kernel
theorem d_M_meet_139 : decode c_M_meet 139 = .ok (.istore 6, 2) := by decide +kernel
theorem d_M_meet_141 : decode c_M_meet 141 = .ok (.aload_n 0, 1) := by decide +kernel
theorem d_M_meet_142 : decode c_M_meet 142 = .ok (.iload_n 1, 1) := by decide +kernel
theorem d_M_meet_143 : decode c_M_meet 143 = .ok (.iload 4, 2) := by decide +kernel
theorem d_M_meet_145 : decode c_M_meet 145 = .ok (.iload_n 2, 1) := by decide +kernel
theorem d_M_meet_146 : decode c_M_meet 146 = .ok (.invokevirtual 86, 3) := by decide +kernel
theorem d_M_meet_149 : decode c_M_meet 149 = .ok (.ifCond .eq 38, 3) := by decide +kernel
theorem d_M_meet_152 : decode c_M_meet 152 = .ok (.aload_n 0, 1) := by decide +kernel
theorem d_M_meet_153 : decode c_M_meet 153 = .ok (.iload_n 1, 1) := by decide +kernel
theorem d_M_meet_154 : decode c_M_meet 154 = .ok (.iload 4, 2) := by decide +kernel
theorem d_M_meet_156 : decode c_M_meet 156 = .ok (.iload 5, 2) := by decide +kernel
theorem d_M_meet_158 : decode c_M_meet 158 = .ok (.invokevirtual 86, 3) := by decide +kernel
theorem d_M_meet_161 : decode c_M_meet 161 = .ok (.ifCond .eq 26, 3) := by decide +kernel
theorem d_M_meet_164 : decode c_M_meet 164 = .ok (.aload_n 0, 1) := by decide +kernel
theorem d_M_meet_165 : decode c_M_meet 165 = .ok (.iload_n 2, 1) := by decide +kernel
theorem d_M_meet_166 : decode c_M_meet 166 = .ok (.iload 5, 2) := by decide +kernel
theorem d_M_meet_168 : decode c_M_meet 168 = .ok (.iload_n 1, 1) := by decide +kernel
theorem d_M_meet_169 : decode c_M_meet 169 = .ok (.invokevirtual 86, 3) := by decide +kernel
theorem d_M_meet_172 : decode c_M_meet 172 = .ok (.ifCond .eq 15, 3) := by decide +kernel
theorem d_M_meet_175 : decode c_M_meet 175 = .ok (.aload_n 0, 1) := by decide +kernel
theorem d_M_meet_176 : decode c_M_meet 176 = .ok (.iload_n 2, 1) := by decide +kernel
theorem d_M_meet_177 : decode c_M_meet 177 = .ok (.iload 5, 2) := by decide +kernel
theorem d_M_meet_179 : decode c_M_meet 179 = .ok (.iload 4, 2) := by decide +kernel
theorem d_M_meet_181 : decode c_M_meet 181 = .ok (.invokevirtual 86, 3) := by decide +kernel
theorem d_M_meet_184 : decode c_M_meet 184 = .ok (.ifCond .ne 7, 3) := by decide +kernel
theorem d_M_meet_187 : decode c_M_meet 187 = .ok (.iconst 1, 1) := by decide +kernel
theorem d_M_meet_188 : decode c_M_meet 188 = .ok (.goto 4, 3) := by decide +kernel
theorem d_M_meet_191 : decode c_M_meet 191 = .ok (.iconst 0, 1) := by decide +kernel
theorem d_M_meet_192 : decode c_M_meet 192 = .ok (.istore 7, 2) := by decide +kernel
theorem d_M_meet_194 : decode c_M_meet 194 = .ok (.iload 6, 2) := by decide +kernel
theorem d_M_meet_196 : decode c_M_meet 196 = .ok (.ifCond .ne 12, 3) := by decide +kernel
theorem d_M_meet_199 : decode c_M_meet 199 = .ok (.iload 7, 2) := by decide +kernel
theorem d_M_meet_201 : decode c_M_meet 201 = .ok (.ifCond .ne 7, 3) := by decide +kernel
theorem d_M_meet_204 : decode c_M_meet 204 = .ok (.iconst 1, 1) := by decide +kernel
theorem d_M_meet_205 : decode c_M_meet 205 = .ok (.goto 4, 3) := by decide +kernel
theorem d_M_meet_208 : decode c_M_meet 208 = .ok (.iconst 0, 1) := by decide +kernel
theorem d_M_meet_209 : decode c_M_meet 209 = .ok (.ireturn, 1) := by decide +kernel
theorem d_M_isPlain_0 : decode c_M_isPlain 0 = .ok (.iconst 1, 1) := by decide +kernel
theorem d_M_isPlain_1 : decode c_M_isPlain 1 = .ok (.istore_n 2, 1) := by decide +kernel
theorem d_M_isPlain_2 : decode c_M_isPlain 2 = .ok (.iconst 0, 1) := by decide +kernel
theorem d_M_isPlain_3 : decode c_M_isPlain 3 = .ok (.istore_n 3, 1) := by decide +kernel
theorem d_M_isPlain_4 : decode c_M_isPlain 4 = .ok (.iload_n 3, 1) := by decide +kernel
theorem d_M_isPlain_5 : decode c_M_isPlain 5 = .ok (.iload_n 1, 1) := by decide +kernel
theorem d_M_isPlain_6 : decode c_M_isPlain 6 = .ok (.if_icmp .ge 128, 3) := by decide +kernel
theorem d_M_isPlain_9 : decode c_M_isPlain 9 = .ok (.iload_n 3, 1) := by decide +kernel
theorem d_M_isPlain_10 : decode c_M_isPlain 10 = .ok (.iconst 1, 1) := by decide +kernel
theorem d_M_isPlain_11 : decode c_M_isPlain 11 = .ok (.iadd, 1) := by decide +kernel
theorem d_M_isPlain_12 : decode c_M_isPlain 12 = .ok (.iload_n 1, 1) := by decide +kernel
theorem d_M_isPlain_13 : decode c_M_isPlain 13 = .ok (.irem, 1) := by decide +kernel
theorem d_M_isPlain_14 : decode c_M_isPlain 14 = .ok (.istore 4, 2) := by decide +kernel
theorem d_M_isPlain_16 : decode c_M_isPlain 16 = .ok (.iload_n 3, 1) := by decide +kernel
theorem d_M_isPlain_17 : decode c_M_isPlain 17 = .ok (.iconst 2, 1) := by decide +kernel
theorem d_M_isPlain_18 : decode c_M_isPlain 18 = .ok (.iadd, 1) := by decide +kernel
theorem d_M_isPlain_19 : decode c_M_isPlain 19 = .ok (.iload_n 1, 1) := by decide +kernel
theorem d_M_isPlain_20 : decode c_M_isPlain 20 = .ok (.irem, 1) := by decide +kernel
theorem d_M_isPlain_21 : decode c_M_isPlain 21 = .ok (.istore 5, 2) := by decide +kernel
theorem d_M_isPlain_23 : decode c_M_isPlain 23 = .ok (.iload_n 2, 1) := by decide +kernel
theorem d_M_isPlain_24 : decode c_M_isPlain 24 = .ok (.ifCond .eq 31, 3) := by decide +kernel
theorem d_M_isPlain_27 : decode c_M_isPlain 27 = .ok (.aload_n 0, 1) := by decide +kernel
theorem d_M_isPlain_28 : decode c_M_isPlain 28 = .ok (.iload_n 3, 1) := by decide +kernel
theorem d_M_isPlain_29 : decode c_M_isPlain 29 = .ok (.iload 4, 2) := by decide +kernel
theorem d_M_isPlain_31 : decode c_M_isPlain 31 = .ok (.iload 5, 2) := by decide +kernel
theorem d_M_isPlain_33 : decode c_M_isPlain 33 = .ok (.invokevirtual 94, 3) := by decide +kernel
theorem d_M_isPlain_36 : decode c_M_isPlain 36 = .ok (.ifCond .ne 19, 3) := by decide +kernel
theorem d_M_isPlain_39 : decode c_M_isPlain 39 = .ok (.aload_n 0, 1) := by decide +kernel
theorem d_M_isPlain_40 : decode c_M_isPlain 40 = .ok (.iload 4, 2) := by decide +kernel
theorem d_M_isPlain_42 : decode c_M_isPlain 42 = .ok (.iload 5, 2) := by decide +kernel
theorem d_M_isPlain_44 : decode c_M_isPlain 44 = .ok (.iload_n 3, 1) := by decide +kernel
theorem d_M_isPlain_45 : decode c_M_isPlain 45 = .ok (.invokevirtual 94, 3) := by decide +kernel
theorem d_M_isPlain_48 : decode c_M_isPlain 48 = .ok (.ifCond .ne 7, 3) := by decide +kernel
theorem d_M_isPlain_51 : decode c_M_isPlain 51 = .ok (.iconst 1, 1) := by decide +kernel
theorem d_M_isPlain_52 : decode c_M_isPlain 52 = .ok (.goto 4, 3) := by decide +kernel
theorem d_M_isPlain_55 : decode c_M_isPlain 55 = .ok (.iconst 0, 1) := by decide +kernel
theorem d_M_isPlain_56 : decode c_M_isPlain 56 = .ok (.istore_n 2, 1) := by decide +kernel
theorem d_M_isPlain_57 : decode c_M_isPlain 57 = .ok (.iconst 0, 1) := by decide +kernel
theorem d_M_isPlain_58 : decode c_M_isPlain 58 = .ok (.istore 6, 2) := by decide +kernel
theorem d_M_isPlain_60 : decode c_M_isPlain 60 = .ok (.iload 6, 2) := by decide +kernel
theorem d_M_isPlain_62 : decode c_M_isPlain 62 = .ok (.iload_n 1, 1) := by decide +kernel
theorem d_M_isPlain_63 : decode c_M_isPlain 63 = .ok (.if_icmp .ge 65, 3) := by decide +kernel
theorem d_M_isPlain_66 : decode c_M_isPlain 66 = .ok (.iload 6, 2) := by decide +kernel
theorem d_M_isPlain_68 : decode c_M_isPlain 68 = .ok (.iload_n 3, 1) := by decide +kernel
theorem d_M_isPlain_69 : decode c_M_isPlain 69 = .ok (.if_icmp .eq 24, 3) := by decide +kernel
theorem d_M_isPlain_72 : decode c_M_isPlain 72 = .ok (.iload 6, 2) := by decide +kernel
theorem d_M_isPlain_74 : decode c_M_isPlain 74 = .ok (.iload 4, 2) := by decide +kernel
theorem d_M_isPlain_76 : decode c_M_isPlain 76 = .ok (.if_icmp .eq 17, 3) := by decide +kernel
theorem d_M_isPlain_79 : decode c_M_isPlain 79 = .ok (.iload 6, 2) := by decide +kernel
theorem d_M_isPlain_81 : decode c_M_isPlain 81 = .ok (.iconst 1, 1) := by decide +kernel
theorem d_M_isPlain_82 : decode c_M_isPlain 82 = .ok (.iadd, 1) := by decide +kernel
theorem d_M_isPlain_83 : decode c_M_isPlain 83 = .ok (.iload_n 1, 1) := by decide +kernel
theorem d_M_isPlain_84 : decode c_M_isPlain 84 = .ok (.irem, 1) := by decide +kernel
theorem d_M_isPlain_85 : decode c_M_isPlain 85 = .ok (.iload_n 3, 1) := by decide +kernel
theorem d_M_isPlain_86 : decode c_M_isPlain 86 = .ok (.if_icmp .eq 7, 3) := by decide +kernel
theorem d_M_isPlain_89 : decode c_M_isPlain 89 = .ok (.iconst 1, 1) := by decide +kernel
theorem d_M_isPlain_90 : decode c_M_isPlain 90 = .ok (.goto 4, 3) := by decide +kernel
theorem d_M_isPlain_93 : decode c_M_isPlain 93 = .ok (.iconst 0, 1) := by decide +kernel
theorem d_M_isPlain_94 : decode c_M_isPlain 94 = .ok (.istore 7, 2) := by decide +kernel
theorem d_M_isPlain_96 : decode c_M_isPlain 96 = .ok (.iload_n 2, 1) := by decide +kernel
theorem d_M_isPlain_97 : decode c_M_isPlain 97 = .ok (.ifCond .eq 23, 3) := by decide +kernel
theorem d_M_isPlain_100 : decode c_M_isPlain 100 = .ok (.iload 7, 2) := by decide +kernel
theorem d_M_isPlain_102 : decode c_M_isPlain 102 = .ok (.ifCond .eq 14, 3) := by decide +kernel
theorem d_M_isPlain_105 : decode c_M_isPlain 105 = .ok (.aload_n 0, 1) := by decide +kernel
theorem d_M_isPlain_106 : decode c_M_isPlain 106 = .ok (.iload_n 3, 1) := by decide +kernel
theorem d_M_isPlain_107 : decode c_M_isPlain 107 = .ok (.iload 6, 2) := by decide +kernel
theorem d_M_isPlain_109 : decode c_M_isPlain 109 = .ok (.iload_n 1, 1) := by decide +kernel
theorem d_M_isPlain_110 : decode c_M_isPlain 110 = .ok (.invokevirtual 97, 3) := by decide +kernel
theorem d_M_isPlain_113 : decode c_M_isPlain 113 = .ok (.ifCond .ne 7, 3) := by decide +kernel
theorem d_M_isPlain_116 : decode c_M_isPlain 116 = .ok (.iconst 1, 1) := by decide +kernel
theorem d_M_isPlain_117 : decode c_M_isPlain 117 = .ok (.goto 4, 3) := by decide +kernel
theorem d_M_isPlain_120 : decode c_M_isPlain 120 = .ok (.iconst 0, 1) := by decide +kernel
theorem d_M_isPlain_121 : decode c_M_isPlain 121 = .ok (.istore_n 2, 1) := by decide +kernel
theorem d_M_isPlain_122 : decode c_M_isPlain 122 = .ok (.iinc 6 1, 3) := by decide +kernel
theorem d_M_isPlain_125 : decode c_M_isPlain 125 = .ok (.goto (-65), 3) := by decide +kernel
theorem d_M_isPlain_128 : decode c_M_isPlain 128 = .ok (.iinc 3 1, 3) := by decide +kernel
theorem d_M_isPlain_131 : decode c_M_isPlain 131 = .ok (.goto (-127), 3) := by decide +kernel
theorem d_M_isPlain_134 : decode c_M_isPlain 134 = .ok (.iload_n 2, 1) := by decide +kernel
theorem d_M_isPlain_135 : decode c_M_isPlain 135 = .ok (.ireturn, 1) := by decide +kernel
theorem d_M_isRound_0 : decode c_M_isRound 0 = .ok (.iconst 0, 1) := by decide +kernel
theorem d_M_isRound_1 : decode c_M_isRound 1 = .ok (.istore_n 2, 1) := by decide +kernel
theorem d_M_isRound_2 : decode c_M_isRound 2 = .ok (.iconst 0, 1) := by decide +kernel
theorem d_M_isRound_3 : decode c_M_isRound 3 = .ok (.istore_n 3, 1) := by decide +kernel
theorem d_M_isRound_4 : decode c_M_isRound 4 = .ok (.iconst 0, 1) := by decide +kernel
theorem d_M_isRound_5 : decode c_M_isRound 5 = .ok (.istore 4, 2) := by decide +kernel
theorem d_M_isRound_7 : decode c_M_isRound 7 = .ok (.iload 4, 2) := by decide +kernel
theorem d_M_isRound_9 : decode c_M_isRound 9 = .ok (.iload_n 1, 1) := by decide +kernel
theorem d_M_isRound_10 : decode c_M_isRound 10 = .ok (.if_icmp .ge 88, 3) := by decide +kernel
theorem d_M_isRound_13 : decode c_M_isRound 13 = .ok (.iload 4, 2) := by decide +kernel
theorem d_M_isRound_15 : decode c_M_isRound 15 = .ok (.iconst 1, 1) := by decide +kernel
theorem d_M_isRound_16 : decode c_M_isRound 16 = .ok (.iadd, 1) := by decide +kernel
theorem d_M_isRound_17 : decode c_M_isRound 17 = .ok (.iload_n 1, 1) := by decide +kernel
theorem d_M_isRound_18 : decode c_M_isRound 18 = .ok (.irem, 1) := by decide +kernel
theorem d_M_isRound_19 : decode c_M_isRound 19 = .ok (.istore 5, 2) := by decide +kernel
theorem d_M_isRound_21 : decode c_M_isRound 21 = .ok (.iconst 0, 1) := by decide +kernel
theorem d_M_isRound_22 : decode c_M_isRound 22 = .ok (.istore 6, 2) := by decide +kernel
theorem d_M_isRound_24 : decode c_M_isRound 24 = .ok (.iload 6, 2) := by decide +kernel
theorem d_M_isRound_26 : decode c_M_isRound 26 = .ok (.iload_n 1, 1) := by decide +kernel
theorem d_M_isRound_27 : decode c_M_isRound 27 = .ok (.if_icmp .ge 65, 3) := by decide +kernel
theorem d_M_isRound_30 : decode c_M_isRound 30 = .ok (.iload 6, 2) := by decide +kernel
theorem d_M_isRound_32 : decode c_M_isRound 32 = .ok (.iload 4, 2) := by decide +kernel
theorem d_M_isRound_34 : decode c_M_isRound 34 = .ok (.if_icmp .eq 52, 3) := by decide +kernel
theorem d_M_isRound_37 : decode c_M_isRound 37 = .ok (.iload 6, 2) := by decide +kernel
theorem d_M_isRound_39 : decode c_M_isRound 39 = .ok (.iload 5, 2) := by decide +kernel
theorem d_M_isRound_41 : decode c_M_isRound 41 = .ok (.if_icmp .eq 45, 3) := by decide +kernel
theorem d_M_isRound_44 : decode c_M_isRound 44 = .ok (.iload_n 2, 1) := by decide +kernel
theorem d_M_isRound_45 : decode c_M_isRound 45 = .ok (.aload_n 0, 1) := by decide +kernel
theorem d_M_isRound_46 : decode c_M_isRound 46 = .ok (.iload 4, 2) := by decide +kernel
theorem d_M_isRound_48 : decode c_M_isRound 48 = .ok (.iload 5, 2) := by decide +kernel
theorem d_M_isRound_50 : decode c_M_isRound 50 = .ok (.iload 6, 2) := by decide +kernel
theorem d_M_isRound_52 : decode c_M_isRound 52 = .ok (.invokevirtual 86, 3) := by decide +kernel
theorem d_M_isRound_55 : decode c_M_isRound 55 = .ok (.ifCond .le 7, 3) := by decide +kernel
theorem d_M_isRound_58 : decode c_M_isRound 58 = .ok (.iconst 1, 1) := by decide +kernel
theorem d_M_isRound_59 : decode c_M_isRound 59 = .ok (.goto 4, 3) := by decide +kernel
theorem d_M_isRound_62 : decode c_M_isRound 62 = .ok (.iconst 0, 1) := by decide +kernel
theorem d_M_isRound_63 : decode c_M_isRound 63 = .ok (.iadd, 1) := by decide +kernel
theorem d_M_isRound_64 : decode c_M_isRound 64 = .ok (.istore_n 2, 1) := by decide +kernel
theorem d_M_isRound_65 : decode c_M_isRound 65 = .ok (.iload_n 3, 1) := by decide +kernel
theorem d_M_isRound_66 : decode c_M_isRound 66 = .ok (.aload_n 0, 1) := by decide +kernel
theorem d_M_isRound_67 : decode c_M_isRound 67 = .ok (.iload 4, 2) := by decide +kernel
theorem d_M_isRound_69 : decode c_M_isRound 69 = .ok (.iload 5, 2) := by decide +kernel
theorem d_M_isRound_71 : decode c_M_isRound 71 = .ok (.iload 6, 2) := by decide +kernel
theorem d_M_isRound_73 : decode c_M_isRound 73 = .ok (.invokevirtual 86, 3) := by decide +kernel
theorem d_M_isRound_76 : decode c_M_isRound 76 = .ok (.ifCond .ge 7, 3) := by decide +kernel
theorem d_M_isRound_79 : decode c_M_isRound 79 = .ok (.iconst 1, 1) := by decide +kernel
theorem d_M_isRound_80 : decode c_M_isRound 80 = .ok (.goto 4, 3) := by decide +kernel
theorem d_M_isRound_83 : decode c_M_isRound 83 = .ok (.iconst 0, 1) := by decide +kernel
theorem d_M_isRound_84 : decode c_M_isRound 84 = .ok (.iadd, 1) := by decide +kernel
theorem d_M_isRound_85 : decode c_M_isRound 85 = .ok (.istore_n 3, 1) := by decide +kernel
theorem d_M_isRound_86 : decode c_M_isRound 86 = .ok (.iinc 6 1, 3) := by decide +kernel
theorem d_M_isRound_89 : decode c_M_isRound 89 = .ok (.goto (-65), 3) := by decide +kernel
theorem d_M_isRound_92 : decode c_M_isRound 92 = .ok (.iinc 4 1, 3) := by decide +kernel
theorem d_M_isRound_95 : decode c_M_isRound 95 = .ok (.goto (-88), 3) := by decide +kernel
theorem d_M_isRound_98 : decode c_M_isRound 98 = .ok (.iload_n 2, 1) := by decide +kernel
theorem d_M_isRound_99 : decode c_M_isRound 99 = .ok (.iload_n 1, 1) := by decide +kernel
theorem d_M_isRound_100 : decode c_M_isRound 100 = .ok (.iload_n 1, 1) := by decide +kernel
theorem d_M_isRound_101 : decode c_M_isRound 101 = .ok (.iconst 2, 1) := by decide +kernel
theorem d_M_isRound_102 : decode c_M_isRound 102 = .ok (.isub, 1) := by decide +kernel
theorem d_M_isRound_103 : decode c_M_isRound 103 = .ok (.imul, 1) := by decide +kernel
theorem d_M_isRound_104 : decode c_M_isRound 104 = .ok (.if_icmp .eq 12, 3) := by decide +kernel
theorem d_M_isRound_107 : decode c_M_isRound 107 = .ok (.iload_n 3, 1) := by decide +kernel
theorem d_M_isRound_108 : decode c_M_isRound 108 = .ok (.iload_n 1, 1) := by decide +kernel
theorem d_M_isRound_109 : decode c_M_isRound 109 = .ok (.iload_n 1, 1) := by decide +kernel
theorem d_M_isRound_110 : decode c_M_isRound 110 = .ok (.iconst 2, 1) := by decide +kernel
theorem d_M_isRound_111 : decode c_M_isRound 111 = .ok (.isub, 1) := by decide +kernel
