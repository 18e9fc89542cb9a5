theorem d_M_overlaps_100 : decode c_M_overlaps 100 = .ok (.getfield 73, 3) := by decide +kernel
theorem d_M_overlaps_103 : decode c_M_overlaps 103 = .ok (.iload_n 1, 1) := by decide +kernel
theorem d_M_overlaps_104 : decode c_M_overlaps 104 = .ok (.iaload, 1) := by decide +kernel
theorem d_M_overlaps_105 : decode c_M_overlaps 105 = .ok (.isub, 1) := by decide +kernel
theorem d_M_overlaps_106 : decode c_M_overlaps 106 = .ok (.invokevirtual 132, 3) := by decide +kernel
theorem d_M_overlaps_109 : decode c_M_overlaps 109 = .ok (.ifCond .eq 5, 3) := by decide +kernel
theorem d_M_overlaps_112 : decode c_M_overlaps 112 = .ok (.iconst 0, 1) := by decide +kernel
theorem d_M_overlaps_113 : decode c_M_overlaps 113 = .ok (.ireturn, 1) := by decide +kernel
theorem d_M_overlaps_114 : decode c_M_overlaps 114 = .ok (.iinc 1 1, 3) := by decide +kernel
theorem d_M_overlaps_117 : decode c_M_overlaps 117 = .ok (.goto (-55), 3) := by decide +kernel
theorem d_M_overlaps_120 : decode c_M_overlaps 120 = .ok (.iconst 1, 1) := by decide +kernel
theorem d_M_overlaps_121 : decode c_M_overlaps 121 = .ok (.ireturn, 1) := by decide +kernel
theorem d_M_isMiddleInside_0 : decode c_M_isMiddleInside 0 = .ok (.aload_n 0, 1) := by decide +kernel
theorem d_M_isMiddleInside_1 : decode c_M_isMiddleInside 1 = .ok (.getfield 67, 3) := by decide +kernel
theorem d_M_isMiddleInside_4 : decode c_M_isMiddleInside 4 = .ok (.iconst 0, 1) := by decide +kernel
theorem d_M_isMiddleInside_5 : decode c_M_isMiddleInside 5 = .ok (.iaload, 1) := by decide +kernel
theorem d_M_isMiddleInside_6 : decode c_M_isMiddleInside 6 = .ok (.aload_n 0, 1) := by decide +kernel
theorem d_M_isMiddleInside_7 : decode c_M_isMiddleInside 7 = .ok (.getfield 67, 3) := by decide +kernel
theorem d_M_isMiddleInside_10 : decode c_M_isMiddleInside 10 = .ok (.iconst 1, 1) := by decide +kernel
theorem d_M_isMiddleInside_11 : decode c_M_isMiddleInside 11 = .ok (.iaload, 1) := by decide +kernel
theorem d_M_isMiddleInside_12 : decode c_M_isMiddleInside 12 = .ok (.iadd, 1) := by decide +kernel
theorem d_M_isMiddleInside_13 : decode c_M_isMiddleInside 13 = .ok (.aload_n 0, 1) := by decide +kernel
theorem d_M_isMiddleInside_14 : decode c_M_isMiddleInside 14 = .ok (.getfield 67, 3) := by decide +kernel
theorem d_M_isMiddleInside_17 : decode c_M_isMiddleInside 17 = .ok (.iconst 2, 1) := by decide +kernel
theorem d_M_isMiddleInside_18 : decode c_M_isMiddleInside 18 = .ok (.iaload, 1) := by decide +kernel
theorem d_M_isMiddleInside_19 : decode c_M_isMiddleInside 19 = .ok (.iadd, 1) := by decide +kernel
theorem d_M_isMiddleInside_20 : decode c_M_isMiddleInside 20 = .ok (.istore_n 1, 1) := by decide +kernel
theorem d_M_isMiddleInside_21 : decode c_M_isMiddleInside 21 = .ok (.aload_n 0, 1) := by decide +kernel
theorem d_M_isMiddleInside_22 : decode c_M_isMiddleInside 22 = .ok (.getfield 70, 3) := by decide +kernel
theorem d_M_isMiddleInside_25 : decode c_M_isMiddleInside 25 = .ok (.iconst 0, 1) := by decide +kernel
theorem d_M_isMiddleInside_26 : decode c_M_isMiddleInside 26 = .ok (.iaload, 1) := by decide +kernel
theorem d_M_isMiddleInside_27 : decode c_M_isMiddleInside 27 = .ok (.aload_n 0, 1) := by decide +kernel
theorem d_M_isMiddleInside_28 : decode c_M_isMiddleInside 28 = .ok (.getfield 70, 3) := by decide +kernel
theorem d_M_isMiddleInside_31 : decode c_M_isMiddleInside 31 = .ok (.iconst 1, 1) := by decide +kernel
theorem d_M_isMiddleInside_32 : decode c_M_isMiddleInside 32 = .ok (.iaload, 1) := by decide +kernel
theorem d_M_isMiddleInside_33 : decode c_M_isMiddleInside 33 = .ok (.iadd, 1) := by decide +kernel
theorem d_M_isMiddleInside_34 : decode c_M_isMiddleInside 34 = .ok (.aload_n 0, 1) := by decide +kernel
theorem d_M_isMiddleInside_35 : decode c_M_isMiddleInside 35 = .ok (.getfield 70, 3) := by decide +kernel
theorem d_M_isMiddleInside_38 : decode c_M_isMiddleInside 38 = .ok (.iconst 2, 1) := by decide +kernel
theorem d_M_isMiddleInside_39 : decode c_M_isMiddleInside 39 = .ok (.iaload, 1) := by decide +kernel
theorem d_M_isMiddleInside_40 : decode c_M_isMiddleInside 40 = .ok (.iadd, 1) := by decide +kernel
theorem d_M_isMiddleInside_41 : decode c_M_isMiddleInside 41 = .ok (.istore_n 2, 1) := by decide +kernel
theorem d_M_isMiddleInside_42 : decode c_M_isMiddleInside 42 = .ok (.iconst 0, 1) := by decide +kernel
theorem d_M_isMiddleInside_43 : decode c_M_isMiddleInside 43 = .ok (.istore_n 3, 1) := by decide +kernel
theorem d_M_isMiddleInside_44 : decode c_M_isMiddleInside 44 = .ok (.iconst 0, 1) := by decide +kernel
theorem d_M_isMiddleInside_45 : decode c_M_isMiddleInside 45 = .ok (.istore 4, 2) := by decide +kernel
theorem d_M_isMiddleInside_47 : decode c_M_isMiddleInside 47 = .ok (.iload 4, 2) := by decide +kernel
theorem d_M_isMiddleInside_49 : decode c_M_isMiddleInside 49 = .ok (.aload_n 0, 1) := by decide +kernel
theorem d_M_isMiddleInside_50 : decode c_M_isMiddleInside 50 = .ok (.getfield 108, 3) := by decide +kernel
theorem d_M_isMiddleInside_53 : decode c_M_isMiddleInside 53 = .ok (.if_icmp .ge 151, 3) := by decide +kernel
theorem d_M_isMiddleInside_56 : decode c_M_isMiddleInside 56 = .ok (.iload 4, 2) := by decide +kernel
theorem d_M_isMiddleInside_58 : decode c_M_isMiddleInside 58 = .ok (.iconst 1, 1) := by decide +kernel
theorem d_M_isMiddleInside_59 : decode c_M_isMiddleInside 59 = .ok (.iadd, 1) := by decide +kernel
theorem d_M_isMiddleInside_60 : decode c_M_isMiddleInside 60 = .ok (.aload_n 0, 1) := by decide +kernel
theorem d_M_isMiddleInside_61 : decode c_M_isMiddleInside 61 = .ok (.getfield 108, 3) := by decide +kernel
theorem d_M_isMiddleInside_64 : decode c_M_isMiddleInside 64 = .ok (.irem, 1) := by decide +kernel
theorem d_M_isMiddleInside_65 : decode c_M_isMiddleInside 65 = .ok (.istore 5, 2) := by decide +kernel
theorem d_M_isMiddleInside_67 : decode c_M_isMiddleInside 67 = .ok (.iconst 3, 1) := by decide +kernel
theorem d_M_isMiddleInside_68 : decode c_M_isMiddleInside 68 = .ok (.aload_n 0, 1) := by decide +kernel
theorem d_M_isMiddleInside_69 : decode c_M_isMiddleInside 69 = .ok (.getfield 16, 3) := by decide +kernel
theorem d_M_isMiddleInside_72 : decode c_M_isMiddleInside 72 = .ok (.iload 4, 2) := by decide +kernel
theorem d_M_isMiddleInside_74 : decode c_M_isMiddleInside 74 = .ok (.iaload, 1) := by decide +kernel
theorem d_M_isMiddleInside_75 : decode c_M_isMiddleInside 75 = .ok (.imul, 1) := by decide +kernel
theorem d_M_isMiddleInside_76 : decode c_M_isMiddleInside 76 = .ok (.istore 6, 2) := by decide +kernel
theorem d_M_isMiddleInside_78 : decode c_M_isMiddleInside 78 = .ok (.iconst 3, 1) := by decide +kernel
theorem d_M_isMiddleInside_79 : decode c_M_isMiddleInside 79 = .ok (.aload_n 0, 1) := by decide +kernel
theorem d_M_isMiddleInside_80 : decode c_M_isMiddleInside 80 = .ok (.getfield 19, 3) := by decide +kernel
theorem d_M_isMiddleInside_83 : decode c_M_isMiddleInside 83 = .ok (.iload 4, 2) := by decide +kernel
theorem d_M_isMiddleInside_85 : decode c_M_isMiddleInside 85 = .ok (.iaload, 1) := by decide +kernel
theorem d_M_isMiddleInside_86 : decode c_M_isMiddleInside 86 = .ok (.imul, 1) := by decide +kernel
theorem d_M_isMiddleInside_87 : decode c_M_isMiddleInside 87 = .ok (.istore 7, 2) := by decide +kernel
theorem d_M_isMiddleInside_89 : decode c_M_isMiddleInside 89 = .ok (.iconst 3, 1) := by decide +kernel
theorem d_M_isMiddleInside_90 : decode c_M_isMiddleInside 90 = .ok (.aload_n 0, 1) := by decide +kernel
theorem d_M_isMiddleInside_91 : decode c_M_isMiddleInside 91 = .ok (.getfield 16, 3) := by decide +kernel
theorem d_M_isMiddleInside_94 : decode c_M_isMiddleInside 94 = .ok (.iload 5, 2) := by decide +kernel
theorem d_M_isMiddleInside_96 : decode c_M_isMiddleInside 96 = .ok (.iaload, 1) := by decide +kernel
theorem d_M_isMiddleInside_97 : decode c_M_isMiddleInside 97 = .ok (.imul, 1) := by decide +kernel
theorem d_M_isMiddleInside_98 : decode c_M_isMiddleInside 98 = .ok (.istore 8, 2) := by decide +kernel
theorem d_M_isMiddleInside_100 : decode c_M_isMiddleInside 100 = .ok (.iconst 3, 1) := by decide +kernel
theorem d_M_isMiddleInside_101 : decode c_M_isMiddleInside 101 = .ok (.aload_n 0, 1) := by decide +kernel
theorem d_M_isMiddleInside_102 : decode c_M_isMiddleInside 102 = .ok (.getfield 19, 3) := by decide +kernel
theorem d_M_isMiddleInside_105 : decode c_M_isMiddleInside 105 = .ok (.iload 5, 2) := by decide +kernel
theorem d_M_isMiddleInside_107 : decode c_M_isMiddleInside 107 = .ok (.iaload, 1) := by decide +kernel
theorem d_M_isMiddleInside_108 : decode c_M_isMiddleInside 108 = .ok (.imul, 1) := by decide +kernel
theorem d_M_isMiddleInside_109 : decode c_M_isMiddleInside 109 = .ok (.istore 9, 2) := by decide +kernel
theorem d_M_isMiddleInside_111 : decode c_M_isMiddleInside 111 = .ok (.iload 7, 2) := by decide +kernel
theorem d_M_isMiddleInside_113 : decode c_M_isMiddleInside 113 = .ok (.iload_n 2, 1) := by decide +kernel
theorem d_M_isMiddleInside_114 : decode c_M_isMiddleInside 114 = .ok (.if_icmp .le 7, 3) := by decide +kernel
theorem d_M_isMiddleInside_117 : decode c_M_isMiddleInside 117 = .ok (.iconst 1, 1) := by decide +kernel
theorem d_M_isMiddleInside_118 : decode c_M_isMiddleInside 118 = .ok (.goto 4, 3) := by decide +kernel
theorem d_M_isMiddleInside_121 : decode c_M_isMiddleInside 121 = .ok (.iconst 0, 1) := by decide +kernel
theorem d_M_isMiddleInside_122 : decode c_M_isMiddleInside 122 = .ok (.iload 9, 2) := by decide +kernel
theorem d_M_isMiddleInside_124 : decode c_M_isMiddleInside 124 = .ok (.iload_n 2, 1) := by decide +kernel
theorem d_M_isMiddleInside_125 : decode c_M_isMiddleInside 125 = .ok (.if_icmp .le 7, 3) := by decide +kernel
theorem d_M_isMiddleInside_128 : decode c_M_isMiddleInside 128 = .ok (.iconst 1, 1) := by decide +kernel
theorem d_M_isMiddleInside_129 : decode c_M_isMiddleInside 129 = .ok (.goto 4, 3) := by decide +kernel
theorem d_M_isMiddleInside_132 : decode c_M_isMiddleInside 132 = .ok (.iconst 0, 1) := by decide +kernel
theorem d_M_isMiddleInside_133 : decode c_M_isMiddleInside 133 = .ok (.if_icmp .eq 65, 3) := by decide +kernel
theorem d_M_isMiddleInside_136 : decode c_M_isMiddleInside 136 = .ok (.iload 8, 2) := by decide +kernel
theorem d_M_isMiddleInside_138 : decode c_M_isMiddleInside 138 = .ok (.iload 6, 2) := by decide +kernel
theorem d_M_isMiddleInside_140 : decode c_M_isMiddleInside 140 = .ok (.isub, 1) := by decide +kernel
theorem d_M_isMiddleInside_141 : decode c_M_isMiddleInside 141 = .ok (.iload_n 2, 1) := by decide +kernel
theorem d_M_isMiddleInside_142 : decode c_M_isMiddleInside 142 = .ok (.iload 7, 2) := by decide +kernel
theorem d_M_isMiddleInside_144 : decode c_M_isMiddleInside 144 = .ok (.isub, 1) := by decide +kernel
theorem d_M_isMiddleInside_145 : decode c_M_isMiddleInside 145 = .ok (.imul, 1) := by decide +kernel
theorem d_M_isMiddleInside_146 : decode c_M_isMiddleInside 146 = .ok (.iload 9, 2) := by decide +kernel
theorem d_M_isMiddleInside_148 : decode c_M_isMiddleInside 148 = .ok (.iload 7, 2) := by decide +kernel
theorem d_M_isMiddleInside_150 : decode c_M_isMiddleInside 150 = .ok (.isub, 1) := by decide +kernel
theorem d_M_isMiddleInside_151 : decode c_M_isMiddleInside 151 = .ok (.iload_n 1, 1) := by decide +kernel
theorem d_M_isMiddleInside_152 : decode c_M_isMiddleInside 152 = .ok (.iload 6, 2) := by decide +kernel
theorem d_M_isMiddleInside_154 : decode c_M_isMiddleInside 154 = .ok (.isub, 1) := by decide +kernel
theorem d_M_isMiddleInside_155 : decode c_M_isMiddleInside 155 = .ok (.imul, 1) := by decide +kernel
theorem d_M_isMiddleInside_156 : decode c_M_isMiddleInside 156 = .ok (.isub, 1) := by decide +kernel
theorem d_M_isMiddleInside_157 : decode c_M_isMiddleInside 157 = .ok (.istore 10, 2) := by decide +kernel
theorem d_M_isMiddleInside_159 : decode c_M_isMiddleInside 159 = .ok (.iload 10, 2) := by decide +kernel
theorem d_M_isMiddleInside_161 : decode c_M_isMiddleInside 161 = .ok (.ifCond .le 7, 3) := by decide +kernel
theorem d_M_isMiddleInside_164 : decode c_M_isMiddleInside 164 = .ok (.iconst 1, 1) := by decide +kernel
theorem d_M_isMiddleInside_165 : decode c_M_isMiddleInside 165 = .ok (.goto 4, 3) := by decide +kernel
theorem d_M_isMiddleInside_168 : decode c_M_isMiddleInside 168 = .ok (.iconst 0, 1) := by decide +kernel
theorem d_M_isMiddleInside_169 : decode c_M_isMiddleInside 169 = .ok (.iload 9, 2) := by decide +kernel
theorem d_M_isMiddleInside_171 : decode c_M_isMiddleInside 171 = .ok (.iload 7, 2) := by decide +kernel
theorem d_M_isMiddleInside_173 : decode c_M_isMiddleInside 173 = .ok (.if_icmp .le 7, 3) := by decide +kernel
theorem d_M_isMiddleInside_176 : decode c_M_isMiddleInside 176 = .ok (.iconst 1, 1) := by decide +kernel
theorem d_M_isMiddleInside_177 : decode c_M_isMiddleInside 177 = .ok (.goto 4, 3) := by decide +kernel
theorem d_M_isMiddleInside_180 : decode c_M_isMiddleInside 180 = .ok (.iconst 0, 1) := by decide +kernel
theorem d_M_isMiddleInside_181 : decode c_M_isMiddleInside 181 = .ok (.if_icmp .ne 15, 3) := by decide +kernel
theorem d_M_isMiddleInside_184 : decode c_M_isMiddleInside 184 = .ok (.iload_n 3, 1) := by decide +kernel
theorem d_M_isMiddleInside_185 : decode c_M_isMiddleInside 185 = .ok (.ifCond .ne 7, 3) := by decide +kernel
theorem d_M_isMiddleInside_188 : decode c_M_isMiddleInside 188 = .ok (.iconst 1, 1) := by decide +kernel
theorem d_M_isMiddleInside_189 : decode c_M_isMiddleInside 189 = .ok (.goto 8, 3) := by decide +kernel
theorem d_M_isMiddleInside_192 : decode c_M_isMiddleInside 192 = .ok (.iconst 0, 1) := by decide +kernel
theorem d_M_isMiddleInside_193 : decode c_M_isMiddleInside 193 = .ok (.goto 4, 3) := by decide +kernel
theorem d_M_isMiddleInside_196 : decode c_M_isMiddleInside 196 = .ok (.iload_n 3, 1) := by decide +kernel
theorem d_M_isMiddleInside_197 : decode c_M_isMiddleInside 197 = .ok (.istore_n 3, 1) := by decide +kernel
theorem d_M_isMiddleInside_198 : decode c_M_isMiddleInside 198 = .ok (.iinc 4 1, 3) := by decide +kernel
theorem d_M_isMiddleInside_201 : decode c_M_isMiddleInside 201 = .ok (.goto (-154), 3) := by decide +kernel
theorem d_M_isMiddleInside_204 : decode c_M_isMiddleInside 204 = .ok (.iload_n 3, 1) := by decide +kernel
theorem d_M_isMiddleInside_205 : decode c_M_isMiddleInside 205 = .ok (.ireturn, 1) := by decide +kernel
theorem d_M_isInHide_0 : decode c_M_isInHide 0 = .ok (.aload_n 0, 1) := by decide +kernel
theorem d_M_isInHide_1 : decode c_M_isInHide 1 = .ok (.iconst 2, 1) := by decide +kernel
theorem d_M_isInHide_2 : decode c_M_isInHide 2 = .ok (.putfield 129, 3) := by decide +kernel
theorem d_M_isInHide_5 : decode c_M_isInHide 5 = .ok (.iconst 0, 1) := by decide +kernel
theorem d_M_isInHide_6 : decode c_M_isInHide 6 = .ok (.istore_n 1, 1) := by decide +kernel
theorem d_M_isInHide_7 : decode c_M_isInHide 7 = .ok (.iload_n 1, 1) := by decide +kernel
theorem d_M_isInHide_8 : decode c_M_isInHide 8 = .ok (.aload_n 0, 1) := by decide +kernel
theorem d_M_isInHide_9 : decode c_M_isInHide 9 = .ok (.getfield 108, 3) := by decide +kernel
theorem d_M_isInHide_12 : decode c_M_isInHide 12 = .ok (.if_icmp .ge 75, 3) := by decide +kernel
theorem d_M_isInHide_15 : decode c_M_isInHide 15 = .ok (.iload_n 1, 1) := by decide +kernel
theorem d_M_isInHide_16 : decode c_M_isInHide 16 = .ok (.iconst 1, 1) := by decide +kernel
theorem d_M_isInHide_17 : decode c_M_isInHide 17 = .ok (.iadd, 1) := by decide +kernel
theorem d_M_isInHide_18 : decode c_M_isInHide 18 = .ok (.aload_n 0, 1) := by decide +kernel
theorem d_M_isInHide_19 : decode c_M_isInHide 19 = .ok (.getfield 108, 3) := by decide +kernel
theorem d_M_isInHide_22 : decode c_M_isInHide 22 = .ok (.irem, 1) := by decide +kernel
theorem d_M_isInHide_23 : decode c_M_isInHide 23 = .ok (.istore_n 2, 1) := by decide +kernel
theorem d_M_isInHide_24 : decode c_M_isInHide 24 = .ok (.aload_n 0, 1) := by decide +kernel
theorem d_M_isInHide_25 : decode c_M_isInHide 25 = .ok (.getfield 73, 3) := by decide +kernel
theorem d_M_isInHide_28 : decode c_M_isInHide 28 = .ok (.iconst 0, 1) := by decide +kernel
theorem d_M_isInHide_29 : decode c_M_isInHide 29 = .ok (.aload_n 0, 1) := by decide +kernel
theorem d_M_isInHide_30 : decode c_M_isInHide 30 = .ok (.getfield 16, 3) := by decide +kernel
theorem d_M_isInHide_33 : decode c_M_isInHide 33 = .ok (.iload_n 1, 1) := by decide +kernel
theorem d_M_isInHide_34 : decode c_M_isInHide 34 = .ok (.iaload, 1) := by decide +kernel
theorem d_M_isInHide_35 : decode c_M_isInHide 35 = .ok (.iastore, 1) := by decide +kernel
theorem d_M_isInHide_36 : decode c_M_isInHide 36 = .ok (.aload_n 0, 1) := by decide +kernel
theorem d_M_isInHide_37 : decode c_M_isInHide 37 = .ok (.getfield 76, 3) := by decide +kernel
theorem d_M_isInHide_40 : decode c_M_isInHide 40 = .ok (.iconst 0, 1) := by decide +kernel
theorem d_M_isInHide_41 : decode c_M_isInHide 41 = .ok (.aload_n 0, 1) := by decide +kernel
theorem d_M_isInHide_42 : decode c_M_isInHide 42 = .ok (.getfield 19, 3) := by decide +kernel
theorem d_M_isInHide_45 : decode c_M_isInHide 45 = .ok (.iload_n 1, 1) := by decide +kernel
theorem d_M_isInHide_46 : decode c_M_isInHide 46 = .ok (.iaload, 1) := by decide +kernel
theorem d_M_isInHide_47 : decode c_M_isInHide 47 = .ok (.iastore, 1) := by decide +kernel
theorem d_M_isInHide_48 : decode c_M_isInHide 48 = .ok (.aload_n 0, 1) := by decide +kernel
theorem d_M_isInHide_49 : decode c_M_isInHide 49 = .ok (.getfield 73, 3) := by decide +kernel
theorem d_M_isInHide_52 : decode c_M_isInHide 52 = .ok (.iconst 1, 1) := by decide +kernel
theorem d_M_isInHide_53 : decode c_M_isInHide 53 = .ok (.aload_n 0, 1) := by decide +kernel
theorem d_M_isInHide_54 : decode c_M_isInHide 54 = .ok (.getfield 16, 3) := by decide +kernel
theorem d_M_isInHide_57 : decode c_M_isInHide 57 = .ok (.iload_n 2, 1) := by decide +kernel
theorem d_M_isInHide_58 : decode c_M_isInHide 58 = .ok (.iaload, 1) := by decide +kernel
theorem d_M_isInHide_59 : decode c_M_isInHide 59 = .ok (.iastore, 1) := by decide +kernel
theorem d_M_isInHide_60 : decode c_M_isInHide 60 = .ok (.aload_n 0, 1) := by decide +kernel
theorem d_M_isInHide_61 : decode c_M_isInHide 61 = .ok (.getfield 76, 3) := by decide +kernel
theorem d_M_isInHide_64 : decode c_M_isInHide 64 = .ok (.iconst 1, 1) := by decide +kernel
theorem d_M_isInHide_65 : decode c_M_isInHide 65 = .ok (.aload_n 0, 1) := by decide +kernel
theorem d_M_isInHide_66 : decode c_M_isInHide 66 = .ok (.getfield 19, 3) := by decide +kernel
theorem d_M_isInHide_69 : decode c_M_isInHide 69 = .ok (.iload_n 2, 1) := by decide +kernel
theorem d_M_isInHide_70 : decode c_M_isInHide 70 = .ok (.iaload, 1) := by decide +kernel
theorem d_M_isInHide_71 : decode c_M_isInHide 71 = .ok (.iastore, 1) := by decide +kernel
theorem d_M_isInHide_72 : decode c_M_isInHide 72 = .ok (.aload_n 0, 1) := by decide +kernel
theorem d_M_isInHide_73 : decode c_M_isInHide 73 = .ok (.invokevirtual 135, 3) := by decide +kernel
theorem d_M_isInHide_76 : decode c_M_isInHide 76 = .ok (.ifCond .eq 5, 3) := by decide +kernel
theorem d_M_isInHide_79 : decode c_M_isInHide 79 = .ok (.iconst 0, 1) := by decide +kernel
theorem d_M_isInHide_80 : decode c_M_isInHide 80 = .ok (.ireturn, 1) := by decide +kernel
theorem d_M_isInHide_81 : decode c_M_isInHide 81 = .ok (.iinc 1 1, 3) := by decide +kernel
theorem d_M_isInHide_84 : decode c_M_isInHide 84 = .ok (.goto (-77), 3) := by decide +kernel
theorem d_M_isInHide_87 : decode c_M_isInHide 87 = .ok (.aload_n 0, 1) := by decide +kernel
theorem d_M_isInHide_88 : decode c_M_isInHide 88 = .ok (.getfield 108, 3) := by decide +kernel
theorem d_M_isInHide_91 : decode c_M_isInHide 91 = .ok (.ifCond .le 14, 3) := by decide +kernel
theorem d_M_isInHide_94 : decode c_M_isInHide 94 = .ok (.aload_n 0, 1) := by decide +kernel
theorem d_M_isInHide_95 : decode c_M_isInHide 95 = .ok (.invokevirtual 139, 3) := by decide +kernel
theorem d_M_isInHide_98 : decode c_M_isInHide 98 = .ok (.ifCond .eq 7, 3) := by decide +kernel
theorem d_M_isInHide_101 : decode c_M_isInHide 101 = .ok (.iconst 1, 1) := by decide +kernel
theorem d_M_isInHide_102 : decode c_M_isInHide 102 = .ok (.goto 4, 3) := by decide +kernel
theorem d_M_isInHide_105 : decode c_M_isInHide 105 = .ok (.iconst 0, 1) := by decide +kernel
theorem d_M_isInHide_106 : decode c_M_isInHide 106 = .ok (.ireturn, 1) := by decide +kernel
theorem d_M_isOffZones_0 : decode c_M_isOffZones 0 = .ok (.iconst 0, 1) := by decide +kernel
theorem d_M_isOffZones_1 : decode c_M_isOffZones 1 = .ok (.istore_n 2, 1) := by decide +kernel
theorem d_M_isOffZones_2 : decode c_M_isOffZones 2 = .ok (.iload_n 2, 1) := by decide +kernel
theorem d_M_isOffZones_3 : decode c_M_isOffZones 3 = .ok (.aload_n 0, 1) := by decide +kernel
theorem d_M_isOffZones_4 : decode c_M_isOffZones 4 = .ok (.getfield 118, 3) := by decide +kernel
theorem d_M_isOffZones_7 : decode c_M_isOffZones 7 = .ok (.if_icmp .ge 88, 3) := by decide +kernel
theorem d_M_isOffZones_10 : decode c_M_isOffZones 10 = .ok (.aload_n 0, 1) := by decide +kernel
theorem d_M_isOffZones_11 : decode c_M_isOffZones 11 = .ok (.getfield 31, 3) := by decide +kernel
theorem d_M_isOffZones_14 : decode c_M_isOffZones 14 = .ok (.iload_n 2, 1) := by decide +kernel
theorem d_M_isOffZones_15 : decode c_M_isOffZones 15 = .ok (.iaload, 1) := by decide +kernel
theorem d_M_isOffZones_16 : decode c_M_isOffZones 16 = .ok (.iload_n 1, 1) := by decide +kernel
theorem d_M_isOffZones_17 : decode c_M_isOffZones 17 = .ok (.if_icmp .ge 72, 3) := by decide +kernel
theorem d_M_isOffZones_20 : decode c_M_isOffZones 20 = .ok (.aload_n 0, 1) := by decide +kernel
theorem d_M_isOffZones_21 : decode c_M_isOffZones 21 = .ok (.aload_n 0, 1) := by decide +kernel
theorem d_M_isOffZones_22 : decode c_M_isOffZones 22 = .ok (.getfield 28, 3) := by decide +kernel
theorem d_M_isOffZones_25 : decode c_M_isOffZones 25 = .ok (.iload_n 2, 1) := by decide +kernel
theorem d_M_isOffZones_26 : decode c_M_isOffZones 26 = .ok (.iaload, 1) := by decide +kernel
theorem d_M_isOffZones_27 : decode c_M_isOffZones 27 = .ok (.putfield 129, 3) := by decide +kernel
theorem d_M_isOffZones_30 : decode c_M_isOffZones 30 = .ok (.iconst 0, 1) := by decide +kernel
theorem d_M_isOffZones_31 : decode c_M_isOffZones 31 = .ok (.istore_n 3, 1) := by decide +kernel
theorem d_M_isOffZones_32 : decode c_M_isOffZones 32 = .ok (.iload_n 3, 1) := by decide +kernel
theorem d_M_isOffZones_33 : decode c_M_isOffZones 33 = .ok (.aload_n 0, 1) := by decide +kernel
theorem d_M_isOffZones_34 : decode c_M_isOffZones 34 = .ok (.getfield 129, 3) := by decide +kernel
theorem d_M_isOffZones_37 : decode c_M_isOffZones 37 = .ok (.if_icmp .ge 43, 3) := by decide +kernel
theorem d_M_isOffZones_40 : decode c_M_isOffZones 40 = .ok (.aload_n 0, 1) := by decide +kernel
theorem d_M_isOffZones_41 : decode c_M_isOffZones 41 = .ok (.getfield 73, 3) := by decide +kernel
theorem d_M_isOffZones_44 : decode c_M_isOffZones 44 = .ok (.iload_n 3, 1) := by decide +kernel
theorem d_M_isOffZones_45 : decode c_M_isOffZones 45 = .ok (.aload_n 0, 1) := by decide +kernel
theorem d_M_isOffZones_46 : decode c_M_isOffZones 46 = .ok (.getfield 22, 3) := by decide +kernel
theorem d_M_isOffZones_49 : decode c_M_isOffZones 49 = .ok (.bipush 6, 2) := by decide +kernel
theorem d_M_isOffZones_51 : decode c_M_isOffZones 51 = .ok (.iload_n 2, 1) := by decide +kernel
theorem d_M_isOffZones_52 : decode c_M_isOffZones 52 = .ok (.imul, 1) := by decide +kernel
theorem d_M_isOffZones_53 : decode c_M_isOffZones 53 = .ok (.iload_n 3, 1) := by decide +kernel
theorem d_M_isOffZones_54 : decode c_M_isOffZones 54 = .ok (.iadd, 1) := by decide +kernel
theorem d_M_isOffZones_55 : decode c_M_isOffZones 55 = .ok (.iaload, 1) := by decide +kernel
theorem d_M_isOffZones_56 : decode c_M_isOffZones 56 = .ok (.iastore, 1) := by decide +kernel
theorem d_M_isOffZones_57 : decode c_M_isOffZones 57 = .ok (.aload_n 0, 1) := by decide +kernel
theorem d_M_isOffZones_58 : decode c_M_isOffZones 58 = .ok (.getfield 76, 3) := by decide +kernel
theorem d_M_isOffZones_61 : decode c_M_isOffZones 61 = .ok (.iload_n 3, 1) := by decide +kernel
theorem d_M_isOffZones_62 : decode c_M_isOffZones 62 = .ok (.aload_n 0, 1) := by decide +kernel
theorem d_M_isOffZones_63 : decode c_M_isOffZones 63 = .ok (.getfield 25, 3) := by decide +kernel
theorem d_M_isOffZones_66 : decode c_M_isOffZones 66 = .ok (.bipush 6, 2) := by decide +kernel
theorem d_M_isOffZones_68 : decode c_M_isOffZones 68 = .ok (.iload_n 2, 1) := by decide +kernel
theorem d_M_isOffZones_69 : decode c_M_isOffZones 69 = .ok (.imul, 1) := by decide +kernel
theorem d_M_isOffZones_70 : decode c_M_isOffZones 70 = .ok (.iload_n 3, 1) := by decide +kernel
theorem d_M_isOffZones_71 : decode c_M_isOffZones 71 = .ok (.iadd, 1) := by decide +kernel
theorem d_M_isOffZones_72 : decode c_M_isOffZones 72 = .ok (.iaload, 1) := by decide +kernel
theorem d_M_isOffZones_73 : decode c_M_isOffZones 73 = .ok (.iastore, 1) := by decide +kernel
theorem d_M_isOffZones_74 : decode c_M_isOffZones 74 = .ok (.iinc 3 1, 3) := by decide +kernel
theorem d_M_isOffZones_77 : decode c_M_isOffZones 77 = .ok (.goto (-45), 3) := by decide +kernel
theorem d_M_isOffZones_80 : decode c_M_isOffZones 80 = .ok (.aload_n 0, 1) := by decide +kernel
theorem d_M_isOffZones_81 : decode c_M_isOffZones 81 = .ok (.invokevirtual 135, 3) := by decide +kernel
theorem d_M_isOffZones_84 : decode c_M_isOffZones 84 = .ok (.ifCond .eq 5, 3) := by decide +kernel
theorem d_M_isOffZones_87 : decode c_M_isOffZones 87 = .ok (.iconst 0, 1) := by decide +kernel
theorem d_M_isOffZones_88 : decode c_M_isOffZones 88 = .ok (.ireturn, 1) := by decide +kernel
theorem d_M_isOffZones_89 : decode c_M_isOffZones 89 = .ok (.iinc 2 1, 3) := by decide +kernel
theorem d_M_isOffZones_92 : decode c_M_isOffZones 92 = .ok (.goto (-90), 3) := by decide +kernel
theorem d_M_isOffZones_95 : decode c_M_isOffZones 95 = .ok (.iconst 1, 1) := by decide +kernel
theorem d_M_isOffZones_96 : decode c_M_isOffZones 96 = .ok (.ireturn, 1) := by decide +kernel
theorem d_M_isBesideParts_0 : decode c_M_isBesideParts 0 = .ok (.iconst 0, 1) := by decide +kernel
theorem d_M_isBesideParts_1 : decode c_M_isBesideParts 1 = .ok (.istore_n 1, 1) := by decide +kernel
theorem d_M_isBesideParts_2 : decode c_M_isBesideParts 2 = .ok (.iload_n 1, 1) := by decide +kernel
theorem d_M_isBesideParts_3 : decode c_M_isBesideParts 3 = .ok (.bipush 12, 2) := by decide +kernel
theorem d_M_isBesideParts_5 : decode c_M_isBesideParts 5 = .ok (.if_icmp .ge 92, 3) := by decide +kernel
theorem d_M_isBesideParts_8 : decode c_M_isBesideParts 8 = .ok (.aload_n 0, 1) := by decide +kernel
theorem d_M_isBesideParts_9 : decode c_M_isBesideParts 9 = .ok (.getfield 49, 3) := by decide +kernel
theorem d_M_isBesideParts_12 : decode c_M_isBesideParts 12 = .ok (.iload_n 1, 1) := by decide +kernel
theorem d_M_isBesideParts_13 : decode c_M_isBesideParts 13 = .ok (.iaload, 1) := by decide +kernel
theorem d_M_isBesideParts_14 : decode c_M_isBesideParts 14 = .ok (.ifCond .lt 77, 3) := by decide +kernel
theorem d_M_isBesideParts_17 : decode c_M_isBesideParts 17 = .ok (.aload_n 0, 1) := by decide +kernel
theorem d_M_isBesideParts_18 : decode c_M_isBesideParts 18 = .ok (.aload_n 0, 1) := by decide +kernel
theorem d_M_isBesideParts_19 : decode c_M_isBesideParts 19 = .ok (.getfield 40, 3) := by decide +kernel
theorem d_M_isBesideParts_22 : decode c_M_isBesideParts 22 = .ok (.aload_n 0, 1) := by decide +kernel
theorem d_M_isBesideParts_23 : decode c_M_isBesideParts 23 = .ok (.getfield 49, 3) := by decide +kernel
theorem d_M_isBesideParts_26 : decode c_M_isBesideParts 26 = .ok (.iload_n 1, 1) := by decide +kernel
theorem d_M_isBesideParts_27 : decode c_M_isBesideParts 27 = .ok (.iaload, 1) := by decide +kernel
theorem d_M_isBesideParts_28 : decode c_M_isBesideParts 28 = .ok (.iaload, 1) := by decide +kernel
theorem d_M_isBesideParts_29 : decode c_M_isBesideParts 29 = .ok (.putfield 129, 3) := by decide +kernel
theorem d_M_isBesideParts_32 : decode c_M_isBesideParts 32 = .ok (.iconst 0, 1) := by decide +kernel
theorem d_M_isBesideParts_33 : decode c_M_isBesideParts 33 = .ok (.istore_n 2, 1) := by decide +kernel
theorem d_M_isBesideParts_34 : decode c_M_isBesideParts 34 = .ok (.iload_n 2, 1) := by decide +kernel
theorem d_M_isBesideParts_35 : decode c_M_isBesideParts 35 = .ok (.aload_n 0, 1) := by decide +kernel
theorem d_M_isBesideParts_36 : decode c_M_isBesideParts 36 = .ok (.getfield 129, 3) := by decide +kernel
theorem d_M_isBesideParts_39 : decode c_M_isBesideParts 39 = .ok (.if_icmp .ge 43, 3) := by decide +kernel
theorem d_M_isBesideParts_42 : decode c_M_isBesideParts 42 = .ok (.aload_n 0, 1) := by decide +kernel
theorem d_M_isBesideParts_43 : decode c_M_isBesideParts 43 = .ok (.getfield 73, 3) := by decide +kernel
theorem d_M_isBesideParts_46 : decode c_M_isBesideParts 46 = .ok (.iload_n 2, 1) := by decide +kernel
theorem d_M_isBesideParts_47 : decode c_M_isBesideParts 47 = .ok (.aload_n 0, 1) := by decide +kernel
theorem d_M_isBesideParts_48 : decode c_M_isBesideParts 48 = .ok (.getfield 61, 3) := by decide +kernel
theorem d_M_isBesideParts_51 : decode c_M_isBesideParts 51 = .ok (.bipush 6, 2) := by decide +kernel
theorem d_M_isBesideParts_53 : decode c_M_isBesideParts 53 = .ok (.iload_n 1, 1) := by decide +kernel
theorem d_M_isBesideParts_54 : decode c_M_isBesideParts 54 = .ok (.imul, 1) := by decide +kernel
theorem d_M_isBesideParts_55 : decode c_M_isBesideParts 55 = .ok (.iload_n 2, 1) := by decide +kernel
theorem d_M_isBesideParts_56 : decode c_M_isBesideParts 56 = .ok (.iadd, 1) := by decide +kernel
theorem d_M_isBesideParts_57 : decode c_M_isBesideParts 57 = .ok (.iaload, 1) := by decide +kernel
theorem d_M_isBesideParts_58 : decode c_M_isBesideParts 58 = .ok (.iastore, 1) := by decide +kernel
theorem d_M_isBesideParts_59 : decode c_M_isBesideParts 59 = .ok (.aload_n 0, 1) := by decide +kernel
theorem d_M_isBesideParts_60 : decode c_M_isBesideParts 60 = .ok (.getfield 76, 3) := by decide +kernel
theorem d_M_isBesideParts_63 : decode c_M_isBesideParts 63 = .ok (.iload_n 2, 1) := by decide +kernel
theorem d_M_isBesideParts_64 : decode c_M_isBesideParts 64 = .ok (.aload_n 0, 1) := by decide +kernel
theorem d_M_isBesideParts_65 : decode c_M_isBesideParts 65 = .ok (.getfield 64, 3) := by decide +kernel
theorem d_M_isBesideParts_68 : decode c_M_isBesideParts 68 = .ok (.bipush 6, 2) := by decide +kernel
theorem d_M_isBesideParts_70 : decode c_M_isBesideParts 70 = .ok (.iload_n 1, 1) := by decide +kernel
theorem d_M_isBesideParts_71 : decode c_M_isBesideParts 71 = .ok (.imul, 1) := by decide +kernel
theorem d_M_isBesideParts_72 : decode c_M_isBesideParts 72 = .ok (.iload_n 2, 1) := by decide +kernel
theorem d_M_isBesideParts_73 : decode c_M_isBesideParts 73 = .ok (.iadd, 1) := by decide +kernel
theorem d_M_isBesideParts_74 : decode c_M_isBesideParts 74 = .ok (.iaload, 1) := by decide +kernel
theorem d_M_isBesideParts_75 : decode c_M_isBesideParts 75 = .ok (.iastore, 1) := by decide +kernel
theorem d_M_isBesideParts_76 : decode c_M_isBesideParts 76 = .ok (.iinc 2 1, 3) := by decide +kernel
theorem d_M_isBesideParts_79 : decode c_M_isBesideParts 79 = .ok (.goto (-45), 3) := by decide +kernel
theorem d_M_isBesideParts_82 : decode c_M_isBesideParts 82 = .ok (.aload_n 0, 1) := by decide +kernel
theorem d_M_isBesideParts_83 : decode c_M_isBesideParts 83 = .ok (.invokevirtual 135, 3) := by decide +kernel
theorem d_M_isBesideParts_86 : decode c_M_isBesideParts 86 = .ok (.ifCond .eq 5, 3) := by decide +kernel
theorem d_M_isBesideParts_89 : decode c_M_isBesideParts 89 = .ok (.iconst 0, 1) := by decide +kernel
theorem d_M_isBesideParts_90 : decode c_M_isBesideParts 90 = .ok (.ireturn, 1) := by decide +kernel
theorem d_M_isBesideParts_91 : decode c_M_isBesideParts 91 = .ok (.iinc 1 1, 3) := by decide +kernel
theorem d_M_isBesideParts_94 : decode c_M_isBesideParts 94 = .ok (.goto (-92), 3) := by decide +kernel
theorem d_M_isBesideParts_97 : decode c_M_isBesideParts 97 = .ok (.iconst 1, 1) := by decide +kernel
theorem d_M_isBesideParts_98 : decode c_M_isBesideParts 98 = .ok (.ireturn, 1) := by decide +kernel
theorem d_M_isFit_0 : decode c_M_isFit 0 = .ok (.aload_n 0, 1) := by decide +kernel
theorem d_M_isFit_1 : decode c_M_isFit 1 = .ok (.getfield 46, 3) := by decide +kernel
theorem d_M_isFit_4 : decode c_M_isFit 4 = .ok (.iload_n 1, 1) := by decide +kernel
theorem d_M_isFit_5 : decode c_M_isFit 5 = .ok (.iaload, 1) := by decide +kernel
theorem d_M_isFit_6 : decode c_M_isFit 6 = .ok (.iload 4, 2) := by decide +kernel
theorem d_M_isFit_8 : decode c_M_isFit 8 = .ok (.ishr, 1) := by decide +kernel
theorem d_M_isFit_9 : decode c_M_isFit 9 = .ok (.iconst 1, 1) := by decide +kernel
theorem d_M_isFit_10 : decode c_M_isFit 10 = .ok (.iand, 1) := by decide +kernel
theorem d_M_isFit_11 : decode c_M_isFit 11 = .ok (.ifCond .ne 5, 3) := by decide +kernel
theorem d_M_isFit_14 : decode c_M_isFit 14 = .ok (.iconst 0, 1) := by decide +kernel
theorem d_M_isFit_15 : decode c_M_isFit 15 = .ok (.ireturn, 1) := by decide +kernel
theorem d_M_isFit_16 : decode c_M_isFit 16 = .ok (.aload_n 0, 1) := by decide +kernel
theorem d_M_isFit_17 : decode c_M_isFit 17 = .ok (.iload_n 1, 1) := by decide +kernel
theorem d_M_isFit_18 : decode c_M_isFit 18 = .ok (.iload 4, 2) := by decide +kernel
theorem d_M_isFit_20 : decode c_M_isFit 20 = .ok (.iload_n 2, 1) := by decide +kernel
theorem d_M_isFit_21 : decode c_M_isFit 21 = .ok (.iload_n 3, 1) := by decide +kernel
theorem d_M_isFit_22 : decode c_M_isFit 22 = .ok (.invokevirtual 142, 3) := by decide +kernel
theorem d_M_isFit_25 : decode c_M_isFit 25 = .ok (.iconst 0, 1) := by decide +kernel
theorem d_M_isFit_26 : decode c_M_isFit 26 = .ok (.istore 5, 2) := by decide +kernel
theorem d_M_isFit_28 : decode c_M_isFit 28 = .ok (.iload 5, 2) := by decide +kernel
theorem d_M_isFit_30 : decode c_M_isFit 30 = .ok (.aload_n 0, 1) := by decide +kernel
theorem d_M_isFit_31 : decode c_M_isFit 31 = .ok (.getfield 124, 3) := by decide +kernel
theorem d_M_isFit_34 : decode c_M_isFit 34 = .ok (.if_icmp .ge 35, 3) := by decide +kernel
theorem d_M_isFit_37 : decode c_M_isFit 37 = .ok (.aload_n 0, 1) := by decide +kernel
theorem d_M_isFit_38 : decode c_M_isFit 38 = .ok (.getfield 67, 3) := by decide +kernel
theorem d_M_isFit_41 : decode c_M_isFit 41 = .ok (.iload 5, 2) := by decide +kernel
theorem d_M_isFit_43 : decode c_M_isFit 43 = .ok (.iaload, 1) := by decide +kernel
theorem d_M_isFit_44 : decode c_M_isFit 44 = .ok (.bipush 30, 2) := by decide +kernel
theorem d_M_isFit_46 : decode c_M_isFit 46 = .ok (.if_icmp .gt 15, 3) := by decide +kernel
theorem d_M_isFit_49 : decode c_M_isFit 49 = .ok (.aload_n 0, 1) := by decide +kernel
theorem d_M_isFit_50 : decode c_M_isFit 50 = .ok (.getfield 70, 3) := by decide +kernel
theorem d_M_isFit_53 : decode c_M_isFit 53 = .ok (.iload 5, 2) := by decide +kernel
theorem d_M_isFit_55 : decode c_M_isFit 55 = .ok (.iaload, 1) := by decide +kernel
theorem d_M_isFit_56 : decode c_M_isFit 56 = .ok (.bipush 30, 2) := by decide +kernel
theorem d_M_isFit_58 : decode c_M_isFit 58 = .ok (.if_icmp .le 5, 3) := by decide +kernel
theorem d_M_isFit_61 : decode c_M_isFit 61 = .ok (.iconst 0, 1) := by decide +kernel
theorem d_M_isFit_62 : decode c_M_isFit 62 = .ok (.ireturn, 1) := by decide +kernel
theorem d_M_isFit_63 : decode c_M_isFit 63 = .ok (.iinc 5 1, 3) := by decide +kernel
theorem d_M_isFit_66 : decode c_M_isFit 66 = .ok (.goto (-38), 3) := by decide +kernel
theorem d_M_isFit_69 : decode c_M_isFit 69 = .ok (.aload_n 0, 1) := by decide +kernel
theorem d_M_isFit_70 : decode c_M_isFit 70 = .ok (.invokevirtual 146, 3) := by decide +kernel
theorem d_M_isFit_73 : decode c_M_isFit 73 = .ok (.ifCond .eq 27, 3) := by decide +kernel
theorem d_M_isFit_76 : decode c_M_isFit 76 = .ok (.aload_n 0, 1) := by decide +kernel
theorem d_M_isFit_77 : decode c_M_isFit 77 = .ok (.aload_n 0, 1) := by decide +kernel
theorem d_M_isFit_78 : decode c_M_isFit 78 = .ok (.getfield 43, 3) := by decide +kernel
theorem d_M_isFit_81 : decode c_M_isFit 81 = .ok (.iload_n 1, 1) := by decide +kernel
theorem d_M_isFit_82 : decode c_M_isFit 82 = .ok (.iaload, 1) := by decide +kernel
theorem d_M_isFit_83 : decode c_M_isFit 83 = .ok (.invokevirtual 149, 3) := by decide +kernel
theorem d_M_isFit_86 : decode c_M_isFit 86 = .ok (.ifCond .eq 14, 3) := by decide +kernel
theorem d_M_isFit_89 : decode c_M_isFit 89 = .ok (.aload_n 0, 1) := by decide +kernel
theorem d_M_isFit_90 : decode c_M_isFit 90 = .ok (.invokevirtual 152, 3) := by decide +kernel
theorem d_M_isFit_93 : decode c_M_isFit 93 = .ok (.ifCond .eq 7, 3) := by decide +kernel
theorem d_M_isFit_96 : decode c_M_isFit 96 = .ok (.iconst 1, 1) := by decide +kernel
theorem d_M_isFit_97 : decode c_M_isFit 97 = .ok (.goto 4, 3) := by decide +kernel
theorem d_M_isFit_100 : decode c_M_isFit 100 = .ok (.iconst 0, 1) := by decide +kernel
theorem d_M_isFit_101 : decode c_M_isFit 101 = .ok (.ireturn, 1) := by decide +kernel
theorem d_M_isKind_0 : decode c_M_isKind 0 = .ok (.iload_n 1, 1) := by decide +kernel
theorem d_M_isKind_1 : decode c_M_isKind 1 = .ok (.ifCond .lt 15, 3) := by decide +kernel
theorem d_M_isKind_4 : decode c_M_isKind 4 = .ok (.iload_n 1, 1) := by decide +kernel
theorem d_M_isKind_5 : decode c_M_isKind 5 = .ok (.aload_n 0, 1) := by decide +kernel
theorem d_M_isKind_6 : decode c_M_isKind 6 = .ok (.getfield 121, 3) := by decide +kernel
theorem d_M_isKind_9 : decode c_M_isKind 9 = .ok (.if_icmp .ge 7, 3) := by decide +kernel
theorem d_M_isKind_12 : decode c_M_isKind 12 = .ok (.iconst 1, 1) := by decide +kernel
theorem d_M_isKind_13 : decode c_M_isKind 13 = .ok (.goto 4, 3) := by decide +kernel
theorem d_M_isKind_16 : decode c_M_isKind 16 = .ok (.iconst 0, 1) := by decide +kernel
theorem d_M_isKind_17 : decode c_M_isKind 17 = .ok (.ireturn, 1) := by decide +kernel
theorem d_M_isPlace_0 : decode c_M_isPlace 0 = .ok (.iload_n 1, 1) := by decide +kernel
theorem d_M_isPlace_1 : decode c_M_isPlace 1 = .ok (.ifCond .lt 32, 3) := by decide +kernel
theorem d_M_isPlace_4 : decode c_M_isPlace 4 = .ok (.iload_n 1, 1) := by decide +kernel
theorem d_M_isPlace_5 : decode c_M_isPlace 5 = .ok (.bipush 30, 2) := by decide +kernel
theorem d_M_isPlace_7 : decode c_M_isPlace 7 = .ok (.if_icmp .gt 26, 3) := by decide +kernel
theorem d_M_isPlace_10 : decode c_M_isPlace 10 = .ok (.iload_n 2, 1) := by decide +kernel
theorem d_M_isPlace_11 : decode c_M_isPlace 11 = .ok (.ifCond .lt 22, 3) := by decide +kernel
theorem d_M_isPlace_14 : decode c_M_isPlace 14 = .ok (.iload_n 2, 1) := by decide +kernel
theorem d_M_isPlace_15 : decode c_M_isPlace 15 = .ok (.bipush 30, 2) := by decide +kernel
theorem d_M_isPlace_17 : decode c_M_isPlace 17 = .ok (.if_icmp .gt 16, 3) := by decide +kernel
theorem d_M_isPlace_20 : decode c_M_isPlace 20 = .ok (.iload_n 3, 1) := by decide +kernel
theorem d_M_isPlace_21 : decode c_M_isPlace 21 = .ok (.ifCond .lt 12, 3) := by decide +kernel
theorem d_M_isPlace_24 : decode c_M_isPlace 24 = .ok (.iload_n 3, 1) := by decide +kernel
theorem d_M_isPlace_25 : decode c_M_isPlace 25 = .ok (.iconst 3, 1) := by decide +kernel
theorem d_M_isPlace_26 : decode c_M_isPlace 26 = .ok (.if_icmp .gt 7, 3) := by decide +kernel
theorem d_M_isPlace_29 : decode c_M_isPlace 29 = .ok (.iconst 1, 1) := by decide +kernel
theorem d_M_isPlace_30 : decode c_M_isPlace 30 = .ok (.goto 4, 3) := by decide +kernel
theorem d_M_isPlace_33 : decode c_M_isPlace 33 = .ok (.iconst 0, 1) := by decide +kernel
theorem d_M_isPlace_34 : decode c_M_isPlace 34 = .ok (.ireturn, 1) := by decide +kernel
theorem d_M_fits_0 : decode c_M_fits 0 = .ok (.aload_n 0, 1) := by decide +kernel
theorem d_M_fits_1 : decode c_M_fits 1 = .ok (.aload_n 0, 1) := by decide +kernel
theorem d_M_fits_2 : decode c_M_fits 2 = .ok (.iload_n 1, 1) := by decide +kernel
theorem d_M_fits_3 : decode c_M_fits 3 = .ok (.invokevirtual 155, 3) := by decide +kernel
theorem d_M_fits_6 : decode c_M_fits 6 = .ok (.ifCond .eq 18, 3) := by decide +kernel
theorem d_M_fits_9 : decode c_M_fits 9 = .ok (.aload_n 0, 1) := by decide +kernel
theorem d_M_fits_10 : decode c_M_fits 10 = .ok (.iload_n 2, 1) := by decide +kernel
theorem d_M_fits_11 : decode c_M_fits 11 = .ok (.iload_n 3, 1) := by decide +kernel
theorem d_M_fits_12 : decode c_M_fits 12 = .ok (.iload 4, 2) := by decide +kernel
theorem d_M_fits_14 : decode c_M_fits 14 = .ok (.invokevirtual 158, 3) := by decide +kernel
theorem d_M_fits_17 : decode c_M_fits 17 = .ok (.ifCond .eq 7, 3) := by decide +kernel
theorem d_M_fits_20 : decode c_M_fits 20 = .ok (.iconst 0, 1) := by decide +kernel
theorem d_M_fits_21 : decode c_M_fits 21 = .ok (.goto 4, 3) := by decide +kernel
theorem d_M_fits_24 : decode c_M_fits 24 = .ok (.iconst 1, 1) := by decide +kernel
theorem d_M_fits_25 : decode c_M_fits 25 = .ok (.putfield 79, 3) := by decide +kernel
theorem d_M_fits_28 : decode c_M_fits 28 = .ok (.aload_n 0, 1) := by decide +kernel
theorem d_M_fits_29 : decode c_M_fits 29 = .ok (.getfield 79, 3) := by decide +kernel
theorem d_M_fits_32 : decode c_M_fits 32 = .ok (.ifCond .ne 19, 3) := by decide +kernel
theorem d_M_fits_35 : decode c_M_fits 35 = .ok (.aload_n 0, 1) := by decide +kernel
theorem d_M_fits_36 : decode c_M_fits 36 = .ok (.iload_n 1, 1) := by decide +kernel
theorem d_M_fits_37 : decode c_M_fits 37 = .ok (.iload_n 2, 1) := by decide +kernel
theorem d_M_fits_38 : decode c_M_fits 38 = .ok (.iload_n 3, 1) := by decide +kernel
theorem d_M_fits_39 : decode c_M_fits 39 = .ok (.iload 4, 2) := by decide +kernel
theorem d_M_fits_41 : decode c_M_fits 41 = .ok (.invokevirtual 161, 3) := by decide +kernel
theorem d_M_fits_44 : decode c_M_fits 44 = .ok (.ifCond .eq 7, 3) := by decide +kernel
theorem d_M_fits_47 : decode c_M_fits 47 = .ok (.iconst 1, 1) := by decide +kernel
theorem d_M_fits_48 : decode c_M_fits 48 = .ok (.goto 4, 3) := by decide +kernel
theorem d_M_fits_51 : decode c_M_fits 51 = .ok (.iconst 0, 1) := by decide +kernel
theorem d_M_fits_52 : decode c_M_fits 52 = .ok (.ireturn, 1) := by decide +kernel
theorem d_M_search_0 : decode c_M_search 0 = .ok (.iconst 0, 1) := by decide +kernel
theorem d_M_search_1 : decode c_M_search 1 = .ok (.istore_n 2, 1) := by decide +kernel
theorem d_M_search_2 : decode c_M_search 2 = .ok (.iload_n 2, 1) := by decide +kernel
theorem d_M_search_3 : decode c_M_search 3 = .ok (.bipush 30, 2) := by decide +kernel
theorem d_M_search_5 : decode c_M_search 5 = .ok (.if_icmp .gt 64, 3) := by decide +kernel
theorem d_M_search_8 : decode c_M_search 8 = .ok (.iconst 0, 1) := by decide +kernel
theorem d_M_search_9 : decode c_M_search 9 = .ok (.istore_n 3, 1) := by decide +kernel
theorem d_M_search_10 : decode c_M_search 10 = .ok (.iload_n 3, 1) := by decide +kernel
theorem d_M_search_11 : decode c_M_search 11 = .ok (.bipush 30, 2) := by decide +kernel
theorem d_M_search_13 : decode c_M_search 13 = .ok (.if_icmp .gt 50, 3) := by decide +kernel
theorem d_M_search_16 : decode c_M_search 16 = .ok (.iconst 0, 1) := by decide +kernel
theorem d_M_search_17 : decode c_M_search 17 = .ok (.istore 4, 2) := by decide +kernel
theorem d_M_search_19 : decode c_M_search 19 = .ok (.iload 4, 2) := by decide +kernel
theorem d_M_search_21 : decode c_M_search 21 = .ok (.iconst 4, 1) := by decide +kernel
theorem d_M_search_22 : decode c_M_search 22 = .ok (.if_icmp .ge 35, 3) := by decide +kernel
theorem d_M_search_25 : decode c_M_search 25 = .ok (.aload_n 0, 1) := by decide +kernel
theorem d_M_search_26 : decode c_M_search 26 = .ok (.iload_n 1, 1) := by decide +kernel
theorem d_M_search_27 : decode c_M_search 27 = .ok (.iload_n 3, 1) := by decide +kernel
theorem d_M_search_28 : decode c_M_search 28 = .ok (.iload_n 2, 1) := by decide +kernel
theorem d_M_search_29 : decode c_M_search 29 = .ok (.iload 4, 2) := by decide +kernel
theorem d_M_search_31 : decode c_M_search 31 = .ok (.invokevirtual 161, 3) := by decide +kernel
theorem d_M_search_34 : decode c_M_search 34 = .ok (.ifCond .eq 17, 3) := by decide +kernel
theorem d_M_search_37 : decode c_M_search 37 = .ok (.iload_n 3, 1) := by decide +kernel
theorem d_M_search_38 : decode c_M_search 38 = .ok (.bipush 32, 2) := by decide +kernel
theorem d_M_search_40 : decode c_M_search 40 = .ok (.iload_n 2, 1) := by decide +kernel
theorem d_M_search_41 : decode c_M_search 41 = .ok (.imul, 1) := by decide +kernel
theorem d_M_search_42 : decode c_M_search 42 = .ok (.iadd, 1) := by decide +kernel
theorem d_M_search_43 : decode c_M_search 43 = .ok (.sipush 1024, 3) := by decide +kernel
theorem d_M_search_46 : decode c_M_search 46 = .ok (.iload 4, 2) := by decide +kernel
theorem d_M_search_48 : decode c_M_search 48 = .ok (.imul, 1) := by decide +kernel
theorem d_M_search_49 : decode c_M_search 49 = .ok (.iadd, 1) := by decide +kernel
theorem d_M_search_50 : decode c_M_search 50 = .ok (.ireturn, 1) := by decide +kernel
theorem d_M_search_51 : decode c_M_search 51 = .ok (.iinc 4 1, 3) := by decide +kernel
theorem d_M_search_54 : decode c_M_search 54 = .ok (.goto (-35), 3) := by decide +kernel
theorem d_M_search_57 : decode c_M_search 57 = .ok (.iinc 3 1, 3) := by decide +kernel
theorem d_M_search_60 : decode c_M_search 60 = .ok (.goto (-50), 3) := by decide +kernel
theorem d_M_search_63 : decode c_M_search 63 = .ok (.iinc 2 1, 3) := by decide +kernel
theorem d_M_search_66 : decode c_M_search 66 = .ok (.goto (-64), 3) := by decide +kernel
theorem d_M_search_69 : decode c_M_search 69 = .ok (.iconst (-1), 1) := by decide +kernel
theorem d_M_search_70 : decode c_M_search 70 = .ok (.ireturn, 1) := by decide +kernel
theorem d_M_best_0 : decode c_M_best 0 = .ok (.aload_n 0, 1) := by decide +kernel
theorem d_M_best_1 : decode c_M_best 1 = .ok (.aload_n 0, 1) := by decide +kernel
theorem d_M_best_2 : decode c_M_best 2 = .ok (.iload_n 1, 1) := by decide +kernel
theorem d_M_best_3 : decode c_M_best 3 = .ok (.invokevirtual 155, 3) := by decide +kernel
theorem d_M_best_6 : decode c_M_best 6 = .ok (.ifCond .eq 7, 3) := by decide +kernel
theorem d_M_best_9 : decode c_M_best 9 = .ok (.iconst 0, 1) := by decide +kernel
theorem d_M_best_10 : decode c_M_best 10 = .ok (.goto 4, 3) := by decide +kernel
theorem d_M_best_13 : decode c_M_best 13 = .ok (.iconst 1, 1) := by decide +kernel
theorem d_M_best_14 : decode c_M_best 14 = .ok (.putfield 79, 3) := by decide +kernel
theorem d_M_best_17 : decode c_M_best 17 = .ok (.aload_n 0, 1) := by decide +kernel
theorem d_M_best_18 : decode c_M_best 18 = .ok (.getfield 79, 3) := by decide +kernel
theorem d_M_best_21 : decode c_M_best 21 = .ok (.ifCond .le 5, 3) := by decide +kernel
theorem d_M_best_24 : decode c_M_best 24 = .ok (.iconst 0, 1) := by decide +kernel
theorem d_M_best_25 : decode c_M_best 25 = .ok (.ireturn, 1) := by decide +kernel
theorem d_M_best_26 : decode c_M_best 26 = .ok (.aload_n 0, 1) := by decide +kernel
theorem d_M_best_27 : decode c_M_best 27 = .ok (.iload_n 1, 1) := by decide +kernel
theorem d_M_best_28 : decode c_M_best 28 = .ok (.invokevirtual 165, 3) := by decide +kernel
theorem d_M_best_31 : decode c_M_best 31 = .ok (.istore_n 2, 1) := by decide +kernel
theorem d_M_best_32 : decode c_M_best 32 = .ok (.aload_n 0, 1) := by decide +kernel
theorem d_M_best_33 : decode c_M_best 33 = .ok (.iload_n 2, 1) := by decide +kernel
theorem d_M_best_34 : decode c_M_best 34 = .ok (.ifCond .ge 7, 3) := by decide +kernel
theorem d_M_best_37 : decode c_M_best 37 = .ok (.iconst 2, 1) := by decide +kernel
theorem d_M_best_38 : decode c_M_best 38 = .ok (.goto 4, 3) := by decide +kernel
theorem d_M_best_41 : decode c_M_best 41 = .ok (.iconst 0, 1) := by decide +kernel
theorem d_M_best_42 : decode c_M_best 42 = .ok (.putfield 79, 3) := by decide +kernel
theorem d_M_best_45 : decode c_M_best 45 = .ok (.aload_n 0, 1) := by decide +kernel
theorem d_M_best_46 : decode c_M_best 46 = .ok (.getfield 79, 3) := by decide +kernel
theorem d_M_best_49 : decode c_M_best 49 = .ok (.ifCond .le 7, 3) := by decide +kernel
theorem d_M_best_52 : decode c_M_best 52 = .ok (.iconst 0, 1) := by decide +kernel
theorem d_M_best_53 : decode c_M_best 53 = .ok (.goto 4, 3) := by decide +kernel
theorem d_M_best_56 : decode c_M_best 56 = .ok (.iload_n 2, 1) := by decide +kernel
theorem d_M_best_57 : decode c_M_best 57 = .ok (.ireturn, 1) := by decide +kernel
theorem d_M_place_0 : decode c_M_place 0 = .ok (.iconst 0, 1) := by decide +kernel
theorem d_M_place_1 : decode c_M_place 1 = .ok (.istore 5, 2) := by decide +kernel
theorem d_M_place_3 : decode c_M_place 3 = .ok (.aload_n 0, 1) := by decide +kernel
theorem d_M_place_4 : decode c_M_place 4 = .ok (.getfield 49, 3) := by decide +kernel
theorem d_M_place_7 : decode c_M_place 7 = .ok (.iload 5, 2) := by decide +kernel
theorem d_M_place_9 : decode c_M_place 9 = .ok (.iaload, 1) := by decide +kernel
theorem d_M_place_10 : decode c_M_place 10 = .ok (.ifCond .lt 9, 3) := by decide +kernel
theorem d_M_place_13 : decode c_M_place 13 = .ok (.iinc 5 1, 3) := by decide +kernel
theorem d_M_place_16 : decode c_M_place 16 = .ok (.goto (-13), 3) := by decide +kernel
theorem d_M_place_19 : decode c_M_place 19 = .ok (.aload_n 0, 1) := by decide +kernel
theorem d_M_place_20 : decode c_M_place 20 = .ok (.iload_n 1, 1) := by decide +kernel
theorem d_M_place_21 : decode c_M_place 21 = .ok (.iload 4, 2) := by decide +kernel
theorem d_M_place_23 : decode c_M_place 23 = .ok (.iload_n 2, 1) := by decide +kernel
theorem d_M_place_24 : decode c_M_place 24 = .ok (.iload_n 3, 1) := by decide +kernel
theorem d_M_place_25 : decode c_M_place 25 = .ok (.invokevirtual 142, 3) := by decide +kernel
theorem d_M_place_28 : decode c_M_place 28 = .ok (.aload_n 0, 1) := by decide +kernel
theorem d_M_place_29 : decode c_M_place 29 = .ok (.getfield 49, 3) := by decide +kernel
theorem d_M_place_32 : decode c_M_place 32 = .ok (.iload 5, 2) := by decide +kernel
theorem d_M_place_34 : decode c_M_place 34 = .ok (.iload_n 1, 1) := by decide +kernel
theorem d_M_place_35 : decode c_M_place 35 = .ok (.iastore, 1) := by decide +kernel
theorem d_M_place_36 : decode c_M_place 36 = .ok (.aload_n 0, 1) := by decide +kernel
theorem d_M_place_37 : decode c_M_place 37 = .ok (.getfield 52, 3) := by decide +kernel
theorem d_M_place_40 : decode c_M_place 40 = .ok (.iload 5, 2) := by decide +kernel
theorem d_M_place_42 : decode c_M_place 42 = .ok (.iload_n 2, 1) := by decide +kernel
theorem d_M_place_43 : decode c_M_place 43 = .ok (.iastore, 1) := by decide +kernel
theorem d_M_place_44 : decode c_M_place 44 = .ok (.aload_n 0, 1) := by decide +kernel
theorem d_M_place_45 : decode c_M_place 45 = .ok (.getfield 55, 3) := by decide +kernel
theorem d_M_place_48 : decode c_M_place 48 = .ok (.iload 5, 2) := by decide +kernel
theorem d_M_place_50 : decode c_M_place 50 = .ok (.iload_n 3, 1) := by decide +kernel
theorem d_M_place_51 : decode c_M_place 51 = .ok (.iastore, 1) := by decide +kernel
theorem d_M_place_52 : decode c_M_place 52 = .ok (.aload_n 0, 1) := by decide +kernel
theorem d_M_place_53 : decode c_M_place 53 = .ok (.getfield 58, 3) := by decide +kernel
theorem d_M_place_56 : decode c_M_place 56 = .ok (.iload 5, 2) := by decide +kernel
theorem d_M_place_58 : decode c_M_place 58 = .ok (.iload 4, 2) := by decide +kernel
theorem d_M_place_60 : decode c_M_place 60 = .ok (.iastore, 1) := by decide +kernel
theorem d_M_place_61 : decode c_M_place 61 = .ok (.iconst 0, 1) := by decide +kernel
theorem d_M_place_62 : decode c_M_place 62 = .ok (.istore 6, 2) := by decide +kernel
theorem d_M_place_64 : decode c_M_place 64 = .ok (.iload 6, 2) := by decide +kernel
theorem d_M_place_66 : decode c_M_place 66 = .ok (.aload_n 0, 1) := by decide +kernel
theorem d_M_place_67 : decode c_M_place 67 = .ok (.getfield 124, 3) := by decide +kernel
theorem d_M_place_70 : decode c_M_place 70 = .ok (.if_icmp .ge 49, 3) := by decide +kernel
theorem d_M_place_73 : decode c_M_place 73 = .ok (.aload_n 0, 1) := by decide +kernel
theorem d_M_place_74 : decode c_M_place 74 = .ok (.getfield 61, 3) := by decide +kernel
theorem d_M_place_77 : decode c_M_place 77 = .ok (.bipush 6, 2) := by decide +kernel
theorem d_M_place_79 : decode c_M_place 79 = .ok (.iload 5, 2) := by decide +kernel
theorem d_M_place_81 : decode c_M_place 81 = .ok (.imul, 1) := by decide +kernel
theorem d_M_place_82 : decode c_M_place 82 = .ok (.iload 6, 2) := by decide +kernel
theorem d_M_place_84 : decode c_M_place 84 = .ok (.iadd, 1) := by decide +kernel
theorem d_M_place_85 : decode c_M_place 85 = .ok (.aload_n 0, 1) := by decide +kernel
theorem d_M_place_86 : decode c_M_place 86 = .ok (.getfield 67, 3) := by decide +kernel
theorem d_M_place_89 : decode c_M_place 89 = .ok (.iload 6, 2) := by decide +kernel
theorem d_M_place_91 : decode c_M_place 91 = .ok (.iaload, 1) := by decide +kernel
theorem d_M_place_92 : decode c_M_place 92 = .ok (.iastore, 1) := by decide +kernel
theorem d_M_place_93 : decode c_M_place 93 = .ok (.aload_n 0, 1) := by decide +kernel
theorem d_M_place_94 : decode c_M_place 94 = .ok (.getfield 64, 3) := by decide +kernel
theorem d_M_place_97 : decode c_M_place 97 = .ok (.bipush 6, 2) := by decide +kernel
theorem d_M_place_99 : decode c_M_place 99 = .ok (.iload 5, 2) := by decide +kernel
theorem d_M_place_101 : decode c_M_place 101 = .ok (.imul, 1) := by decide +kernel
theorem d_M_place_102 : decode c_M_place 102 = .ok (.iload 6, 2) := by decide +kernel
theorem d_M_place_104 : decode c_M_place 104 = .ok (.iadd, 1) := by decide +kernel
theorem d_M_place_105 : decode c_M_place 105 = .ok (.aload_n 0, 1) := by decide +kernel
theorem d_M_place_106 : decode c_M_place 106 = .ok (.getfield 70, 3) := by decide +kernel
theorem d_M_place_109 : decode c_M_place 109 = .ok (.iload 6, 2) := by decide +kernel
theorem d_M_place_111 : decode c_M_place 111 = .ok (.iaload, 1) := by decide +kernel
theorem d_M_place_112 : decode c_M_place 112 = .ok (.iastore, 1) := by decide +kernel
theorem d_M_place_113 : decode c_M_place 113 = .ok (.iinc 6 1, 3) := by decide +kernel
theorem d_M_place_116 : decode c_M_place 116 = .ok (.goto (-52), 3) := by decide +kernel
theorem d_M_place_119 : decode c_M_place 119 = .ok (.iload 5, 2) := by decide +kernel
theorem d_M_place_121 : decode c_M_place 121 = .ok (.ireturn, 1) := by decide +kernel
theorem d_M_lay_0 : decode c_M_lay 0 = .ok (.aload_n 0, 1) := by decide +kernel
theorem d_M_lay_1 : decode c_M_lay 1 = .ok (.aload_n 0, 1) := by decide +kernel
theorem d_M_lay_2 : decode c_M_lay 2 = .ok (.iload_n 1, 1) := by decide +kernel
theorem d_M_lay_3 : decode c_M_lay 3 = .ok (.invokevirtual 155, 3) := by decide +kernel
theorem d_M_lay_6 : decode c_M_lay 6 = .ok (.ifCond .ne 7, 3) := by decide +kernel
theorem d_M_lay_9 : decode c_M_lay 9 = .ok (.iconst 1, 1) := by decide +kernel
theorem d_M_lay_10 : decode c_M_lay 10 = .ok (.goto 17, 3) := by decide +kernel
theorem d_M_lay_13 : decode c_M_lay 13 = .ok (.aload_n 0, 1) := by decide +kernel
theorem d_M_lay_14 : decode c_M_lay 14 = .ok (.invokevirtual 100, 3) := by decide +kernel
theorem d_M_lay_17 : decode c_M_lay 17 = .ok (.bipush 12, 2) := by decide +kernel
theorem d_M_lay_19 : decode c_M_lay 19 = .ok (.if_icmp .ne 7, 3) := by decide +kernel
theorem d_M_lay_22 : decode c_M_lay 22 = .ok (.iconst 2, 1) := by decide +kernel
theorem d_M_lay_23 : decode c_M_lay 23 = .ok (.goto 4, 3) := by decide +kernel
theorem d_M_lay_26 : decode c_M_lay 26 = .ok (.iconst 0, 1) := by decide +kernel
theorem d_M_lay_27 : decode c_M_lay 27 = .ok (.putfield 79, 3) := by decide +kernel
theorem d_M_lay_30 : decode c_M_lay 30 = .ok (.aload_n 0, 1) := by decide +kernel
theorem d_M_lay_31 : decode c_M_lay 31 = .ok (.getfield 79, 3) := by decide +kernel
theorem d_M_lay_34 : decode c_M_lay 34 = .ok (.ifCond .le 5, 3) := by decide +kernel
theorem d_M_lay_37 : decode c_M_lay 37 = .ok (.iconst 0, 1) := by decide +kernel
theorem d_M_lay_38 : decode c_M_lay 38 = .ok (.ireturn, 1) := by decide +kernel
theorem d_M_lay_39 : decode c_M_lay 39 = .ok (.aload_n 0, 1) := by decide +kernel
theorem d_M_lay_40 : decode c_M_lay 40 = .ok (.iload_n 1, 1) := by decide +kernel
theorem d_M_lay_41 : decode c_M_lay 41 = .ok (.invokevirtual 165, 3) := by decide +kernel
