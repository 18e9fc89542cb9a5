theorem d_M_isRound_112 : decode c_M_isRound 112 = .ok (.imul, 1) := by decide +kernel
theorem d_M_isRound_113 : decode c_M_isRound 113 = .ok (.if_icmp .ne 7, 3) := by decide +kernel
theorem d_M_isRound_116 : decode c_M_isRound 116 = .ok (.iconst 1, 1) := by decide +kernel
theorem d_M_isRound_117 : decode c_M_isRound 117 = .ok (.goto 4, 3) := by decide +kernel
theorem d_M_isRound_120 : decode c_M_isRound 120 = .ok (.iconst 0, 1) := by decide +kernel
theorem d_M_isRound_121 : decode c_M_isRound 121 = .ok (.ireturn, 1) := by decide +kernel
theorem d_M_hide_0 : decode c_M_hide 0 = .ok (.aload_n 0, 1) := by decide +kernel
theorem d_M_hide_1 : decode c_M_hide 1 = .ok (.aload_n 0, 1) := by decide +kernel
theorem d_M_hide_2 : decode c_M_hide 2 = .ok (.invokevirtual 100, 3) := by decide +kernel
theorem d_M_hide_5 : decode c_M_hide 5 = .ok (.ifCond .le 7, 3) := by decide +kernel
theorem d_M_hide_8 : decode c_M_hide 8 = .ok (.iconst 1, 1) := by decide +kernel
theorem d_M_hide_9 : decode c_M_hide 9 = .ok (.goto 4, 3) := by decide +kernel
theorem d_M_hide_12 : decode c_M_hide 12 = .ok (.iconst 0, 1) := by decide +kernel
theorem d_M_hide_13 : decode c_M_hide 13 = .ok (.putfield 79, 3) := by decide +kernel
theorem d_M_hide_16 : decode c_M_hide 16 = .ok (.aload_n 0, 1) := by decide +kernel
theorem d_M_hide_17 : decode c_M_hide 17 = .ok (.getfield 79, 3) := by decide +kernel
theorem d_M_hide_20 : decode c_M_hide 20 = .ok (.ifCond .le 4, 3) := by decide +kernel
theorem d_M_hide_23 : decode c_M_hide 23 = .ok (.return_, 1) := by decide +kernel
theorem d_M_hide_24 : decode c_M_hide 24 = .ok (.aload_n 0, 1) := by decide +kernel
theorem d_M_hide_25 : decode c_M_hide 25 = .ok (.getfield 83, 3) := by decide +kernel
theorem d_M_hide_28 : decode c_M_hide 28 = .ok (.istore_n 1, 1) := by decide +kernel
theorem d_M_hide_29 : decode c_M_hide 29 = .ok (.aload_n 0, 1) := by decide +kernel
theorem d_M_hide_30 : decode c_M_hide 30 = .ok (.iconst 0, 1) := by decide +kernel
theorem d_M_hide_31 : decode c_M_hide 31 = .ok (.putfield 83, 3) := by decide +kernel
theorem d_M_hide_34 : decode c_M_hide 34 = .ok (.aload_n 0, 1) := by decide +kernel
theorem d_M_hide_35 : decode c_M_hide 35 = .ok (.iload_n 1, 1) := by decide +kernel
theorem d_M_hide_36 : decode c_M_hide 36 = .ok (.iconst 3, 1) := by decide +kernel
theorem d_M_hide_37 : decode c_M_hide 37 = .ok (.if_icmp .lt 11, 3) := by decide +kernel
theorem d_M_hide_40 : decode c_M_hide 40 = .ok (.aload_n 0, 1) := by decide +kernel
theorem d_M_hide_41 : decode c_M_hide 41 = .ok (.iload_n 1, 1) := by decide +kernel
theorem d_M_hide_42 : decode c_M_hide 42 = .ok (.invokevirtual 104, 3) := by decide +kernel
theorem d_M_hide_45 : decode c_M_hide 45 = .ok (.ifCond .ne 7, 3) := by decide +kernel
theorem d_M_hide_48 : decode c_M_hide 48 = .ok (.iconst 2, 1) := by decide +kernel
theorem d_M_hide_49 : decode c_M_hide 49 = .ok (.goto 4, 3) := by decide +kernel
theorem d_M_hide_52 : decode c_M_hide 52 = .ok (.iconst 0, 1) := by decide +kernel
theorem d_M_hide_53 : decode c_M_hide 53 = .ok (.putfield 79, 3) := by decide +kernel
theorem d_M_hide_56 : decode c_M_hide 56 = .ok (.aload_n 0, 1) := by decide +kernel
theorem d_M_hide_57 : decode c_M_hide 57 = .ok (.getfield 79, 3) := by decide +kernel
theorem d_M_hide_60 : decode c_M_hide 60 = .ok (.ifCond .le 4, 3) := by decide +kernel
theorem d_M_hide_63 : decode c_M_hide 63 = .ok (.return_, 1) := by decide +kernel
theorem d_M_hide_64 : decode c_M_hide 64 = .ok (.aload_n 0, 1) := by decide +kernel
theorem d_M_hide_65 : decode c_M_hide 65 = .ok (.iload_n 1, 1) := by decide +kernel
theorem d_M_hide_66 : decode c_M_hide 66 = .ok (.putfield 108, 3) := by decide +kernel
theorem d_M_hide_69 : decode c_M_hide 69 = .ok (.iconst 0, 1) := by decide +kernel
theorem d_M_hide_70 : decode c_M_hide 70 = .ok (.istore_n 2, 1) := by decide +kernel
theorem d_M_hide_71 : decode c_M_hide 71 = .ok (.iload_n 2, 1) := by decide +kernel
theorem d_M_hide_72 : decode c_M_hide 72 = .ok (.iload_n 1, 1) := by decide +kernel
theorem d_M_hide_73 : decode c_M_hide 73 = .ok (.if_icmp .ge 33, 3) := by decide +kernel
theorem d_M_hide_76 : decode c_M_hide 76 = .ok (.aload_n 0, 1) := by decide +kernel
theorem d_M_hide_77 : decode c_M_hide 77 = .ok (.getfield 16, 3) := by decide +kernel
theorem d_M_hide_80 : decode c_M_hide 80 = .ok (.iload_n 2, 1) := by decide +kernel
theorem d_M_hide_81 : decode c_M_hide 81 = .ok (.aload_n 0, 1) := by decide +kernel
theorem d_M_hide_82 : decode c_M_hide 82 = .ok (.getfield 7, 3) := by decide +kernel
theorem d_M_hide_85 : decode c_M_hide 85 = .ok (.iload_n 2, 1) := by decide +kernel
theorem d_M_hide_86 : decode c_M_hide 86 = .ok (.iaload, 1) := by decide +kernel
theorem d_M_hide_87 : decode c_M_hide 87 = .ok (.iastore, 1) := by decide +kernel
theorem d_M_hide_88 : decode c_M_hide 88 = .ok (.aload_n 0, 1) := by decide +kernel
theorem d_M_hide_89 : decode c_M_hide 89 = .ok (.getfield 19, 3) := by decide +kernel
theorem d_M_hide_92 : decode c_M_hide 92 = .ok (.iload_n 2, 1) := by decide +kernel
theorem d_M_hide_93 : decode c_M_hide 93 = .ok (.aload_n 0, 1) := by decide +kernel
theorem d_M_hide_94 : decode c_M_hide 94 = .ok (.getfield 13, 3) := by decide +kernel
theorem d_M_hide_97 : decode c_M_hide 97 = .ok (.iload_n 2, 1) := by decide +kernel
theorem d_M_hide_98 : decode c_M_hide 98 = .ok (.iaload, 1) := by decide +kernel
theorem d_M_hide_99 : decode c_M_hide 99 = .ok (.iastore, 1) := by decide +kernel
theorem d_M_hide_100 : decode c_M_hide 100 = .ok (.iinc 2 1, 3) := by decide +kernel
theorem d_M_hide_103 : decode c_M_hide 103 = .ok (.goto (-32), 3) := by decide +kernel
theorem d_M_hide_106 : decode c_M_hide 106 = .ok (.return_, 1) := by decide +kernel
theorem d_M_isGrade_0 : decode c_M_isGrade 0 = .ok (.iload_n 0, 1) := by decide +kernel
theorem d_M_isGrade_1 : decode c_M_isGrade 1 = .ok (.iconst 1, 1) := by decide +kernel
theorem d_M_isGrade_2 : decode c_M_isGrade 2 = .ok (.if_icmp .lt 12, 3) := by decide +kernel
theorem d_M_isGrade_5 : decode c_M_isGrade 5 = .ok (.iload_n 0, 1) := by decide +kernel
theorem d_M_isGrade_6 : decode c_M_isGrade 6 = .ok (.iload_n 1, 1) := by decide +kernel
theorem d_M_isGrade_7 : decode c_M_isGrade 7 = .ok (.if_icmp .gt 7, 3) := by decide +kernel
theorem d_M_isGrade_10 : decode c_M_isGrade 10 = .ok (.iconst 1, 1) := by decide +kernel
theorem d_M_isGrade_11 : decode c_M_isGrade 11 = .ok (.goto 4, 3) := by decide +kernel
theorem d_M_isGrade_14 : decode c_M_isGrade 14 = .ok (.iconst 0, 1) := by decide +kernel
theorem d_M_isGrade_15 : decode c_M_isGrade 15 = .ok (.ireturn, 1) := by decide +kernel
theorem d_M_zone_0 : decode c_M_zone 0 = .ok (.aload_n 0, 1) := by decide +kernel
theorem d_M_zone_1 : decode c_M_zone 1 = .ok (.iload_n 1, 1) := by decide +kernel
theorem d_M_zone_2 : decode c_M_zone 2 = .ok (.iconst 3, 1) := by decide +kernel
theorem d_M_zone_3 : decode c_M_zone 3 = .ok (.invokestatic 111, 3) := by decide +kernel
theorem d_M_zone_6 : decode c_M_zone 6 = .ok (.ifCond .eq 7, 3) := by decide +kernel
theorem d_M_zone_9 : decode c_M_zone 9 = .ok (.iconst 0, 1) := by decide +kernel
theorem d_M_zone_10 : decode c_M_zone 10 = .ok (.goto 4, 3) := by decide +kernel
theorem d_M_zone_13 : decode c_M_zone 13 = .ok (.iconst 1, 1) := by decide +kernel
theorem d_M_zone_14 : decode c_M_zone 14 = .ok (.putfield 79, 3) := by decide +kernel
theorem d_M_zone_17 : decode c_M_zone 17 = .ok (.aload_n 0, 1) := by decide +kernel
theorem d_M_zone_18 : decode c_M_zone 18 = .ok (.getfield 79, 3) := by decide +kernel
theorem d_M_zone_21 : decode c_M_zone 21 = .ok (.ifCond .le 5, 3) := by decide +kernel
theorem d_M_zone_24 : decode c_M_zone 24 = .ok (.iconst 0, 1) := by decide +kernel
theorem d_M_zone_25 : decode c_M_zone 25 = .ok (.ireturn, 1) := by decide +kernel
theorem d_M_zone_26 : decode c_M_zone 26 = .ok (.aload_n 0, 1) := by decide +kernel
theorem d_M_zone_27 : decode c_M_zone 27 = .ok (.getfield 83, 3) := by decide +kernel
theorem d_M_zone_30 : decode c_M_zone 30 = .ok (.istore_n 2, 1) := by decide +kernel
theorem d_M_zone_31 : decode c_M_zone 31 = .ok (.aload_n 0, 1) := by decide +kernel
theorem d_M_zone_32 : decode c_M_zone 32 = .ok (.iconst 0, 1) := by decide +kernel
theorem d_M_zone_33 : decode c_M_zone 33 = .ok (.putfield 83, 3) := by decide +kernel
theorem d_M_zone_36 : decode c_M_zone 36 = .ok (.aload_n 0, 1) := by decide +kernel
theorem d_M_zone_37 : decode c_M_zone 37 = .ok (.iload_n 2, 1) := by decide +kernel
theorem d_M_zone_38 : decode c_M_zone 38 = .ok (.iconst 3, 1) := by decide +kernel
theorem d_M_zone_39 : decode c_M_zone 39 = .ok (.if_icmp .lt 17, 3) := by decide +kernel
theorem d_M_zone_42 : decode c_M_zone 42 = .ok (.iload_n 2, 1) := by decide +kernel
theorem d_M_zone_43 : decode c_M_zone 43 = .ok (.bipush 6, 2) := by decide +kernel
theorem d_M_zone_45 : decode c_M_zone 45 = .ok (.if_icmp .gt 11, 3) := by decide +kernel
theorem d_M_zone_48 : decode c_M_zone 48 = .ok (.aload_n 0, 1) := by decide +kernel
theorem d_M_zone_49 : decode c_M_zone 49 = .ok (.iload_n 2, 1) := by decide +kernel
theorem d_M_zone_50 : decode c_M_zone 50 = .ok (.invokevirtual 115, 3) := by decide +kernel
theorem d_M_zone_53 : decode c_M_zone 53 = .ok (.ifCond .ne 7, 3) := by decide +kernel
theorem d_M_zone_56 : decode c_M_zone 56 = .ok (.iconst 1, 1) := by decide +kernel
theorem d_M_zone_57 : decode c_M_zone 57 = .ok (.goto 23, 3) := by decide +kernel
theorem d_M_zone_60 : decode c_M_zone 60 = .ok (.aload_n 0, 1) := by decide +kernel
theorem d_M_zone_61 : decode c_M_zone 61 = .ok (.getfield 118, 3) := by decide +kernel
theorem d_M_zone_64 : decode c_M_zone 64 = .ok (.iconst 5, 1) := by decide +kernel
theorem d_M_zone_65 : decode c_M_zone 65 = .ok (.if_icmp .eq 10, 3) := by decide +kernel
theorem d_M_zone_68 : decode c_M_zone 68 = .ok (.aload_n 0, 1) := by decide +kernel
theorem d_M_zone_69 : decode c_M_zone 69 = .ok (.invokevirtual 100, 3) := by decide +kernel
theorem d_M_zone_72 : decode c_M_zone 72 = .ok (.ifCond .le 7, 3) := by decide +kernel
theorem d_M_zone_75 : decode c_M_zone 75 = .ok (.iconst 2, 1) := by decide +kernel
theorem d_M_zone_76 : decode c_M_zone 76 = .ok (.goto 4, 3) := by decide +kernel
theorem d_M_zone_79 : decode c_M_zone 79 = .ok (.iconst 0, 1) := by decide +kernel
theorem d_M_zone_80 : decode c_M_zone 80 = .ok (.putfield 79, 3) := by decide +kernel
theorem d_M_zone_83 : decode c_M_zone 83 = .ok (.aload_n 0, 1) := by decide +kernel
theorem d_M_zone_84 : decode c_M_zone 84 = .ok (.getfield 79, 3) := by decide +kernel
theorem d_M_zone_87 : decode c_M_zone 87 = .ok (.ifCond .le 5, 3) := by decide +kernel
theorem d_M_zone_90 : decode c_M_zone 90 = .ok (.iconst 0, 1) := by decide +kernel
theorem d_M_zone_91 : decode c_M_zone 91 = .ok (.ireturn, 1) := by decide +kernel
theorem d_M_zone_92 : decode c_M_zone 92 = .ok (.iconst 0, 1) := by decide +kernel
theorem d_M_zone_93 : decode c_M_zone 93 = .ok (.istore_n 3, 1) := by decide +kernel
theorem d_M_zone_94 : decode c_M_zone 94 = .ok (.iload_n 3, 1) := by decide +kernel
theorem d_M_zone_95 : decode c_M_zone 95 = .ok (.iload_n 2, 1) := by decide +kernel
theorem d_M_zone_96 : decode c_M_zone 96 = .ok (.if_icmp .ge 49, 3) := by decide +kernel
theorem d_M_zone_99 : decode c_M_zone 99 = .ok (.aload_n 0, 1) := by decide +kernel
theorem d_M_zone_100 : decode c_M_zone 100 = .ok (.getfield 22, 3) := by decide +kernel
theorem d_M_zone_103 : decode c_M_zone 103 = .ok (.bipush 6, 2) := by decide +kernel
theorem d_M_zone_105 : decode c_M_zone 105 = .ok (.aload_n 0, 1) := by decide +kernel
theorem d_M_zone_106 : decode c_M_zone 106 = .ok (.getfield 118, 3) := by decide +kernel
theorem d_M_zone_109 : decode c_M_zone 109 = .ok (.imul, 1) := by decide +kernel
theorem d_M_zone_110 : decode c_M_zone 110 = .ok (.iload_n 3, 1) := by decide +kernel
theorem d_M_zone_111 : decode c_M_zone 111 = .ok (.iadd, 1) := by decide +kernel
theorem d_M_zone_112 : decode c_M_zone 112 = .ok (.aload_n 0, 1) := by decide +kernel
theorem d_M_zone_113 : decode c_M_zone 113 = .ok (.getfield 7, 3) := by decide +kernel
theorem d_M_zone_116 : decode c_M_zone 116 = .ok (.iload_n 3, 1) := by decide +kernel
theorem d_M_zone_117 : decode c_M_zone 117 = .ok (.iaload, 1) := by decide +kernel
theorem d_M_zone_118 : decode c_M_zone 118 = .ok (.iastore, 1) := by decide +kernel
theorem d_M_zone_119 : decode c_M_zone 119 = .ok (.aload_n 0, 1) := by decide +kernel
theorem d_M_zone_120 : decode c_M_zone 120 = .ok (.getfield 25, 3) := by decide +kernel
theorem d_M_zone_123 : decode c_M_zone 123 = .ok (.bipush 6, 2) := by decide +kernel
theorem d_M_zone_125 : decode c_M_zone 125 = .ok (.aload_n 0, 1) := by decide +kernel
theorem d_M_zone_126 : decode c_M_zone 126 = .ok (.getfield 118, 3) := by decide +kernel
theorem d_M_zone_129 : decode c_M_zone 129 = .ok (.imul, 1) := by decide +kernel
theorem d_M_zone_130 : decode c_M_zone 130 = .ok (.iload_n 3, 1) := by decide +kernel
theorem d_M_zone_131 : decode c_M_zone 131 = .ok (.iadd, 1) := by decide +kernel
theorem d_M_zone_132 : decode c_M_zone 132 = .ok (.aload_n 0, 1) := by decide +kernel
theorem d_M_zone_133 : decode c_M_zone 133 = .ok (.getfield 13, 3) := by decide +kernel
theorem d_M_zone_136 : decode c_M_zone 136 = .ok (.iload_n 3, 1) := by decide +kernel
theorem d_M_zone_137 : decode c_M_zone 137 = .ok (.iaload, 1) := by decide +kernel
theorem d_M_zone_138 : decode c_M_zone 138 = .ok (.iastore, 1) := by decide +kernel
theorem d_M_zone_139 : decode c_M_zone 139 = .ok (.iinc 3 1, 3) := by decide +kernel
theorem d_M_zone_142 : decode c_M_zone 142 = .ok (.goto (-48), 3) := by decide +kernel
theorem d_M_zone_145 : decode c_M_zone 145 = .ok (.aload_n 0, 1) := by decide +kernel
theorem d_M_zone_146 : decode c_M_zone 146 = .ok (.getfield 28, 3) := by decide +kernel
theorem d_M_zone_149 : decode c_M_zone 149 = .ok (.aload_n 0, 1) := by decide +kernel
theorem d_M_zone_150 : decode c_M_zone 150 = .ok (.getfield 118, 3) := by decide +kernel
theorem d_M_zone_153 : decode c_M_zone 153 = .ok (.iload_n 2, 1) := by decide +kernel
theorem d_M_zone_154 : decode c_M_zone 154 = .ok (.iastore, 1) := by decide +kernel
theorem d_M_zone_155 : decode c_M_zone 155 = .ok (.aload_n 0, 1) := by decide +kernel
theorem d_M_zone_156 : decode c_M_zone 156 = .ok (.getfield 31, 3) := by decide +kernel
theorem d_M_zone_159 : decode c_M_zone 159 = .ok (.aload_n 0, 1) := by decide +kernel
theorem d_M_zone_160 : decode c_M_zone 160 = .ok (.getfield 118, 3) := by decide +kernel
theorem d_M_zone_163 : decode c_M_zone 163 = .ok (.iload_n 1, 1) := by decide +kernel
theorem d_M_zone_164 : decode c_M_zone 164 = .ok (.iastore, 1) := by decide +kernel
theorem d_M_zone_165 : decode c_M_zone 165 = .ok (.aload_n 0, 1) := by decide +kernel
theorem d_M_zone_166 : decode c_M_zone 166 = .ok (.dup, 1) := by decide +kernel
theorem d_M_zone_167 : decode c_M_zone 167 = .ok (.getfield 118, 3) := by decide +kernel
theorem d_M_zone_170 : decode c_M_zone 170 = .ok (.iconst 1, 1) := by decide +kernel
theorem d_M_zone_171 : decode c_M_zone 171 = .ok (.iadd, 1) := by decide +kernel
theorem d_M_zone_172 : decode c_M_zone 172 = .ok (.putfield 118, 3) := by decide +kernel
theorem d_M_zone_175 : decode c_M_zone 175 = .ok (.aload_n 0, 1) := by decide +kernel
theorem d_M_zone_176 : decode c_M_zone 176 = .ok (.getfield 118, 3) := by decide +kernel
theorem d_M_zone_179 : decode c_M_zone 179 = .ok (.ireturn, 1) := by decide +kernel
theorem d_M_clear_0 : decode c_M_clear 0 = .ok (.aload_n 0, 1) := by decide +kernel
theorem d_M_clear_1 : decode c_M_clear 1 = .ok (.aload_n 0, 1) := by decide +kernel
theorem d_M_clear_2 : decode c_M_clear 2 = .ok (.invokevirtual 100, 3) := by decide +kernel
theorem d_M_clear_5 : decode c_M_clear 5 = .ok (.ifCond .le 7, 3) := by decide +kernel
theorem d_M_clear_8 : decode c_M_clear 8 = .ok (.iconst 1, 1) := by decide +kernel
theorem d_M_clear_9 : decode c_M_clear 9 = .ok (.goto 4, 3) := by decide +kernel
theorem d_M_clear_12 : decode c_M_clear 12 = .ok (.iconst 0, 1) := by decide +kernel
theorem d_M_clear_13 : decode c_M_clear 13 = .ok (.putfield 79, 3) := by decide +kernel
theorem d_M_clear_16 : decode c_M_clear 16 = .ok (.aload_n 0, 1) := by decide +kernel
theorem d_M_clear_17 : decode c_M_clear 17 = .ok (.aload_n 0, 1) := by decide +kernel
theorem d_M_clear_18 : decode c_M_clear 18 = .ok (.getfield 79, 3) := by decide +kernel
theorem d_M_clear_21 : decode c_M_clear 21 = .ok (.ifCond .le 10, 3) := by decide +kernel
theorem d_M_clear_24 : decode c_M_clear 24 = .ok (.aload_n 0, 1) := by decide +kernel
theorem d_M_clear_25 : decode c_M_clear 25 = .ok (.getfield 118, 3) := by decide +kernel
theorem d_M_clear_28 : decode c_M_clear 28 = .ok (.goto 4, 3) := by decide +kernel
theorem d_M_clear_31 : decode c_M_clear 31 = .ok (.iconst 0, 1) := by decide +kernel
theorem d_M_clear_32 : decode c_M_clear 32 = .ok (.putfield 118, 3) := by decide +kernel
theorem d_M_clear_35 : decode c_M_clear 35 = .ok (.return_, 1) := by decide +kernel
theorem d_M_kind_0 : decode c_M_kind 0 = .ok (.aload_n 0, 1) := by decide +kernel
theorem d_M_kind_1 : decode c_M_kind 1 = .ok (.iload_n 1, 1) := by decide +kernel
theorem d_M_kind_2 : decode c_M_kind 2 = .ok (.iconst 4, 1) := by decide +kernel
theorem d_M_kind_3 : decode c_M_kind 3 = .ok (.invokestatic 111, 3) := by decide +kernel
theorem d_M_kind_6 : decode c_M_kind 6 = .ok (.ifCond .eq 18, 3) := by decide +kernel
theorem d_M_kind_9 : decode c_M_kind 9 = .ok (.iload_n 2, 1) := by decide +kernel
theorem d_M_kind_10 : decode c_M_kind 10 = .ok (.iconst 1, 1) := by decide +kernel
theorem d_M_kind_11 : decode c_M_kind 11 = .ok (.if_icmp .lt 13, 3) := by decide +kernel
theorem d_M_kind_14 : decode c_M_kind 14 = .ok (.iload_n 2, 1) := by decide +kernel
theorem d_M_kind_15 : decode c_M_kind 15 = .ok (.bipush 15, 2) := by decide +kernel
theorem d_M_kind_17 : decode c_M_kind 17 = .ok (.if_icmp .gt 7, 3) := by decide +kernel
theorem d_M_kind_20 : decode c_M_kind 20 = .ok (.iconst 0, 1) := by decide +kernel
theorem d_M_kind_21 : decode c_M_kind 21 = .ok (.goto 4, 3) := by decide +kernel
theorem d_M_kind_24 : decode c_M_kind 24 = .ok (.iconst 1, 1) := by decide +kernel
theorem d_M_kind_25 : decode c_M_kind 25 = .ok (.putfield 79, 3) := by decide +kernel
theorem d_M_kind_28 : decode c_M_kind 28 = .ok (.aload_n 0, 1) := by decide +kernel
theorem d_M_kind_29 : decode c_M_kind 29 = .ok (.getfield 79, 3) := by decide +kernel
theorem d_M_kind_32 : decode c_M_kind 32 = .ok (.ifCond .le 5, 3) := by decide +kernel
theorem d_M_kind_35 : decode c_M_kind 35 = .ok (.iconst 0, 1) := by decide +kernel
theorem d_M_kind_36 : decode c_M_kind 36 = .ok (.ireturn, 1) := by decide +kernel
theorem d_M_kind_37 : decode c_M_kind 37 = .ok (.aload_n 0, 1) := by decide +kernel
theorem d_M_kind_38 : decode c_M_kind 38 = .ok (.getfield 83, 3) := by decide +kernel
theorem d_M_kind_41 : decode c_M_kind 41 = .ok (.istore_n 3, 1) := by decide +kernel
theorem d_M_kind_42 : decode c_M_kind 42 = .ok (.aload_n 0, 1) := by decide +kernel
theorem d_M_kind_43 : decode c_M_kind 43 = .ok (.iconst 0, 1) := by decide +kernel
theorem d_M_kind_44 : decode c_M_kind 44 = .ok (.putfield 83, 3) := by decide +kernel
theorem d_M_kind_47 : decode c_M_kind 47 = .ok (.iconst 1, 1) := by decide +kernel
theorem d_M_kind_48 : decode c_M_kind 48 = .ok (.istore 4, 2) := by decide +kernel
theorem d_M_kind_50 : decode c_M_kind 50 = .ok (.iconst 0, 1) := by decide +kernel
theorem d_M_kind_51 : decode c_M_kind 51 = .ok (.istore 5, 2) := by decide +kernel
theorem d_M_kind_53 : decode c_M_kind 53 = .ok (.iload 5, 2) := by decide +kernel
theorem d_M_kind_55 : decode c_M_kind 55 = .ok (.iload_n 3, 1) := by decide +kernel
theorem d_M_kind_56 : decode c_M_kind 56 = .ok (.if_icmp .ge 45, 3) := by decide +kernel
theorem d_M_kind_59 : decode c_M_kind 59 = .ok (.iload 4, 2) := by decide +kernel
theorem d_M_kind_61 : decode c_M_kind 61 = .ok (.ifCond .eq 31, 3) := by decide +kernel
theorem d_M_kind_64 : decode c_M_kind 64 = .ok (.aload_n 0, 1) := by decide +kernel
theorem d_M_kind_65 : decode c_M_kind 65 = .ok (.getfield 7, 3) := by decide +kernel
theorem d_M_kind_68 : decode c_M_kind 68 = .ok (.iload 5, 2) := by decide +kernel
theorem d_M_kind_70 : decode c_M_kind 70 = .ok (.iaload, 1) := by decide +kernel
theorem d_M_kind_71 : decode c_M_kind 71 = .ok (.bipush 12, 2) := by decide +kernel
theorem d_M_kind_73 : decode c_M_kind 73 = .ok (.if_icmp .gt 19, 3) := by decide +kernel
theorem d_M_kind_76 : decode c_M_kind 76 = .ok (.aload_n 0, 1) := by decide +kernel
theorem d_M_kind_77 : decode c_M_kind 77 = .ok (.getfield 13, 3) := by decide +kernel
theorem d_M_kind_80 : decode c_M_kind 80 = .ok (.iload 5, 2) := by decide +kernel
theorem d_M_kind_82 : decode c_M_kind 82 = .ok (.iaload, 1) := by decide +kernel
theorem d_M_kind_83 : decode c_M_kind 83 = .ok (.bipush 12, 2) := by decide +kernel
theorem d_M_kind_85 : decode c_M_kind 85 = .ok (.if_icmp .gt 7, 3) := by decide +kernel
theorem d_M_kind_88 : decode c_M_kind 88 = .ok (.iconst 1, 1) := by decide +kernel
theorem d_M_kind_89 : decode c_M_kind 89 = .ok (.goto 4, 3) := by decide +kernel
theorem d_M_kind_92 : decode c_M_kind 92 = .ok (.iconst 0, 1) := by decide +kernel
theorem d_M_kind_93 : decode c_M_kind 93 = .ok (.istore 4, 2) := by decide +kernel
theorem d_M_kind_95 : decode c_M_kind 95 = .ok (.iinc 5 1, 3) := by decide +kernel
theorem d_M_kind_98 : decode c_M_kind 98 = .ok (.goto (-45), 3) := by decide +kernel
theorem d_M_kind_101 : decode c_M_kind 101 = .ok (.aload_n 0, 1) := by decide +kernel
theorem d_M_kind_102 : decode c_M_kind 102 = .ok (.iload_n 3, 1) := by decide +kernel
theorem d_M_kind_103 : decode c_M_kind 103 = .ok (.iconst 3, 1) := by decide +kernel
theorem d_M_kind_104 : decode c_M_kind 104 = .ok (.if_icmp .lt 22, 3) := by decide +kernel
theorem d_M_kind_107 : decode c_M_kind 107 = .ok (.iload_n 3, 1) := by decide +kernel
theorem d_M_kind_108 : decode c_M_kind 108 = .ok (.bipush 6, 2) := by decide +kernel
theorem d_M_kind_110 : decode c_M_kind 110 = .ok (.if_icmp .gt 16, 3) := by decide +kernel
theorem d_M_kind_113 : decode c_M_kind 113 = .ok (.aload_n 0, 1) := by decide +kernel
theorem d_M_kind_114 : decode c_M_kind 114 = .ok (.iload_n 3, 1) := by decide +kernel
theorem d_M_kind_115 : decode c_M_kind 115 = .ok (.invokevirtual 115, 3) := by decide +kernel
theorem d_M_kind_118 : decode c_M_kind 118 = .ok (.ifCond .eq 8, 3) := by decide +kernel
theorem d_M_kind_121 : decode c_M_kind 121 = .ok (.iload 4, 2) := by decide +kernel
theorem d_M_kind_123 : decode c_M_kind 123 = .ok (.ifCond .ne 7, 3) := by decide +kernel
theorem d_M_kind_126 : decode c_M_kind 126 = .ok (.iconst 1, 1) := by decide +kernel
theorem d_M_kind_127 : decode c_M_kind 127 = .ok (.goto 17, 3) := by decide +kernel
theorem d_M_kind_130 : decode c_M_kind 130 = .ok (.aload_n 0, 1) := by decide +kernel
theorem d_M_kind_131 : decode c_M_kind 131 = .ok (.getfield 121, 3) := by decide +kernel
theorem d_M_kind_134 : decode c_M_kind 134 = .ok (.bipush 6, 2) := by decide +kernel
theorem d_M_kind_136 : decode c_M_kind 136 = .ok (.if_icmp .ne 7, 3) := by decide +kernel
theorem d_M_kind_139 : decode c_M_kind 139 = .ok (.iconst 2, 1) := by decide +kernel
theorem d_M_kind_140 : decode c_M_kind 140 = .ok (.goto 4, 3) := by decide +kernel
theorem d_M_kind_143 : decode c_M_kind 143 = .ok (.iconst 0, 1) := by decide +kernel
theorem d_M_kind_144 : decode c_M_kind 144 = .ok (.putfield 79, 3) := by decide +kernel
theorem d_M_kind_147 : decode c_M_kind 147 = .ok (.aload_n 0, 1) := by decide +kernel
theorem d_M_kind_148 : decode c_M_kind 148 = .ok (.getfield 79, 3) := by decide +kernel
theorem d_M_kind_151 : decode c_M_kind 151 = .ok (.ifCond .le 5, 3) := by decide +kernel
theorem d_M_kind_154 : decode c_M_kind 154 = .ok (.iconst 0, 1) := by decide +kernel
theorem d_M_kind_155 : decode c_M_kind 155 = .ok (.ireturn, 1) := by decide +kernel
theorem d_M_kind_156 : decode c_M_kind 156 = .ok (.iconst 0, 1) := by decide +kernel
theorem d_M_kind_157 : decode c_M_kind 157 = .ok (.istore 5, 2) := by decide +kernel
theorem d_M_kind_159 : decode c_M_kind 159 = .ok (.iload 5, 2) := by decide +kernel
theorem d_M_kind_161 : decode c_M_kind 161 = .ok (.iload_n 3, 1) := by decide +kernel
theorem d_M_kind_162 : decode c_M_kind 162 = .ok (.if_icmp .ge 53, 3) := by decide +kernel
theorem d_M_kind_165 : decode c_M_kind 165 = .ok (.aload_n 0, 1) := by decide +kernel
theorem d_M_kind_166 : decode c_M_kind 166 = .ok (.getfield 34, 3) := by decide +kernel
theorem d_M_kind_169 : decode c_M_kind 169 = .ok (.bipush 6, 2) := by decide +kernel
theorem d_M_kind_171 : decode c_M_kind 171 = .ok (.aload_n 0, 1) := by decide +kernel
theorem d_M_kind_172 : decode c_M_kind 172 = .ok (.getfield 121, 3) := by decide +kernel
theorem d_M_kind_175 : decode c_M_kind 175 = .ok (.imul, 1) := by decide +kernel
theorem d_M_kind_176 : decode c_M_kind 176 = .ok (.iload 5, 2) := by decide +kernel
theorem d_M_kind_178 : decode c_M_kind 178 = .ok (.iadd, 1) := by decide +kernel
theorem d_M_kind_179 : decode c_M_kind 179 = .ok (.aload_n 0, 1) := by decide +kernel
theorem d_M_kind_180 : decode c_M_kind 180 = .ok (.getfield 7, 3) := by decide +kernel
theorem d_M_kind_183 : decode c_M_kind 183 = .ok (.iload 5, 2) := by decide +kernel
theorem d_M_kind_185 : decode c_M_kind 185 = .ok (.iaload, 1) := by decide +kernel
theorem d_M_kind_186 : decode c_M_kind 186 = .ok (.iastore, 1) := by decide +kernel
theorem d_M_kind_187 : decode c_M_kind 187 = .ok (.aload_n 0, 1) := by decide +kernel
theorem d_M_kind_188 : decode c_M_kind 188 = .ok (.getfield 37, 3) := by decide +kernel
theorem d_M_kind_191 : decode c_M_kind 191 = .ok (.bipush 6, 2) := by decide +kernel
theorem d_M_kind_193 : decode c_M_kind 193 = .ok (.aload_n 0, 1) := by decide +kernel
theorem d_M_kind_194 : decode c_M_kind 194 = .ok (.getfield 121, 3) := by decide +kernel
theorem d_M_kind_197 : decode c_M_kind 197 = .ok (.imul, 1) := by decide +kernel
theorem d_M_kind_198 : decode c_M_kind 198 = .ok (.iload 5, 2) := by decide +kernel
theorem d_M_kind_200 : decode c_M_kind 200 = .ok (.iadd, 1) := by decide +kernel
theorem d_M_kind_201 : decode c_M_kind 201 = .ok (.aload_n 0, 1) := by decide +kernel
theorem d_M_kind_202 : decode c_M_kind 202 = .ok (.getfield 13, 3) := by decide +kernel
theorem d_M_kind_205 : decode c_M_kind 205 = .ok (.iload 5, 2) := by decide +kernel
theorem d_M_kind_207 : decode c_M_kind 207 = .ok (.iaload, 1) := by decide +kernel
theorem d_M_kind_208 : decode c_M_kind 208 = .ok (.iastore, 1) := by decide +kernel
theorem d_M_kind_209 : decode c_M_kind 209 = .ok (.iinc 5 1, 3) := by decide +kernel
theorem d_M_kind_212 : decode c_M_kind 212 = .ok (.goto (-53), 3) := by decide +kernel
theorem d_M_kind_215 : decode c_M_kind 215 = .ok (.aload_n 0, 1) := by decide +kernel
theorem d_M_kind_216 : decode c_M_kind 216 = .ok (.getfield 40, 3) := by decide +kernel
theorem d_M_kind_219 : decode c_M_kind 219 = .ok (.aload_n 0, 1) := by decide +kernel
theorem d_M_kind_220 : decode c_M_kind 220 = .ok (.getfield 121, 3) := by decide +kernel
theorem d_M_kind_223 : decode c_M_kind 223 = .ok (.iload_n 3, 1) := by decide +kernel
theorem d_M_kind_224 : decode c_M_kind 224 = .ok (.iastore, 1) := by decide +kernel
theorem d_M_kind_225 : decode c_M_kind 225 = .ok (.aload_n 0, 1) := by decide +kernel
theorem d_M_kind_226 : decode c_M_kind 226 = .ok (.getfield 43, 3) := by decide +kernel
theorem d_M_kind_229 : decode c_M_kind 229 = .ok (.aload_n 0, 1) := by decide +kernel
theorem d_M_kind_230 : decode c_M_kind 230 = .ok (.getfield 121, 3) := by decide +kernel
theorem d_M_kind_233 : decode c_M_kind 233 = .ok (.iload_n 1, 1) := by decide +kernel
theorem d_M_kind_234 : decode c_M_kind 234 = .ok (.iastore, 1) := by decide +kernel
theorem d_M_kind_235 : decode c_M_kind 235 = .ok (.aload_n 0, 1) := by decide +kernel
theorem d_M_kind_236 : decode c_M_kind 236 = .ok (.getfield 46, 3) := by decide +kernel
theorem d_M_kind_239 : decode c_M_kind 239 = .ok (.aload_n 0, 1) := by decide +kernel
theorem d_M_kind_240 : decode c_M_kind 240 = .ok (.getfield 121, 3) := by decide +kernel
theorem d_M_kind_243 : decode c_M_kind 243 = .ok (.iload_n 2, 1) := by decide +kernel
theorem d_M_kind_244 : decode c_M_kind 244 = .ok (.iastore, 1) := by decide +kernel
theorem d_M_kind_245 : decode c_M_kind 245 = .ok (.aload_n 0, 1) := by decide +kernel
theorem d_M_kind_246 : decode c_M_kind 246 = .ok (.dup, 1) := by decide +kernel
theorem d_M_kind_247 : decode c_M_kind 247 = .ok (.getfield 121, 3) := by decide +kernel
theorem d_M_kind_250 : decode c_M_kind 250 = .ok (.iconst 1, 1) := by decide +kernel
theorem d_M_kind_251 : decode c_M_kind 251 = .ok (.iadd, 1) := by decide +kernel
theorem d_M_kind_252 : decode c_M_kind 252 = .ok (.putfield 121, 3) := by decide +kernel
theorem d_M_kind_255 : decode c_M_kind 255 = .ok (.aload_n 0, 1) := by decide +kernel
theorem d_M_kind_256 : decode c_M_kind 256 = .ok (.getfield 121, 3) := by decide +kernel
theorem d_M_kind_259 : decode c_M_kind 259 = .ok (.iconst 1, 1) := by decide +kernel
theorem d_M_kind_260 : decode c_M_kind 260 = .ok (.isub, 1) := by decide +kernel
theorem d_M_kind_261 : decode c_M_kind 261 = .ok (.ireturn, 1) := by decide +kernel
theorem d_M_shape_0 : decode c_M_shape 0 = .ok (.aload_n 0, 1) := by decide +kernel
theorem d_M_shape_1 : decode c_M_shape 1 = .ok (.aload_n 0, 1) := by decide +kernel
theorem d_M_shape_2 : decode c_M_shape 2 = .ok (.getfield 40, 3) := by decide +kernel
theorem d_M_shape_5 : decode c_M_shape 5 = .ok (.iload_n 1, 1) := by decide +kernel
theorem d_M_shape_6 : decode c_M_shape 6 = .ok (.iaload, 1) := by decide +kernel
theorem d_M_shape_7 : decode c_M_shape 7 = .ok (.putfield 124, 3) := by decide +kernel
theorem d_M_shape_10 : decode c_M_shape 10 = .ok (.bipush 100, 2) := by decide +kernel
theorem d_M_shape_12 : decode c_M_shape 12 = .ok (.istore 5, 2) := by decide +kernel
theorem d_M_shape_14 : decode c_M_shape 14 = .ok (.bipush 100, 2) := by decide +kernel
theorem d_M_shape_16 : decode c_M_shape 16 = .ok (.istore 6, 2) := by decide +kernel
theorem d_M_shape_18 : decode c_M_shape 18 = .ok (.iconst 0, 1) := by decide +kernel
theorem d_M_shape_19 : decode c_M_shape 19 = .ok (.istore 7, 2) := by decide +kernel
theorem d_M_shape_21 : decode c_M_shape 21 = .ok (.iload 7, 2) := by decide +kernel
theorem d_M_shape_23 : decode c_M_shape 23 = .ok (.aload_n 0, 1) := by decide +kernel
theorem d_M_shape_24 : decode c_M_shape 24 = .ok (.getfield 124, 3) := by decide +kernel
theorem d_M_shape_27 : decode c_M_shape 27 = .ok (.if_icmp .ge 115, 3) := by decide +kernel
theorem d_M_shape_30 : decode c_M_shape 30 = .ok (.aload_n 0, 1) := by decide +kernel
theorem d_M_shape_31 : decode c_M_shape 31 = .ok (.getfield 34, 3) := by decide +kernel
theorem d_M_shape_34 : decode c_M_shape 34 = .ok (.bipush 6, 2) := by decide +kernel
theorem d_M_shape_36 : decode c_M_shape 36 = .ok (.iload_n 1, 1) := by decide +kernel
theorem d_M_shape_37 : decode c_M_shape 37 = .ok (.imul, 1) := by decide +kernel
theorem d_M_shape_38 : decode c_M_shape 38 = .ok (.iload 7, 2) := by decide +kernel
theorem d_M_shape_40 : decode c_M_shape 40 = .ok (.iadd, 1) := by decide +kernel
theorem d_M_shape_41 : decode c_M_shape 41 = .ok (.iaload, 1) := by decide +kernel
theorem d_M_shape_42 : decode c_M_shape 42 = .ok (.istore 8, 2) := by decide +kernel
theorem d_M_shape_44 : decode c_M_shape 44 = .ok (.aload_n 0, 1) := by decide +kernel
theorem d_M_shape_45 : decode c_M_shape 45 = .ok (.getfield 37, 3) := by decide +kernel
theorem d_M_shape_48 : decode c_M_shape 48 = .ok (.bipush 6, 2) := by decide +kernel
theorem d_M_shape_50 : decode c_M_shape 50 = .ok (.iload_n 1, 1) := by decide +kernel
theorem d_M_shape_51 : decode c_M_shape 51 = .ok (.imul, 1) := by decide +kernel
theorem d_M_shape_52 : decode c_M_shape 52 = .ok (.iload 7, 2) := by decide +kernel
theorem d_M_shape_54 : decode c_M_shape 54 = .ok (.iadd, 1) := by decide +kernel
theorem d_M_shape_55 : decode c_M_shape 55 = .ok (.iaload, 1) := by decide +kernel
theorem d_M_shape_56 : decode c_M_shape 56 = .ok (.istore 9, 2) := by decide +kernel
theorem d_M_shape_58 : decode c_M_shape 58 = .ok (.iconst 0, 1) := by decide +kernel
theorem d_M_shape_59 : decode c_M_shape 59 = .ok (.istore 10, 2) := by decide +kernel
theorem d_M_shape_61 : decode c_M_shape 61 = .ok (.iload 10, 2) := by decide +kernel
theorem d_M_shape_63 : decode c_M_shape 63 = .ok (.iload_n 2, 1) := by decide +kernel
theorem d_M_shape_64 : decode c_M_shape 64 = .ok (.if_icmp .ge 22, 3) := by decide +kernel
theorem d_M_shape_67 : decode c_M_shape 67 = .ok (.iload 8, 2) := by decide +kernel
theorem d_M_shape_69 : decode c_M_shape 69 = .ok (.istore 11, 2) := by decide +kernel
theorem d_M_shape_71 : decode c_M_shape 71 = .ok (.iload 9, 2) := by decide +kernel
theorem d_M_shape_73 : decode c_M_shape 73 = .ok (.ineg, 1) := by decide +kernel
theorem d_M_shape_74 : decode c_M_shape 74 = .ok (.istore 8, 2) := by decide +kernel
theorem d_M_shape_76 : decode c_M_shape 76 = .ok (.iload 11, 2) := by decide +kernel
theorem d_M_shape_78 : decode c_M_shape 78 = .ok (.istore 9, 2) := by decide +kernel
theorem d_M_shape_80 : decode c_M_shape 80 = .ok (.iinc 10 1, 3) := by decide +kernel
theorem d_M_shape_83 : decode c_M_shape 83 = .ok (.goto (-22), 3) := by decide +kernel
theorem d_M_shape_86 : decode c_M_shape 86 = .ok (.aload_n 0, 1) := by decide +kernel
theorem d_M_shape_87 : decode c_M_shape 87 = .ok (.getfield 67, 3) := by decide +kernel
theorem d_M_shape_90 : decode c_M_shape 90 = .ok (.iload 7, 2) := by decide +kernel
theorem d_M_shape_92 : decode c_M_shape 92 = .ok (.iload 8, 2) := by decide +kernel
theorem d_M_shape_94 : decode c_M_shape 94 = .ok (.iastore, 1) := by decide +kernel
theorem d_M_shape_95 : decode c_M_shape 95 = .ok (.aload_n 0, 1) := by decide +kernel
theorem d_M_shape_96 : decode c_M_shape 96 = .ok (.getfield 70, 3) := by decide +kernel
theorem d_M_shape_99 : decode c_M_shape 99 = .ok (.iload 7, 2) := by decide +kernel
theorem d_M_shape_101 : decode c_M_shape 101 = .ok (.iload 9, 2) := by decide +kernel
theorem d_M_shape_103 : decode c_M_shape 103 = .ok (.iastore, 1) := by decide +kernel
theorem d_M_shape_104 : decode c_M_shape 104 = .ok (.iload 8, 2) := by decide +kernel
theorem d_M_shape_106 : decode c_M_shape 106 = .ok (.iload 5, 2) := by decide +kernel
theorem d_M_shape_108 : decode c_M_shape 108 = .ok (.if_icmp .ge 8, 3) := by decide +kernel
theorem d_M_shape_111 : decode c_M_shape 111 = .ok (.iload 8, 2) := by decide +kernel
theorem d_M_shape_113 : decode c_M_shape 113 = .ok (.goto 5, 3) := by decide +kernel
theorem d_M_shape_116 : decode c_M_shape 116 = .ok (.iload 5, 2) := by decide +kernel
theorem d_M_shape_118 : decode c_M_shape 118 = .ok (.istore 5, 2) := by decide +kernel
theorem d_M_shape_120 : decode c_M_shape 120 = .ok (.iload 9, 2) := by decide +kernel
theorem d_M_shape_122 : decode c_M_shape 122 = .ok (.iload 6, 2) := by decide +kernel
theorem d_M_shape_124 : decode c_M_shape 124 = .ok (.if_icmp .ge 8, 3) := by decide +kernel
theorem d_M_shape_127 : decode c_M_shape 127 = .ok (.iload 9, 2) := by decide +kernel
theorem d_M_shape_129 : decode c_M_shape 129 = .ok (.goto 5, 3) := by decide +kernel
theorem d_M_shape_132 : decode c_M_shape 132 = .ok (.iload 6, 2) := by decide +kernel
theorem d_M_shape_134 : decode c_M_shape 134 = .ok (.istore 6, 2) := by decide +kernel
theorem d_M_shape_136 : decode c_M_shape 136 = .ok (.iinc 7 1, 3) := by decide +kernel
theorem d_M_shape_139 : decode c_M_shape 139 = .ok (.goto (-118), 3) := by decide +kernel
theorem d_M_shape_142 : decode c_M_shape 142 = .ok (.iconst 0, 1) := by decide +kernel
theorem d_M_shape_143 : decode c_M_shape 143 = .ok (.istore 7, 2) := by decide +kernel
theorem d_M_shape_145 : decode c_M_shape 145 = .ok (.iload 7, 2) := by decide +kernel
theorem d_M_shape_147 : decode c_M_shape 147 = .ok (.aload_n 0, 1) := by decide +kernel
theorem d_M_shape_148 : decode c_M_shape 148 = .ok (.getfield 124, 3) := by decide +kernel
theorem d_M_shape_151 : decode c_M_shape 151 = .ok (.if_icmp .ge 38, 3) := by decide +kernel
theorem d_M_shape_154 : decode c_M_shape 154 = .ok (.aload_n 0, 1) := by decide +kernel
theorem d_M_shape_155 : decode c_M_shape 155 = .ok (.getfield 67, 3) := by decide +kernel
theorem d_M_shape_158 : decode c_M_shape 158 = .ok (.iload 7, 2) := by decide +kernel
theorem d_M_shape_160 : decode c_M_shape 160 = .ok (.dup2, 1) := by decide +kernel
theorem d_M_shape_161 : decode c_M_shape 161 = .ok (.iaload, 1) := by decide +kernel
theorem d_M_shape_162 : decode c_M_shape 162 = .ok (.iload_n 3, 1) := by decide +kernel
theorem d_M_shape_163 : decode c_M_shape 163 = .ok (.iload 5, 2) := by decide +kernel
theorem d_M_shape_165 : decode c_M_shape 165 = .ok (.isub, 1) := by decide +kernel
theorem d_M_shape_166 : decode c_M_shape 166 = .ok (.iadd, 1) := by decide +kernel
theorem d_M_shape_167 : decode c_M_shape 167 = .ok (.iastore, 1) := by decide +kernel
theorem d_M_shape_168 : decode c_M_shape 168 = .ok (.aload_n 0, 1) := by decide +kernel
theorem d_M_shape_169 : decode c_M_shape 169 = .ok (.getfield 70, 3) := by decide +kernel
theorem d_M_shape_172 : decode c_M_shape 172 = .ok (.iload 7, 2) := by decide +kernel
theorem d_M_shape_174 : decode c_M_shape 174 = .ok (.dup2, 1) := by decide +kernel
theorem d_M_shape_175 : decode c_M_shape 175 = .ok (.iaload, 1) := by decide +kernel
theorem d_M_shape_176 : decode c_M_shape 176 = .ok (.iload 4, 2) := by decide +kernel
theorem d_M_shape_178 : decode c_M_shape 178 = .ok (.iload 6, 2) := by decide +kernel
theorem d_M_shape_180 : decode c_M_shape 180 = .ok (.isub, 1) := by decide +kernel
theorem d_M_shape_181 : decode c_M_shape 181 = .ok (.iadd, 1) := by decide +kernel
theorem d_M_shape_182 : decode c_M_shape 182 = .ok (.iastore, 1) := by decide +kernel
theorem d_M_shape_183 : decode c_M_shape 183 = .ok (.iinc 7 1, 3) := by decide +kernel
theorem d_M_shape_186 : decode c_M_shape 186 = .ok (.goto (-41), 3) := by decide +kernel
theorem d_M_shape_189 : decode c_M_shape 189 = .ok (.return_, 1) := by decide +kernel
theorem d_M_isParted_0 : decode c_M_isParted 0 = .ok (.ldc 127, 2) := by decide +kernel
theorem d_M_isParted_2 : decode c_M_isParted 2 = .ok (.istore_n 3, 1) := by decide +kernel
theorem d_M_isParted_3 : decode c_M_isParted 3 = .ok (.ldc 128, 2) := by decide +kernel
theorem d_M_isParted_5 : decode c_M_isParted 5 = .ok (.istore 4, 2) := by decide +kernel
theorem d_M_isParted_7 : decode c_M_isParted 7 = .ok (.iconst 0, 1) := by decide +kernel
theorem d_M_isParted_8 : decode c_M_isParted 8 = .ok (.istore 5, 2) := by decide +kernel
theorem d_M_isParted_10 : decode c_M_isParted 10 = .ok (.iload 5, 2) := by decide +kernel
theorem d_M_isParted_12 : decode c_M_isParted 12 = .ok (.aload_n 0, 1) := by decide +kernel
theorem d_M_isParted_13 : decode c_M_isParted 13 = .ok (.getfield 124, 3) := by decide +kernel
theorem d_M_isParted_16 : decode c_M_isParted 16 = .ok (.if_icmp .ge 59, 3) := by decide +kernel
theorem d_M_isParted_19 : decode c_M_isParted 19 = .ok (.aload_n 0, 1) := by decide +kernel
theorem d_M_isParted_20 : decode c_M_isParted 20 = .ok (.getfield 67, 3) := by decide +kernel
theorem d_M_isParted_23 : decode c_M_isParted 23 = .ok (.iload 5, 2) := by decide +kernel
theorem d_M_isParted_25 : decode c_M_isParted 25 = .ok (.iaload, 1) := by decide +kernel
theorem d_M_isParted_26 : decode c_M_isParted 26 = .ok (.iload_n 1, 1) := by decide +kernel
theorem d_M_isParted_27 : decode c_M_isParted 27 = .ok (.imul, 1) := by decide +kernel
theorem d_M_isParted_28 : decode c_M_isParted 28 = .ok (.aload_n 0, 1) := by decide +kernel
theorem d_M_isParted_29 : decode c_M_isParted 29 = .ok (.getfield 70, 3) := by decide +kernel
theorem d_M_isParted_32 : decode c_M_isParted 32 = .ok (.iload 5, 2) := by decide +kernel
theorem d_M_isParted_34 : decode c_M_isParted 34 = .ok (.iaload, 1) := by decide +kernel
theorem d_M_isParted_35 : decode c_M_isParted 35 = .ok (.iload_n 2, 1) := by decide +kernel
theorem d_M_isParted_36 : decode c_M_isParted 36 = .ok (.imul, 1) := by decide +kernel
theorem d_M_isParted_37 : decode c_M_isParted 37 = .ok (.iadd, 1) := by decide +kernel
theorem d_M_isParted_38 : decode c_M_isParted 38 = .ok (.istore 6, 2) := by decide +kernel
theorem d_M_isParted_40 : decode c_M_isParted 40 = .ok (.iload 6, 2) := by decide +kernel
theorem d_M_isParted_42 : decode c_M_isParted 42 = .ok (.iload_n 3, 1) := by decide +kernel
theorem d_M_isParted_43 : decode c_M_isParted 43 = .ok (.if_icmp .ge 8, 3) := by decide +kernel
theorem d_M_isParted_46 : decode c_M_isParted 46 = .ok (.iload 6, 2) := by decide +kernel
theorem d_M_isParted_48 : decode c_M_isParted 48 = .ok (.goto 4, 3) := by decide +kernel
theorem d_M_isParted_51 : decode c_M_isParted 51 = .ok (.iload_n 3, 1) := by decide +kernel
theorem d_M_isParted_52 : decode c_M_isParted 52 = .ok (.istore_n 3, 1) := by decide +kernel
theorem d_M_isParted_53 : decode c_M_isParted 53 = .ok (.iload 6, 2) := by decide +kernel
theorem d_M_isParted_55 : decode c_M_isParted 55 = .ok (.iload 4, 2) := by decide +kernel
theorem d_M_isParted_57 : decode c_M_isParted 57 = .ok (.if_icmp .le 8, 3) := by decide +kernel
theorem d_M_isParted_60 : decode c_M_isParted 60 = .ok (.iload 6, 2) := by decide +kernel
theorem d_M_isParted_62 : decode c_M_isParted 62 = .ok (.goto 5, 3) := by decide +kernel
theorem d_M_isParted_65 : decode c_M_isParted 65 = .ok (.iload 4, 2) := by decide +kernel
theorem d_M_isParted_67 : decode c_M_isParted 67 = .ok (.istore 4, 2) := by decide +kernel
theorem d_M_isParted_69 : decode c_M_isParted 69 = .ok (.iinc 5 1, 3) := by decide +kernel
theorem d_M_isParted_72 : decode c_M_isParted 72 = .ok (.goto (-62), 3) := by decide +kernel
theorem d_M_isParted_75 : decode c_M_isParted 75 = .ok (.ldc 127, 2) := by decide +kernel
theorem d_M_isParted_77 : decode c_M_isParted 77 = .ok (.istore 5, 2) := by decide +kernel
theorem d_M_isParted_79 : decode c_M_isParted 79 = .ok (.ldc 128, 2) := by decide +kernel
theorem d_M_isParted_81 : decode c_M_isParted 81 = .ok (.istore 6, 2) := by decide +kernel
theorem d_M_isParted_83 : decode c_M_isParted 83 = .ok (.iconst 0, 1) := by decide +kernel
theorem d_M_isParted_84 : decode c_M_isParted 84 = .ok (.istore 7, 2) := by decide +kernel
theorem d_M_isParted_86 : decode c_M_isParted 86 = .ok (.iload 7, 2) := by decide +kernel
theorem d_M_isParted_88 : decode c_M_isParted 88 = .ok (.aload_n 0, 1) := by decide +kernel
theorem d_M_isParted_89 : decode c_M_isParted 89 = .ok (.getfield 129, 3) := by decide +kernel
theorem d_M_isParted_92 : decode c_M_isParted 92 = .ok (.if_icmp .ge 62, 3) := by decide +kernel
theorem d_M_isParted_95 : decode c_M_isParted 95 = .ok (.aload_n 0, 1) := by decide +kernel
theorem d_M_isParted_96 : decode c_M_isParted 96 = .ok (.getfield 73, 3) := by decide +kernel
theorem d_M_isParted_99 : decode c_M_isParted 99 = .ok (.iload 7, 2) := by decide +kernel
theorem d_M_isParted_101 : decode c_M_isParted 101 = .ok (.iaload, 1) := by decide +kernel
theorem d_M_isParted_102 : decode c_M_isParted 102 = .ok (.iload_n 1, 1) := by decide +kernel
theorem d_M_isParted_103 : decode c_M_isParted 103 = .ok (.imul, 1) := by decide +kernel
theorem d_M_isParted_104 : decode c_M_isParted 104 = .ok (.aload_n 0, 1) := by decide +kernel
theorem d_M_isParted_105 : decode c_M_isParted 105 = .ok (.getfield 76, 3) := by decide +kernel
theorem d_M_isParted_108 : decode c_M_isParted 108 = .ok (.iload 7, 2) := by decide +kernel
theorem d_M_isParted_110 : decode c_M_isParted 110 = .ok (.iaload, 1) := by decide +kernel
theorem d_M_isParted_111 : decode c_M_isParted 111 = .ok (.iload_n 2, 1) := by decide +kernel
theorem d_M_isParted_112 : decode c_M_isParted 112 = .ok (.imul, 1) := by decide +kernel
theorem d_M_isParted_113 : decode c_M_isParted 113 = .ok (.iadd, 1) := by decide +kernel
theorem d_M_isParted_114 : decode c_M_isParted 114 = .ok (.istore 8, 2) := by decide +kernel
theorem d_M_isParted_116 : decode c_M_isParted 116 = .ok (.iload 8, 2) := by decide +kernel
theorem d_M_isParted_118 : decode c_M_isParted 118 = .ok (.iload 5, 2) := by decide +kernel
theorem d_M_isParted_120 : decode c_M_isParted 120 = .ok (.if_icmp .ge 8, 3) := by decide +kernel
theorem d_M_isParted_123 : decode c_M_isParted 123 = .ok (.iload 8, 2) := by decide +kernel
theorem d_M_isParted_125 : decode c_M_isParted 125 = .ok (.goto 5, 3) := by decide +kernel
theorem d_M_isParted_128 : decode c_M_isParted 128 = .ok (.iload 5, 2) := by decide +kernel
theorem d_M_isParted_130 : decode c_M_isParted 130 = .ok (.istore 5, 2) := by decide +kernel
theorem d_M_isParted_132 : decode c_M_isParted 132 = .ok (.iload 8, 2) := by decide +kernel
theorem d_M_isParted_134 : decode c_M_isParted 134 = .ok (.iload 6, 2) := by decide +kernel
theorem d_M_isParted_136 : decode c_M_isParted 136 = .ok (.if_icmp .le 8, 3) := by decide +kernel
theorem d_M_isParted_139 : decode c_M_isParted 139 = .ok (.iload 8, 2) := by decide +kernel
theorem d_M_isParted_141 : decode c_M_isParted 141 = .ok (.goto 5, 3) := by decide +kernel
theorem d_M_isParted_144 : decode c_M_isParted 144 = .ok (.iload 6, 2) := by decide +kernel
theorem d_M_isParted_146 : decode c_M_isParted 146 = .ok (.istore 6, 2) := by decide +kernel
theorem d_M_isParted_148 : decode c_M_isParted 148 = .ok (.iinc 7 1, 3) := by decide +kernel
theorem d_M_isParted_151 : decode c_M_isParted 151 = .ok (.goto (-65), 3) := by decide +kernel
theorem d_M_isParted_154 : decode c_M_isParted 154 = .ok (.iload 4, 2) := by decide +kernel
theorem d_M_isParted_156 : decode c_M_isParted 156 = .ok (.iload 5, 2) := by decide +kernel
theorem d_M_isParted_158 : decode c_M_isParted 158 = .ok (.if_icmp .le 9, 3) := by decide +kernel
theorem d_M_isParted_161 : decode c_M_isParted 161 = .ok (.iload 6, 2) := by decide +kernel
theorem d_M_isParted_163 : decode c_M_isParted 163 = .ok (.iload_n 3, 1) := by decide +kernel
theorem d_M_isParted_164 : decode c_M_isParted 164 = .ok (.if_icmp .gt 7, 3) := by decide +kernel
theorem d_M_isParted_167 : decode c_M_isParted 167 = .ok (.iconst 1, 1) := by decide +kernel
theorem d_M_isParted_168 : decode c_M_isParted 168 = .ok (.goto 4, 3) := by decide +kernel
theorem d_M_isParted_171 : decode c_M_isParted 171 = .ok (.iconst 0, 1) := by decide +kernel
theorem d_M_isParted_172 : decode c_M_isParted 172 = .ok (.ireturn, 1) := by decide +kernel
theorem d_M_overlaps_0 : decode c_M_overlaps 0 = .ok (.iconst 0, 1) := by decide +kernel
theorem d_M_overlaps_1 : decode c_M_overlaps 1 = .ok (.istore_n 1, 1) := by decide +kernel
theorem d_M_overlaps_2 : decode c_M_overlaps 2 = .ok (.iload_n 1, 1) := by decide +kernel
theorem d_M_overlaps_3 : decode c_M_overlaps 3 = .ok (.aload_n 0, 1) := by decide +kernel
theorem d_M_overlaps_4 : decode c_M_overlaps 4 = .ok (.getfield 124, 3) := by decide +kernel
theorem d_M_overlaps_7 : decode c_M_overlaps 7 = .ok (.if_icmp .ge 53, 3) := by decide +kernel
theorem d_M_overlaps_10 : decode c_M_overlaps 10 = .ok (.iload_n 1, 1) := by decide +kernel
theorem d_M_overlaps_11 : decode c_M_overlaps 11 = .ok (.iconst 1, 1) := by decide +kernel
theorem d_M_overlaps_12 : decode c_M_overlaps 12 = .ok (.iadd, 1) := by decide +kernel
theorem d_M_overlaps_13 : decode c_M_overlaps 13 = .ok (.aload_n 0, 1) := by decide +kernel
theorem d_M_overlaps_14 : decode c_M_overlaps 14 = .ok (.getfield 124, 3) := by decide +kernel
theorem d_M_overlaps_17 : decode c_M_overlaps 17 = .ok (.irem, 1) := by decide +kernel
theorem d_M_overlaps_18 : decode c_M_overlaps 18 = .ok (.istore_n 2, 1) := by decide +kernel
theorem d_M_overlaps_19 : decode c_M_overlaps 19 = .ok (.aload_n 0, 1) := by decide +kernel
theorem d_M_overlaps_20 : decode c_M_overlaps 20 = .ok (.aload_n 0, 1) := by decide +kernel
theorem d_M_overlaps_21 : decode c_M_overlaps 21 = .ok (.getfield 70, 3) := by decide +kernel
theorem d_M_overlaps_24 : decode c_M_overlaps 24 = .ok (.iload_n 1, 1) := by decide +kernel
theorem d_M_overlaps_25 : decode c_M_overlaps 25 = .ok (.iaload, 1) := by decide +kernel
theorem d_M_overlaps_26 : decode c_M_overlaps 26 = .ok (.aload_n 0, 1) := by decide +kernel
theorem d_M_overlaps_27 : decode c_M_overlaps 27 = .ok (.getfield 70, 3) := by decide +kernel
theorem d_M_overlaps_30 : decode c_M_overlaps 30 = .ok (.iload_n 2, 1) := by decide +kernel
theorem d_M_overlaps_31 : decode c_M_overlaps 31 = .ok (.iaload, 1) := by decide +kernel
theorem d_M_overlaps_32 : decode c_M_overlaps 32 = .ok (.isub, 1) := by decide +kernel
theorem d_M_overlaps_33 : decode c_M_overlaps 33 = .ok (.aload_n 0, 1) := by decide +kernel
theorem d_M_overlaps_34 : decode c_M_overlaps 34 = .ok (.getfield 67, 3) := by decide +kernel
theorem d_M_overlaps_37 : decode c_M_overlaps 37 = .ok (.iload_n 2, 1) := by decide +kernel
theorem d_M_overlaps_38 : decode c_M_overlaps 38 = .ok (.iaload, 1) := by decide +kernel
theorem d_M_overlaps_39 : decode c_M_overlaps 39 = .ok (.aload_n 0, 1) := by decide +kernel
theorem d_M_overlaps_40 : decode c_M_overlaps 40 = .ok (.getfield 67, 3) := by decide +kernel
theorem d_M_overlaps_43 : decode c_M_overlaps 43 = .ok (.iload_n 1, 1) := by decide +kernel
theorem d_M_overlaps_44 : decode c_M_overlaps 44 = .ok (.iaload, 1) := by decide +kernel
theorem d_M_overlaps_45 : decode c_M_overlaps 45 = .ok (.isub, 1) := by decide +kernel
theorem d_M_overlaps_46 : decode c_M_overlaps 46 = .ok (.invokevirtual 132, 3) := by decide +kernel
theorem d_M_overlaps_49 : decode c_M_overlaps 49 = .ok (.ifCond .eq 5, 3) := by decide +kernel
theorem d_M_overlaps_52 : decode c_M_overlaps 52 = .ok (.iconst 0, 1) := by decide +kernel
theorem d_M_overlaps_53 : decode c_M_overlaps 53 = .ok (.ireturn, 1) := by decide +kernel
theorem d_M_overlaps_54 : decode c_M_overlaps 54 = .ok (.iinc 1 1, 3) := by decide +kernel
theorem d_M_overlaps_57 : decode c_M_overlaps 57 = .ok (.goto (-55), 3) := by decide +kernel
theorem d_M_overlaps_60 : decode c_M_overlaps 60 = .ok (.iconst 0, 1) := by decide +kernel
theorem d_M_overlaps_61 : decode c_M_overlaps 61 = .ok (.istore_n 1, 1) := by decide +kernel
theorem d_M_overlaps_62 : decode c_M_overlaps 62 = .ok (.iload_n 1, 1) := by decide +kernel
theorem d_M_overlaps_63 : decode c_M_overlaps 63 = .ok (.aload_n 0, 1) := by decide +kernel
theorem d_M_overlaps_64 : decode c_M_overlaps 64 = .ok (.getfield 129, 3) := by decide +kernel
theorem d_M_overlaps_67 : decode c_M_overlaps 67 = .ok (.if_icmp .ge 53, 3) := by decide +kernel
theorem d_M_overlaps_70 : decode c_M_overlaps 70 = .ok (.iload_n 1, 1) := by decide +kernel
theorem d_M_overlaps_71 : decode c_M_overlaps 71 = .ok (.iconst 1, 1) := by decide +kernel
theorem d_M_overlaps_72 : decode c_M_overlaps 72 = .ok (.iadd, 1) := by decide +kernel
theorem d_M_overlaps_73 : decode c_M_overlaps 73 = .ok (.aload_n 0, 1) := by decide +kernel
theorem d_M_overlaps_74 : decode c_M_overlaps 74 = .ok (.getfield 129, 3) := by decide +kernel
theorem d_M_overlaps_77 : decode c_M_overlaps 77 = .ok (.irem, 1) := by decide +kernel
theorem d_M_overlaps_78 : decode c_M_overlaps 78 = .ok (.istore_n 2, 1) := by decide +kernel
theorem d_M_overlaps_79 : decode c_M_overlaps 79 = .ok (.aload_n 0, 1) := by decide +kernel
theorem d_M_overlaps_80 : decode c_M_overlaps 80 = .ok (.aload_n 0, 1) := by decide +kernel
theorem d_M_overlaps_81 : decode c_M_overlaps 81 = .ok (.getfield 76, 3) := by decide +kernel
theorem d_M_overlaps_84 : decode c_M_overlaps 84 = .ok (.iload_n 1, 1) := by decide +kernel
theorem d_M_overlaps_85 : decode c_M_overlaps 85 = .ok (.iaload, 1) := by decide +kernel
theorem d_M_overlaps_86 : decode c_M_overlaps 86 = .ok (.aload_n 0, 1) := by decide +kernel
theorem d_M_overlaps_87 : decode c_M_overlaps 87 = .ok (.getfield 76, 3) := by decide +kernel
theorem d_M_overlaps_90 : decode c_M_overlaps 90 = .ok (.iload_n 2, 1) := by decide +kernel
theorem d_M_overlaps_91 : decode c_M_overlaps 91 = .ok (.iaload, 1) := by decide +kernel
theorem d_M_overlaps_92 : decode c_M_overlaps 92 = .ok (.isub, 1) := by decide +kernel
theorem d_M_overlaps_93 : decode c_M_overlaps 93 = .ok (.aload_n 0, 1) := by decide +kernel
theorem d_M_overlaps_94 : decode c_M_overlaps 94 = .ok (.getfield 73, 3) := by decide +kernel
theorem d_M_overlaps_97 : decode c_M_overlaps 97 = .ok (.iload_n 2, 1) := by decide +kernel
theorem d_M_overlaps_98 : decode c_M_overlaps 98 = .ok (.iaload, 1) := by decide +kernel
theorem d_M_overlaps_99 : decode c_M_overlaps 99 = .ok (.aload_n 0, 1) := by decide +kernel
