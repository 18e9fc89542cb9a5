theorem d_R_endWait_9 : decode c_R_endWait 9 = .ok (.iconst 0, 1) := by decide +kernel
theorem d_R_endWait_10 : decode c_R_endWait 10 = .ok (.invokevirtual 82, 3) := by decide +kernel
theorem d_R_endWait_13 : decode c_R_endWait 13 = .ok (.aload_n 0, 1) := by decide +kernel
theorem d_R_endWait_14 : decode c_R_endWait 14 = .ok (.getfield 10, 3) := by decide +kernel
theorem d_R_endWait_17 : decode c_R_endWait 17 = .ok (.invokevirtual 193, 3) := by decide +kernel
theorem d_R_endWait_20 : decode c_R_endWait 20 = .ok (.aload_n 0, 1) := by decide +kernel
theorem d_R_endWait_21 : decode c_R_endWait 21 = .ok (.getfield 16, 3) := by decide +kernel
theorem d_R_endWait_24 : decode c_R_endWait 24 = .ok (.areturn, 1) := by decide +kernel
theorem d_R_canLie_0 : decode c_R_canLie 0 = .ok (.aload_n 1, 1) := by decide +kernel
theorem d_R_canLie_1 : decode c_R_canLie 1 = .ok (.iload 4, 2) := by decide +kernel
theorem d_R_canLie_3 : decode c_R_canLie 3 = .ok (.invokevirtual 196, 3) := by decide +kernel
theorem d_R_canLie_6 : decode c_R_canLie 6 = .ok (.ifCond .ne 5, 3) := by decide +kernel
theorem d_R_canLie_9 : decode c_R_canLie 9 = .ok (.iconst 0, 1) := by decide +kernel
theorem d_R_canLie_10 : decode c_R_canLie 10 = .ok (.ireturn, 1) := by decide +kernel
theorem d_R_canLie_11 : decode c_R_canLie 11 = .ok (.aload_n 1, 1) := by decide +kernel
theorem d_R_canLie_12 : decode c_R_canLie 12 = .ok (.getfield 199, 3) := by decide +kernel
theorem d_R_canLie_15 : decode c_R_canLie 15 = .ok (.iload 4, 2) := by decide +kernel
theorem d_R_canLie_17 : decode c_R_canLie 17 = .ok (.aaload, 1) := by decide +kernel
theorem d_R_canLie_18 : decode c_R_canLie 18 = .ok (.astore 5, 2) := by decide +kernel
theorem d_R_canLie_20 : decode c_R_canLie 20 = .ok (.aload_n 0, 1) := by decide +kernel
theorem d_R_canLie_21 : decode c_R_canLie 21 = .ok (.getfield 19, 3) := by decide +kernel
theorem d_R_canLie_24 : decode c_R_canLie 24 = .ok (.aload 5, 2) := by decide +kernel
theorem d_R_canLie_26 : decode c_R_canLie 26 = .ok (.iload_n 2, 1) := by decide +kernel
theorem d_R_canLie_27 : decode c_R_canLie 27 = .ok (.iload_n 3, 1) := by decide +kernel
theorem d_R_canLie_28 : decode c_R_canLie 28 = .ok (.invokevirtual 203, 3) := by decide +kernel
theorem d_R_canLie_31 : decode c_R_canLie 31 = .ok (.ifCond .eq 47, 3) := by decide +kernel
theorem d_R_canLie_34 : decode c_R_canLie 34 = .ok (.aload_n 0, 1) := by decide +kernel
theorem d_R_canLie_35 : decode c_R_canLie 35 = .ok (.aload 5, 2) := by decide +kernel
theorem d_R_canLie_37 : decode c_R_canLie 37 = .ok (.iload_n 2, 1) := by decide +kernel
theorem d_R_canLie_38 : decode c_R_canLie 38 = .ok (.iload_n 3, 1) := by decide +kernel
theorem d_R_canLie_39 : decode c_R_canLie 39 = .ok (.invokevirtual 207, 3) := by decide +kernel
theorem d_R_canLie_42 : decode c_R_canLie 42 = .ok (.ifCond .eq 36, 3) := by decide +kernel
theorem d_R_canLie_45 : decode c_R_canLie 45 = .ok (.aload_n 0, 1) := by decide +kernel
theorem d_R_canLie_46 : decode c_R_canLie 46 = .ok (.aload 5, 2) := by decide +kernel
theorem d_R_canLie_48 : decode c_R_canLie 48 = .ok (.iload_n 2, 1) := by decide +kernel
theorem d_R_canLie_49 : decode c_R_canLie 49 = .ok (.iload_n 3, 1) := by decide +kernel
theorem d_R_canLie_50 : decode c_R_canLie 50 = .ok (.aload_n 1, 1) := by decide +kernel
theorem d_R_canLie_51 : decode c_R_canLie 51 = .ok (.getfield 210, 3) := by decide +kernel
theorem d_R_canLie_54 : decode c_R_canLie 54 = .ok (.invokevirtual 213, 3) := by decide +kernel
theorem d_R_canLie_57 : decode c_R_canLie 57 = .ok (.ifCond .eq 21, 3) := by decide +kernel
theorem d_R_canLie_60 : decode c_R_canLie 60 = .ok (.aload_n 0, 1) := by decide +kernel
theorem d_R_canLie_61 : decode c_R_canLie 61 = .ok (.getfield 19, 3) := by decide +kernel
theorem d_R_canLie_64 : decode c_R_canLie 64 = .ok (.aload 5, 2) := by decide +kernel
theorem d_R_canLie_66 : decode c_R_canLie 66 = .ok (.iload_n 2, 1) := by decide +kernel
theorem d_R_canLie_67 : decode c_R_canLie 67 = .ok (.iload_n 3, 1) := by decide +kernel
theorem d_R_canLie_68 : decode c_R_canLie 68 = .ok (.invokevirtual 217, 3) := by decide +kernel
theorem d_R_canLie_71 : decode c_R_canLie 71 = .ok (.ifCond .eq 7, 3) := by decide +kernel
theorem d_R_canLie_74 : decode c_R_canLie 74 = .ok (.iconst 1, 1) := by decide +kernel
theorem d_R_canLie_75 : decode c_R_canLie 75 = .ok (.goto 4, 3) := by decide +kernel
theorem d_R_canLie_78 : decode c_R_canLie 78 = .ok (.iconst 0, 1) := by decide +kernel
theorem d_R_canLie_79 : decode c_R_canLie 79 = .ok (.ireturn, 1) := by decide +kernel
theorem d_R_isOffParts_0 : decode c_R_isOffParts 0 = .ok (.iconst 0, 1) := by decide +kernel
theorem d_R_isOffParts_1 : decode c_R_isOffParts 1 = .ok (.istore 4, 2) := by decide +kernel
theorem d_R_isOffParts_3 : decode c_R_isOffParts 3 = .ok (.iload 4, 2) := by decide +kernel
theorem d_R_isOffParts_5 : decode c_R_isOffParts 5 = .ok (.bipush 12, 2) := by decide +kernel
theorem d_R_isOffParts_7 : decode c_R_isOffParts 7 = .ok (.if_icmp .ge 43, 3) := by decide +kernel
theorem d_R_isOffParts_10 : decode c_R_isOffParts 10 = .ok (.aload_n 0, 1) := by decide +kernel
theorem d_R_isOffParts_11 : decode c_R_isOffParts 11 = .ok (.getfield 36, 3) := by decide +kernel
theorem d_R_isOffParts_14 : decode c_R_isOffParts 14 = .ok (.iload 4, 2) := by decide +kernel
theorem d_R_isOffParts_16 : decode c_R_isOffParts 16 = .ok (.aaload, 1) := by decide +kernel
theorem d_R_isOffParts_17 : decode c_R_isOffParts 17 = .ok (.getfield 162, 3) := by decide +kernel
theorem d_R_isOffParts_20 : decode c_R_isOffParts 20 = .ok (.ifCond .eq 24, 3) := by decide +kernel
theorem d_R_isOffParts_23 : decode c_R_isOffParts 23 = .ok (.aload_n 0, 1) := by decide +kernel
theorem d_R_isOffParts_24 : decode c_R_isOffParts 24 = .ok (.getfield 36, 3) := by decide +kernel
theorem d_R_isOffParts_27 : decode c_R_isOffParts 27 = .ok (.iload 4, 2) := by decide +kernel
theorem d_R_isOffParts_29 : decode c_R_isOffParts 29 = .ok (.aaload, 1) := by decide +kernel
theorem d_R_isOffParts_30 : decode c_R_isOffParts 30 = .ok (.getfield 190, 3) := by decide +kernel
theorem d_R_isOffParts_33 : decode c_R_isOffParts 33 = .ok (.aload_n 1, 1) := by decide +kernel
theorem d_R_isOffParts_34 : decode c_R_isOffParts 34 = .ok (.iload_n 2, 1) := by decide +kernel
theorem d_R_isOffParts_35 : decode c_R_isOffParts 35 = .ok (.iload_n 3, 1) := by decide +kernel
theorem d_R_isOffParts_36 : decode c_R_isOffParts 36 = .ok (.invokevirtual 220, 3) := by decide +kernel
theorem d_R_isOffParts_39 : decode c_R_isOffParts 39 = .ok (.ifCond .eq 5, 3) := by decide +kernel
theorem d_R_isOffParts_42 : decode c_R_isOffParts 42 = .ok (.iconst 0, 1) := by decide +kernel
theorem d_R_isOffParts_43 : decode c_R_isOffParts 43 = .ok (.ireturn, 1) := by decide +kernel
theorem d_R_isOffParts_44 : decode c_R_isOffParts 44 = .ok (.iinc 4 1, 3) := by decide +kernel
theorem d_R_isOffParts_47 : decode c_R_isOffParts 47 = .ok (.goto (-44), 3) := by decide +kernel
theorem d_R_isOffParts_50 : decode c_R_isOffParts 50 = .ok (.iconst 1, 1) := by decide +kernel
theorem d_R_isOffParts_51 : decode c_R_isOffParts 51 = .ok (.ireturn, 1) := by decide +kernel
theorem d_R_isOffZones_0 : decode c_R_isOffZones 0 = .ok (.iconst 0, 1) := by decide +kernel
theorem d_R_isOffZones_1 : decode c_R_isOffZones 1 = .ok (.istore 5, 2) := by decide +kernel
theorem d_R_isOffZones_3 : decode c_R_isOffZones 3 = .ok (.iload 5, 2) := by decide +kernel
theorem d_R_isOffZones_5 : decode c_R_isOffZones 5 = .ok (.aload_n 0, 1) := by decide +kernel
theorem d_R_isOffZones_6 : decode c_R_isOffZones 6 = .ok (.getfield 93, 3) := by decide +kernel
theorem d_R_isOffZones_9 : decode c_R_isOffZones 9 = .ok (.if_icmp .ge 45, 3) := by decide +kernel
theorem d_R_isOffZones_12 : decode c_R_isOffZones 12 = .ok (.aload_n 0, 1) := by decide +kernel
theorem d_R_isOffZones_13 : decode c_R_isOffZones 13 = .ok (.getfield 24, 3) := by decide +kernel
theorem d_R_isOffZones_16 : decode c_R_isOffZones 16 = .ok (.iload 5, 2) := by decide +kernel
theorem d_R_isOffZones_18 : decode c_R_isOffZones 18 = .ok (.aaload, 1) := by decide +kernel
theorem d_R_isOffZones_19 : decode c_R_isOffZones 19 = .ok (.getfield 223, 3) := by decide +kernel
theorem d_R_isOffZones_22 : decode c_R_isOffZones 22 = .ok (.iload 4, 2) := by decide +kernel
theorem d_R_isOffZones_24 : decode c_R_isOffZones 24 = .ok (.if_icmp .ge 24, 3) := by decide +kernel
theorem d_R_isOffZones_27 : decode c_R_isOffZones 27 = .ok (.aload_n 0, 1) := by decide +kernel
theorem d_R_isOffZones_28 : decode c_R_isOffZones 28 = .ok (.getfield 24, 3) := by decide +kernel
theorem d_R_isOffZones_31 : decode c_R_isOffZones 31 = .ok (.iload 5, 2) := by decide +kernel
theorem d_R_isOffZones_33 : decode c_R_isOffZones 33 = .ok (.aaload, 1) := by decide +kernel
theorem d_R_isOffZones_34 : decode c_R_isOffZones 34 = .ok (.getfield 224, 3) := by decide +kernel
theorem d_R_isOffZones_37 : decode c_R_isOffZones 37 = .ok (.aload_n 1, 1) := by decide +kernel
theorem d_R_isOffZones_38 : decode c_R_isOffZones 38 = .ok (.iload_n 2, 1) := by decide +kernel
theorem d_R_isOffZones_39 : decode c_R_isOffZones 39 = .ok (.iload_n 3, 1) := by decide +kernel
theorem d_R_isOffZones_40 : decode c_R_isOffZones 40 = .ok (.invokevirtual 220, 3) := by decide +kernel
theorem d_R_isOffZones_43 : decode c_R_isOffZones 43 = .ok (.ifCond .eq 5, 3) := by decide +kernel
theorem d_R_isOffZones_46 : decode c_R_isOffZones 46 = .ok (.iconst 0, 1) := by decide +kernel
theorem d_R_isOffZones_47 : decode c_R_isOffZones 47 = .ok (.ireturn, 1) := by decide +kernel
theorem d_R_isOffZones_48 : decode c_R_isOffZones 48 = .ok (.iinc 5 1, 3) := by decide +kernel
theorem d_R_isOffZones_51 : decode c_R_isOffZones 51 = .ok (.goto (-48), 3) := by decide +kernel
theorem d_R_isOffZones_54 : decode c_R_isOffZones 54 = .ok (.iconst 1, 1) := by decide +kernel
theorem d_R_isOffZones_55 : decode c_R_isOffZones 55 = .ok (.ireturn, 1) := by decide +kernel
theorem d_R_findPlace_0 : decode c_R_findPlace 0 = .ok (.aload_n 0, 1) := by decide +kernel
theorem d_R_findPlace_1 : decode c_R_findPlace 1 = .ok (.getfield 19, 3) := by decide +kernel
theorem d_R_findPlace_4 : decode c_R_findPlace 4 = .ok (.getfield 225, 3) := by decide +kernel
theorem d_R_findPlace_7 : decode c_R_findPlace 7 = .ok (.istore_n 2, 1) := by decide +kernel
theorem d_R_findPlace_8 : decode c_R_findPlace 8 = .ok (.iload_n 2, 1) := by decide +kernel
theorem d_R_findPlace_9 : decode c_R_findPlace 9 = .ok (.aload_n 0, 1) := by decide +kernel
theorem d_R_findPlace_10 : decode c_R_findPlace 10 = .ok (.getfield 19, 3) := by decide +kernel
theorem d_R_findPlace_13 : decode c_R_findPlace 13 = .ok (.getfield 109, 3) := by decide +kernel
theorem d_R_findPlace_16 : decode c_R_findPlace 16 = .ok (.if_icmp .ge 75, 3) := by decide +kernel
theorem d_R_findPlace_19 : decode c_R_findPlace 19 = .ok (.aload_n 0, 1) := by decide +kernel
theorem d_R_findPlace_20 : decode c_R_findPlace 20 = .ok (.getfield 19, 3) := by decide +kernel
theorem d_R_findPlace_23 : decode c_R_findPlace 23 = .ok (.getfield 228, 3) := by decide +kernel
theorem d_R_findPlace_26 : decode c_R_findPlace 26 = .ok (.istore_n 3, 1) := by decide +kernel
theorem d_R_findPlace_27 : decode c_R_findPlace 27 = .ok (.iload_n 3, 1) := by decide +kernel
theorem d_R_findPlace_28 : decode c_R_findPlace 28 = .ok (.aload_n 0, 1) := by decide +kernel
theorem d_R_findPlace_29 : decode c_R_findPlace 29 = .ok (.getfield 19, 3) := by decide +kernel
theorem d_R_findPlace_32 : decode c_R_findPlace 32 = .ok (.getfield 106, 3) := by decide +kernel
theorem d_R_findPlace_35 : decode c_R_findPlace 35 = .ok (.if_icmp .ge 50, 3) := by decide +kernel
theorem d_R_findPlace_38 : decode c_R_findPlace 38 = .ok (.iconst 0, 1) := by decide +kernel
theorem d_R_findPlace_39 : decode c_R_findPlace 39 = .ok (.istore 4, 2) := by decide +kernel
theorem d_R_findPlace_41 : decode c_R_findPlace 41 = .ok (.iload 4, 2) := by decide +kernel
theorem d_R_findPlace_43 : decode c_R_findPlace 43 = .ok (.iconst 4, 1) := by decide +kernel
theorem d_R_findPlace_44 : decode c_R_findPlace 44 = .ok (.if_icmp .ge 35, 3) := by decide +kernel
theorem d_R_findPlace_47 : decode c_R_findPlace 47 = .ok (.aload_n 0, 1) := by decide +kernel
theorem d_R_findPlace_48 : decode c_R_findPlace 48 = .ok (.aload_n 1, 1) := by decide +kernel
theorem d_R_findPlace_49 : decode c_R_findPlace 49 = .ok (.iload_n 3, 1) := by decide +kernel
theorem d_R_findPlace_50 : decode c_R_findPlace 50 = .ok (.iload_n 2, 1) := by decide +kernel
theorem d_R_findPlace_51 : decode c_R_findPlace 51 = .ok (.iload 4, 2) := by decide +kernel
theorem d_R_findPlace_53 : decode c_R_findPlace 53 = .ok (.invokevirtual 131, 3) := by decide +kernel
theorem d_R_findPlace_56 : decode c_R_findPlace 56 = .ok (.ifCond .eq 17, 3) := by decide +kernel
theorem d_R_findPlace_59 : decode c_R_findPlace 59 = .ok (.iload_n 3, 1) := by decide +kernel
theorem d_R_findPlace_60 : decode c_R_findPlace 60 = .ok (.bipush 32, 2) := by decide +kernel
theorem d_R_findPlace_62 : decode c_R_findPlace 62 = .ok (.iload_n 2, 1) := by decide +kernel
theorem d_R_findPlace_63 : decode c_R_findPlace 63 = .ok (.imul, 1) := by decide +kernel
theorem d_R_findPlace_64 : decode c_R_findPlace 64 = .ok (.iadd, 1) := by decide +kernel
theorem d_R_findPlace_65 : decode c_R_findPlace 65 = .ok (.sipush 1024, 3) := by decide +kernel
theorem d_R_findPlace_68 : decode c_R_findPlace 68 = .ok (.iload 4, 2) := by decide +kernel
theorem d_R_findPlace_70 : decode c_R_findPlace 70 = .ok (.imul, 1) := by decide +kernel
theorem d_R_findPlace_71 : decode c_R_findPlace 71 = .ok (.iadd, 1) := by decide +kernel
theorem d_R_findPlace_72 : decode c_R_findPlace 72 = .ok (.ireturn, 1) := by decide +kernel
theorem d_R_findPlace_73 : decode c_R_findPlace 73 = .ok (.iinc 4 1, 3) := by decide +kernel
theorem d_R_findPlace_76 : decode c_R_findPlace 76 = .ok (.goto (-35), 3) := by decide +kernel
theorem d_R_findPlace_79 : decode c_R_findPlace 79 = .ok (.iinc 3 1, 3) := by decide +kernel
theorem d_R_findPlace_82 : decode c_R_findPlace 82 = .ok (.goto (-55), 3) := by decide +kernel
theorem d_R_findPlace_85 : decode c_R_findPlace 85 = .ok (.iinc 2 1, 3) := by decide +kernel
theorem d_R_findPlace_88 : decode c_R_findPlace 88 = .ok (.goto (-80), 3) := by decide +kernel
theorem d_R_findPlace_91 : decode c_R_findPlace 91 = .ok (.iconst (-1), 1) := by decide +kernel
theorem d_R_findPlace_92 : decode c_R_findPlace 92 = .ok (.ireturn, 1) := by decide +kernel
theorem d_R_addPart_0 : decode c_R_addPart 0 = .ok (.iconst 0, 1) := by decide +kernel
theorem d_R_addPart_1 : decode c_R_addPart 1 = .ok (.istore 5, 2) := by decide +kernel
theorem d_R_addPart_3 : decode c_R_addPart 3 = .ok (.iload 5, 2) := by decide +kernel
theorem d_R_addPart_5 : decode c_R_addPart 5 = .ok (.bipush 11, 2) := by decide +kernel
theorem d_R_addPart_7 : decode c_R_addPart 7 = .ok (.if_icmp .ge 22, 3) := by decide +kernel
theorem d_R_addPart_10 : decode c_R_addPart 10 = .ok (.aload_n 0, 1) := by decide +kernel
theorem d_R_addPart_11 : decode c_R_addPart 11 = .ok (.getfield 36, 3) := by decide +kernel
theorem d_R_addPart_14 : decode c_R_addPart 14 = .ok (.iload 5, 2) := by decide +kernel
theorem d_R_addPart_16 : decode c_R_addPart 16 = .ok (.aaload, 1) := by decide +kernel
theorem d_R_addPart_17 : decode c_R_addPart 17 = .ok (.getfield 162, 3) := by decide +kernel
theorem d_R_addPart_20 : decode c_R_addPart 20 = .ok (.ifCond .eq 9, 3) := by decide +kernel
theorem d_R_addPart_23 : decode c_R_addPart 23 = .ok (.iinc 5 1, 3) := by decide +kernel
theorem d_R_addPart_26 : decode c_R_addPart 26 = .ok (.goto (-23), 3) := by decide +kernel
theorem d_R_addPart_29 : decode c_R_addPart 29 = .ok (.aload_n 0, 1) := by decide +kernel
theorem d_R_addPart_30 : decode c_R_addPart 30 = .ok (.getfield 36, 3) := by decide +kernel
theorem d_R_addPart_33 : decode c_R_addPart 33 = .ok (.iload 5, 2) := by decide +kernel
theorem d_R_addPart_35 : decode c_R_addPart 35 = .ok (.aaload, 1) := by decide +kernel
theorem d_R_addPart_36 : decode c_R_addPart 36 = .ok (.iload_n 1, 1) := by decide +kernel
theorem d_R_addPart_37 : decode c_R_addPart 37 = .ok (.iload_n 2, 1) := by decide +kernel
theorem d_R_addPart_38 : decode c_R_addPart 38 = .ok (.iload_n 3, 1) := by decide +kernel
theorem d_R_addPart_39 : decode c_R_addPart 39 = .ok (.iload 4, 2) := by decide +kernel
theorem d_R_addPart_41 : decode c_R_addPart 41 = .ok (.invokevirtual 231, 3) := by decide +kernel
theorem d_R_addPart_44 : decode c_R_addPart 44 = .ok (.aload_n 0, 1) := by decide +kernel
theorem d_R_addPart_45 : decode c_R_addPart 45 = .ok (.getfield 36, 3) := by decide +kernel
theorem d_R_addPart_48 : decode c_R_addPart 48 = .ok (.iload 5, 2) := by decide +kernel
theorem d_R_addPart_50 : decode c_R_addPart 50 = .ok (.aaload, 1) := by decide +kernel
theorem d_R_addPart_51 : decode c_R_addPart 51 = .ok (.getfield 190, 3) := by decide +kernel
theorem d_R_addPart_54 : decode c_R_addPart 54 = .ok (.aload_n 0, 1) := by decide +kernel
theorem d_R_addPart_55 : decode c_R_addPart 55 = .ok (.getfield 30, 3) := by decide +kernel
theorem d_R_addPart_58 : decode c_R_addPart 58 = .ok (.iload_n 1, 1) := by decide +kernel
theorem d_R_addPart_59 : decode c_R_addPart 59 = .ok (.aaload, 1) := by decide +kernel
theorem d_R_addPart_60 : decode c_R_addPart 60 = .ok (.getfield 199, 3) := by decide +kernel
theorem d_R_addPart_63 : decode c_R_addPart 63 = .ok (.iload 4, 2) := by decide +kernel
theorem d_R_addPart_65 : decode c_R_addPart 65 = .ok (.aaload, 1) := by decide +kernel
theorem d_R_addPart_66 : decode c_R_addPart 66 = .ok (.iload_n 2, 1) := by decide +kernel
theorem d_R_addPart_67 : decode c_R_addPart 67 = .ok (.iload_n 3, 1) := by decide +kernel
theorem d_R_addPart_68 : decode c_R_addPart 68 = .ok (.invokevirtual 82, 3) := by decide +kernel
theorem d_R_addPart_71 : decode c_R_addPart 71 = .ok (.aload_n 0, 1) := by decide +kernel
theorem d_R_addPart_72 : decode c_R_addPart 72 = .ok (.dup, 1) := by decide +kernel
theorem d_R_addPart_73 : decode c_R_addPart 73 = .ok (.getfield 67, 3) := by decide +kernel
theorem d_R_addPart_76 : decode c_R_addPart 76 = .ok (.iconst 1, 1) := by decide +kernel
theorem d_R_addPart_77 : decode c_R_addPart 77 = .ok (.iadd, 1) := by decide +kernel
theorem d_R_addPart_78 : decode c_R_addPart 78 = .ok (.putfield 67, 3) := by decide +kernel
theorem d_R_addPart_81 : decode c_R_addPart 81 = .ok (.iload 5, 2) := by decide +kernel
theorem d_R_addPart_83 : decode c_R_addPart 83 = .ok (.ireturn, 1) := by decide +kernel
