theorem dX7_countingFormulas_30 : decode (zcc mX7_countingFormulas) 30 = .ok (.iinc 2 1, 3) := by decide +kernel
theorem dX7_countingFormulas_33 : decode (zcc mX7_countingFormulas) 33 = .ok (.goto (-29), 3) := by decide +kernel
theorem dX7_countingFormulas_36 : decode (zcc mX7_countingFormulas) 36 = .ok (.iload_n 1, 1) := by decide +kernel
theorem dX7_countingFormulas_37 : decode (zcc mX7_countingFormulas) 37 = .ok (.ireturn, 1) := by decide +kernel
theorem dX7_waysIn_0 : decode (zcc mX7_waysIn) 0 = .ok (.aload_n 0, 1) := by decide +kernel
theorem dX7_waysIn_1 : decode (zcc mX7_waysIn) 1 = .ok (.getfield 12, 3) := by decide +kernel
theorem dX7_waysIn_4 : decode (zcc mX7_waysIn) 4 = .ok (.getfield 226, 3) := by decide +kernel
theorem dX7_waysIn_7 : decode (zcc mX7_waysIn) 7 = .ok (.iload_n 1, 1) := by decide +kernel
theorem dX7_waysIn_8 : decode (zcc mX7_waysIn) 8 = .ok (.bipush 64, 2) := by decide +kernel
theorem dX7_waysIn_10 : decode (zcc mX7_waysIn) 10 = .ok (.imul, 1) := by decide +kernel
theorem dX7_waysIn_11 : decode (zcc mX7_waysIn) 11 = .ok (.isub, 1) := by decide +kernel
theorem dX7_waysIn_12 : decode (zcc mX7_waysIn) 12 = .ok (.istore_n 2, 1) := by decide +kernel
theorem dX7_waysIn_13 : decode (zcc mX7_waysIn) 13 = .ok (.iload_n 2, 1) := by decide +kernel
theorem dX7_waysIn_14 : decode (zcc mX7_waysIn) 14 = .ok (.ifCond .gt 5, 3) := by decide +kernel
theorem dX7_waysIn_17 : decode (zcc mX7_waysIn) 17 = .ok (.lconst 0, 1) := by decide +kernel
theorem dX7_waysIn_18 : decode (zcc mX7_waysIn) 18 = .ok (.lreturn, 1) := by decide +kernel
theorem dX7_waysIn_19 : decode (zcc mX7_waysIn) 19 = .ok (.iload_n 2, 1) := by decide +kernel
theorem dX7_waysIn_20 : decode (zcc mX7_waysIn) 20 = .ok (.bipush 64, 2) := by decide +kernel
theorem dX7_waysIn_22 : decode (zcc mX7_waysIn) 22 = .ok (.if_icmp .lt 9, 3) := by decide +kernel
theorem dX7_waysIn_25 : decode (zcc mX7_waysIn) 25 = .ok (.ldc2_w 237, 3) := by decide +kernel
theorem dX7_waysIn_28 : decode (zcc mX7_waysIn) 28 = .ok (.goto 8, 3) := by decide +kernel
theorem dX7_waysIn_31 : decode (zcc mX7_waysIn) 31 = .ok (.lconst 1, 1) := by decide +kernel
theorem dX7_waysIn_32 : decode (zcc mX7_waysIn) 32 = .ok (.iload_n 2, 1) := by decide +kernel
theorem dX7_waysIn_33 : decode (zcc mX7_waysIn) 33 = .ok (.lshl, 1) := by decide +kernel
theorem dX7_waysIn_34 : decode (zcc mX7_waysIn) 34 = .ok (.lconst 1, 1) := by decide +kernel
theorem dX7_waysIn_35 : decode (zcc mX7_waysIn) 35 = .ok (.lsub, 1) := by decide +kernel
theorem dX7_waysIn_36 : decode (zcc mX7_waysIn) 36 = .ok (.lreturn, 1) := by decide +kernel
theorem dX7_modelsIn_0 : decode (zcc mX7_modelsIn) 0 = .ok (.aload_n 0, 1) := by decide +kernel
theorem dX7_modelsIn_1 : decode (zcc mX7_modelsIn) 1 = .ok (.iload_n 1, 1) := by decide +kernel
theorem dX7_modelsIn_2 : decode (zcc mX7_modelsIn) 2 = .ok (.invokevirtual 239, 3) := by decide +kernel
theorem dX7_modelsIn_5 : decode (zcc mX7_modelsIn) 5 = .ok (.lstore_n 3, 1) := by decide +kernel
theorem dX7_modelsIn_6 : decode (zcc mX7_modelsIn) 6 = .ok (.lconst 0, 1) := by decide +kernel
theorem dX7_modelsIn_7 : decode (zcc mX7_modelsIn) 7 = .ok (.lstore 5, 2) := by decide +kernel
theorem dX7_modelsIn_9 : decode (zcc mX7_modelsIn) 9 = .ok (.iconst 0, 1) := by decide +kernel
theorem dX7_modelsIn_10 : decode (zcc mX7_modelsIn) 10 = .ok (.istore 7, 2) := by decide +kernel
theorem dX7_modelsIn_12 : decode (zcc mX7_modelsIn) 12 = .ok (.iload 7, 2) := by decide +kernel
theorem dX7_modelsIn_14 : decode (zcc mX7_modelsIn) 14 = .ok (.aload_n 0, 1) := by decide +kernel
theorem dX7_modelsIn_15 : decode (zcc mX7_modelsIn) 15 = .ok (.getfield 58, 3) := by decide +kernel
theorem dX7_modelsIn_18 : decode (zcc mX7_modelsIn) 18 = .ok (.if_icmp .ge 58, 3) := by decide +kernel
theorem dX7_modelsIn_21 : decode (zcc mX7_modelsIn) 21 = .ok (.lload_n 3, 1) := by decide +kernel
theorem dX7_modelsIn_22 : decode (zcc mX7_modelsIn) 22 = .ok (.lconst 0, 1) := by decide +kernel
theorem dX7_modelsIn_23 : decode (zcc mX7_modelsIn) 23 = .ok (.lcmp, 1) := by decide +kernel
theorem dX7_modelsIn_24 : decode (zcc mX7_modelsIn) 24 = .ok (.ifCond .eq 52, 3) := by decide +kernel
theorem dX7_modelsIn_27 : decode (zcc mX7_modelsIn) 27 = .ok (.iload_n 2, 1) := by decide +kernel
theorem dX7_modelsIn_28 : decode (zcc mX7_modelsIn) 28 = .ok (.iload 7, 2) := by decide +kernel
theorem dX7_modelsIn_30 : decode (zcc mX7_modelsIn) 30 = .ok (.invokestatic 204, 3) := by decide +kernel
theorem dX7_modelsIn_33 : decode (zcc mX7_modelsIn) 33 = .ok (.ifCond .eq 37, 3) := by decide +kernel
theorem dX7_modelsIn_36 : decode (zcc mX7_modelsIn) 36 = .ok (.lload_n 3, 1) := by decide +kernel
theorem dX7_modelsIn_37 : decode (zcc mX7_modelsIn) 37 = .ok (.aload_n 0, 1) := by decide +kernel
theorem dX7_modelsIn_38 : decode (zcc mX7_modelsIn) 38 = .ok (.getfield 42, 3) := by decide +kernel
theorem dX7_modelsIn_41 : decode (zcc mX7_modelsIn) 41 = .ok (.iload 7, 2) := by decide +kernel
theorem dX7_modelsIn_43 : decode (zcc mX7_modelsIn) 43 = .ok (.aaload, 1) := by decide +kernel
theorem dX7_modelsIn_44 : decode (zcc mX7_modelsIn) 44 = .ok (.iload_n 1, 1) := by decide +kernel
theorem dX7_modelsIn_45 : decode (zcc mX7_modelsIn) 45 = .ok (.invokevirtual 243, 3) := by decide +kernel
theorem dX7_modelsIn_48 : decode (zcc mX7_modelsIn) 48 = .ok (.ldc2_w 237, 3) := by decide +kernel
theorem dX7_modelsIn_51 : decode (zcc mX7_modelsIn) 51 = .ok (.lxor, 1) := by decide +kernel
theorem dX7_modelsIn_52 : decode (zcc mX7_modelsIn) 52 = .ok (.land, 1) := by decide +kernel
theorem dX7_modelsIn_53 : decode (zcc mX7_modelsIn) 53 = .ok (.lstore_n 3, 1) := by decide +kernel
theorem dX7_modelsIn_54 : decode (zcc mX7_modelsIn) 54 = .ok (.lload 5, 2) := by decide +kernel
theorem dX7_modelsIn_56 : decode (zcc mX7_modelsIn) 56 = .ok (.aload_n 0, 1) := by decide +kernel
theorem dX7_modelsIn_57 : decode (zcc mX7_modelsIn) 57 = .ok (.getfield 42, 3) := by decide +kernel
theorem dX7_modelsIn_60 : decode (zcc mX7_modelsIn) 60 = .ok (.iload 7, 2) := by decide +kernel
theorem dX7_modelsIn_62 : decode (zcc mX7_modelsIn) 62 = .ok (.aaload, 1) := by decide +kernel
theorem dX7_modelsIn_63 : decode (zcc mX7_modelsIn) 63 = .ok (.iload_n 1, 1) := by decide +kernel
theorem dX7_modelsIn_64 : decode (zcc mX7_modelsIn) 64 = .ok (.invokevirtual 246, 3) := by decide +kernel
theorem dX7_modelsIn_67 : decode (zcc mX7_modelsIn) 67 = .ok (.lor, 1) := by decide +kernel
theorem dX7_modelsIn_68 : decode (zcc mX7_modelsIn) 68 = .ok (.lstore 5, 2) := by decide +kernel
theorem dX7_modelsIn_70 : decode (zcc mX7_modelsIn) 70 = .ok (.iinc 7 1, 3) := by decide +kernel
theorem dX7_modelsIn_73 : decode (zcc mX7_modelsIn) 73 = .ok (.goto (-61), 3) := by decide +kernel
theorem dX7_modelsIn_76 : decode (zcc mX7_modelsIn) 76 = .ok (.lload 5, 2) := by decide +kernel
theorem dX7_modelsIn_78 : decode (zcc mX7_modelsIn) 78 = .ok (.lload_n 3, 1) := by decide +kernel
theorem dX7_modelsIn_79 : decode (zcc mX7_modelsIn) 79 = .ok (.land, 1) := by decide +kernel
theorem dX7_modelsIn_80 : decode (zcc mX7_modelsIn) 80 = .ok (.lstore 5, 2) := by decide +kernel
theorem dX7_modelsIn_82 : decode (zcc mX7_modelsIn) 82 = .ok (.iconst 0, 1) := by decide +kernel
theorem dX7_modelsIn_83 : decode (zcc mX7_modelsIn) 83 = .ok (.istore 7, 2) := by decide +kernel
theorem dX7_modelsIn_85 : decode (zcc mX7_modelsIn) 85 = .ok (.iload 7, 2) := by decide +kernel
theorem dX7_modelsIn_87 : decode (zcc mX7_modelsIn) 87 = .ok (.bipush 64, 2) := by decide +kernel
theorem dX7_modelsIn_89 : decode (zcc mX7_modelsIn) 89 = .ok (.if_icmp .ge 57, 3) := by decide +kernel
theorem dX7_modelsIn_92 : decode (zcc mX7_modelsIn) 92 = .ok (.lload 5, 2) := by decide +kernel
theorem dX7_modelsIn_94 : decode (zcc mX7_modelsIn) 94 = .ok (.iload 7, 2) := by decide +kernel
theorem dX7_modelsIn_96 : decode (zcc mX7_modelsIn) 96 = .ok (.lushr, 1) := by decide +kernel
theorem dX7_modelsIn_97 : decode (zcc mX7_modelsIn) 97 = .ok (.lconst 0, 1) := by decide +kernel
theorem dX7_modelsIn_98 : decode (zcc mX7_modelsIn) 98 = .ok (.lcmp, 1) := by decide +kernel
theorem dX7_modelsIn_99 : decode (zcc mX7_modelsIn) 99 = .ok (.ifCond .eq 47, 3) := by decide +kernel
theorem dX7_modelsIn_102 : decode (zcc mX7_modelsIn) 102 = .ok (.lload 5, 2) := by decide +kernel
theorem dX7_modelsIn_104 : decode (zcc mX7_modelsIn) 104 = .ok (.iload 7, 2) := by decide +kernel
theorem dX7_modelsIn_106 : decode (zcc mX7_modelsIn) 106 = .ok (.lushr, 1) := by decide +kernel
theorem dX7_modelsIn_107 : decode (zcc mX7_modelsIn) 107 = .ok (.lconst 1, 1) := by decide +kernel
theorem dX7_modelsIn_108 : decode (zcc mX7_modelsIn) 108 = .ok (.land, 1) := by decide +kernel
theorem dX7_modelsIn_109 : decode (zcc mX7_modelsIn) 109 = .ok (.lconst 0, 1) := by decide +kernel
theorem dX7_modelsIn_110 : decode (zcc mX7_modelsIn) 110 = .ok (.lcmp, 1) := by decide +kernel
theorem dX7_modelsIn_111 : decode (zcc mX7_modelsIn) 111 = .ok (.ifCond .eq 29, 3) := by decide +kernel
theorem dX7_modelsIn_114 : decode (zcc mX7_modelsIn) 114 = .ok (.aload_n 0, 1) := by decide +kernel
theorem dX7_modelsIn_115 : decode (zcc mX7_modelsIn) 115 = .ok (.iload_n 1, 1) := by decide +kernel
theorem dX7_modelsIn_116 : decode (zcc mX7_modelsIn) 116 = .ok (.bipush 64, 2) := by decide +kernel
theorem dX7_modelsIn_118 : decode (zcc mX7_modelsIn) 118 = .ok (.imul, 1) := by decide +kernel
theorem dX7_modelsIn_119 : decode (zcc mX7_modelsIn) 119 = .ok (.iload 7, 2) := by decide +kernel
theorem dX7_modelsIn_121 : decode (zcc mX7_modelsIn) 121 = .ok (.iadd, 1) := by decide +kernel
theorem dX7_modelsIn_122 : decode (zcc mX7_modelsIn) 122 = .ok (.iload_n 2, 1) := by decide +kernel
theorem dX7_modelsIn_123 : decode (zcc mX7_modelsIn) 123 = .ok (.invokevirtual 249, 3) := by decide +kernel
theorem dX7_modelsIn_126 : decode (zcc mX7_modelsIn) 126 = .ok (.ifCond .ne 14, 3) := by decide +kernel
theorem dX7_modelsIn_129 : decode (zcc mX7_modelsIn) 129 = .ok (.lload_n 3, 1) := by decide +kernel
theorem dX7_modelsIn_130 : decode (zcc mX7_modelsIn) 130 = .ok (.lconst 1, 1) := by decide +kernel
theorem dX7_modelsIn_131 : decode (zcc mX7_modelsIn) 131 = .ok (.iload 7, 2) := by decide +kernel
theorem dX7_modelsIn_133 : decode (zcc mX7_modelsIn) 133 = .ok (.lshl, 1) := by decide +kernel
theorem dX7_modelsIn_134 : decode (zcc mX7_modelsIn) 134 = .ok (.ldc2_w 237, 3) := by decide +kernel
theorem dX7_modelsIn_137 : decode (zcc mX7_modelsIn) 137 = .ok (.lxor, 1) := by decide +kernel
theorem dX7_modelsIn_138 : decode (zcc mX7_modelsIn) 138 = .ok (.land, 1) := by decide +kernel
theorem dX7_modelsIn_139 : decode (zcc mX7_modelsIn) 139 = .ok (.lstore_n 3, 1) := by decide +kernel
theorem dX7_modelsIn_140 : decode (zcc mX7_modelsIn) 140 = .ok (.iinc 7 1, 3) := by decide +kernel
theorem dX7_modelsIn_143 : decode (zcc mX7_modelsIn) 143 = .ok (.goto (-58), 3) := by decide +kernel
theorem dX7_modelsIn_146 : decode (zcc mX7_modelsIn) 146 = .ok (.lload_n 3, 1) := by decide +kernel
theorem dX7_modelsIn_147 : decode (zcc mX7_modelsIn) 147 = .ok (.lreturn, 1) := by decide +kernel
theorem dX7_isModel_0 : decode (zcc mX7_isModel) 0 = .ok (.iconst 0, 1) := by decide +kernel
theorem dX7_isModel_1 : decode (zcc mX7_isModel) 1 = .ok (.istore_n 3, 1) := by decide +kernel
theorem dX7_isModel_2 : decode (zcc mX7_isModel) 2 = .ok (.iload_n 3, 1) := by decide +kernel
theorem dX7_isModel_3 : decode (zcc mX7_isModel) 3 = .ok (.aload_n 0, 1) := by decide +kernel
theorem dX7_isModel_4 : decode (zcc mX7_isModel) 4 = .ok (.getfield 58, 3) := by decide +kernel
theorem dX7_isModel_7 : decode (zcc mX7_isModel) 7 = .ok (.if_icmp .ge 77, 3) := by decide +kernel
theorem dX7_isModel_10 : decode (zcc mX7_isModel) 10 = .ok (.aload_n 0, 1) := by decide +kernel
theorem dX7_isModel_11 : decode (zcc mX7_isModel) 11 = .ok (.getfield 42, 3) := by decide +kernel
theorem dX7_isModel_14 : decode (zcc mX7_isModel) 14 = .ok (.iload_n 3, 1) := by decide +kernel
theorem dX7_isModel_15 : decode (zcc mX7_isModel) 15 = .ok (.aaload, 1) := by decide +kernel
theorem dX7_isModel_16 : decode (zcc mX7_isModel) 16 = .ok (.astore 4, 2) := by decide +kernel
theorem dX7_isModel_18 : decode (zcc mX7_isModel) 18 = .ok (.iload_n 2, 1) := by decide +kernel
theorem dX7_isModel_19 : decode (zcc mX7_isModel) 19 = .ok (.iload_n 3, 1) := by decide +kernel
theorem dX7_isModel_20 : decode (zcc mX7_isModel) 20 = .ok (.invokestatic 204, 3) := by decide +kernel
theorem dX7_isModel_23 : decode (zcc mX7_isModel) 23 = .ok (.ifCond .eq 55, 3) := by decide +kernel
theorem dX7_isModel_26 : decode (zcc mX7_isModel) 26 = .ok (.aload 4, 2) := by decide +kernel
theorem dX7_isModel_28 : decode (zcc mX7_isModel) 28 = .ok (.iload_n 1, 1) := by decide +kernel
theorem dX7_isModel_29 : decode (zcc mX7_isModel) 29 = .ok (.invokevirtual 252, 3) := by decide +kernel
theorem dX7_isModel_32 : decode (zcc mX7_isModel) 32 = .ok (.ifCond .ne 30, 3) := by decide +kernel
theorem dX7_isModel_35 : decode (zcc mX7_isModel) 35 = .ok (.aload_n 0, 1) := by decide +kernel
theorem dX7_isModel_36 : decode (zcc mX7_isModel) 36 = .ok (.getfield 21, 3) := by decide +kernel
theorem dX7_isModel_39 : decode (zcc mX7_isModel) 39 = .ok (.iload_n 1, 1) := by decide +kernel
theorem dX7_isModel_40 : decode (zcc mX7_isModel) 40 = .ok (.invokevirtual 234, 3) := by decide +kernel
theorem dX7_isModel_43 : decode (zcc mX7_isModel) 43 = .ok (.aload 4, 2) := by decide +kernel
theorem dX7_isModel_45 : decode (zcc mX7_isModel) 45 = .ok (.iload_n 1, 1) := by decide +kernel
theorem dX7_isModel_46 : decode (zcc mX7_isModel) 46 = .ok (.aload_n 0, 1) := by decide +kernel
theorem dX7_isModel_47 : decode (zcc mX7_isModel) 47 = .ok (.getfield 51, 3) := by decide +kernel
theorem dX7_isModel_50 : decode (zcc mX7_isModel) 50 = .ok (.aload 4, 2) := by decide +kernel
theorem dX7_isModel_52 : decode (zcc mX7_isModel) 52 = .ok (.aload_n 0, 1) := by decide +kernel
theorem dX7_isModel_53 : decode (zcc mX7_isModel) 53 = .ok (.getfield 21, 3) := by decide +kernel
theorem dX7_isModel_56 : decode (zcc mX7_isModel) 56 = .ok (.invokevirtual 187, 3) := by decide +kernel
theorem dX7_isModel_59 : decode (zcc mX7_isModel) 59 = .ok (.invokevirtual 255, 3) := by decide +kernel
theorem dX7_isModel_62 : decode (zcc mX7_isModel) 62 = .ok (.aload 4, 2) := by decide +kernel
theorem dX7_isModel_64 : decode (zcc mX7_isModel) 64 = .ok (.iload_n 1, 1) := by decide +kernel
theorem dX7_isModel_65 : decode (zcc mX7_isModel) 65 = .ok (.invokevirtual 258, 3) := by decide +kernel
theorem dX7_isModel_68 : decode (zcc mX7_isModel) 68 = .ok (.aload 4, 2) := by decide +kernel
theorem dX7_isModel_70 : decode (zcc mX7_isModel) 70 = .ok (.getfield 153, 3) := by decide +kernel
theorem dX7_isModel_73 : decode (zcc mX7_isModel) 73 = .ok (.if_icmp .ne 5, 3) := by decide +kernel
theorem dX7_isModel_76 : decode (zcc mX7_isModel) 76 = .ok (.iconst 0, 1) := by decide +kernel
theorem dX7_isModel_77 : decode (zcc mX7_isModel) 77 = .ok (.ireturn, 1) := by decide +kernel
theorem dX7_isModel_78 : decode (zcc mX7_isModel) 78 = .ok (.iinc 3 1, 3) := by decide +kernel
theorem dX7_isModel_81 : decode (zcc mX7_isModel) 81 = .ok (.goto (-79), 3) := by decide +kernel
theorem dX7_isModel_84 : decode (zcc mX7_isModel) 84 = .ok (.iconst 1, 1) := by decide +kernel
theorem dX7_isModel_85 : decode (zcc mX7_isModel) 85 = .ok (.ireturn, 1) := by decide +kernel
theorem dX7_hasModel_0 : decode (zcc mX7_hasModel) 0 = .ok (.iconst 0, 1) := by decide +kernel
theorem dX7_hasModel_1 : decode (zcc mX7_hasModel) 1 = .ok (.istore_n 2, 1) := by decide +kernel
theorem dX7_hasModel_2 : decode (zcc mX7_hasModel) 2 = .ok (.iload_n 2, 1) := by decide +kernel
theorem dX7_hasModel_3 : decode (zcc mX7_hasModel) 3 = .ok (.bipush 125, 2) := by decide +kernel
theorem dX7_hasModel_5 : decode (zcc mX7_hasModel) 5 = .ok (.if_icmp .ge 22, 3) := by decide +kernel
theorem dX7_hasModel_8 : decode (zcc mX7_hasModel) 8 = .ok (.aload_n 0, 1) := by decide +kernel
theorem dX7_hasModel_9 : decode (zcc mX7_hasModel) 9 = .ok (.iload_n 2, 1) := by decide +kernel
theorem dX7_hasModel_10 : decode (zcc mX7_hasModel) 10 = .ok (.iload_n 1, 1) := by decide +kernel
theorem dX7_hasModel_11 : decode (zcc mX7_hasModel) 11 = .ok (.invokevirtual 168, 3) := by decide +kernel
theorem dX7_hasModel_14 : decode (zcc mX7_hasModel) 14 = .ok (.lconst 0, 1) := by decide +kernel
theorem dX7_hasModel_15 : decode (zcc mX7_hasModel) 15 = .ok (.lcmp, 1) := by decide +kernel
theorem dX7_hasModel_16 : decode (zcc mX7_hasModel) 16 = .ok (.ifCond .eq 5, 3) := by decide +kernel
theorem dX7_hasModel_19 : decode (zcc mX7_hasModel) 19 = .ok (.iconst 1, 1) := by decide +kernel
theorem dX7_hasModel_20 : decode (zcc mX7_hasModel) 20 = .ok (.ireturn, 1) := by decide +kernel
theorem dX7_hasModel_21 : decode (zcc mX7_hasModel) 21 = .ok (.iinc 2 1, 3) := by decide +kernel
theorem dX7_hasModel_24 : decode (zcc mX7_hasModel) 24 = .ok (.goto (-22), 3) := by decide +kernel
theorem dX7_hasModel_27 : decode (zcc mX7_hasModel) 27 = .ok (.iconst 0, 1) := by decide +kernel
theorem dX7_hasModel_28 : decode (zcc mX7_hasModel) 28 = .ok (.ireturn, 1) := by decide +kernel
theorem dX7_placeOfBit_0 : decode (zcc mX7_placeOfBit) 0 = .ok (.lload_n 0, 1) := by decide +kernel
theorem dX7_placeOfBit_1 : decode (zcc mX7_placeOfBit) 1 = .ok (.lstore_n 3, 1) := by decide +kernel
theorem dX7_placeOfBit_2 : decode (zcc mX7_placeOfBit) 2 = .ok (.iconst 0, 1) := by decide +kernel
theorem dX7_placeOfBit_3 : decode (zcc mX7_placeOfBit) 3 = .ok (.istore 5, 2) := by decide +kernel
theorem dX7_placeOfBit_5 : decode (zcc mX7_placeOfBit) 5 = .ok (.iload 5, 2) := by decide +kernel
theorem dX7_placeOfBit_7 : decode (zcc mX7_placeOfBit) 7 = .ok (.iload_n 2, 1) := by decide +kernel
theorem dX7_placeOfBit_8 : decode (zcc mX7_placeOfBit) 8 = .ok (.if_icmp .ge 15, 3) := by decide +kernel
theorem dX7_placeOfBit_11 : decode (zcc mX7_placeOfBit) 11 = .ok (.lload_n 3, 1) := by decide +kernel
theorem dX7_placeOfBit_12 : decode (zcc mX7_placeOfBit) 12 = .ok (.lload_n 3, 1) := by decide +kernel
theorem dX7_placeOfBit_13 : decode (zcc mX7_placeOfBit) 13 = .ok (.lconst 1, 1) := by decide +kernel
theorem dX7_placeOfBit_14 : decode (zcc mX7_placeOfBit) 14 = .ok (.lsub, 1) := by decide +kernel
theorem dX7_placeOfBit_15 : decode (zcc mX7_placeOfBit) 15 = .ok (.land, 1) := by decide +kernel
theorem dX7_placeOfBit_16 : decode (zcc mX7_placeOfBit) 16 = .ok (.lstore_n 3, 1) := by decide +kernel
theorem dX7_placeOfBit_17 : decode (zcc mX7_placeOfBit) 17 = .ok (.iinc 5 1, 3) := by decide +kernel
theorem dX7_placeOfBit_20 : decode (zcc mX7_placeOfBit) 20 = .ok (.goto (-15), 3) := by decide +kernel
theorem dX7_placeOfBit_23 : decode (zcc mX7_placeOfBit) 23 = .ok (.lload_n 3, 1) := by decide +kernel
theorem dX7_placeOfBit_24 : decode (zcc mX7_placeOfBit) 24 = .ok (.lload_n 3, 1) := by decide +kernel
theorem dX7_placeOfBit_25 : decode (zcc mX7_placeOfBit) 25 = .ok (.lneg, 1) := by decide +kernel
theorem dX7_placeOfBit_26 : decode (zcc mX7_placeOfBit) 26 = .ok (.land, 1) := by decide +kernel
theorem dX7_placeOfBit_27 : decode (zcc mX7_placeOfBit) 27 = .ok (.lstore 5, 2) := by decide +kernel
theorem dX7_placeOfBit_29 : decode (zcc mX7_placeOfBit) 29 = .ok (.lload 5, 2) := by decide +kernel
theorem dX7_placeOfBit_31 : decode (zcc mX7_placeOfBit) 31 = .ok (.lconst 1, 1) := by decide +kernel
theorem dX7_placeOfBit_32 : decode (zcc mX7_placeOfBit) 32 = .ok (.lsub, 1) := by decide +kernel
theorem dX7_placeOfBit_33 : decode (zcc mX7_placeOfBit) 33 = .ok (.invokestatic 172, 3) := by decide +kernel
theorem dX7_placeOfBit_36 : decode (zcc mX7_placeOfBit) 36 = .ok (.ireturn, 1) := by decide +kernel
theorem dX7_areLengthsFit_0 : decode (zcc mX7_areLengthsFit) 0 = .ok (.iconst 0, 1) := by decide +kernel
theorem dX7_areLengthsFit_1 : decode (zcc mX7_areLengthsFit) 1 = .ok (.istore_n 1, 1) := by decide +kernel
theorem dX7_areLengthsFit_2 : decode (zcc mX7_areLengthsFit) 2 = .ok (.iload_n 1, 1) := by decide +kernel
theorem dX7_areLengthsFit_3 : decode (zcc mX7_areLengthsFit) 3 = .ok (.aload_n 0, 1) := by decide +kernel
theorem dX7_areLengthsFit_4 : decode (zcc mX7_areLengthsFit) 4 = .ok (.getfield 58, 3) := by decide +kernel
theorem dX7_areLengthsFit_7 : decode (zcc mX7_areLengthsFit) 7 = .ok (.if_icmp .ge 33, 3) := by decide +kernel
theorem dX7_areLengthsFit_10 : decode (zcc mX7_areLengthsFit) 10 = .ok (.aload_n 0, 1) := by decide +kernel
theorem dX7_areLengthsFit_11 : decode (zcc mX7_areLengthsFit) 11 = .ok (.getfield 42, 3) := by decide +kernel
theorem dX7_areLengthsFit_14 : decode (zcc mX7_areLengthsFit) 14 = .ok (.iload_n 1, 1) := by decide +kernel
theorem dX7_areLengthsFit_15 : decode (zcc mX7_areLengthsFit) 15 = .ok (.aaload, 1) := by decide +kernel
theorem dX7_areLengthsFit_16 : decode (zcc mX7_areLengthsFit) 16 = .ok (.astore_n 2, 1) := by decide +kernel
theorem dX7_areLengthsFit_17 : decode (zcc mX7_areLengthsFit) 17 = .ok (.aload_n 2, 1) := by decide +kernel
theorem dX7_areLengthsFit_18 : decode (zcc mX7_areLengthsFit) 18 = .ok (.getfield 157, 3) := by decide +kernel
theorem dX7_areLengthsFit_21 : decode (zcc mX7_areLengthsFit) 21 = .ok (.ifCond .ne 13, 3) := by decide +kernel
theorem dX7_areLengthsFit_24 : decode (zcc mX7_areLengthsFit) 24 = .ok (.aload_n 0, 1) := by decide +kernel
theorem dX7_areLengthsFit_25 : decode (zcc mX7_areLengthsFit) 25 = .ok (.aload_n 2, 1) := by decide +kernel
theorem dX7_areLengthsFit_26 : decode (zcc mX7_areLengthsFit) 26 = .ok (.invokevirtual 261, 3) := by decide +kernel
theorem dX7_areLengthsFit_29 : decode (zcc mX7_areLengthsFit) 29 = .ok (.ifCond .ne 5, 3) := by decide +kernel
theorem dX7_areLengthsFit_32 : decode (zcc mX7_areLengthsFit) 32 = .ok (.iconst 0, 1) := by decide +kernel
theorem dX7_areLengthsFit_33 : decode (zcc mX7_areLengthsFit) 33 = .ok (.ireturn, 1) := by decide +kernel
theorem dX7_areLengthsFit_34 : decode (zcc mX7_areLengthsFit) 34 = .ok (.iinc 1 1, 3) := by decide +kernel
theorem dX7_areLengthsFit_37 : decode (zcc mX7_areLengthsFit) 37 = .ok (.goto (-35), 3) := by decide +kernel
theorem dX7_areLengthsFit_40 : decode (zcc mX7_areLengthsFit) 40 = .ok (.iconst 1, 1) := by decide +kernel
theorem dX7_areLengthsFit_41 : decode (zcc mX7_areLengthsFit) 41 = .ok (.ireturn, 1) := by decide +kernel
theorem dX7_isLengthFit_0 : decode (zcc mX7_isLengthFit) 0 = .ok (.aload_n 1, 1) := by decide +kernel
theorem dX7_isLengthFit_1 : decode (zcc mX7_isLengthFit) 1 = .ok (.getfield 265, 3) := by decide +kernel
theorem dX7_isLengthFit_4 : decode (zcc mX7_isLengthFit) 4 = .ok (.iconst 1, 1) := by decide +kernel
theorem dX7_isLengthFit_5 : decode (zcc mX7_isLengthFit) 5 = .ok (.if_icmp .ne 31, 3) := by decide +kernel
theorem dX7_isLengthFit_8 : decode (zcc mX7_isLengthFit) 8 = .ok (.aload_n 0, 1) := by decide +kernel
theorem dX7_isLengthFit_9 : decode (zcc mX7_isLengthFit) 9 = .ok (.getfield 51, 3) := by decide +kernel
theorem dX7_isLengthFit_12 : decode (zcc mX7_isLengthFit) 12 = .ok (.aload_n 1, 1) := by decide +kernel
theorem dX7_isLengthFit_13 : decode (zcc mX7_isLengthFit) 13 = .ok (.aload_n 0, 1) := by decide +kernel
theorem dX7_isLengthFit_14 : decode (zcc mX7_isLengthFit) 14 = .ok (.getfield 21, 3) := by decide +kernel
theorem dX7_isLengthFit_17 : decode (zcc mX7_isLengthFit) 17 = .ok (.getfield 268, 3) := by decide +kernel
theorem dX7_isLengthFit_20 : decode (zcc mX7_isLengthFit) 20 = .ok (.invokevirtual 272, 3) := by decide +kernel
theorem dX7_isLengthFit_23 : decode (zcc mX7_isLengthFit) 23 = .ok (.aload_n 1, 1) := by decide +kernel
theorem dX7_isLengthFit_24 : decode (zcc mX7_isLengthFit) 24 = .ok (.getfield 153, 3) := by decide +kernel
theorem dX7_isLengthFit_27 : decode (zcc mX7_isLengthFit) 27 = .ok (.if_icmp .eq 7, 3) := by decide +kernel
theorem dX7_isLengthFit_30 : decode (zcc mX7_isLengthFit) 30 = .ok (.iconst 1, 1) := by decide +kernel
theorem dX7_isLengthFit_31 : decode (zcc mX7_isLengthFit) 31 = .ok (.goto 4, 3) := by decide +kernel
theorem dX7_isLengthFit_34 : decode (zcc mX7_isLengthFit) 34 = .ok (.iconst 0, 1) := by decide +kernel
theorem dX7_isLengthFit_35 : decode (zcc mX7_isLengthFit) 35 = .ok (.ireturn, 1) := by decide +kernel
theorem dX7_isLengthFit_36 : decode (zcc mX7_isLengthFit) 36 = .ok (.aload_n 1, 1) := by decide +kernel
theorem dX7_isLengthFit_37 : decode (zcc mX7_isLengthFit) 37 = .ok (.getfield 265, 3) := by decide +kernel
theorem dX7_isLengthFit_40 : decode (zcc mX7_isLengthFit) 40 = .ok (.ifCond .ne 28, 3) := by decide +kernel
theorem dX7_isLengthFit_43 : decode (zcc mX7_isLengthFit) 43 = .ok (.aload_n 1, 1) := by decide +kernel
theorem dX7_isLengthFit_44 : decode (zcc mX7_isLengthFit) 44 = .ok (.getfield 153, 3) := by decide +kernel
theorem dX7_isLengthFit_47 : decode (zcc mX7_isLengthFit) 47 = .ok (.ifCond .ne 21, 3) := by decide +kernel
theorem dX7_isLengthFit_50 : decode (zcc mX7_isLengthFit) 50 = .ok (.aload_n 0, 1) := by decide +kernel
theorem dX7_isLengthFit_51 : decode (zcc mX7_isLengthFit) 51 = .ok (.getfield 51, 3) := by decide +kernel
theorem dX7_isLengthFit_54 : decode (zcc mX7_isLengthFit) 54 = .ok (.aload_n 1, 1) := by decide +kernel
theorem dX7_isLengthFit_55 : decode (zcc mX7_isLengthFit) 55 = .ok (.aload_n 0, 1) := by decide +kernel
theorem dX7_isLengthFit_56 : decode (zcc mX7_isLengthFit) 56 = .ok (.getfield 21, 3) := by decide +kernel
theorem dX7_isLengthFit_59 : decode (zcc mX7_isLengthFit) 59 = .ok (.getfield 268, 3) := by decide +kernel
theorem dX7_isLengthFit_62 : decode (zcc mX7_isLengthFit) 62 = .ok (.invokevirtual 276, 3) := by decide +kernel
theorem dX7_isLengthFit_65 : decode (zcc mX7_isLengthFit) 65 = .ok (.ifCond .eq 7, 3) := by decide +kernel
theorem dX7_isLengthFit_68 : decode (zcc mX7_isLengthFit) 68 = .ok (.iconst 1, 1) := by decide +kernel
theorem dX7_isLengthFit_69 : decode (zcc mX7_isLengthFit) 69 = .ok (.goto 4, 3) := by decide +kernel
theorem dX7_isLengthFit_72 : decode (zcc mX7_isLengthFit) 72 = .ok (.iconst 0, 1) := by decide +kernel
theorem dX7_isLengthFit_73 : decode (zcc mX7_isLengthFit) 73 = .ok (.ireturn, 1) := by decide +kernel
theorem dX8_init_0 : decode (zcc mX8_init) 0 = .ok (.aload_n 0, 1) := by decide +kernel
theorem dX8_init_1 : decode (zcc mX8_init) 1 = .ok (.invokespecial 1, 3) := by decide +kernel
theorem dX8_init_4 : decode (zcc mX8_init) 4 = .ok (.aload_n 0, 1) := by decide +kernel
theorem dX8_init_5 : decode (zcc mX8_init) 5 = .ok (.iconst 2, 1) := by decide +kernel
theorem dX8_init_6 : decode (zcc mX8_init) 6 = .ok (.putfield 7, 3) := by decide +kernel
theorem dX8_init_9 : decode (zcc mX8_init) 9 = .ok (.aload_n 0, 1) := by decide +kernel
theorem dX8_init_10 : decode (zcc mX8_init) 10 = .ok (.iconst 4, 1) := by decide +kernel
theorem dX8_init_11 : decode (zcc mX8_init) 11 = .ok (.newarray .int, 2) := by decide +kernel
theorem dX8_init_13 : decode (zcc mX8_init) 13 = .ok (.putfield 13, 3) := by decide +kernel
theorem dX8_init_16 : decode (zcc mX8_init) 16 = .ok (.aload_n 0, 1) := by decide +kernel
theorem dX8_init_17 : decode (zcc mX8_init) 17 = .ok (.iconst 1, 1) := by decide +kernel
theorem dX8_init_18 : decode (zcc mX8_init) 18 = .ok (.putfield 17, 3) := by decide +kernel
theorem dX8_init_21 : decode (zcc mX8_init) 21 = .ok (.aload_n 0, 1) := by decide +kernel
theorem dX8_init_22 : decode (zcc mX8_init) 22 = .ok (.bipush 12, 2) := by decide +kernel
theorem dX8_init_24 : decode (zcc mX8_init) 24 = .ok (.newarray .int, 2) := by decide +kernel
theorem dX8_init_26 : decode (zcc mX8_init) 26 = .ok (.putfield 20, 3) := by decide +kernel
theorem dX8_init_29 : decode (zcc mX8_init) 29 = .ok (.aload_n 0, 1) := by decide +kernel
theorem dX8_init_30 : decode (zcc mX8_init) 30 = .ok (.bipush 72, 2) := by decide +kernel
theorem dX8_init_32 : decode (zcc mX8_init) 32 = .ok (.newarray .int, 2) := by decide +kernel
theorem dX8_init_34 : decode (zcc mX8_init) 34 = .ok (.putfield 23, 3) := by decide +kernel
theorem dX8_init_37 : decode (zcc mX8_init) 37 = .ok (.aload_n 0, 1) := by decide +kernel
theorem dX8_init_38 : decode (zcc mX8_init) 38 = .ok (.iconst 3, 1) := by decide +kernel
theorem dX8_init_39 : decode (zcc mX8_init) 39 = .ok (.newarray .int, 2) := by decide +kernel
theorem dX8_init_41 : decode (zcc mX8_init) 41 = .ok (.putfield 26, 3) := by decide +kernel
theorem dX8_init_44 : decode (zcc mX8_init) 44 = .ok (.aload_n 0, 1) := by decide +kernel
theorem dX8_init_45 : decode (zcc mX8_init) 45 = .ok (.bipush 54, 2) := by decide +kernel
theorem dX8_init_47 : decode (zcc mX8_init) 47 = .ok (.newarray .int, 2) := by decide +kernel
theorem dX8_init_49 : decode (zcc mX8_init) 49 = .ok (.putfield 29, 3) := by decide +kernel
theorem dX8_init_52 : decode (zcc mX8_init) 52 = .ok (.aload_n 0, 1) := by decide +kernel
theorem dX8_init_53 : decode (zcc mX8_init) 53 = .ok (.bipush 18, 2) := by decide +kernel
theorem dX8_init_55 : decode (zcc mX8_init) 55 = .ok (.newarray .boolean, 2) := by decide +kernel
theorem dX8_init_57 : decode (zcc mX8_init) 57 = .ok (.putfield 32, 3) := by decide +kernel
theorem dX8_init_60 : decode (zcc mX8_init) 60 = .ok (.aload_n 0, 1) := by decide +kernel
theorem dX8_init_61 : decode (zcc mX8_init) 61 = .ok (.bipush 10, 2) := by decide +kernel
theorem dX8_init_63 : decode (zcc mX8_init) 63 = .ok (.newarray .int, 2) := by decide +kernel
theorem dX8_init_65 : decode (zcc mX8_init) 65 = .ok (.putfield 36, 3) := by decide +kernel
theorem dX8_init_68 : decode (zcc mX8_init) 68 = .ok (.aload_n 0, 1) := by decide +kernel
theorem dX8_init_69 : decode (zcc mX8_init) 69 = .ok (.bipush 10, 2) := by decide +kernel
theorem dX8_init_71 : decode (zcc mX8_init) 71 = .ok (.newarray .int, 2) := by decide +kernel
theorem dX8_init_73 : decode (zcc mX8_init) 73 = .ok (.putfield 39, 3) := by decide +kernel
theorem dX8_init_76 : decode (zcc mX8_init) 76 = .ok (.aload_n 0, 1) := by decide +kernel
theorem dX8_init_77 : decode (zcc mX8_init) 77 = .ok (.bipush 10, 2) := by decide +kernel
theorem dX8_init_79 : decode (zcc mX8_init) 79 = .ok (.newarray .int, 2) := by decide +kernel
theorem dX8_init_81 : decode (zcc mX8_init) 81 = .ok (.putfield 42, 3) := by decide +kernel
theorem dX8_init_84 : decode (zcc mX8_init) 84 = .ok (.aload_n 0, 1) := by decide +kernel
theorem dX8_init_85 : decode (zcc mX8_init) 85 = .ok (.bipush 10, 2) := by decide +kernel
theorem dX8_init_87 : decode (zcc mX8_init) 87 = .ok (.newarray .int, 2) := by decide +kernel
theorem dX8_init_89 : decode (zcc mX8_init) 89 = .ok (.putfield 45, 3) := by decide +kernel
theorem dX8_init_92 : decode (zcc mX8_init) 92 = .ok (.aload_n 0, 1) := by decide +kernel
theorem dX8_init_93 : decode (zcc mX8_init) 93 = .ok (.bipush 10, 2) := by decide +kernel
theorem dX8_init_95 : decode (zcc mX8_init) 95 = .ok (.newarray .int, 2) := by decide +kernel
theorem dX8_init_97 : decode (zcc mX8_init) 97 = .ok (.putfield 48, 3) := by decide +kernel
theorem dX8_init_100 : decode (zcc mX8_init) 100 = .ok (.aload_n 0, 1) := by decide +kernel
theorem dX8_init_101 : decode (zcc mX8_init) 101 = .ok (.bipush 10, 2) := by decide +kernel
theorem dX8_init_103 : decode (zcc mX8_init) 103 = .ok (.newarray .boolean, 2) := by decide +kernel
theorem dX8_init_105 : decode (zcc mX8_init) 105 = .ok (.putfield 51, 3) := by decide +kernel
theorem dX8_init_108 : decode (zcc mX8_init) 108 = .ok (.aload_n 0, 1) := by decide +kernel
theorem dX8_init_109 : decode (zcc mX8_init) 109 = .ok (.bipush 10, 2) := by decide +kernel
theorem dX8_init_111 : decode (zcc mX8_init) 111 = .ok (.newarray .boolean, 2) := by decide +kernel
theorem dX8_init_113 : decode (zcc mX8_init) 113 = .ok (.putfield 54, 3) := by decide +kernel
theorem dX8_init_116 : decode (zcc mX8_init) 116 = .ok (.aload_n 0, 1) := by decide +kernel
theorem dX8_init_117 : decode (zcc mX8_init) 117 = .ok (.iconst 4, 1) := by decide +kernel
theorem dX8_init_118 : decode (zcc mX8_init) 118 = .ok (.newarray .int, 2) := by decide +kernel
theorem dX8_init_120 : decode (zcc mX8_init) 120 = .ok (.putfield 57, 3) := by decide +kernel
theorem dX8_init_123 : decode (zcc mX8_init) 123 = .ok (.aload_n 0, 1) := by decide +kernel
theorem dX8_init_124 : decode (zcc mX8_init) 124 = .ok (.bipush 20, 2) := by decide +kernel
theorem dX8_init_126 : decode (zcc mX8_init) 126 = .ok (.newarray .int, 2) := by decide +kernel
theorem dX8_init_128 : decode (zcc mX8_init) 128 = .ok (.putfield 60, 3) := by decide +kernel
theorem dX8_init_131 : decode (zcc mX8_init) 131 = .ok (.aload_n 0, 1) := by decide +kernel
theorem dX8_init_132 : decode (zcc mX8_init) 132 = .ok (.bipush 10, 2) := by decide +kernel
theorem dX8_init_134 : decode (zcc mX8_init) 134 = .ok (.newarray .boolean, 2) := by decide +kernel
theorem dX8_init_136 : decode (zcc mX8_init) 136 = .ok (.putfield 63, 3) := by decide +kernel
theorem dX8_init_139 : decode (zcc mX8_init) 139 = .ok (.aload_n 0, 1) := by decide +kernel
theorem dX8_init_140 : decode (zcc mX8_init) 140 = .ok (.iconst 4, 1) := by decide +kernel
theorem dX8_init_141 : decode (zcc mX8_init) 141 = .ok (.newarray .int, 2) := by decide +kernel
theorem dX8_init_143 : decode (zcc mX8_init) 143 = .ok (.putfield 66, 3) := by decide +kernel
theorem dX8_init_146 : decode (zcc mX8_init) 146 = .ok (.aload_n 0, 1) := by decide +kernel
theorem dX8_init_147 : decode (zcc mX8_init) 147 = .ok (.bipush 20, 2) := by decide +kernel
theorem dX8_init_149 : decode (zcc mX8_init) 149 = .ok (.newarray .int, 2) := by decide +kernel
theorem dX8_init_151 : decode (zcc mX8_init) 151 = .ok (.putfield 69, 3) := by decide +kernel
theorem dX8_init_154 : decode (zcc mX8_init) 154 = .ok (.aload_n 0, 1) := by decide +kernel
theorem dX8_init_155 : decode (zcc mX8_init) 155 = .ok (.sipush 128, 3) := by decide +kernel
theorem dX8_init_158 : decode (zcc mX8_init) 158 = .ok (.newarray .int, 2) := by decide +kernel
theorem dX8_init_160 : decode (zcc mX8_init) 160 = .ok (.putfield 72, 3) := by decide +kernel
theorem dX8_init_163 : decode (zcc mX8_init) 163 = .ok (.aload_n 0, 1) := by decide +kernel
theorem dX8_init_164 : decode (zcc mX8_init) 164 = .ok (.iconst 4, 1) := by decide +kernel
theorem dX8_init_165 : decode (zcc mX8_init) 165 = .ok (.newarray .int, 2) := by decide +kernel
theorem dX8_init_167 : decode (zcc mX8_init) 167 = .ok (.putfield 75, 3) := by decide +kernel
theorem dX8_init_170 : decode (zcc mX8_init) 170 = .ok (.aload_n 0, 1) := by decide +kernel
theorem dX8_init_171 : decode (zcc mX8_init) 171 = .ok (.bipush 64, 2) := by decide +kernel
theorem dX8_init_173 : decode (zcc mX8_init) 173 = .ok (.newarray .int, 2) := by decide +kernel
theorem dX8_init_175 : decode (zcc mX8_init) 175 = .ok (.putfield 78, 3) := by decide +kernel
theorem dX8_init_178 : decode (zcc mX8_init) 178 = .ok (.aload_n 0, 1) := by decide +kernel
theorem dX8_init_179 : decode (zcc mX8_init) 179 = .ok (.bipush 10, 2) := by decide +kernel
theorem dX8_init_181 : decode (zcc mX8_init) 181 = .ok (.newarray .boolean, 2) := by decide +kernel
theorem dX8_init_183 : decode (zcc mX8_init) 183 = .ok (.putfield 81, 3) := by decide +kernel
theorem dX8_init_186 : decode (zcc mX8_init) 186 = .ok (.aload_n 0, 1) := by decide +kernel
theorem dX8_init_187 : decode (zcc mX8_init) 187 = .ok (.bipush 36, 2) := by decide +kernel
theorem dX8_init_189 : decode (zcc mX8_init) 189 = .ok (.newarray .int, 2) := by decide +kernel
theorem dX8_init_191 : decode (zcc mX8_init) 191 = .ok (.putfield 84, 3) := by decide +kernel
theorem dX8_init_194 : decode (zcc mX8_init) 194 = .ok (.return_, 1) := by decide +kernel
theorem dX8_in_0 : decode (zcc mX8_in) 0 = .ok (.iload_n 0, 1) := by decide +kernel
theorem dX8_in_1 : decode (zcc mX8_in) 1 = .ok (.iload_n 1, 1) := by decide +kernel
theorem dX8_in_2 : decode (zcc mX8_in) 2 = .ok (.if_icmp .lt 12, 3) := by decide +kernel
theorem dX8_in_5 : decode (zcc mX8_in) 5 = .ok (.iload_n 0, 1) := by decide +kernel
theorem dX8_in_6 : decode (zcc mX8_in) 6 = .ok (.iload_n 2, 1) := by decide +kernel
theorem dX8_in_7 : decode (zcc mX8_in) 7 = .ok (.if_icmp .gt 7, 3) := by decide +kernel
theorem dX8_in_10 : decode (zcc mX8_in) 10 = .ok (.iconst 1, 1) := by decide +kernel
theorem dX8_in_11 : decode (zcc mX8_in) 11 = .ok (.goto 4, 3) := by decide +kernel
theorem dX8_in_14 : decode (zcc mX8_in) 14 = .ok (.iconst 0, 1) := by decide +kernel
theorem dX8_in_15 : decode (zcc mX8_in) 15 = .ok (.ireturn, 1) := by decide +kernel
theorem dX8_changed_0 : decode (zcc mX8_changed) 0 = .ok (.aload_n 0, 1) := by decide +kernel
theorem dX8_changed_1 : decode (zcc mX8_changed) 1 = .ok (.iconst 0, 1) := by decide +kernel
theorem dX8_changed_2 : decode (zcc mX8_changed) 2 = .ok (.putfield 87, 3) := by decide +kernel
theorem dX8_changed_5 : decode (zcc mX8_changed) 5 = .ok (.aload_n 0, 1) := by decide +kernel
theorem dX8_changed_6 : decode (zcc mX8_changed) 6 = .ok (.iconst 0, 1) := by decide +kernel
theorem dX8_changed_7 : decode (zcc mX8_changed) 7 = .ok (.putfield 91, 3) := by decide +kernel
theorem dX8_changed_10 : decode (zcc mX8_changed) 10 = .ok (.return_, 1) := by decide +kernel
theorem dX8_clear_0 : decode (zcc mX8_clear) 0 = .ok (.iload_n 1, 1) := by decide +kernel
theorem dX8_clear_1 : decode (zcc mX8_clear) 1 = .ok (.iconst 2, 1) := by decide +kernel
theorem dX8_clear_2 : decode (zcc mX8_clear) 2 = .ok (.iconst 3, 1) := by decide +kernel
theorem dX8_clear_3 : decode (zcc mX8_clear) 3 = .ok (.invokestatic 94, 3) := by decide +kernel
theorem dX8_clear_6 : decode (zcc mX8_clear) 6 = .ok (.ifCond .ne 6, 3) := by decide +kernel
theorem dX8_clear_9 : decode (zcc mX8_clear) 9 = .ok (.bipush (-3), 2) := by decide +kernel
theorem dX8_clear_11 : decode (zcc mX8_clear) 11 = .ok (.ireturn, 1) := by decide +kernel
theorem dX8_clear_12 : decode (zcc mX8_clear) 12 = .ok (.aload_n 0, 1) := by decide +kernel
theorem dX8_clear_13 : decode (zcc mX8_clear) 13 = .ok (.getfield 98, 3) := by decide +kernel
theorem dX8_clear_16 : decode (zcc mX8_clear) 16 = .ok (.istore_n 2, 1) := by decide +kernel
theorem dX8_clear_17 : decode (zcc mX8_clear) 17 = .ok (.aload_n 0, 1) := by decide +kernel
theorem dX8_clear_18 : decode (zcc mX8_clear) 18 = .ok (.iload_n 1, 1) := by decide +kernel
theorem dX8_clear_19 : decode (zcc mX8_clear) 19 = .ok (.putfield 7, 3) := by decide +kernel
theorem dX8_clear_22 : decode (zcc mX8_clear) 22 = .ok (.aload_n 0, 1) := by decide +kernel
theorem dX8_clear_23 : decode (zcc mX8_clear) 23 = .ok (.iconst 0, 1) := by decide +kernel
theorem dX8_clear_24 : decode (zcc mX8_clear) 24 = .ok (.putfield 101, 3) := by decide +kernel
theorem dX8_clear_27 : decode (zcc mX8_clear) 27 = .ok (.aload_n 0, 1) := by decide +kernel
theorem dX8_clear_28 : decode (zcc mX8_clear) 28 = .ok (.iconst 1, 1) := by decide +kernel
theorem dX8_clear_29 : decode (zcc mX8_clear) 29 = .ok (.putfield 17, 3) := by decide +kernel
theorem dX8_clear_32 : decode (zcc mX8_clear) 32 = .ok (.aload_n 0, 1) := by decide +kernel
theorem dX8_clear_33 : decode (zcc mX8_clear) 33 = .ok (.iconst 0, 1) := by decide +kernel
theorem dX8_clear_34 : decode (zcc mX8_clear) 34 = .ok (.putfield 104, 3) := by decide +kernel
theorem dX8_clear_37 : decode (zcc mX8_clear) 37 = .ok (.aload_n 0, 1) := by decide +kernel
theorem dX8_clear_38 : decode (zcc mX8_clear) 38 = .ok (.iconst 0, 1) := by decide +kernel
theorem dX8_clear_39 : decode (zcc mX8_clear) 39 = .ok (.putfield 107, 3) := by decide +kernel
theorem dX8_clear_42 : decode (zcc mX8_clear) 42 = .ok (.aload_n 0, 1) := by decide +kernel
theorem dX8_clear_43 : decode (zcc mX8_clear) 43 = .ok (.iconst 0, 1) := by decide +kernel
theorem dX8_clear_44 : decode (zcc mX8_clear) 44 = .ok (.putfield 98, 3) := by decide +kernel
theorem dX8_clear_47 : decode (zcc mX8_clear) 47 = .ok (.aload_n 0, 1) := by decide +kernel
theorem dX8_clear_48 : decode (zcc mX8_clear) 48 = .ok (.invokevirtual 110, 3) := by decide +kernel
theorem dX8_clear_51 : decode (zcc mX8_clear) 51 = .ok (.iload_n 2, 1) := by decide +kernel
theorem dX8_clear_52 : decode (zcc mX8_clear) 52 = .ok (.ireturn, 1) := by decide +kernel
theorem dX8_text_0 : decode (zcc mX8_text) 0 = .ok (.iload_n 1, 1) := by decide +kernel
theorem dX8_text_1 : decode (zcc mX8_text) 1 = .ok (.iconst 0, 1) := by decide +kernel
theorem dX8_text_2 : decode (zcc mX8_text) 2 = .ok (.iconst 5, 1) := by decide +kernel
theorem dX8_text_3 : decode (zcc mX8_text) 3 = .ok (.invokestatic 94, 3) := by decide +kernel
theorem dX8_text_6 : decode (zcc mX8_text) 6 = .ok (.ifCond .ne 6, 3) := by decide +kernel
theorem dX8_text_9 : decode (zcc mX8_text) 9 = .ok (.bipush (-3), 2) := by decide +kernel
theorem dX8_text_11 : decode (zcc mX8_text) 11 = .ok (.ireturn, 1) := by decide +kernel
theorem dX8_text_12 : decode (zcc mX8_text) 12 = .ok (.iconst 0, 1) := by decide +kernel
theorem dX8_text_13 : decode (zcc mX8_text) 13 = .ok (.istore_n 2, 1) := by decide +kernel
theorem dX8_text_14 : decode (zcc mX8_text) 14 = .ok (.iconst 1, 1) := by decide +kernel
theorem dX8_text_15 : decode (zcc mX8_text) 15 = .ok (.istore_n 3, 1) := by decide +kernel
theorem dX8_text_16 : decode (zcc mX8_text) 16 = .ok (.iconst 0, 1) := by decide +kernel
theorem dX8_text_17 : decode (zcc mX8_text) 17 = .ok (.istore 4, 2) := by decide +kernel
theorem dX8_text_19 : decode (zcc mX8_text) 19 = .ok (.iload 4, 2) := by decide +kernel
theorem dX8_text_21 : decode (zcc mX8_text) 21 = .ok (.iload_n 1, 1) := by decide +kernel
theorem dX8_text_22 : decode (zcc mX8_text) 22 = .ok (.if_icmp .gt 20, 3) := by decide +kernel
theorem dX8_text_25 : decode (zcc mX8_text) 25 = .ok (.iload_n 2, 1) := by decide +kernel
theorem dX8_text_26 : decode (zcc mX8_text) 26 = .ok (.iload_n 3, 1) := by decide +kernel
theorem dX8_text_27 : decode (zcc mX8_text) 27 = .ok (.iadd, 1) := by decide +kernel
theorem dX8_text_28 : decode (zcc mX8_text) 28 = .ok (.istore_n 2, 1) := by decide +kernel
theorem dX8_text_29 : decode (zcc mX8_text) 29 = .ok (.iload_n 3, 1) := by decide +kernel
theorem dX8_text_30 : decode (zcc mX8_text) 30 = .ok (.aload_n 0, 1) := by decide +kernel
theorem dX8_text_31 : decode (zcc mX8_text) 31 = .ok (.getfield 7, 3) := by decide +kernel
theorem dX8_text_34 : decode (zcc mX8_text) 34 = .ok (.imul, 1) := by decide +kernel
theorem dX8_text_35 : decode (zcc mX8_text) 35 = .ok (.istore_n 3, 1) := by decide +kernel
theorem dX8_text_36 : decode (zcc mX8_text) 36 = .ok (.iinc 4 1, 3) := by decide +kernel
theorem dX8_text_39 : decode (zcc mX8_text) 39 = .ok (.goto (-20), 3) := by decide +kernel
theorem dX8_text_42 : decode (zcc mX8_text) 42 = .ok (.aload_n 0, 1) := by decide +kernel
theorem dX8_text_43 : decode (zcc mX8_text) 43 = .ok (.getfield 101, 3) := by decide +kernel
theorem dX8_text_46 : decode (zcc mX8_text) 46 = .ok (.iconst 4, 1) := by decide +kernel
theorem dX8_text_47 : decode (zcc mX8_text) 47 = .ok (.if_icmp .eq 15, 3) := by decide +kernel
theorem dX8_text_50 : decode (zcc mX8_text) 50 = .ok (.aload_n 0, 1) := by decide +kernel
theorem dX8_text_51 : decode (zcc mX8_text) 51 = .ok (.getfield 17, 3) := by decide +kernel
theorem dX8_text_54 : decode (zcc mX8_text) 54 = .ok (.iload_n 2, 1) := by decide +kernel
theorem dX8_text_55 : decode (zcc mX8_text) 55 = .ok (.imul, 1) := by decide +kernel
theorem dX8_text_56 : decode (zcc mX8_text) 56 = .ok (.sipush 8000, 3) := by decide +kernel
theorem dX8_text_59 : decode (zcc mX8_text) 59 = .ok (.if_icmp .le 6, 3) := by decide +kernel
theorem dX8_text_62 : decode (zcc mX8_text) 62 = .ok (.bipush (-5), 2) := by decide +kernel
theorem dX8_text_64 : decode (zcc mX8_text) 64 = .ok (.ireturn, 1) := by decide +kernel
theorem dX8_text_65 : decode (zcc mX8_text) 65 = .ok (.aload_n 0, 1) := by decide +kernel
