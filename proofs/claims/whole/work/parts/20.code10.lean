theorem dX8_meet_207 : decode (zcc mX8_meet) 207 = .ok (.aload_n 0, 1) := by decide +kernel
theorem dX8_meet_208 : decode (zcc mX8_meet) 208 = .ok (.getfield 84, 3) := by decide +kernel
theorem dX8_meet_211 : decode (zcc mX8_meet) 211 = .ok (.iload 6, 2) := by decide +kernel
theorem dX8_meet_213 : decode (zcc mX8_meet) 213 = .ok (.iaload, 1) := by decide +kernel
theorem dX8_meet_214 : decode (zcc mX8_meet) 214 = .ok (.iastore, 1) := by decide +kernel
theorem dX8_meet_215 : decode (zcc mX8_meet) 215 = .ok (.iinc 5 1, 3) := by decide +kernel
theorem dX8_meet_218 : decode (zcc mX8_meet) 218 = .ok (.goto (-89), 3) := by decide +kernel
theorem dX8_meet_221 : decode (zcc mX8_meet) 221 = .ok (.iinc 4 1, 3) := by decide +kernel
theorem dX8_meet_224 : decode (zcc mX8_meet) 224 = .ok (.goto (-154), 3) := by decide +kernel
theorem dX8_meet_227 : decode (zcc mX8_meet) 227 = .ok (.iinc 3 1, 3) := by decide +kernel
theorem dX8_meet_230 : decode (zcc mX8_meet) 230 = .ok (.goto (-169), 3) := by decide +kernel
theorem dX8_meet_233 : decode (zcc mX8_meet) 233 = .ok (.iconst (-1), 1) := by decide +kernel
theorem dX8_meet_234 : decode (zcc mX8_meet) 234 = .ok (.ireturn, 1) := by decide +kernel
theorem dX8_told_0 : decode (zcc mX8_told) 0 = .ok (.iload_n 1, 1) := by decide +kernel
theorem dX8_told_1 : decode (zcc mX8_told) 1 = .ok (.tableswitch 86 0 6 #[43, 48, 53, 58, 63, 68, 73], 43) := by decide +kernel
theorem dX8_told_44 : decode (zcc mX8_told) 44 = .ok (.aload_n 0, 1) := by decide +kernel
theorem dX8_told_45 : decode (zcc mX8_told) 45 = .ok (.getfield 7, 3) := by decide +kernel
theorem dX8_told_48 : decode (zcc mX8_told) 48 = .ok (.ireturn, 1) := by decide +kernel
theorem dX8_told_49 : decode (zcc mX8_told) 49 = .ok (.aload_n 0, 1) := by decide +kernel
theorem dX8_told_50 : decode (zcc mX8_told) 50 = .ok (.getfield 101, 3) := by decide +kernel
theorem dX8_told_53 : decode (zcc mX8_told) 53 = .ok (.ireturn, 1) := by decide +kernel
theorem dX8_told_54 : decode (zcc mX8_told) 54 = .ok (.aload_n 0, 1) := by decide +kernel
theorem dX8_told_55 : decode (zcc mX8_told) 55 = .ok (.getfield 104, 3) := by decide +kernel
theorem dX8_told_58 : decode (zcc mX8_told) 58 = .ok (.ireturn, 1) := by decide +kernel
theorem dX8_told_59 : decode (zcc mX8_told) 59 = .ok (.aload_n 0, 1) := by decide +kernel
theorem dX8_told_60 : decode (zcc mX8_told) 60 = .ok (.getfield 107, 3) := by decide +kernel
theorem dX8_told_63 : decode (zcc mX8_told) 63 = .ok (.ireturn, 1) := by decide +kernel
theorem dX8_told_64 : decode (zcc mX8_told) 64 = .ok (.aload_n 0, 1) := by decide +kernel
theorem dX8_told_65 : decode (zcc mX8_told) 65 = .ok (.getfield 98, 3) := by decide +kernel
theorem dX8_told_68 : decode (zcc mX8_told) 68 = .ok (.ireturn, 1) := by decide +kernel
theorem dX8_told_69 : decode (zcc mX8_told) 69 = .ok (.aload_n 0, 1) := by decide +kernel
theorem dX8_told_70 : decode (zcc mX8_told) 70 = .ok (.getfield 17, 3) := by decide +kernel
theorem dX8_told_73 : decode (zcc mX8_told) 73 = .ok (.ireturn, 1) := by decide +kernel
theorem dX8_told_74 : decode (zcc mX8_told) 74 = .ok (.aload_n 0, 1) := by decide +kernel
theorem dX8_told_75 : decode (zcc mX8_told) 75 = .ok (.getfield 87, 3) := by decide +kernel
theorem dX8_told_78 : decode (zcc mX8_told) 78 = .ok (.ifCond .eq 7, 3) := by decide +kernel
theorem dX8_told_81 : decode (zcc mX8_told) 81 = .ok (.iconst 1, 1) := by decide +kernel
theorem dX8_told_82 : decode (zcc mX8_told) 82 = .ok (.goto 4, 3) := by decide +kernel
theorem dX8_told_85 : decode (zcc mX8_told) 85 = .ok (.iconst 0, 1) := by decide +kernel
theorem dX8_told_86 : decode (zcc mX8_told) 86 = .ok (.ireturn, 1) := by decide +kernel
theorem dX8_told_87 : decode (zcc mX8_told) 87 = .ok (.bipush (-3), 2) := by decide +kernel
theorem dX8_told_89 : decode (zcc mX8_told) 89 = .ok (.ireturn, 1) := by decide +kernel
theorem dJ6_bitCount_0f7a4_0 : decode (zcc mJ6_bitCount_0f7a4) 0 = .ok (.iload_n 0, 1) := by decide +kernel
theorem dJ6_bitCount_0f7a4_1 : decode (zcc mJ6_bitCount_0f7a4) 1 = .ok (.iload_n 0, 1) := by decide +kernel
theorem dJ6_bitCount_0f7a4_2 : decode (zcc mJ6_bitCount_0f7a4) 2 = .ok (.iconst 1, 1) := by decide +kernel
theorem dJ6_bitCount_0f7a4_3 : decode (zcc mJ6_bitCount_0f7a4) 3 = .ok (.iushr, 1) := by decide +kernel
theorem dJ6_bitCount_0f7a4_4 : decode (zcc mJ6_bitCount_0f7a4) 4 = .ok (.ldc_w 265, 3) := by decide +kernel
theorem dJ6_bitCount_0f7a4_7 : decode (zcc mJ6_bitCount_0f7a4) 7 = .ok (.iand, 1) := by decide +kernel
theorem dJ6_bitCount_0f7a4_8 : decode (zcc mJ6_bitCount_0f7a4) 8 = .ok (.isub, 1) := by decide +kernel
theorem dJ6_bitCount_0f7a4_9 : decode (zcc mJ6_bitCount_0f7a4) 9 = .ok (.istore_n 0, 1) := by decide +kernel
theorem dJ6_bitCount_0f7a4_10 : decode (zcc mJ6_bitCount_0f7a4) 10 = .ok (.iload_n 0, 1) := by decide +kernel
theorem dJ6_bitCount_0f7a4_11 : decode (zcc mJ6_bitCount_0f7a4) 11 = .ok (.ldc_w 266, 3) := by decide +kernel
theorem dJ6_bitCount_0f7a4_14 : decode (zcc mJ6_bitCount_0f7a4) 14 = .ok (.iand, 1) := by decide +kernel
theorem dJ6_bitCount_0f7a4_15 : decode (zcc mJ6_bitCount_0f7a4) 15 = .ok (.iload_n 0, 1) := by decide +kernel
theorem dJ6_bitCount_0f7a4_16 : decode (zcc mJ6_bitCount_0f7a4) 16 = .ok (.iconst 2, 1) := by decide +kernel
theorem dJ6_bitCount_0f7a4_17 : decode (zcc mJ6_bitCount_0f7a4) 17 = .ok (.iushr, 1) := by decide +kernel
theorem dJ6_bitCount_0f7a4_18 : decode (zcc mJ6_bitCount_0f7a4) 18 = .ok (.ldc_w 266, 3) := by decide +kernel
theorem dJ6_bitCount_0f7a4_21 : decode (zcc mJ6_bitCount_0f7a4) 21 = .ok (.iand, 1) := by decide +kernel
theorem dJ6_bitCount_0f7a4_22 : decode (zcc mJ6_bitCount_0f7a4) 22 = .ok (.iadd, 1) := by decide +kernel
theorem dJ6_bitCount_0f7a4_23 : decode (zcc mJ6_bitCount_0f7a4) 23 = .ok (.istore_n 0, 1) := by decide +kernel
theorem dJ6_bitCount_0f7a4_24 : decode (zcc mJ6_bitCount_0f7a4) 24 = .ok (.iload_n 0, 1) := by decide +kernel
theorem dJ6_bitCount_0f7a4_25 : decode (zcc mJ6_bitCount_0f7a4) 25 = .ok (.iload_n 0, 1) := by decide +kernel
theorem dJ6_bitCount_0f7a4_26 : decode (zcc mJ6_bitCount_0f7a4) 26 = .ok (.iconst 4, 1) := by decide +kernel
theorem dJ6_bitCount_0f7a4_27 : decode (zcc mJ6_bitCount_0f7a4) 27 = .ok (.iushr, 1) := by decide +kernel
theorem dJ6_bitCount_0f7a4_28 : decode (zcc mJ6_bitCount_0f7a4) 28 = .ok (.iadd, 1) := by decide +kernel
theorem dJ6_bitCount_0f7a4_29 : decode (zcc mJ6_bitCount_0f7a4) 29 = .ok (.ldc_w 267, 3) := by decide +kernel
theorem dJ6_bitCount_0f7a4_32 : decode (zcc mJ6_bitCount_0f7a4) 32 = .ok (.iand, 1) := by decide +kernel
theorem dJ6_bitCount_0f7a4_33 : decode (zcc mJ6_bitCount_0f7a4) 33 = .ok (.istore_n 0, 1) := by decide +kernel
theorem dJ6_bitCount_0f7a4_34 : decode (zcc mJ6_bitCount_0f7a4) 34 = .ok (.iload_n 0, 1) := by decide +kernel
theorem dJ6_bitCount_0f7a4_35 : decode (zcc mJ6_bitCount_0f7a4) 35 = .ok (.iload_n 0, 1) := by decide +kernel
theorem dJ6_bitCount_0f7a4_36 : decode (zcc mJ6_bitCount_0f7a4) 36 = .ok (.bipush 8, 2) := by decide +kernel
theorem dJ6_bitCount_0f7a4_38 : decode (zcc mJ6_bitCount_0f7a4) 38 = .ok (.iushr, 1) := by decide +kernel
theorem dJ6_bitCount_0f7a4_39 : decode (zcc mJ6_bitCount_0f7a4) 39 = .ok (.iadd, 1) := by decide +kernel
theorem dJ6_bitCount_0f7a4_40 : decode (zcc mJ6_bitCount_0f7a4) 40 = .ok (.istore_n 0, 1) := by decide +kernel
theorem dJ6_bitCount_0f7a4_41 : decode (zcc mJ6_bitCount_0f7a4) 41 = .ok (.iload_n 0, 1) := by decide +kernel
theorem dJ6_bitCount_0f7a4_42 : decode (zcc mJ6_bitCount_0f7a4) 42 = .ok (.iload_n 0, 1) := by decide +kernel
theorem dJ6_bitCount_0f7a4_43 : decode (zcc mJ6_bitCount_0f7a4) 43 = .ok (.bipush 16, 2) := by decide +kernel
theorem dJ6_bitCount_0f7a4_45 : decode (zcc mJ6_bitCount_0f7a4) 45 = .ok (.iushr, 1) := by decide +kernel
theorem dJ6_bitCount_0f7a4_46 : decode (zcc mJ6_bitCount_0f7a4) 46 = .ok (.iadd, 1) := by decide +kernel
theorem dJ6_bitCount_0f7a4_47 : decode (zcc mJ6_bitCount_0f7a4) 47 = .ok (.istore_n 0, 1) := by decide +kernel
theorem dJ6_bitCount_0f7a4_48 : decode (zcc mJ6_bitCount_0f7a4) 48 = .ok (.iload_n 0, 1) := by decide +kernel
theorem dJ6_bitCount_0f7a4_49 : decode (zcc mJ6_bitCount_0f7a4) 49 = .ok (.bipush 63, 2) := by decide +kernel
theorem dJ6_bitCount_0f7a4_51 : decode (zcc mJ6_bitCount_0f7a4) 51 = .ok (.iand, 1) := by decide +kernel
theorem dJ6_bitCount_0f7a4_52 : decode (zcc mJ6_bitCount_0f7a4) 52 = .ok (.ireturn, 1) := by decide +kernel
theorem dJ13_bitCount_95d88_0 : decode (zcc mJ13_bitCount_95d88) 0 = .ok (.lload_n 0, 1) := by decide +kernel
theorem dJ13_bitCount_95d88_1 : decode (zcc mJ13_bitCount_95d88) 1 = .ok (.lload_n 0, 1) := by decide +kernel
theorem dJ13_bitCount_95d88_2 : decode (zcc mJ13_bitCount_95d88) 2 = .ok (.iconst 1, 1) := by decide +kernel
theorem dJ13_bitCount_95d88_3 : decode (zcc mJ13_bitCount_95d88) 3 = .ok (.lushr, 1) := by decide +kernel
theorem dJ13_bitCount_95d88_4 : decode (zcc mJ13_bitCount_95d88) 4 = .ok (.ldc2_w 314, 3) := by decide +kernel
theorem dJ13_bitCount_95d88_7 : decode (zcc mJ13_bitCount_95d88) 7 = .ok (.land, 1) := by decide +kernel
theorem dJ13_bitCount_95d88_8 : decode (zcc mJ13_bitCount_95d88) 8 = .ok (.lsub, 1) := by decide +kernel
theorem dJ13_bitCount_95d88_9 : decode (zcc mJ13_bitCount_95d88) 9 = .ok (.lstore_n 0, 1) := by decide +kernel
theorem dJ13_bitCount_95d88_10 : decode (zcc mJ13_bitCount_95d88) 10 = .ok (.lload_n 0, 1) := by decide +kernel
theorem dJ13_bitCount_95d88_11 : decode (zcc mJ13_bitCount_95d88) 11 = .ok (.ldc2_w 316, 3) := by decide +kernel
theorem dJ13_bitCount_95d88_14 : decode (zcc mJ13_bitCount_95d88) 14 = .ok (.land, 1) := by decide +kernel
theorem dJ13_bitCount_95d88_15 : decode (zcc mJ13_bitCount_95d88) 15 = .ok (.lload_n 0, 1) := by decide +kernel
theorem dJ13_bitCount_95d88_16 : decode (zcc mJ13_bitCount_95d88) 16 = .ok (.iconst 2, 1) := by decide +kernel
theorem dJ13_bitCount_95d88_17 : decode (zcc mJ13_bitCount_95d88) 17 = .ok (.lushr, 1) := by decide +kernel
theorem dJ13_bitCount_95d88_18 : decode (zcc mJ13_bitCount_95d88) 18 = .ok (.ldc2_w 316, 3) := by decide +kernel
theorem dJ13_bitCount_95d88_21 : decode (zcc mJ13_bitCount_95d88) 21 = .ok (.land, 1) := by decide +kernel
theorem dJ13_bitCount_95d88_22 : decode (zcc mJ13_bitCount_95d88) 22 = .ok (.ladd, 1) := by decide +kernel
theorem dJ13_bitCount_95d88_23 : decode (zcc mJ13_bitCount_95d88) 23 = .ok (.lstore_n 0, 1) := by decide +kernel
theorem dJ13_bitCount_95d88_24 : decode (zcc mJ13_bitCount_95d88) 24 = .ok (.lload_n 0, 1) := by decide +kernel
theorem dJ13_bitCount_95d88_25 : decode (zcc mJ13_bitCount_95d88) 25 = .ok (.lload_n 0, 1) := by decide +kernel
theorem dJ13_bitCount_95d88_26 : decode (zcc mJ13_bitCount_95d88) 26 = .ok (.iconst 4, 1) := by decide +kernel
theorem dJ13_bitCount_95d88_27 : decode (zcc mJ13_bitCount_95d88) 27 = .ok (.lushr, 1) := by decide +kernel
theorem dJ13_bitCount_95d88_28 : decode (zcc mJ13_bitCount_95d88) 28 = .ok (.ladd, 1) := by decide +kernel
theorem dJ13_bitCount_95d88_29 : decode (zcc mJ13_bitCount_95d88) 29 = .ok (.ldc2_w 318, 3) := by decide +kernel
theorem dJ13_bitCount_95d88_32 : decode (zcc mJ13_bitCount_95d88) 32 = .ok (.land, 1) := by decide +kernel
theorem dJ13_bitCount_95d88_33 : decode (zcc mJ13_bitCount_95d88) 33 = .ok (.lstore_n 0, 1) := by decide +kernel
theorem dJ13_bitCount_95d88_34 : decode (zcc mJ13_bitCount_95d88) 34 = .ok (.lload_n 0, 1) := by decide +kernel
theorem dJ13_bitCount_95d88_35 : decode (zcc mJ13_bitCount_95d88) 35 = .ok (.lload_n 0, 1) := by decide +kernel
theorem dJ13_bitCount_95d88_36 : decode (zcc mJ13_bitCount_95d88) 36 = .ok (.bipush 8, 2) := by decide +kernel
theorem dJ13_bitCount_95d88_38 : decode (zcc mJ13_bitCount_95d88) 38 = .ok (.lushr, 1) := by decide +kernel
theorem dJ13_bitCount_95d88_39 : decode (zcc mJ13_bitCount_95d88) 39 = .ok (.ladd, 1) := by decide +kernel
theorem dJ13_bitCount_95d88_40 : decode (zcc mJ13_bitCount_95d88) 40 = .ok (.lstore_n 0, 1) := by decide +kernel
theorem dJ13_bitCount_95d88_41 : decode (zcc mJ13_bitCount_95d88) 41 = .ok (.lload_n 0, 1) := by decide +kernel
theorem dJ13_bitCount_95d88_42 : decode (zcc mJ13_bitCount_95d88) 42 = .ok (.lload_n 0, 1) := by decide +kernel
theorem dJ13_bitCount_95d88_43 : decode (zcc mJ13_bitCount_95d88) 43 = .ok (.bipush 16, 2) := by decide +kernel
theorem dJ13_bitCount_95d88_45 : decode (zcc mJ13_bitCount_95d88) 45 = .ok (.lushr, 1) := by decide +kernel
theorem dJ13_bitCount_95d88_46 : decode (zcc mJ13_bitCount_95d88) 46 = .ok (.ladd, 1) := by decide +kernel
theorem dJ13_bitCount_95d88_47 : decode (zcc mJ13_bitCount_95d88) 47 = .ok (.lstore_n 0, 1) := by decide +kernel
theorem dJ13_bitCount_95d88_48 : decode (zcc mJ13_bitCount_95d88) 48 = .ok (.lload_n 0, 1) := by decide +kernel
theorem dJ13_bitCount_95d88_49 : decode (zcc mJ13_bitCount_95d88) 49 = .ok (.lload_n 0, 1) := by decide +kernel
theorem dJ13_bitCount_95d88_50 : decode (zcc mJ13_bitCount_95d88) 50 = .ok (.bipush 32, 2) := by decide +kernel
theorem dJ13_bitCount_95d88_52 : decode (zcc mJ13_bitCount_95d88) 52 = .ok (.lushr, 1) := by decide +kernel
theorem dJ13_bitCount_95d88_53 : decode (zcc mJ13_bitCount_95d88) 53 = .ok (.ladd, 1) := by decide +kernel
theorem dJ13_bitCount_95d88_54 : decode (zcc mJ13_bitCount_95d88) 54 = .ok (.lstore_n 0, 1) := by decide +kernel
theorem dJ13_bitCount_95d88_55 : decode (zcc mJ13_bitCount_95d88) 55 = .ok (.lload_n 0, 1) := by decide +kernel
theorem dJ13_bitCount_95d88_56 : decode (zcc mJ13_bitCount_95d88) 56 = .ok (.l2i, 1) := by decide +kernel
theorem dJ13_bitCount_95d88_57 : decode (zcc mJ13_bitCount_95d88) 57 = .ok (.bipush 127, 2) := by decide +kernel
theorem dJ13_bitCount_95d88_59 : decode (zcc mJ13_bitCount_95d88) 59 = .ok (.iand, 1) := by decide +kernel
theorem dJ13_bitCount_95d88_60 : decode (zcc mJ13_bitCount_95d88) 60 = .ok (.ireturn, 1) := by decide +kernel
theorem dJ9_floorMod_7cf53_0 : decode (zcc mJ9_floorMod_7cf53) 0 = .ok (.iload_n 0, 1) := by decide +kernel
theorem dJ9_floorMod_7cf53_1 : decode (zcc mJ9_floorMod_7cf53) 1 = .ok (.iload_n 1, 1) := by decide +kernel
theorem dJ9_floorMod_7cf53_2 : decode (zcc mJ9_floorMod_7cf53) 2 = .ok (.irem, 1) := by decide +kernel
theorem dJ9_floorMod_7cf53_3 : decode (zcc mJ9_floorMod_7cf53) 3 = .ok (.istore_n 2, 1) := by decide +kernel
theorem dJ9_floorMod_7cf53_4 : decode (zcc mJ9_floorMod_7cf53) 4 = .ok (.iload_n 0, 1) := by decide +kernel
theorem dJ9_floorMod_7cf53_5 : decode (zcc mJ9_floorMod_7cf53) 5 = .ok (.iload_n 1, 1) := by decide +kernel
theorem dJ9_floorMod_7cf53_6 : decode (zcc mJ9_floorMod_7cf53) 6 = .ok (.ixor, 1) := by decide +kernel
theorem dJ9_floorMod_7cf53_7 : decode (zcc mJ9_floorMod_7cf53) 7 = .ok (.ifCond .ge 11, 3) := by decide +kernel
theorem dJ9_floorMod_7cf53_10 : decode (zcc mJ9_floorMod_7cf53) 10 = .ok (.iload_n 2, 1) := by decide +kernel
theorem dJ9_floorMod_7cf53_11 : decode (zcc mJ9_floorMod_7cf53) 11 = .ok (.ifCond .eq 7, 3) := by decide +kernel
theorem dJ9_floorMod_7cf53_14 : decode (zcc mJ9_floorMod_7cf53) 14 = .ok (.iload_n 2, 1) := by decide +kernel
theorem dJ9_floorMod_7cf53_15 : decode (zcc mJ9_floorMod_7cf53) 15 = .ok (.iload_n 1, 1) := by decide +kernel
theorem dJ9_floorMod_7cf53_16 : decode (zcc mJ9_floorMod_7cf53) 16 = .ok (.iadd, 1) := by decide +kernel
theorem dJ9_floorMod_7cf53_17 : decode (zcc mJ9_floorMod_7cf53) 17 = .ok (.ireturn, 1) := by decide +kernel
theorem dJ9_floorMod_7cf53_18 : decode (zcc mJ9_floorMod_7cf53) 18 = .ok (.iload_n 2, 1) := by decide +kernel
theorem dJ9_floorMod_7cf53_19 : decode (zcc mJ9_floorMod_7cf53) 19 = .ok (.ireturn, 1) := by decide +kernel
theorem dJ7_fill_d0a16_0 : decode (zcc mJ7_fill_d0a16) 0 = .ok (.iconst 0, 1) := by decide +kernel
theorem dJ7_fill_d0a16_1 : decode (zcc mJ7_fill_d0a16) 1 = .ok (.istore_n 3, 1) := by decide +kernel
theorem dJ7_fill_d0a16_2 : decode (zcc mJ7_fill_d0a16) 2 = .ok (.aload_n 0, 1) := by decide +kernel
theorem dJ7_fill_d0a16_3 : decode (zcc mJ7_fill_d0a16) 3 = .ok (.arraylength, 1) := by decide +kernel
theorem dJ7_fill_d0a16_4 : decode (zcc mJ7_fill_d0a16) 4 = .ok (.istore 4, 2) := by decide +kernel
theorem dJ7_fill_d0a16_6 : decode (zcc mJ7_fill_d0a16) 6 = .ok (.iload_n 3, 1) := by decide +kernel
theorem dJ7_fill_d0a16_7 : decode (zcc mJ7_fill_d0a16) 7 = .ok (.iload 4, 2) := by decide +kernel
theorem dJ7_fill_d0a16_9 : decode (zcc mJ7_fill_d0a16) 9 = .ok (.if_icmp .ge 13, 3) := by decide +kernel
theorem dJ7_fill_d0a16_12 : decode (zcc mJ7_fill_d0a16) 12 = .ok (.aload_n 0, 1) := by decide +kernel
theorem dJ7_fill_d0a16_13 : decode (zcc mJ7_fill_d0a16) 13 = .ok (.iload_n 3, 1) := by decide +kernel
theorem dJ7_fill_d0a16_14 : decode (zcc mJ7_fill_d0a16) 14 = .ok (.lload_n 1, 1) := by decide +kernel
theorem dJ7_fill_d0a16_15 : decode (zcc mJ7_fill_d0a16) 15 = .ok (.lastore, 1) := by decide +kernel
theorem dJ7_fill_d0a16_16 : decode (zcc mJ7_fill_d0a16) 16 = .ok (.iinc 3 1, 3) := by decide +kernel
theorem dJ7_fill_d0a16_19 : decode (zcc mJ7_fill_d0a16) 19 = .ok (.goto (-13), 3) := by decide +kernel
theorem dJ7_fill_d0a16_22 : decode (zcc mJ7_fill_d0a16) 22 = .ok (.return_, 1) := by decide +kernel
theorem dJ7_fill_53178_0 : decode (zcc mJ7_fill_53178) 0 = .ok (.iconst 0, 1) := by decide +kernel
theorem dJ7_fill_53178_1 : decode (zcc mJ7_fill_53178) 1 = .ok (.istore_n 2, 1) := by decide +kernel
theorem dJ7_fill_53178_2 : decode (zcc mJ7_fill_53178) 2 = .ok (.aload_n 0, 1) := by decide +kernel
theorem dJ7_fill_53178_3 : decode (zcc mJ7_fill_53178) 3 = .ok (.arraylength, 1) := by decide +kernel
theorem dJ7_fill_53178_4 : decode (zcc mJ7_fill_53178) 4 = .ok (.istore_n 3, 1) := by decide +kernel
theorem dJ7_fill_53178_5 : decode (zcc mJ7_fill_53178) 5 = .ok (.iload_n 2, 1) := by decide +kernel
theorem dJ7_fill_53178_6 : decode (zcc mJ7_fill_53178) 6 = .ok (.iload_n 3, 1) := by decide +kernel
theorem dJ7_fill_53178_7 : decode (zcc mJ7_fill_53178) 7 = .ok (.if_icmp .ge 13, 3) := by decide +kernel
theorem dJ7_fill_53178_10 : decode (zcc mJ7_fill_53178) 10 = .ok (.aload_n 0, 1) := by decide +kernel
theorem dJ7_fill_53178_11 : decode (zcc mJ7_fill_53178) 11 = .ok (.iload_n 2, 1) := by decide +kernel
theorem dJ7_fill_53178_12 : decode (zcc mJ7_fill_53178) 12 = .ok (.iload_n 1, 1) := by decide +kernel
theorem dJ7_fill_53178_13 : decode (zcc mJ7_fill_53178) 13 = .ok (.iastore, 1) := by decide +kernel
theorem dJ7_fill_53178_14 : decode (zcc mJ7_fill_53178) 14 = .ok (.iinc 2 1, 3) := by decide +kernel
theorem dJ7_fill_53178_17 : decode (zcc mJ7_fill_53178) 17 = .ok (.goto (-12), 3) := by decide +kernel
theorem dJ7_fill_53178_20 : decode (zcc mJ7_fill_53178) 20 = .ok (.return_, 1) := by decide +kernel
theorem dL_law_0 : decode (zcc mL_law) 0 = .ok (.new 7, 3) := by decide +kernel
theorem dL_law_3 : decode (zcc mL_law) 3 = .ok (.dup, 1) := by decide +kernel
theorem dL_law_4 : decode (zcc mL_law) 4 = .ok (.invokespecial 9, 3) := by decide +kernel
theorem dL_law_7 : decode (zcc mL_law) 7 = .ok (.astore_n 1, 1) := by decide +kernel
theorem dL_law_8 : decode (zcc mL_law) 8 = .ok (.new 10, 3) := by decide +kernel
theorem dL_law_11 : decode (zcc mL_law) 11 = .ok (.dup, 1) := by decide +kernel
theorem dL_law_12 : decode (zcc mL_law) 12 = .ok (.invokespecial 12, 3) := by decide +kernel
theorem dL_law_15 : decode (zcc mL_law) 15 = .ok (.astore_n 2, 1) := by decide +kernel
theorem dL_law_16 : decode (zcc mL_law) 16 = .ok (.iconst 0, 1) := by decide +kernel
theorem dL_law_17 : decode (zcc mL_law) 17 = .ok (.istore_n 3, 1) := by decide +kernel
theorem dL_law_18 : decode (zcc mL_law) 18 = .ok (.iload_n 3, 1) := by decide +kernel
theorem dL_law_19 : decode (zcc mL_law) 19 = .ok (.aload_n 0, 1) := by decide +kernel
theorem dL_law_20 : decode (zcc mL_law) 20 = .ok (.arraylength, 1) := by decide +kernel
theorem dL_law_21 : decode (zcc mL_law) 21 = .ok (.bipush 6, 2) := by decide +kernel
theorem dL_law_23 : decode (zcc mL_law) 23 = .ok (.isub, 1) := by decide +kernel
theorem dL_law_24 : decode (zcc mL_law) 24 = .ok (.if_icmp .gt 735, 3) := by decide +kernel
theorem dL_law_27 : decode (zcc mL_law) 27 = .ok (.aload_n 0, 1) := by decide +kernel
theorem dL_law_28 : decode (zcc mL_law) 28 = .ok (.iload_n 3, 1) := by decide +kernel
theorem dL_law_29 : decode (zcc mL_law) 29 = .ok (.iaload, 1) := by decide +kernel
theorem dL_law_30 : decode (zcc mL_law) 30 = .ok (.bipush 31, 2) := by decide +kernel
theorem dL_law_32 : decode (zcc mL_law) 32 = .ok (.iand, 1) := by decide +kernel
theorem dL_law_33 : decode (zcc mL_law) 33 = .ok (.tableswitch 720 0 20 #[99, 122, 145, 158, 191, 214, 267, 326, 389, 438, 487, 500, 523, 536, 559, 592, 615, 628, 651, 664, 697], 99) := by decide +kernel
theorem dL_law_132 : decode (zcc mL_law) 132 = .ok (.aload_n 1, 1) := by decide +kernel
theorem dL_law_133 : decode (zcc mL_law) 133 = .ok (.aload_n 0, 1) := by decide +kernel
theorem dL_law_134 : decode (zcc mL_law) 134 = .ok (.iload_n 3, 1) := by decide +kernel
theorem dL_law_135 : decode (zcc mL_law) 135 = .ok (.iconst 1, 1) := by decide +kernel
theorem dL_law_136 : decode (zcc mL_law) 136 = .ok (.iadd, 1) := by decide +kernel
theorem dL_law_137 : decode (zcc mL_law) 137 = .ok (.iaload, 1) := by decide +kernel
theorem dL_law_138 : decode (zcc mL_law) 138 = .ok (.invokevirtual 13, 3) := by decide +kernel
theorem dL_law_141 : decode (zcc mL_law) 141 = .ok (.aload_n 2, 1) := by decide +kernel
theorem dL_law_142 : decode (zcc mL_law) 142 = .ok (.aload_n 0, 1) := by decide +kernel
theorem dL_law_143 : decode (zcc mL_law) 143 = .ok (.iload_n 3, 1) := by decide +kernel
theorem dL_law_144 : decode (zcc mL_law) 144 = .ok (.iconst 1, 1) := by decide +kernel
theorem dL_law_145 : decode (zcc mL_law) 145 = .ok (.iadd, 1) := by decide +kernel
theorem dL_law_146 : decode (zcc mL_law) 146 = .ok (.iaload, 1) := by decide +kernel
theorem dL_law_147 : decode (zcc mL_law) 147 = .ok (.invokevirtual 17, 3) := by decide +kernel
theorem dL_law_150 : decode (zcc mL_law) 150 = .ok (.if_icmp .eq 603, 3) := by decide +kernel
theorem dL_law_153 : decode (zcc mL_law) 153 = .ok (.iconst 0, 1) := by decide +kernel
theorem dL_law_154 : decode (zcc mL_law) 154 = .ok (.ireturn, 1) := by decide +kernel
theorem dL_law_155 : decode (zcc mL_law) 155 = .ok (.aload_n 1, 1) := by decide +kernel
theorem dL_law_156 : decode (zcc mL_law) 156 = .ok (.aload_n 0, 1) := by decide +kernel
theorem dL_law_157 : decode (zcc mL_law) 157 = .ok (.iload_n 3, 1) := by decide +kernel
theorem dL_law_158 : decode (zcc mL_law) 158 = .ok (.iconst 1, 1) := by decide +kernel
theorem dL_law_159 : decode (zcc mL_law) 159 = .ok (.iadd, 1) := by decide +kernel
theorem dL_law_160 : decode (zcc mL_law) 160 = .ok (.iaload, 1) := by decide +kernel
theorem dL_law_161 : decode (zcc mL_law) 161 = .ok (.invokevirtual 18, 3) := by decide +kernel
theorem dL_law_164 : decode (zcc mL_law) 164 = .ok (.aload_n 2, 1) := by decide +kernel
theorem dL_law_165 : decode (zcc mL_law) 165 = .ok (.aload_n 0, 1) := by decide +kernel
theorem dL_law_166 : decode (zcc mL_law) 166 = .ok (.iload_n 3, 1) := by decide +kernel
theorem dL_law_167 : decode (zcc mL_law) 167 = .ok (.iconst 1, 1) := by decide +kernel
theorem dL_law_168 : decode (zcc mL_law) 168 = .ok (.iadd, 1) := by decide +kernel
theorem dL_law_169 : decode (zcc mL_law) 169 = .ok (.iaload, 1) := by decide +kernel
theorem dL_law_170 : decode (zcc mL_law) 170 = .ok (.invokevirtual 21, 3) := by decide +kernel
theorem dL_law_173 : decode (zcc mL_law) 173 = .ok (.if_icmp .eq 580, 3) := by decide +kernel
theorem dL_law_176 : decode (zcc mL_law) 176 = .ok (.iconst 0, 1) := by decide +kernel
theorem dL_law_177 : decode (zcc mL_law) 177 = .ok (.ireturn, 1) := by decide +kernel
theorem dL_law_178 : decode (zcc mL_law) 178 = .ok (.aload_n 1, 1) := by decide +kernel
theorem dL_law_179 : decode (zcc mL_law) 179 = .ok (.invokevirtual 22, 3) := by decide +kernel
theorem dL_law_182 : decode (zcc mL_law) 182 = .ok (.aload_n 2, 1) := by decide +kernel
theorem dL_law_183 : decode (zcc mL_law) 183 = .ok (.invokevirtual 26, 3) := by decide +kernel
theorem dL_law_186 : decode (zcc mL_law) 186 = .ok (.if_icmp .eq 567, 3) := by decide +kernel
theorem dL_law_189 : decode (zcc mL_law) 189 = .ok (.iconst 0, 1) := by decide +kernel
theorem dL_law_190 : decode (zcc mL_law) 190 = .ok (.ireturn, 1) := by decide +kernel
theorem dL_law_191 : decode (zcc mL_law) 191 = .ok (.aload_n 1, 1) := by decide +kernel
theorem dL_law_192 : decode (zcc mL_law) 192 = .ok (.aload_n 0, 1) := by decide +kernel
theorem dL_law_193 : decode (zcc mL_law) 193 = .ok (.iload_n 3, 1) := by decide +kernel
theorem dL_law_194 : decode (zcc mL_law) 194 = .ok (.iconst 1, 1) := by decide +kernel
theorem dL_law_195 : decode (zcc mL_law) 195 = .ok (.iadd, 1) := by decide +kernel
theorem dL_law_196 : decode (zcc mL_law) 196 = .ok (.iaload, 1) := by decide +kernel
theorem dL_law_197 : decode (zcc mL_law) 197 = .ok (.aload_n 0, 1) := by decide +kernel
theorem dL_law_198 : decode (zcc mL_law) 198 = .ok (.iload_n 3, 1) := by decide +kernel
theorem dL_law_199 : decode (zcc mL_law) 199 = .ok (.iconst 2, 1) := by decide +kernel
theorem dL_law_200 : decode (zcc mL_law) 200 = .ok (.iadd, 1) := by decide +kernel
theorem dL_law_201 : decode (zcc mL_law) 201 = .ok (.iaload, 1) := by decide +kernel
theorem dL_law_202 : decode (zcc mL_law) 202 = .ok (.invokevirtual 27, 3) := by decide +kernel
theorem dL_law_205 : decode (zcc mL_law) 205 = .ok (.aload_n 2, 1) := by decide +kernel
theorem dL_law_206 : decode (zcc mL_law) 206 = .ok (.aload_n 0, 1) := by decide +kernel
theorem dL_law_207 : decode (zcc mL_law) 207 = .ok (.iload_n 3, 1) := by decide +kernel
theorem dL_law_208 : decode (zcc mL_law) 208 = .ok (.iconst 1, 1) := by decide +kernel
theorem dL_law_209 : decode (zcc mL_law) 209 = .ok (.iadd, 1) := by decide +kernel
theorem dL_law_210 : decode (zcc mL_law) 210 = .ok (.iaload, 1) := by decide +kernel
theorem dL_law_211 : decode (zcc mL_law) 211 = .ok (.aload_n 0, 1) := by decide +kernel
theorem dL_law_212 : decode (zcc mL_law) 212 = .ok (.iload_n 3, 1) := by decide +kernel
theorem dL_law_213 : decode (zcc mL_law) 213 = .ok (.iconst 2, 1) := by decide +kernel
theorem dL_law_214 : decode (zcc mL_law) 214 = .ok (.iadd, 1) := by decide +kernel
theorem dL_law_215 : decode (zcc mL_law) 215 = .ok (.iaload, 1) := by decide +kernel
theorem dL_law_216 : decode (zcc mL_law) 216 = .ok (.invokevirtual 31, 3) := by decide +kernel
theorem dL_law_219 : decode (zcc mL_law) 219 = .ok (.if_icmp .eq 534, 3) := by decide +kernel
theorem dL_law_222 : decode (zcc mL_law) 222 = .ok (.iconst 0, 1) := by decide +kernel
theorem dL_law_223 : decode (zcc mL_law) 223 = .ok (.ireturn, 1) := by decide +kernel
theorem dL_law_224 : decode (zcc mL_law) 224 = .ok (.aload_n 1, 1) := by decide +kernel
theorem dL_law_225 : decode (zcc mL_law) 225 = .ok (.aload_n 0, 1) := by decide +kernel
theorem dL_law_226 : decode (zcc mL_law) 226 = .ok (.iload_n 3, 1) := by decide +kernel
theorem dL_law_227 : decode (zcc mL_law) 227 = .ok (.iconst 1, 1) := by decide +kernel
theorem dL_law_228 : decode (zcc mL_law) 228 = .ok (.iadd, 1) := by decide +kernel
theorem dL_law_229 : decode (zcc mL_law) 229 = .ok (.iaload, 1) := by decide +kernel
theorem dL_law_230 : decode (zcc mL_law) 230 = .ok (.invokevirtual 32, 3) := by decide +kernel
theorem dL_law_233 : decode (zcc mL_law) 233 = .ok (.aload_n 2, 1) := by decide +kernel
theorem dL_law_234 : decode (zcc mL_law) 234 = .ok (.aload_n 0, 1) := by decide +kernel
theorem dL_law_235 : decode (zcc mL_law) 235 = .ok (.iload_n 3, 1) := by decide +kernel
theorem dL_law_236 : decode (zcc mL_law) 236 = .ok (.iconst 1, 1) := by decide +kernel
theorem dL_law_237 : decode (zcc mL_law) 237 = .ok (.iadd, 1) := by decide +kernel
theorem dL_law_238 : decode (zcc mL_law) 238 = .ok (.iaload, 1) := by decide +kernel
theorem dL_law_239 : decode (zcc mL_law) 239 = .ok (.invokevirtual 35, 3) := by decide +kernel
theorem dL_law_242 : decode (zcc mL_law) 242 = .ok (.if_icmp .eq 511, 3) := by decide +kernel
theorem dL_law_245 : decode (zcc mL_law) 245 = .ok (.iconst 0, 1) := by decide +kernel
theorem dL_law_246 : decode (zcc mL_law) 246 = .ok (.ireturn, 1) := by decide +kernel
theorem dL_law_247 : decode (zcc mL_law) 247 = .ok (.aload_n 1, 1) := by decide +kernel
theorem dL_law_248 : decode (zcc mL_law) 248 = .ok (.aload_n 0, 1) := by decide +kernel
theorem dL_law_249 : decode (zcc mL_law) 249 = .ok (.iload_n 3, 1) := by decide +kernel
theorem dL_law_250 : decode (zcc mL_law) 250 = .ok (.iconst 1, 1) := by decide +kernel
theorem dL_law_251 : decode (zcc mL_law) 251 = .ok (.iadd, 1) := by decide +kernel
theorem dL_law_252 : decode (zcc mL_law) 252 = .ok (.iaload, 1) := by decide +kernel
theorem dL_law_253 : decode (zcc mL_law) 253 = .ok (.aload_n 0, 1) := by decide +kernel
theorem dL_law_254 : decode (zcc mL_law) 254 = .ok (.iload_n 3, 1) := by decide +kernel
theorem dL_law_255 : decode (zcc mL_law) 255 = .ok (.iconst 2, 1) := by decide +kernel
theorem dL_law_256 : decode (zcc mL_law) 256 = .ok (.iadd, 1) := by decide +kernel
theorem dL_law_257 : decode (zcc mL_law) 257 = .ok (.iaload, 1) := by decide +kernel
theorem dL_law_258 : decode (zcc mL_law) 258 = .ok (.aload_n 0, 1) := by decide +kernel
theorem dL_law_259 : decode (zcc mL_law) 259 = .ok (.iload_n 3, 1) := by decide +kernel
theorem dL_law_260 : decode (zcc mL_law) 260 = .ok (.iconst 3, 1) := by decide +kernel
theorem dL_law_261 : decode (zcc mL_law) 261 = .ok (.iadd, 1) := by decide +kernel
theorem dL_law_262 : decode (zcc mL_law) 262 = .ok (.iaload, 1) := by decide +kernel
theorem dL_law_263 : decode (zcc mL_law) 263 = .ok (.aload_n 0, 1) := by decide +kernel
theorem dL_law_264 : decode (zcc mL_law) 264 = .ok (.iload_n 3, 1) := by decide +kernel
theorem dL_law_265 : decode (zcc mL_law) 265 = .ok (.iconst 4, 1) := by decide +kernel
theorem dL_law_266 : decode (zcc mL_law) 266 = .ok (.iadd, 1) := by decide +kernel
theorem dL_law_267 : decode (zcc mL_law) 267 = .ok (.iaload, 1) := by decide +kernel
theorem dL_law_268 : decode (zcc mL_law) 268 = .ok (.invokevirtual 36, 3) := by decide +kernel
theorem dL_law_271 : decode (zcc mL_law) 271 = .ok (.aload_n 2, 1) := by decide +kernel
theorem dL_law_272 : decode (zcc mL_law) 272 = .ok (.aload_n 0, 1) := by decide +kernel
theorem dL_law_273 : decode (zcc mL_law) 273 = .ok (.iload_n 3, 1) := by decide +kernel
theorem dL_law_274 : decode (zcc mL_law) 274 = .ok (.iconst 1, 1) := by decide +kernel
theorem dL_law_275 : decode (zcc mL_law) 275 = .ok (.iadd, 1) := by decide +kernel
theorem dL_law_276 : decode (zcc mL_law) 276 = .ok (.iaload, 1) := by decide +kernel
theorem dL_law_277 : decode (zcc mL_law) 277 = .ok (.aload_n 0, 1) := by decide +kernel
theorem dL_law_278 : decode (zcc mL_law) 278 = .ok (.iload_n 3, 1) := by decide +kernel
theorem dL_law_279 : decode (zcc mL_law) 279 = .ok (.iconst 2, 1) := by decide +kernel
theorem dL_law_280 : decode (zcc mL_law) 280 = .ok (.iadd, 1) := by decide +kernel
theorem dL_law_281 : decode (zcc mL_law) 281 = .ok (.iaload, 1) := by decide +kernel
theorem dL_law_282 : decode (zcc mL_law) 282 = .ok (.aload_n 0, 1) := by decide +kernel
theorem dL_law_283 : decode (zcc mL_law) 283 = .ok (.iload_n 3, 1) := by decide +kernel
theorem dL_law_284 : decode (zcc mL_law) 284 = .ok (.iconst 3, 1) := by decide +kernel
theorem dL_law_285 : decode (zcc mL_law) 285 = .ok (.iadd, 1) := by decide +kernel
theorem dL_law_286 : decode (zcc mL_law) 286 = .ok (.iaload, 1) := by decide +kernel
theorem dL_law_287 : decode (zcc mL_law) 287 = .ok (.aload_n 0, 1) := by decide +kernel
theorem dL_law_288 : decode (zcc mL_law) 288 = .ok (.iload_n 3, 1) := by decide +kernel
theorem dL_law_289 : decode (zcc mL_law) 289 = .ok (.iconst 4, 1) := by decide +kernel
theorem dL_law_290 : decode (zcc mL_law) 290 = .ok (.iadd, 1) := by decide +kernel
theorem dL_law_291 : decode (zcc mL_law) 291 = .ok (.iaload, 1) := by decide +kernel
theorem dL_law_292 : decode (zcc mL_law) 292 = .ok (.invokevirtual 40, 3) := by decide +kernel
theorem dL_law_295 : decode (zcc mL_law) 295 = .ok (.if_icmp .eq 458, 3) := by decide +kernel
theorem dL_law_298 : decode (zcc mL_law) 298 = .ok (.iconst 0, 1) := by decide +kernel
theorem dL_law_299 : decode (zcc mL_law) 299 = .ok (.ireturn, 1) := by decide +kernel
theorem dL_law_300 : decode (zcc mL_law) 300 = .ok (.aload_n 1, 1) := by decide +kernel
theorem dL_law_301 : decode (zcc mL_law) 301 = .ok (.aload_n 0, 1) := by decide +kernel
theorem dL_law_302 : decode (zcc mL_law) 302 = .ok (.iload_n 3, 1) := by decide +kernel
theorem dL_law_303 : decode (zcc mL_law) 303 = .ok (.iconst 1, 1) := by decide +kernel
theorem dL_law_304 : decode (zcc mL_law) 304 = .ok (.iadd, 1) := by decide +kernel
theorem dL_law_305 : decode (zcc mL_law) 305 = .ok (.iaload, 1) := by decide +kernel
theorem dL_law_306 : decode (zcc mL_law) 306 = .ok (.aload_n 0, 1) := by decide +kernel
theorem dL_law_307 : decode (zcc mL_law) 307 = .ok (.iload_n 3, 1) := by decide +kernel
theorem dL_law_308 : decode (zcc mL_law) 308 = .ok (.iconst 2, 1) := by decide +kernel
theorem dL_law_309 : decode (zcc mL_law) 309 = .ok (.iadd, 1) := by decide +kernel
theorem dL_law_310 : decode (zcc mL_law) 310 = .ok (.iaload, 1) := by decide +kernel
theorem dL_law_311 : decode (zcc mL_law) 311 = .ok (.aload_n 0, 1) := by decide +kernel
theorem dL_law_312 : decode (zcc mL_law) 312 = .ok (.iload_n 3, 1) := by decide +kernel
theorem dL_law_313 : decode (zcc mL_law) 313 = .ok (.iconst 3, 1) := by decide +kernel
theorem dL_law_314 : decode (zcc mL_law) 314 = .ok (.iadd, 1) := by decide +kernel
theorem dL_law_315 : decode (zcc mL_law) 315 = .ok (.iaload, 1) := by decide +kernel
theorem dL_law_316 : decode (zcc mL_law) 316 = .ok (.ifCond .eq 7, 3) := by decide +kernel
theorem dL_law_319 : decode (zcc mL_law) 319 = .ok (.iconst 1, 1) := by decide +kernel
theorem dL_law_320 : decode (zcc mL_law) 320 = .ok (.goto 4, 3) := by decide +kernel
theorem dL_law_323 : decode (zcc mL_law) 323 = .ok (.iconst 0, 1) := by decide +kernel
theorem dL_law_324 : decode (zcc mL_law) 324 = .ok (.invokevirtual 41, 3) := by decide +kernel
theorem dL_law_327 : decode (zcc mL_law) 327 = .ok (.aload_n 2, 1) := by decide +kernel
theorem dL_law_328 : decode (zcc mL_law) 328 = .ok (.aload_n 0, 1) := by decide +kernel
theorem dL_law_329 : decode (zcc mL_law) 329 = .ok (.iload_n 3, 1) := by decide +kernel
theorem dL_law_330 : decode (zcc mL_law) 330 = .ok (.iconst 1, 1) := by decide +kernel
theorem dL_law_331 : decode (zcc mL_law) 331 = .ok (.iadd, 1) := by decide +kernel
theorem dL_law_332 : decode (zcc mL_law) 332 = .ok (.iaload, 1) := by decide +kernel
theorem dL_law_333 : decode (zcc mL_law) 333 = .ok (.aload_n 0, 1) := by decide +kernel
theorem dL_law_334 : decode (zcc mL_law) 334 = .ok (.iload_n 3, 1) := by decide +kernel
theorem dL_law_335 : decode (zcc mL_law) 335 = .ok (.iconst 2, 1) := by decide +kernel
theorem dL_law_336 : decode (zcc mL_law) 336 = .ok (.iadd, 1) := by decide +kernel
theorem dL_law_337 : decode (zcc mL_law) 337 = .ok (.iaload, 1) := by decide +kernel
theorem dL_law_338 : decode (zcc mL_law) 338 = .ok (.aload_n 0, 1) := by decide +kernel
theorem dL_law_339 : decode (zcc mL_law) 339 = .ok (.iload_n 3, 1) := by decide +kernel
theorem dL_law_340 : decode (zcc mL_law) 340 = .ok (.iconst 3, 1) := by decide +kernel
theorem dL_law_341 : decode (zcc mL_law) 341 = .ok (.iadd, 1) := by decide +kernel
theorem dL_law_342 : decode (zcc mL_law) 342 = .ok (.iaload, 1) := by decide +kernel
theorem dL_law_343 : decode (zcc mL_law) 343 = .ok (.ifCond .eq 7, 3) := by decide +kernel
theorem dL_law_346 : decode (zcc mL_law) 346 = .ok (.iconst 1, 1) := by decide +kernel
theorem dL_law_347 : decode (zcc mL_law) 347 = .ok (.goto 4, 3) := by decide +kernel
theorem dL_law_350 : decode (zcc mL_law) 350 = .ok (.iconst 0, 1) := by decide +kernel
theorem dL_law_351 : decode (zcc mL_law) 351 = .ok (.invokevirtual 45, 3) := by decide +kernel
theorem dL_law_354 : decode (zcc mL_law) 354 = .ok (.if_icmp .eq 399, 3) := by decide +kernel
theorem dL_law_357 : decode (zcc mL_law) 357 = .ok (.iconst 0, 1) := by decide +kernel
theorem dL_law_358 : decode (zcc mL_law) 358 = .ok (.ireturn, 1) := by decide +kernel
theorem dL_law_359 : decode (zcc mL_law) 359 = .ok (.aload_n 1, 1) := by decide +kernel
theorem dL_law_360 : decode (zcc mL_law) 360 = .ok (.aload_n 0, 1) := by decide +kernel
theorem dL_law_361 : decode (zcc mL_law) 361 = .ok (.iload_n 3, 1) := by decide +kernel
theorem dL_law_362 : decode (zcc mL_law) 362 = .ok (.iconst 1, 1) := by decide +kernel
theorem dL_law_363 : decode (zcc mL_law) 363 = .ok (.iadd, 1) := by decide +kernel
theorem dL_law_364 : decode (zcc mL_law) 364 = .ok (.iaload, 1) := by decide +kernel
theorem dL_law_365 : decode (zcc mL_law) 365 = .ok (.aload_n 0, 1) := by decide +kernel
theorem dL_law_366 : decode (zcc mL_law) 366 = .ok (.iload_n 3, 1) := by decide +kernel
theorem dL_law_367 : decode (zcc mL_law) 367 = .ok (.iconst 2, 1) := by decide +kernel
theorem dL_law_368 : decode (zcc mL_law) 368 = .ok (.iadd, 1) := by decide +kernel
theorem dL_law_369 : decode (zcc mL_law) 369 = .ok (.iaload, 1) := by decide +kernel
theorem dL_law_370 : decode (zcc mL_law) 370 = .ok (.aload_n 0, 1) := by decide +kernel
theorem dL_law_371 : decode (zcc mL_law) 371 = .ok (.iload_n 3, 1) := by decide +kernel
theorem dL_law_372 : decode (zcc mL_law) 372 = .ok (.iconst 3, 1) := by decide +kernel
theorem dL_law_373 : decode (zcc mL_law) 373 = .ok (.iadd, 1) := by decide +kernel
theorem dL_law_374 : decode (zcc mL_law) 374 = .ok (.iaload, 1) := by decide +kernel
theorem dL_law_375 : decode (zcc mL_law) 375 = .ok (.aload_n 0, 1) := by decide +kernel
theorem dL_law_376 : decode (zcc mL_law) 376 = .ok (.iload_n 3, 1) := by decide +kernel
theorem dL_law_377 : decode (zcc mL_law) 377 = .ok (.iconst 4, 1) := by decide +kernel
theorem dL_law_378 : decode (zcc mL_law) 378 = .ok (.iadd, 1) := by decide +kernel
theorem dL_law_379 : decode (zcc mL_law) 379 = .ok (.iaload, 1) := by decide +kernel
theorem dL_law_380 : decode (zcc mL_law) 380 = .ok (.aload_n 0, 1) := by decide +kernel
theorem dL_law_381 : decode (zcc mL_law) 381 = .ok (.iload_n 3, 1) := by decide +kernel
theorem dL_law_382 : decode (zcc mL_law) 382 = .ok (.iconst 5, 1) := by decide +kernel
theorem dL_law_383 : decode (zcc mL_law) 383 = .ok (.iadd, 1) := by decide +kernel
theorem dL_law_384 : decode (zcc mL_law) 384 = .ok (.iaload, 1) := by decide +kernel
theorem dL_law_385 : decode (zcc mL_law) 385 = .ok (.invokevirtual 46, 3) := by decide +kernel
theorem dL_law_388 : decode (zcc mL_law) 388 = .ok (.aload_n 2, 1) := by decide +kernel
theorem dL_law_389 : decode (zcc mL_law) 389 = .ok (.aload_n 0, 1) := by decide +kernel
theorem dL_law_390 : decode (zcc mL_law) 390 = .ok (.iload_n 3, 1) := by decide +kernel
theorem dL_law_391 : decode (zcc mL_law) 391 = .ok (.iconst 1, 1) := by decide +kernel
theorem dL_law_392 : decode (zcc mL_law) 392 = .ok (.iadd, 1) := by decide +kernel
theorem dL_law_393 : decode (zcc mL_law) 393 = .ok (.iaload, 1) := by decide +kernel
theorem dL_law_394 : decode (zcc mL_law) 394 = .ok (.aload_n 0, 1) := by decide +kernel
theorem dL_law_395 : decode (zcc mL_law) 395 = .ok (.iload_n 3, 1) := by decide +kernel
theorem dL_law_396 : decode (zcc mL_law) 396 = .ok (.iconst 2, 1) := by decide +kernel
theorem dL_law_397 : decode (zcc mL_law) 397 = .ok (.iadd, 1) := by decide +kernel
theorem dL_law_398 : decode (zcc mL_law) 398 = .ok (.iaload, 1) := by decide +kernel
theorem dL_law_399 : decode (zcc mL_law) 399 = .ok (.aload_n 0, 1) := by decide +kernel
theorem dL_law_400 : decode (zcc mL_law) 400 = .ok (.iload_n 3, 1) := by decide +kernel
theorem dL_law_401 : decode (zcc mL_law) 401 = .ok (.iconst 3, 1) := by decide +kernel
theorem dL_law_402 : decode (zcc mL_law) 402 = .ok (.iadd, 1) := by decide +kernel
theorem dL_law_403 : decode (zcc mL_law) 403 = .ok (.iaload, 1) := by decide +kernel
theorem dL_law_404 : decode (zcc mL_law) 404 = .ok (.aload_n 0, 1) := by decide +kernel
theorem dL_law_405 : decode (zcc mL_law) 405 = .ok (.iload_n 3, 1) := by decide +kernel
theorem dL_law_406 : decode (zcc mL_law) 406 = .ok (.iconst 4, 1) := by decide +kernel
theorem dL_law_407 : decode (zcc mL_law) 407 = .ok (.iadd, 1) := by decide +kernel
theorem dL_law_408 : decode (zcc mL_law) 408 = .ok (.iaload, 1) := by decide +kernel
theorem dL_law_409 : decode (zcc mL_law) 409 = .ok (.aload_n 0, 1) := by decide +kernel
theorem dL_law_410 : decode (zcc mL_law) 410 = .ok (.iload_n 3, 1) := by decide +kernel
theorem dL_law_411 : decode (zcc mL_law) 411 = .ok (.iconst 5, 1) := by decide +kernel
theorem dL_law_412 : decode (zcc mL_law) 412 = .ok (.iadd, 1) := by decide +kernel
theorem dL_law_413 : decode (zcc mL_law) 413 = .ok (.iaload, 1) := by decide +kernel
theorem dL_law_414 : decode (zcc mL_law) 414 = .ok (.invokevirtual 50, 3) := by decide +kernel
theorem dL_law_417 : decode (zcc mL_law) 417 = .ok (.if_icmp .eq 336, 3) := by decide +kernel
theorem dL_law_420 : decode (zcc mL_law) 420 = .ok (.iconst 0, 1) := by decide +kernel
theorem dL_law_421 : decode (zcc mL_law) 421 = .ok (.ireturn, 1) := by decide +kernel
theorem dL_law_422 : decode (zcc mL_law) 422 = .ok (.aload_n 1, 1) := by decide +kernel
theorem dL_law_423 : decode (zcc mL_law) 423 = .ok (.aload_n 0, 1) := by decide +kernel
theorem dL_law_424 : decode (zcc mL_law) 424 = .ok (.iload_n 3, 1) := by decide +kernel
theorem dL_law_425 : decode (zcc mL_law) 425 = .ok (.iconst 1, 1) := by decide +kernel
theorem dL_law_426 : decode (zcc mL_law) 426 = .ok (.iadd, 1) := by decide +kernel
theorem dL_law_427 : decode (zcc mL_law) 427 = .ok (.iaload, 1) := by decide +kernel
theorem dL_law_428 : decode (zcc mL_law) 428 = .ok (.aload_n 0, 1) := by decide +kernel
theorem dL_law_429 : decode (zcc mL_law) 429 = .ok (.iload_n 3, 1) := by decide +kernel
theorem dL_law_430 : decode (zcc mL_law) 430 = .ok (.iconst 2, 1) := by decide +kernel
theorem dL_law_431 : decode (zcc mL_law) 431 = .ok (.iadd, 1) := by decide +kernel
theorem dL_law_432 : decode (zcc mL_law) 432 = .ok (.iaload, 1) := by decide +kernel
theorem dL_law_433 : decode (zcc mL_law) 433 = .ok (.ifCond .eq 7, 3) := by decide +kernel
theorem dL_law_436 : decode (zcc mL_law) 436 = .ok (.iconst 1, 1) := by decide +kernel
theorem dL_law_437 : decode (zcc mL_law) 437 = .ok (.goto 4, 3) := by decide +kernel
theorem dL_law_440 : decode (zcc mL_law) 440 = .ok (.iconst 0, 1) := by decide +kernel
