theorem dX8_letter_31 : decode (zcc mX8_letter) 31 = .ok (.iload_n 2, 1) := by decide +kernel
theorem dX8_letter_32 : decode (zcc mX8_letter) 32 = .ok (.iconst 0, 1) := by decide +kernel
theorem dX8_letter_33 : decode (zcc mX8_letter) 33 = .ok (.aload_n 0, 1) := by decide +kernel
theorem dX8_letter_34 : decode (zcc mX8_letter) 34 = .ok (.getfield 57, 3) := by decide +kernel
theorem dX8_letter_37 : decode (zcc mX8_letter) 37 = .ok (.iload_n 1, 1) := by decide +kernel
theorem dX8_letter_38 : decode (zcc mX8_letter) 38 = .ok (.iaload, 1) := by decide +kernel
theorem dX8_letter_39 : decode (zcc mX8_letter) 39 = .ok (.iconst 1, 1) := by decide +kernel
theorem dX8_letter_40 : decode (zcc mX8_letter) 40 = .ok (.isub, 1) := by decide +kernel
theorem dX8_letter_41 : decode (zcc mX8_letter) 41 = .ok (.invokestatic 94, 3) := by decide +kernel
theorem dX8_letter_44 : decode (zcc mX8_letter) 44 = .ok (.ifCond .eq 16, 3) := by decide +kernel
theorem dX8_letter_47 : decode (zcc mX8_letter) 47 = .ok (.aload_n 0, 1) := by decide +kernel
theorem dX8_letter_48 : decode (zcc mX8_letter) 48 = .ok (.getfield 60, 3) := by decide +kernel
theorem dX8_letter_51 : decode (zcc mX8_letter) 51 = .ok (.iconst 5, 1) := by decide +kernel
theorem dX8_letter_52 : decode (zcc mX8_letter) 52 = .ok (.iload_n 1, 1) := by decide +kernel
theorem dX8_letter_53 : decode (zcc mX8_letter) 53 = .ok (.imul, 1) := by decide +kernel
theorem dX8_letter_54 : decode (zcc mX8_letter) 54 = .ok (.iload_n 2, 1) := by decide +kernel
theorem dX8_letter_55 : decode (zcc mX8_letter) 55 = .ok (.iadd, 1) := by decide +kernel
theorem dX8_letter_56 : decode (zcc mX8_letter) 56 = .ok (.iaload, 1) := by decide +kernel
theorem dX8_letter_57 : decode (zcc mX8_letter) 57 = .ok (.goto 4, 3) := by decide +kernel
theorem dX8_letter_60 : decode (zcc mX8_letter) 60 = .ok (.iconst (-1), 1) := by decide +kernel
theorem dX8_letter_61 : decode (zcc mX8_letter) 61 = .ok (.ireturn, 1) := by decide +kernel
theorem dX8_holds_0 : decode (zcc mX8_holds) 0 = .ok (.iload_n 1, 1) := by decide +kernel
theorem dX8_holds_1 : decode (zcc mX8_holds) 1 = .ok (.iconst 0, 1) := by decide +kernel
theorem dX8_holds_2 : decode (zcc mX8_holds) 2 = .ok (.aload_n 0, 1) := by decide +kernel
theorem dX8_holds_3 : decode (zcc mX8_holds) 3 = .ok (.getfield 98, 3) := by decide +kernel
theorem dX8_holds_6 : decode (zcc mX8_holds) 6 = .ok (.iconst 1, 1) := by decide +kernel
theorem dX8_holds_7 : decode (zcc mX8_holds) 7 = .ok (.isub, 1) := by decide +kernel
theorem dX8_holds_8 : decode (zcc mX8_holds) 8 = .ok (.invokestatic 94, 3) := by decide +kernel
theorem dX8_holds_11 : decode (zcc mX8_holds) 11 = .ok (.ifCond .ne 6, 3) := by decide +kernel
theorem dX8_holds_14 : decode (zcc mX8_holds) 14 = .ok (.bipush (-2), 2) := by decide +kernel
theorem dX8_holds_16 : decode (zcc mX8_holds) 16 = .ok (.ireturn, 1) := by decide +kernel
theorem dX8_holds_17 : decode (zcc mX8_holds) 17 = .ok (.aload_n 0, 1) := by decide +kernel
theorem dX8_holds_18 : decode (zcc mX8_holds) 18 = .ok (.getfield 87, 3) := by decide +kernel
theorem dX8_holds_21 : decode (zcc mX8_holds) 21 = .ok (.ifCond .ne 6, 3) := by decide +kernel
theorem dX8_holds_24 : decode (zcc mX8_holds) 24 = .ok (.bipush (-4), 2) := by decide +kernel
theorem dX8_holds_26 : decode (zcc mX8_holds) 26 = .ok (.ireturn, 1) := by decide +kernel
theorem dX8_holds_27 : decode (zcc mX8_holds) 27 = .ok (.iconst 0, 1) := by decide +kernel
theorem dX8_holds_28 : decode (zcc mX8_holds) 28 = .ok (.istore_n 2, 1) := by decide +kernel
theorem dX8_holds_29 : decode (zcc mX8_holds) 29 = .ok (.iload_n 2, 1) := by decide +kernel
theorem dX8_holds_30 : decode (zcc mX8_holds) 30 = .ok (.iconst 4, 1) := by decide +kernel
theorem dX8_holds_31 : decode (zcc mX8_holds) 31 = .ok (.if_icmp .ge 21, 3) := by decide +kernel
theorem dX8_holds_34 : decode (zcc mX8_holds) 34 = .ok (.aload_n 0, 1) := by decide +kernel
theorem dX8_holds_35 : decode (zcc mX8_holds) 35 = .ok (.getfield 66, 3) := by decide +kernel
theorem dX8_holds_38 : decode (zcc mX8_holds) 38 = .ok (.iload_n 2, 1) := by decide +kernel
theorem dX8_holds_39 : decode (zcc mX8_holds) 39 = .ok (.aload_n 0, 1) := by decide +kernel
theorem dX8_holds_40 : decode (zcc mX8_holds) 40 = .ok (.getfield 57, 3) := by decide +kernel
theorem dX8_holds_43 : decode (zcc mX8_holds) 43 = .ok (.iload_n 2, 1) := by decide +kernel
theorem dX8_holds_44 : decode (zcc mX8_holds) 44 = .ok (.iaload, 1) := by decide +kernel
theorem dX8_holds_45 : decode (zcc mX8_holds) 45 = .ok (.iastore, 1) := by decide +kernel
theorem dX8_holds_46 : decode (zcc mX8_holds) 46 = .ok (.iinc 2 1, 3) := by decide +kernel
theorem dX8_holds_49 : decode (zcc mX8_holds) 49 = .ok (.goto (-20), 3) := by decide +kernel
theorem dX8_holds_52 : decode (zcc mX8_holds) 52 = .ok (.iconst 0, 1) := by decide +kernel
theorem dX8_holds_53 : decode (zcc mX8_holds) 53 = .ok (.istore_n 2, 1) := by decide +kernel
theorem dX8_holds_54 : decode (zcc mX8_holds) 54 = .ok (.iload_n 2, 1) := by decide +kernel
theorem dX8_holds_55 : decode (zcc mX8_holds) 55 = .ok (.bipush 20, 2) := by decide +kernel
theorem dX8_holds_57 : decode (zcc mX8_holds) 57 = .ok (.if_icmp .ge 21, 3) := by decide +kernel
theorem dX8_holds_60 : decode (zcc mX8_holds) 60 = .ok (.aload_n 0, 1) := by decide +kernel
theorem dX8_holds_61 : decode (zcc mX8_holds) 61 = .ok (.getfield 69, 3) := by decide +kernel
theorem dX8_holds_64 : decode (zcc mX8_holds) 64 = .ok (.iload_n 2, 1) := by decide +kernel
theorem dX8_holds_65 : decode (zcc mX8_holds) 65 = .ok (.aload_n 0, 1) := by decide +kernel
theorem dX8_holds_66 : decode (zcc mX8_holds) 66 = .ok (.getfield 60, 3) := by decide +kernel
theorem dX8_holds_69 : decode (zcc mX8_holds) 69 = .ok (.iload_n 2, 1) := by decide +kernel
theorem dX8_holds_70 : decode (zcc mX8_holds) 70 = .ok (.iaload, 1) := by decide +kernel
theorem dX8_holds_71 : decode (zcc mX8_holds) 71 = .ok (.iastore, 1) := by decide +kernel
theorem dX8_holds_72 : decode (zcc mX8_holds) 72 = .ok (.iinc 2 1, 3) := by decide +kernel
theorem dX8_holds_75 : decode (zcc mX8_holds) 75 = .ok (.goto (-21), 3) := by decide +kernel
theorem dX8_holds_78 : decode (zcc mX8_holds) 78 = .ok (.aload_n 0, 1) := by decide +kernel
theorem dX8_holds_79 : decode (zcc mX8_holds) 79 = .ok (.iload_n 1, 1) := by decide +kernel
theorem dX8_holds_80 : decode (zcc mX8_holds) 80 = .ok (.invokevirtual 155, 3) := by decide +kernel
theorem dX8_holds_83 : decode (zcc mX8_holds) 83 = .ok (.ifCond .eq 7, 3) := by decide +kernel
theorem dX8_holds_86 : decode (zcc mX8_holds) 86 = .ok (.iconst 1, 1) := by decide +kernel
theorem dX8_holds_87 : decode (zcc mX8_holds) 87 = .ok (.goto 4, 3) := by decide +kernel
theorem dX8_holds_90 : decode (zcc mX8_holds) 90 = .ok (.iconst 0, 1) := by decide +kernel
theorem dX8_holds_91 : decode (zcc mX8_holds) 91 = .ok (.ireturn, 1) := by decide +kernel
theorem dX8_core_0 : decode (zcc mX8_core) 0 = .ok (.aload_n 0, 1) := by decide +kernel
theorem dX8_core_1 : decode (zcc mX8_core) 1 = .ok (.invokevirtual 167, 3) := by decide +kernel
theorem dX8_core_4 : decode (zcc mX8_core) 4 = .ok (.aload_n 0, 1) := by decide +kernel
theorem dX8_core_5 : decode (zcc mX8_core) 5 = .ok (.iconst 0, 1) := by decide +kernel
theorem dX8_core_6 : decode (zcc mX8_core) 6 = .ok (.invokevirtual 170, 3) := by decide +kernel
theorem dX8_core_9 : decode (zcc mX8_core) 9 = .ok (.ifCond .le 6, 3) := by decide +kernel
theorem dX8_core_12 : decode (zcc mX8_core) 12 = .ok (.bipush (-4), 2) := by decide +kernel
theorem dX8_core_14 : decode (zcc mX8_core) 14 = .ok (.ireturn, 1) := by decide +kernel
theorem dX8_core_15 : decode (zcc mX8_core) 15 = .ok (.iconst 0, 1) := by decide +kernel
theorem dX8_core_16 : decode (zcc mX8_core) 16 = .ok (.istore_n 1, 1) := by decide +kernel
theorem dX8_core_17 : decode (zcc mX8_core) 17 = .ok (.aload_n 0, 1) := by decide +kernel
theorem dX8_core_18 : decode (zcc mX8_core) 18 = .ok (.getfield 98, 3) := by decide +kernel
theorem dX8_core_21 : decode (zcc mX8_core) 21 = .ok (.iconst 1, 1) := by decide +kernel
theorem dX8_core_22 : decode (zcc mX8_core) 22 = .ok (.isub, 1) := by decide +kernel
theorem dX8_core_23 : decode (zcc mX8_core) 23 = .ok (.istore_n 2, 1) := by decide +kernel
theorem dX8_core_24 : decode (zcc mX8_core) 24 = .ok (.iload_n 2, 1) := by decide +kernel
theorem dX8_core_25 : decode (zcc mX8_core) 25 = .ok (.ifCond .lt 43, 3) := by decide +kernel
theorem dX8_core_28 : decode (zcc mX8_core) 28 = .ok (.aload_n 0, 1) := by decide +kernel
theorem dX8_core_29 : decode (zcc mX8_core) 29 = .ok (.getfield 54, 3) := by decide +kernel
theorem dX8_core_32 : decode (zcc mX8_core) 32 = .ok (.iload_n 2, 1) := by decide +kernel
theorem dX8_core_33 : decode (zcc mX8_core) 33 = .ok (.baload, 1) := by decide +kernel
theorem dX8_core_34 : decode (zcc mX8_core) 34 = .ok (.ifCond .ne 28, 3) := by decide +kernel
theorem dX8_core_37 : decode (zcc mX8_core) 37 = .ok (.aload_n 0, 1) := by decide +kernel
theorem dX8_core_38 : decode (zcc mX8_core) 38 = .ok (.getfield 81, 3) := by decide +kernel
theorem dX8_core_41 : decode (zcc mX8_core) 41 = .ok (.iload_n 2, 1) := by decide +kernel
theorem dX8_core_42 : decode (zcc mX8_core) 42 = .ok (.iconst 1, 1) := by decide +kernel
theorem dX8_core_43 : decode (zcc mX8_core) 43 = .ok (.bastore, 1) := by decide +kernel
theorem dX8_core_44 : decode (zcc mX8_core) 44 = .ok (.aload_n 0, 1) := by decide +kernel
theorem dX8_core_45 : decode (zcc mX8_core) 45 = .ok (.iconst 0, 1) := by decide +kernel
theorem dX8_core_46 : decode (zcc mX8_core) 46 = .ok (.invokevirtual 170, 3) := by decide +kernel
theorem dX8_core_49 : decode (zcc mX8_core) 49 = .ok (.ifCond .le 13, 3) := by decide +kernel
theorem dX8_core_52 : decode (zcc mX8_core) 52 = .ok (.aload_n 0, 1) := by decide +kernel
theorem dX8_core_53 : decode (zcc mX8_core) 53 = .ok (.getfield 81, 3) := by decide +kernel
theorem dX8_core_56 : decode (zcc mX8_core) 56 = .ok (.iload_n 2, 1) := by decide +kernel
theorem dX8_core_57 : decode (zcc mX8_core) 57 = .ok (.iconst 0, 1) := by decide +kernel
theorem dX8_core_58 : decode (zcc mX8_core) 58 = .ok (.bastore, 1) := by decide +kernel
theorem dX8_core_59 : decode (zcc mX8_core) 59 = .ok (.iinc 1 1, 3) := by decide +kernel
theorem dX8_core_62 : decode (zcc mX8_core) 62 = .ok (.iinc 2 (-1), 3) := by decide +kernel
theorem dX8_core_65 : decode (zcc mX8_core) 65 = .ok (.goto (-41), 3) := by decide +kernel
theorem dX8_core_68 : decode (zcc mX8_core) 68 = .ok (.iconst 0, 1) := by decide +kernel
theorem dX8_core_69 : decode (zcc mX8_core) 69 = .ok (.istore_n 2, 1) := by decide +kernel
theorem dX8_core_70 : decode (zcc mX8_core) 70 = .ok (.iload_n 2, 1) := by decide +kernel
theorem dX8_core_71 : decode (zcc mX8_core) 71 = .ok (.aload_n 0, 1) := by decide +kernel
theorem dX8_core_72 : decode (zcc mX8_core) 72 = .ok (.getfield 98, 3) := by decide +kernel
theorem dX8_core_75 : decode (zcc mX8_core) 75 = .ok (.if_icmp .ge 38, 3) := by decide +kernel
theorem dX8_core_78 : decode (zcc mX8_core) 78 = .ok (.aload_n 0, 1) := by decide +kernel
theorem dX8_core_79 : decode (zcc mX8_core) 79 = .ok (.getfield 63, 3) := by decide +kernel
theorem dX8_core_82 : decode (zcc mX8_core) 82 = .ok (.iload_n 2, 1) := by decide +kernel
theorem dX8_core_83 : decode (zcc mX8_core) 83 = .ok (.aload_n 0, 1) := by decide +kernel
theorem dX8_core_84 : decode (zcc mX8_core) 84 = .ok (.getfield 54, 3) := by decide +kernel
theorem dX8_core_87 : decode (zcc mX8_core) 87 = .ok (.iload_n 2, 1) := by decide +kernel
theorem dX8_core_88 : decode (zcc mX8_core) 88 = .ok (.baload, 1) := by decide +kernel
theorem dX8_core_89 : decode (zcc mX8_core) 89 = .ok (.ifCond .ne 16, 3) := by decide +kernel
theorem dX8_core_92 : decode (zcc mX8_core) 92 = .ok (.aload_n 0, 1) := by decide +kernel
theorem dX8_core_93 : decode (zcc mX8_core) 93 = .ok (.getfield 81, 3) := by decide +kernel
theorem dX8_core_96 : decode (zcc mX8_core) 96 = .ok (.iload_n 2, 1) := by decide +kernel
theorem dX8_core_97 : decode (zcc mX8_core) 97 = .ok (.baload, 1) := by decide +kernel
theorem dX8_core_98 : decode (zcc mX8_core) 98 = .ok (.ifCond .ne 7, 3) := by decide +kernel
theorem dX8_core_101 : decode (zcc mX8_core) 101 = .ok (.iconst 1, 1) := by decide +kernel
theorem dX8_core_102 : decode (zcc mX8_core) 102 = .ok (.goto 4, 3) := by decide +kernel
theorem dX8_core_105 : decode (zcc mX8_core) 105 = .ok (.iconst 0, 1) := by decide +kernel
theorem dX8_core_106 : decode (zcc mX8_core) 106 = .ok (.bastore, 1) := by decide +kernel
theorem dX8_core_107 : decode (zcc mX8_core) 107 = .ok (.iinc 2 1, 3) := by decide +kernel
theorem dX8_core_110 : decode (zcc mX8_core) 110 = .ok (.goto (-40), 3) := by decide +kernel
theorem dX8_core_113 : decode (zcc mX8_core) 113 = .ok (.aload_n 0, 1) := by decide +kernel
theorem dX8_core_114 : decode (zcc mX8_core) 114 = .ok (.invokevirtual 167, 3) := by decide +kernel
theorem dX8_core_117 : decode (zcc mX8_core) 117 = .ok (.aload_n 0, 1) := by decide +kernel
theorem dX8_core_118 : decode (zcc mX8_core) 118 = .ok (.iconst 1, 1) := by decide +kernel
theorem dX8_core_119 : decode (zcc mX8_core) 119 = .ok (.putfield 91, 3) := by decide +kernel
theorem dX8_core_122 : decode (zcc mX8_core) 122 = .ok (.iload_n 1, 1) := by decide +kernel
theorem dX8_core_123 : decode (zcc mX8_core) 123 = .ok (.ireturn, 1) := by decide +kernel
theorem dX8_inCore_0 : decode (zcc mX8_inCore) 0 = .ok (.iload_n 1, 1) := by decide +kernel
theorem dX8_inCore_1 : decode (zcc mX8_inCore) 1 = .ok (.iconst 0, 1) := by decide +kernel
theorem dX8_inCore_2 : decode (zcc mX8_inCore) 2 = .ok (.aload_n 0, 1) := by decide +kernel
theorem dX8_inCore_3 : decode (zcc mX8_inCore) 3 = .ok (.getfield 98, 3) := by decide +kernel
theorem dX8_inCore_6 : decode (zcc mX8_inCore) 6 = .ok (.iconst 1, 1) := by decide +kernel
theorem dX8_inCore_7 : decode (zcc mX8_inCore) 7 = .ok (.isub, 1) := by decide +kernel
theorem dX8_inCore_8 : decode (zcc mX8_inCore) 8 = .ok (.invokestatic 94, 3) := by decide +kernel
theorem dX8_inCore_11 : decode (zcc mX8_inCore) 11 = .ok (.ifCond .ne 8, 3) := by decide +kernel
theorem dX8_inCore_14 : decode (zcc mX8_inCore) 14 = .ok (.bipush (-2), 2) := by decide +kernel
theorem dX8_inCore_16 : decode (zcc mX8_inCore) 16 = .ok (.goto 29, 3) := by decide +kernel
theorem dX8_inCore_19 : decode (zcc mX8_inCore) 19 = .ok (.aload_n 0, 1) := by decide +kernel
theorem dX8_inCore_20 : decode (zcc mX8_inCore) 20 = .ok (.getfield 91, 3) := by decide +kernel
theorem dX8_inCore_23 : decode (zcc mX8_inCore) 23 = .ok (.ifCond .ne 8, 3) := by decide +kernel
theorem dX8_inCore_26 : decode (zcc mX8_inCore) 26 = .ok (.bipush (-4), 2) := by decide +kernel
theorem dX8_inCore_28 : decode (zcc mX8_inCore) 28 = .ok (.goto 17, 3) := by decide +kernel
theorem dX8_inCore_31 : decode (zcc mX8_inCore) 31 = .ok (.aload_n 0, 1) := by decide +kernel
theorem dX8_inCore_32 : decode (zcc mX8_inCore) 32 = .ok (.getfield 63, 3) := by decide +kernel
theorem dX8_inCore_35 : decode (zcc mX8_inCore) 35 = .ok (.iload_n 1, 1) := by decide +kernel
theorem dX8_inCore_36 : decode (zcc mX8_inCore) 36 = .ok (.baload, 1) := by decide +kernel
theorem dX8_inCore_37 : decode (zcc mX8_inCore) 37 = .ok (.ifCond .eq 7, 3) := by decide +kernel
theorem dX8_inCore_40 : decode (zcc mX8_inCore) 40 = .ok (.iconst 1, 1) := by decide +kernel
theorem dX8_inCore_41 : decode (zcc mX8_inCore) 41 = .ok (.goto 4, 3) := by decide +kernel
theorem dX8_inCore_44 : decode (zcc mX8_inCore) 44 = .ok (.iconst 0, 1) := by decide +kernel
theorem dX8_inCore_45 : decode (zcc mX8_inCore) 45 = .ok (.ireturn, 1) := by decide +kernel
theorem dX8_lengthOf_0 : decode (zcc mX8_lengthOf) 0 = .ok (.iconst 0, 1) := by decide +kernel
theorem dX8_lengthOf_1 : decode (zcc mX8_lengthOf) 1 = .ok (.istore_n 2, 1) := by decide +kernel
theorem dX8_lengthOf_2 : decode (zcc mX8_lengthOf) 2 = .ok (.iconst 0, 1) := by decide +kernel
theorem dX8_lengthOf_3 : decode (zcc mX8_lengthOf) 3 = .ok (.istore_n 3, 1) := by decide +kernel
theorem dX8_lengthOf_4 : decode (zcc mX8_lengthOf) 4 = .ok (.iload_n 3, 1) := by decide +kernel
theorem dX8_lengthOf_5 : decode (zcc mX8_lengthOf) 5 = .ok (.aload_n 0, 1) := by decide +kernel
theorem dX8_lengthOf_6 : decode (zcc mX8_lengthOf) 6 = .ok (.getfield 20, 3) := by decide +kernel
theorem dX8_lengthOf_9 : decode (zcc mX8_lengthOf) 9 = .ok (.iload_n 1, 1) := by decide +kernel
theorem dX8_lengthOf_10 : decode (zcc mX8_lengthOf) 10 = .ok (.iaload, 1) := by decide +kernel
theorem dX8_lengthOf_11 : decode (zcc mX8_lengthOf) 11 = .ok (.if_icmp .ge 46, 3) := by decide +kernel
theorem dX8_lengthOf_14 : decode (zcc mX8_lengthOf) 14 = .ok (.aload_n 0, 1) := by decide +kernel
theorem dX8_lengthOf_15 : decode (zcc mX8_lengthOf) 15 = .ok (.getfield 23, 3) := by decide +kernel
theorem dX8_lengthOf_18 : decode (zcc mX8_lengthOf) 18 = .ok (.bipush 6, 2) := by decide +kernel
theorem dX8_lengthOf_20 : decode (zcc mX8_lengthOf) 20 = .ok (.iload_n 1, 1) := by decide +kernel
theorem dX8_lengthOf_21 : decode (zcc mX8_lengthOf) 21 = .ok (.imul, 1) := by decide +kernel
theorem dX8_lengthOf_22 : decode (zcc mX8_lengthOf) 22 = .ok (.iload_n 3, 1) := by decide +kernel
theorem dX8_lengthOf_23 : decode (zcc mX8_lengthOf) 23 = .ok (.iadd, 1) := by decide +kernel
theorem dX8_lengthOf_24 : decode (zcc mX8_lengthOf) 24 = .ok (.iaload, 1) := by decide +kernel
theorem dX8_lengthOf_25 : decode (zcc mX8_lengthOf) 25 = .ok (.istore 4, 2) := by decide +kernel
theorem dX8_lengthOf_27 : decode (zcc mX8_lengthOf) 27 = .ok (.iload_n 2, 1) := by decide +kernel
theorem dX8_lengthOf_28 : decode (zcc mX8_lengthOf) 28 = .ok (.iload 4, 2) := by decide +kernel
theorem dX8_lengthOf_30 : decode (zcc mX8_lengthOf) 30 = .ok (.bipush 8, 2) := by decide +kernel
theorem dX8_lengthOf_32 : decode (zcc mX8_lengthOf) 32 = .ok (.if_icmp .ge 7, 3) := by decide +kernel
theorem dX8_lengthOf_35 : decode (zcc mX8_lengthOf) 35 = .ok (.iconst 1, 1) := by decide +kernel
theorem dX8_lengthOf_36 : decode (zcc mX8_lengthOf) 36 = .ok (.goto 13, 3) := by decide +kernel
theorem dX8_lengthOf_39 : decode (zcc mX8_lengthOf) 39 = .ok (.aload_n 0, 1) := by decide +kernel
theorem dX8_lengthOf_40 : decode (zcc mX8_lengthOf) 40 = .ok (.getfield 66, 3) := by decide +kernel
theorem dX8_lengthOf_43 : decode (zcc mX8_lengthOf) 43 = .ok (.iload 4, 2) := by decide +kernel
theorem dX8_lengthOf_45 : decode (zcc mX8_lengthOf) 45 = .ok (.bipush 8, 2) := by decide +kernel
theorem dX8_lengthOf_47 : decode (zcc mX8_lengthOf) 47 = .ok (.isub, 1) := by decide +kernel
theorem dX8_lengthOf_48 : decode (zcc mX8_lengthOf) 48 = .ok (.iaload, 1) := by decide +kernel
theorem dX8_lengthOf_49 : decode (zcc mX8_lengthOf) 49 = .ok (.iadd, 1) := by decide +kernel
theorem dX8_lengthOf_50 : decode (zcc mX8_lengthOf) 50 = .ok (.istore_n 2, 1) := by decide +kernel
theorem dX8_lengthOf_51 : decode (zcc mX8_lengthOf) 51 = .ok (.iinc 3 1, 3) := by decide +kernel
theorem dX8_lengthOf_54 : decode (zcc mX8_lengthOf) 54 = .ok (.goto (-50), 3) := by decide +kernel
theorem dX8_lengthOf_57 : decode (zcc mX8_lengthOf) 57 = .ok (.iload_n 2, 1) := by decide +kernel
theorem dX8_lengthOf_58 : decode (zcc mX8_lengthOf) 58 = .ok (.ireturn, 1) := by decide +kernel
theorem dX8_spans_0 : decode (zcc mX8_spans) 0 = .ok (.iconst 0, 1) := by decide +kernel
theorem dX8_spans_1 : decode (zcc mX8_spans) 1 = .ok (.istore_n 1, 1) := by decide +kernel
theorem dX8_spans_2 : decode (zcc mX8_spans) 2 = .ok (.aload_n 0, 1) := by decide +kernel
theorem dX8_spans_3 : decode (zcc mX8_spans) 3 = .ok (.invokevirtual 158, 3) := by decide +kernel
theorem dX8_spans_6 : decode (zcc mX8_spans) 6 = .ok (.iconst 1, 1) := by decide +kernel
theorem dX8_spans_7 : decode (zcc mX8_spans) 7 = .ok (.istore_n 2, 1) := by decide +kernel
theorem dX8_spans_8 : decode (zcc mX8_spans) 8 = .ok (.iload_n 2, 1) := by decide +kernel
theorem dX8_spans_9 : decode (zcc mX8_spans) 9 = .ok (.ifCond .eq 205, 3) := by decide +kernel
theorem dX8_spans_12 : decode (zcc mX8_spans) 12 = .ok (.iconst 1, 1) := by decide +kernel
theorem dX8_spans_13 : decode (zcc mX8_spans) 13 = .ok (.istore_n 3, 1) := by decide +kernel
theorem dX8_spans_14 : decode (zcc mX8_spans) 14 = .ok (.iconst 0, 1) := by decide +kernel
theorem dX8_spans_15 : decode (zcc mX8_spans) 15 = .ok (.istore 4, 2) := by decide +kernel
theorem dX8_spans_17 : decode (zcc mX8_spans) 17 = .ok (.iload 4, 2) := by decide +kernel
theorem dX8_spans_19 : decode (zcc mX8_spans) 19 = .ok (.aload_n 0, 1) := by decide +kernel
theorem dX8_spans_20 : decode (zcc mX8_spans) 20 = .ok (.getfield 98, 3) := by decide +kernel
theorem dX8_spans_23 : decode (zcc mX8_spans) 23 = .ok (.if_icmp .ge 171, 3) := by decide +kernel
theorem dX8_spans_26 : decode (zcc mX8_spans) 26 = .ok (.iload_n 3, 1) := by decide +kernel
theorem dX8_spans_27 : decode (zcc mX8_spans) 27 = .ok (.ifCond .eq 167, 3) := by decide +kernel
theorem dX8_spans_30 : decode (zcc mX8_spans) 30 = .ok (.aload_n 0, 1) := by decide +kernel
theorem dX8_spans_31 : decode (zcc mX8_spans) 31 = .ok (.getfield 54, 3) := by decide +kernel
theorem dX8_spans_34 : decode (zcc mX8_spans) 34 = .ok (.iload 4, 2) := by decide +kernel
theorem dX8_spans_36 : decode (zcc mX8_spans) 36 = .ok (.baload, 1) := by decide +kernel
theorem dX8_spans_37 : decode (zcc mX8_spans) 37 = .ok (.ifCond .ne 90, 3) := by decide +kernel
theorem dX8_spans_40 : decode (zcc mX8_spans) 40 = .ok (.aload_n 0, 1) := by decide +kernel
theorem dX8_spans_41 : decode (zcc mX8_spans) 41 = .ok (.getfield 36, 3) := by decide +kernel
theorem dX8_spans_44 : decode (zcc mX8_spans) 44 = .ok (.iload 4, 2) := by decide +kernel
theorem dX8_spans_46 : decode (zcc mX8_spans) 46 = .ok (.iaload, 1) := by decide +kernel
theorem dX8_spans_47 : decode (zcc mX8_spans) 47 = .ok (.iconst 1, 1) := by decide +kernel
theorem dX8_spans_48 : decode (zcc mX8_spans) 48 = .ok (.if_icmp .ne 79, 3) := by decide +kernel
theorem dX8_spans_51 : decode (zcc mX8_spans) 51 = .ok (.aload_n 0, 1) := by decide +kernel
theorem dX8_spans_52 : decode (zcc mX8_spans) 52 = .ok (.aload_n 0, 1) := by decide +kernel
theorem dX8_spans_53 : decode (zcc mX8_spans) 53 = .ok (.getfield 39, 3) := by decide +kernel
theorem dX8_spans_56 : decode (zcc mX8_spans) 56 = .ok (.iload 4, 2) := by decide +kernel
theorem dX8_spans_58 : decode (zcc mX8_spans) 58 = .ok (.iaload, 1) := by decide +kernel
theorem dX8_spans_59 : decode (zcc mX8_spans) 59 = .ok (.invokevirtual 177, 3) := by decide +kernel
theorem dX8_spans_62 : decode (zcc mX8_spans) 62 = .ok (.aload_n 0, 1) := by decide +kernel
theorem dX8_spans_63 : decode (zcc mX8_spans) 63 = .ok (.getfield 42, 3) := by decide +kernel
theorem dX8_spans_66 : decode (zcc mX8_spans) 66 = .ok (.iload 4, 2) := by decide +kernel
theorem dX8_spans_68 : decode (zcc mX8_spans) 68 = .ok (.iaload, 1) := by decide +kernel
theorem dX8_spans_69 : decode (zcc mX8_spans) 69 = .ok (.iconst (-1), 1) := by decide +kernel
theorem dX8_spans_70 : decode (zcc mX8_spans) 70 = .ok (.if_icmp .ne 7, 3) := by decide +kernel
theorem dX8_spans_73 : decode (zcc mX8_spans) 73 = .ok (.iconst 0, 1) := by decide +kernel
theorem dX8_spans_74 : decode (zcc mX8_spans) 74 = .ok (.goto 14, 3) := by decide +kernel
theorem dX8_spans_77 : decode (zcc mX8_spans) 77 = .ok (.aload_n 0, 1) := by decide +kernel
theorem dX8_spans_78 : decode (zcc mX8_spans) 78 = .ok (.aload_n 0, 1) := by decide +kernel
theorem dX8_spans_79 : decode (zcc mX8_spans) 79 = .ok (.getfield 42, 3) := by decide +kernel
theorem dX8_spans_82 : decode (zcc mX8_spans) 82 = .ok (.iload 4, 2) := by decide +kernel
theorem dX8_spans_84 : decode (zcc mX8_spans) 84 = .ok (.iaload, 1) := by decide +kernel
theorem dX8_spans_85 : decode (zcc mX8_spans) 85 = .ok (.invokevirtual 177, 3) := by decide +kernel
theorem dX8_spans_88 : decode (zcc mX8_spans) 88 = .ok (.aload_n 0, 1) := by decide +kernel
theorem dX8_spans_89 : decode (zcc mX8_spans) 89 = .ok (.getfield 45, 3) := by decide +kernel
theorem dX8_spans_92 : decode (zcc mX8_spans) 92 = .ok (.iload 4, 2) := by decide +kernel
theorem dX8_spans_94 : decode (zcc mX8_spans) 94 = .ok (.iaload, 1) := by decide +kernel
theorem dX8_spans_95 : decode (zcc mX8_spans) 95 = .ok (.iadd, 1) := by decide +kernel
theorem dX8_spans_96 : decode (zcc mX8_spans) 96 = .ok (.if_icmp .lt 7, 3) := by decide +kernel
theorem dX8_spans_99 : decode (zcc mX8_spans) 99 = .ok (.iconst 1, 1) := by decide +kernel
theorem dX8_spans_100 : decode (zcc mX8_spans) 100 = .ok (.goto 4, 3) := by decide +kernel
theorem dX8_spans_103 : decode (zcc mX8_spans) 103 = .ok (.iconst 0, 1) := by decide +kernel
theorem dX8_spans_104 : decode (zcc mX8_spans) 104 = .ok (.istore 5, 2) := by decide +kernel
theorem dX8_spans_106 : decode (zcc mX8_spans) 106 = .ok (.iload 5, 2) := by decide +kernel
theorem dX8_spans_108 : decode (zcc mX8_spans) 108 = .ok (.aload_n 0, 1) := by decide +kernel
theorem dX8_spans_109 : decode (zcc mX8_spans) 109 = .ok (.getfield 51, 3) := by decide +kernel
theorem dX8_spans_112 : decode (zcc mX8_spans) 112 = .ok (.iload 4, 2) := by decide +kernel
theorem dX8_spans_114 : decode (zcc mX8_spans) 114 = .ok (.baload, 1) := by decide +kernel
theorem dX8_spans_115 : decode (zcc mX8_spans) 115 = .ok (.if_icmp .eq 7, 3) := by decide +kernel
theorem dX8_spans_118 : decode (zcc mX8_spans) 118 = .ok (.iconst 1, 1) := by decide +kernel
theorem dX8_spans_119 : decode (zcc mX8_spans) 119 = .ok (.goto 4, 3) := by decide +kernel
theorem dX8_spans_122 : decode (zcc mX8_spans) 122 = .ok (.iconst 0, 1) := by decide +kernel
theorem dX8_spans_123 : decode (zcc mX8_spans) 123 = .ok (.istore_n 3, 1) := by decide +kernel
theorem dX8_spans_124 : decode (zcc mX8_spans) 124 = .ok (.goto 64, 3) := by decide +kernel
theorem dX8_spans_127 : decode (zcc mX8_spans) 127 = .ok (.aload_n 0, 1) := by decide +kernel
theorem dX8_spans_128 : decode (zcc mX8_spans) 128 = .ok (.getfield 54, 3) := by decide +kernel
theorem dX8_spans_131 : decode (zcc mX8_spans) 131 = .ok (.iload 4, 2) := by decide +kernel
theorem dX8_spans_133 : decode (zcc mX8_spans) 133 = .ok (.baload, 1) := by decide +kernel
theorem dX8_spans_134 : decode (zcc mX8_spans) 134 = .ok (.ifCond .ne 54, 3) := by decide +kernel
theorem dX8_spans_137 : decode (zcc mX8_spans) 137 = .ok (.aload_n 0, 1) := by decide +kernel
theorem dX8_spans_138 : decode (zcc mX8_spans) 138 = .ok (.getfield 36, 3) := by decide +kernel
theorem dX8_spans_141 : decode (zcc mX8_spans) 141 = .ok (.iload 4, 2) := by decide +kernel
theorem dX8_spans_143 : decode (zcc mX8_spans) 143 = .ok (.iaload, 1) := by decide +kernel
theorem dX8_spans_144 : decode (zcc mX8_spans) 144 = .ok (.ifCond .ne 44, 3) := by decide +kernel
theorem dX8_spans_147 : decode (zcc mX8_spans) 147 = .ok (.aload_n 0, 1) := by decide +kernel
theorem dX8_spans_148 : decode (zcc mX8_spans) 148 = .ok (.getfield 51, 3) := by decide +kernel
theorem dX8_spans_151 : decode (zcc mX8_spans) 151 = .ok (.iload 4, 2) := by decide +kernel
theorem dX8_spans_153 : decode (zcc mX8_spans) 153 = .ok (.baload, 1) := by decide +kernel
theorem dX8_spans_154 : decode (zcc mX8_spans) 154 = .ok (.ifCond .ne 34, 3) := by decide +kernel
theorem dX8_spans_157 : decode (zcc mX8_spans) 157 = .ok (.aload_n 0, 1) := by decide +kernel
theorem dX8_spans_158 : decode (zcc mX8_spans) 158 = .ok (.aload_n 0, 1) := by decide +kernel
theorem dX8_spans_159 : decode (zcc mX8_spans) 159 = .ok (.getfield 39, 3) := by decide +kernel
theorem dX8_spans_162 : decode (zcc mX8_spans) 162 = .ok (.iload 4, 2) := by decide +kernel
theorem dX8_spans_164 : decode (zcc mX8_spans) 164 = .ok (.iaload, 1) := by decide +kernel
theorem dX8_spans_165 : decode (zcc mX8_spans) 165 = .ok (.invokevirtual 177, 3) := by decide +kernel
theorem dX8_spans_168 : decode (zcc mX8_spans) 168 = .ok (.aload_n 0, 1) := by decide +kernel
theorem dX8_spans_169 : decode (zcc mX8_spans) 169 = .ok (.aload_n 0, 1) := by decide +kernel
theorem dX8_spans_170 : decode (zcc mX8_spans) 170 = .ok (.getfield 42, 3) := by decide +kernel
theorem dX8_spans_173 : decode (zcc mX8_spans) 173 = .ok (.iload 4, 2) := by decide +kernel
theorem dX8_spans_175 : decode (zcc mX8_spans) 175 = .ok (.iaload, 1) := by decide +kernel
theorem dX8_spans_176 : decode (zcc mX8_spans) 176 = .ok (.invokevirtual 177, 3) := by decide +kernel
theorem dX8_spans_179 : decode (zcc mX8_spans) 179 = .ok (.if_icmp .ne 7, 3) := by decide +kernel
theorem dX8_spans_182 : decode (zcc mX8_spans) 182 = .ok (.iconst 1, 1) := by decide +kernel
theorem dX8_spans_183 : decode (zcc mX8_spans) 183 = .ok (.goto 4, 3) := by decide +kernel
theorem dX8_spans_186 : decode (zcc mX8_spans) 186 = .ok (.iconst 0, 1) := by decide +kernel
theorem dX8_spans_187 : decode (zcc mX8_spans) 187 = .ok (.istore_n 3, 1) := by decide +kernel
theorem dX8_spans_188 : decode (zcc mX8_spans) 188 = .ok (.iinc 4 1, 3) := by decide +kernel
theorem dX8_spans_191 : decode (zcc mX8_spans) 191 = .ok (.goto (-174), 3) := by decide +kernel
theorem dX8_spans_194 : decode (zcc mX8_spans) 194 = .ok (.iload_n 1, 1) := by decide +kernel
theorem dX8_spans_195 : decode (zcc mX8_spans) 195 = .ok (.iload_n 3, 1) := by decide +kernel
theorem dX8_spans_196 : decode (zcc mX8_spans) 196 = .ok (.ifCond .eq 7, 3) := by decide +kernel
theorem dX8_spans_199 : decode (zcc mX8_spans) 199 = .ok (.iconst 1, 1) := by decide +kernel
theorem dX8_spans_200 : decode (zcc mX8_spans) 200 = .ok (.goto 4, 3) := by decide +kernel
theorem dX8_spans_203 : decode (zcc mX8_spans) 203 = .ok (.iconst 0, 1) := by decide +kernel
theorem dX8_spans_204 : decode (zcc mX8_spans) 204 = .ok (.iadd, 1) := by decide +kernel
theorem dX8_spans_205 : decode (zcc mX8_spans) 205 = .ok (.istore_n 1, 1) := by decide +kernel
theorem dX8_spans_206 : decode (zcc mX8_spans) 206 = .ok (.aload_n 0, 1) := by decide +kernel
theorem dX8_spans_207 : decode (zcc mX8_spans) 207 = .ok (.invokevirtual 152, 3) := by decide +kernel
theorem dX8_spans_210 : decode (zcc mX8_spans) 210 = .ok (.istore_n 2, 1) := by decide +kernel
theorem dX8_spans_211 : decode (zcc mX8_spans) 211 = .ok (.goto (-203), 3) := by decide +kernel
theorem dX8_spans_214 : decode (zcc mX8_spans) 214 = .ok (.iload_n 1, 1) := by decide +kernel
theorem dX8_spans_215 : decode (zcc mX8_spans) 215 = .ok (.ireturn, 1) := by decide +kernel
theorem dX8_meet_0 : decode (zcc mX8_meet) 0 = .ok (.iload_n 1, 1) := by decide +kernel
theorem dX8_meet_1 : decode (zcc mX8_meet) 1 = .ok (.iconst 0, 1) := by decide +kernel
theorem dX8_meet_2 : decode (zcc mX8_meet) 2 = .ok (.aload_n 0, 1) := by decide +kernel
theorem dX8_meet_3 : decode (zcc mX8_meet) 3 = .ok (.getfield 107, 3) := by decide +kernel
theorem dX8_meet_6 : decode (zcc mX8_meet) 6 = .ok (.iconst 1, 1) := by decide +kernel
theorem dX8_meet_7 : decode (zcc mX8_meet) 7 = .ok (.isub, 1) := by decide +kernel
theorem dX8_meet_8 : decode (zcc mX8_meet) 8 = .ok (.invokestatic 94, 3) := by decide +kernel
theorem dX8_meet_11 : decode (zcc mX8_meet) 11 = .ok (.ifCond .eq 17, 3) := by decide +kernel
theorem dX8_meet_14 : decode (zcc mX8_meet) 14 = .ok (.iload_n 2, 1) := by decide +kernel
theorem dX8_meet_15 : decode (zcc mX8_meet) 15 = .ok (.iconst 0, 1) := by decide +kernel
theorem dX8_meet_16 : decode (zcc mX8_meet) 16 = .ok (.aload_n 0, 1) := by decide +kernel
theorem dX8_meet_17 : decode (zcc mX8_meet) 17 = .ok (.getfield 107, 3) := by decide +kernel
theorem dX8_meet_20 : decode (zcc mX8_meet) 20 = .ok (.iconst 1, 1) := by decide +kernel
theorem dX8_meet_21 : decode (zcc mX8_meet) 21 = .ok (.isub, 1) := by decide +kernel
theorem dX8_meet_22 : decode (zcc mX8_meet) 22 = .ok (.invokestatic 94, 3) := by decide +kernel
theorem dX8_meet_25 : decode (zcc mX8_meet) 25 = .ok (.ifCond .ne 6, 3) := by decide +kernel
theorem dX8_meet_28 : decode (zcc mX8_meet) 28 = .ok (.bipush (-2), 2) := by decide +kernel
theorem dX8_meet_30 : decode (zcc mX8_meet) 30 = .ok (.ireturn, 1) := by decide +kernel
theorem dX8_meet_31 : decode (zcc mX8_meet) 31 = .ok (.iconst 0, 1) := by decide +kernel
theorem dX8_meet_32 : decode (zcc mX8_meet) 32 = .ok (.istore_n 3, 1) := by decide +kernel
theorem dX8_meet_33 : decode (zcc mX8_meet) 33 = .ok (.iload_n 3, 1) := by decide +kernel
theorem dX8_meet_34 : decode (zcc mX8_meet) 34 = .ok (.bipush 36, 2) := by decide +kernel
theorem dX8_meet_36 : decode (zcc mX8_meet) 36 = .ok (.if_icmp .ge 16, 3) := by decide +kernel
theorem dX8_meet_39 : decode (zcc mX8_meet) 39 = .ok (.aload_n 0, 1) := by decide +kernel
theorem dX8_meet_40 : decode (zcc mX8_meet) 40 = .ok (.getfield 84, 3) := by decide +kernel
theorem dX8_meet_43 : decode (zcc mX8_meet) 43 = .ok (.iload_n 3, 1) := by decide +kernel
theorem dX8_meet_44 : decode (zcc mX8_meet) 44 = .ok (.iconst (-1), 1) := by decide +kernel
theorem dX8_meet_45 : decode (zcc mX8_meet) 45 = .ok (.iastore, 1) := by decide +kernel
theorem dX8_meet_46 : decode (zcc mX8_meet) 46 = .ok (.iinc 3 1, 3) := by decide +kernel
theorem dX8_meet_49 : decode (zcc mX8_meet) 49 = .ok (.goto (-16), 3) := by decide +kernel
theorem dX8_meet_52 : decode (zcc mX8_meet) 52 = .ok (.aload_n 0, 1) := by decide +kernel
theorem dX8_meet_53 : decode (zcc mX8_meet) 53 = .ok (.getfield 84, 3) := by decide +kernel
theorem dX8_meet_56 : decode (zcc mX8_meet) 56 = .ok (.iconst 0, 1) := by decide +kernel
theorem dX8_meet_57 : decode (zcc mX8_meet) 57 = .ok (.iconst 0, 1) := by decide +kernel
theorem dX8_meet_58 : decode (zcc mX8_meet) 58 = .ok (.iastore, 1) := by decide +kernel
theorem dX8_meet_59 : decode (zcc mX8_meet) 59 = .ok (.iconst 0, 1) := by decide +kernel
theorem dX8_meet_60 : decode (zcc mX8_meet) 60 = .ok (.istore_n 3, 1) := by decide +kernel
theorem dX8_meet_61 : decode (zcc mX8_meet) 61 = .ok (.iload_n 3, 1) := by decide +kernel
theorem dX8_meet_62 : decode (zcc mX8_meet) 62 = .ok (.bipush 36, 2) := by decide +kernel
theorem dX8_meet_64 : decode (zcc mX8_meet) 64 = .ok (.if_icmp .ge 169, 3) := by decide +kernel
theorem dX8_meet_67 : decode (zcc mX8_meet) 67 = .ok (.iconst 0, 1) := by decide +kernel
theorem dX8_meet_68 : decode (zcc mX8_meet) 68 = .ok (.istore 4, 2) := by decide +kernel
theorem dX8_meet_70 : decode (zcc mX8_meet) 70 = .ok (.iload 4, 2) := by decide +kernel
theorem dX8_meet_72 : decode (zcc mX8_meet) 72 = .ok (.bipush 36, 2) := by decide +kernel
theorem dX8_meet_74 : decode (zcc mX8_meet) 74 = .ok (.if_icmp .ge 153, 3) := by decide +kernel
theorem dX8_meet_77 : decode (zcc mX8_meet) 77 = .ok (.aload_n 0, 1) := by decide +kernel
theorem dX8_meet_78 : decode (zcc mX8_meet) 78 = .ok (.getfield 84, 3) := by decide +kernel
theorem dX8_meet_81 : decode (zcc mX8_meet) 81 = .ok (.iload 4, 2) := by decide +kernel
theorem dX8_meet_83 : decode (zcc mX8_meet) 83 = .ok (.iaload, 1) := by decide +kernel
theorem dX8_meet_84 : decode (zcc mX8_meet) 84 = .ok (.iload_n 3, 1) := by decide +kernel
theorem dX8_meet_85 : decode (zcc mX8_meet) 85 = .ok (.if_icmp .ne 136, 3) := by decide +kernel
theorem dX8_meet_88 : decode (zcc mX8_meet) 88 = .ok (.aload_n 0, 1) := by decide +kernel
theorem dX8_meet_89 : decode (zcc mX8_meet) 89 = .ok (.getfield 32, 3) := by decide +kernel
theorem dX8_meet_92 : decode (zcc mX8_meet) 92 = .ok (.bipush 6, 2) := by decide +kernel
theorem dX8_meet_94 : decode (zcc mX8_meet) 94 = .ok (.iload_n 1, 1) := by decide +kernel
theorem dX8_meet_95 : decode (zcc mX8_meet) 95 = .ok (.imul, 1) := by decide +kernel
theorem dX8_meet_96 : decode (zcc mX8_meet) 96 = .ok (.iload 4, 2) := by decide +kernel
theorem dX8_meet_98 : decode (zcc mX8_meet) 98 = .ok (.bipush 6, 2) := by decide +kernel
theorem dX8_meet_100 : decode (zcc mX8_meet) 100 = .ok (.idiv, 1) := by decide +kernel
theorem dX8_meet_101 : decode (zcc mX8_meet) 101 = .ok (.iadd, 1) := by decide +kernel
theorem dX8_meet_102 : decode (zcc mX8_meet) 102 = .ok (.baload, 1) := by decide +kernel
theorem dX8_meet_103 : decode (zcc mX8_meet) 103 = .ok (.ifCond .eq 23, 3) := by decide +kernel
theorem dX8_meet_106 : decode (zcc mX8_meet) 106 = .ok (.aload_n 0, 1) := by decide +kernel
theorem dX8_meet_107 : decode (zcc mX8_meet) 107 = .ok (.getfield 32, 3) := by decide +kernel
theorem dX8_meet_110 : decode (zcc mX8_meet) 110 = .ok (.bipush 6, 2) := by decide +kernel
theorem dX8_meet_112 : decode (zcc mX8_meet) 112 = .ok (.iload_n 2, 1) := by decide +kernel
theorem dX8_meet_113 : decode (zcc mX8_meet) 113 = .ok (.imul, 1) := by decide +kernel
theorem dX8_meet_114 : decode (zcc mX8_meet) 114 = .ok (.iload 4, 2) := by decide +kernel
theorem dX8_meet_116 : decode (zcc mX8_meet) 116 = .ok (.bipush 6, 2) := by decide +kernel
theorem dX8_meet_118 : decode (zcc mX8_meet) 118 = .ok (.irem, 1) := by decide +kernel
theorem dX8_meet_119 : decode (zcc mX8_meet) 119 = .ok (.iadd, 1) := by decide +kernel
theorem dX8_meet_120 : decode (zcc mX8_meet) 120 = .ok (.baload, 1) := by decide +kernel
theorem dX8_meet_121 : decode (zcc mX8_meet) 121 = .ok (.ifCond .eq 5, 3) := by decide +kernel
theorem dX8_meet_124 : decode (zcc mX8_meet) 124 = .ok (.iload_n 3, 1) := by decide +kernel
theorem dX8_meet_125 : decode (zcc mX8_meet) 125 = .ok (.ireturn, 1) := by decide +kernel
theorem dX8_meet_126 : decode (zcc mX8_meet) 126 = .ok (.iconst 0, 1) := by decide +kernel
theorem dX8_meet_127 : decode (zcc mX8_meet) 127 = .ok (.istore 5, 2) := by decide +kernel
theorem dX8_meet_129 : decode (zcc mX8_meet) 129 = .ok (.iload 5, 2) := by decide +kernel
theorem dX8_meet_131 : decode (zcc mX8_meet) 131 = .ok (.aload_n 0, 1) := by decide +kernel
theorem dX8_meet_132 : decode (zcc mX8_meet) 132 = .ok (.getfield 7, 3) := by decide +kernel
theorem dX8_meet_135 : decode (zcc mX8_meet) 135 = .ok (.if_icmp .ge 86, 3) := by decide +kernel
theorem dX8_meet_138 : decode (zcc mX8_meet) 138 = .ok (.bipush 6, 2) := by decide +kernel
theorem dX8_meet_140 : decode (zcc mX8_meet) 140 = .ok (.aload_n 0, 1) := by decide +kernel
theorem dX8_meet_141 : decode (zcc mX8_meet) 141 = .ok (.getfield 29, 3) := by decide +kernel
theorem dX8_meet_144 : decode (zcc mX8_meet) 144 = .ok (.bipush 18, 2) := by decide +kernel
theorem dX8_meet_146 : decode (zcc mX8_meet) 146 = .ok (.iload_n 1, 1) := by decide +kernel
theorem dX8_meet_147 : decode (zcc mX8_meet) 147 = .ok (.imul, 1) := by decide +kernel
theorem dX8_meet_148 : decode (zcc mX8_meet) 148 = .ok (.iconst 3, 1) := by decide +kernel
theorem dX8_meet_149 : decode (zcc mX8_meet) 149 = .ok (.iload 4, 2) := by decide +kernel
theorem dX8_meet_151 : decode (zcc mX8_meet) 151 = .ok (.bipush 6, 2) := by decide +kernel
theorem dX8_meet_153 : decode (zcc mX8_meet) 153 = .ok (.idiv, 1) := by decide +kernel
theorem dX8_meet_154 : decode (zcc mX8_meet) 154 = .ok (.imul, 1) := by decide +kernel
theorem dX8_meet_155 : decode (zcc mX8_meet) 155 = .ok (.iadd, 1) := by decide +kernel
theorem dX8_meet_156 : decode (zcc mX8_meet) 156 = .ok (.iload 5, 2) := by decide +kernel
theorem dX8_meet_158 : decode (zcc mX8_meet) 158 = .ok (.iadd, 1) := by decide +kernel
theorem dX8_meet_159 : decode (zcc mX8_meet) 159 = .ok (.iaload, 1) := by decide +kernel
theorem dX8_meet_160 : decode (zcc mX8_meet) 160 = .ok (.imul, 1) := by decide +kernel
theorem dX8_meet_161 : decode (zcc mX8_meet) 161 = .ok (.aload_n 0, 1) := by decide +kernel
theorem dX8_meet_162 : decode (zcc mX8_meet) 162 = .ok (.getfield 29, 3) := by decide +kernel
theorem dX8_meet_165 : decode (zcc mX8_meet) 165 = .ok (.bipush 18, 2) := by decide +kernel
theorem dX8_meet_167 : decode (zcc mX8_meet) 167 = .ok (.iload_n 2, 1) := by decide +kernel
theorem dX8_meet_168 : decode (zcc mX8_meet) 168 = .ok (.imul, 1) := by decide +kernel
theorem dX8_meet_169 : decode (zcc mX8_meet) 169 = .ok (.iconst 3, 1) := by decide +kernel
theorem dX8_meet_170 : decode (zcc mX8_meet) 170 = .ok (.iload 4, 2) := by decide +kernel
theorem dX8_meet_172 : decode (zcc mX8_meet) 172 = .ok (.bipush 6, 2) := by decide +kernel
theorem dX8_meet_174 : decode (zcc mX8_meet) 174 = .ok (.irem, 1) := by decide +kernel
theorem dX8_meet_175 : decode (zcc mX8_meet) 175 = .ok (.imul, 1) := by decide +kernel
theorem dX8_meet_176 : decode (zcc mX8_meet) 176 = .ok (.iadd, 1) := by decide +kernel
theorem dX8_meet_177 : decode (zcc mX8_meet) 177 = .ok (.iload 5, 2) := by decide +kernel
theorem dX8_meet_179 : decode (zcc mX8_meet) 179 = .ok (.iadd, 1) := by decide +kernel
theorem dX8_meet_180 : decode (zcc mX8_meet) 180 = .ok (.iaload, 1) := by decide +kernel
theorem dX8_meet_181 : decode (zcc mX8_meet) 181 = .ok (.iadd, 1) := by decide +kernel
theorem dX8_meet_182 : decode (zcc mX8_meet) 182 = .ok (.istore 6, 2) := by decide +kernel
theorem dX8_meet_184 : decode (zcc mX8_meet) 184 = .ok (.aload_n 0, 1) := by decide +kernel
theorem dX8_meet_185 : decode (zcc mX8_meet) 185 = .ok (.getfield 84, 3) := by decide +kernel
theorem dX8_meet_188 : decode (zcc mX8_meet) 188 = .ok (.iload 6, 2) := by decide +kernel
theorem dX8_meet_190 : decode (zcc mX8_meet) 190 = .ok (.aload_n 0, 1) := by decide +kernel
theorem dX8_meet_191 : decode (zcc mX8_meet) 191 = .ok (.getfield 84, 3) := by decide +kernel
theorem dX8_meet_194 : decode (zcc mX8_meet) 194 = .ok (.iload 6, 2) := by decide +kernel
theorem dX8_meet_196 : decode (zcc mX8_meet) 196 = .ok (.iaload, 1) := by decide +kernel
theorem dX8_meet_197 : decode (zcc mX8_meet) 197 = .ok (.iconst (-1), 1) := by decide +kernel
theorem dX8_meet_198 : decode (zcc mX8_meet) 198 = .ok (.if_icmp .ne 9, 3) := by decide +kernel
theorem dX8_meet_201 : decode (zcc mX8_meet) 201 = .ok (.iload_n 3, 1) := by decide +kernel
theorem dX8_meet_202 : decode (zcc mX8_meet) 202 = .ok (.iconst 1, 1) := by decide +kernel
theorem dX8_meet_203 : decode (zcc mX8_meet) 203 = .ok (.iadd, 1) := by decide +kernel
theorem dX8_meet_204 : decode (zcc mX8_meet) 204 = .ok (.goto 10, 3) := by decide +kernel
