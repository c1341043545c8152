theorem dX8_formula_284 : decode (zcc mX8_formula) 284 = .ok (.iconst 1, 1) := by decide +kernel
theorem dX8_formula_285 : decode (zcc mX8_formula) 285 = .ok (.iadd, 1) := by decide +kernel
theorem dX8_formula_286 : decode (zcc mX8_formula) 286 = .ok (.putfield 98, 3) := by decide +kernel
theorem dX8_formula_289 : decode (zcc mX8_formula) 289 = .ok (.aload_n 0, 1) := by decide +kernel
theorem dX8_formula_290 : decode (zcc mX8_formula) 290 = .ok (.invokevirtual 110, 3) := by decide +kernel
theorem dX8_formula_293 : decode (zcc mX8_formula) 293 = .ok (.iload 7, 2) := by decide +kernel
theorem dX8_formula_295 : decode (zcc mX8_formula) 295 = .ok (.ireturn, 1) := by decide +kernel
theorem dX8_deny_0 : decode (zcc mX8_deny) 0 = .ok (.iload_n 1, 1) := by decide +kernel
theorem dX8_deny_1 : decode (zcc mX8_deny) 1 = .ok (.iconst 0, 1) := by decide +kernel
theorem dX8_deny_2 : decode (zcc mX8_deny) 2 = .ok (.aload_n 0, 1) := by decide +kernel
theorem dX8_deny_3 : decode (zcc mX8_deny) 3 = .ok (.getfield 98, 3) := by decide +kernel
theorem dX8_deny_6 : decode (zcc mX8_deny) 6 = .ok (.iconst 1, 1) := by decide +kernel
theorem dX8_deny_7 : decode (zcc mX8_deny) 7 = .ok (.isub, 1) := by decide +kernel
theorem dX8_deny_8 : decode (zcc mX8_deny) 8 = .ok (.invokestatic 94, 3) := by decide +kernel
theorem dX8_deny_11 : decode (zcc mX8_deny) 11 = .ok (.ifCond .ne 6, 3) := by decide +kernel
theorem dX8_deny_14 : decode (zcc mX8_deny) 14 = .ok (.bipush (-2), 2) := by decide +kernel
theorem dX8_deny_16 : decode (zcc mX8_deny) 16 = .ok (.ireturn, 1) := by decide +kernel
theorem dX8_deny_17 : decode (zcc mX8_deny) 17 = .ok (.aload_n 0, 1) := by decide +kernel
theorem dX8_deny_18 : decode (zcc mX8_deny) 18 = .ok (.getfield 51, 3) := by decide +kernel
theorem dX8_deny_21 : decode (zcc mX8_deny) 21 = .ok (.iload_n 1, 1) := by decide +kernel
theorem dX8_deny_22 : decode (zcc mX8_deny) 22 = .ok (.baload, 1) := by decide +kernel
theorem dX8_deny_23 : decode (zcc mX8_deny) 23 = .ok (.istore_n 3, 1) := by decide +kernel
theorem dX8_deny_24 : decode (zcc mX8_deny) 24 = .ok (.aload_n 0, 1) := by decide +kernel
theorem dX8_deny_25 : decode (zcc mX8_deny) 25 = .ok (.getfield 51, 3) := by decide +kernel
theorem dX8_deny_28 : decode (zcc mX8_deny) 28 = .ok (.iload_n 1, 1) := by decide +kernel
theorem dX8_deny_29 : decode (zcc mX8_deny) 29 = .ok (.iload_n 2, 1) := by decide +kernel
theorem dX8_deny_30 : decode (zcc mX8_deny) 30 = .ok (.bastore, 1) := by decide +kernel
theorem dX8_deny_31 : decode (zcc mX8_deny) 31 = .ok (.aload_n 0, 1) := by decide +kernel
theorem dX8_deny_32 : decode (zcc mX8_deny) 32 = .ok (.invokevirtual 110, 3) := by decide +kernel
theorem dX8_deny_35 : decode (zcc mX8_deny) 35 = .ok (.iload_n 3, 1) := by decide +kernel
theorem dX8_deny_36 : decode (zcc mX8_deny) 36 = .ok (.ifCond .eq 7, 3) := by decide +kernel
theorem dX8_deny_39 : decode (zcc mX8_deny) 39 = .ok (.iconst 1, 1) := by decide +kernel
theorem dX8_deny_40 : decode (zcc mX8_deny) 40 = .ok (.goto 4, 3) := by decide +kernel
theorem dX8_deny_43 : decode (zcc mX8_deny) 43 = .ok (.iconst 0, 1) := by decide +kernel
theorem dX8_deny_44 : decode (zcc mX8_deny) 44 = .ok (.ireturn, 1) := by decide +kernel
theorem dX8_leave_0 : decode (zcc mX8_leave) 0 = .ok (.iload_n 1, 1) := by decide +kernel
theorem dX8_leave_1 : decode (zcc mX8_leave) 1 = .ok (.iconst 0, 1) := by decide +kernel
theorem dX8_leave_2 : decode (zcc mX8_leave) 2 = .ok (.aload_n 0, 1) := by decide +kernel
theorem dX8_leave_3 : decode (zcc mX8_leave) 3 = .ok (.getfield 98, 3) := by decide +kernel
theorem dX8_leave_6 : decode (zcc mX8_leave) 6 = .ok (.iconst 1, 1) := by decide +kernel
theorem dX8_leave_7 : decode (zcc mX8_leave) 7 = .ok (.isub, 1) := by decide +kernel
theorem dX8_leave_8 : decode (zcc mX8_leave) 8 = .ok (.invokestatic 94, 3) := by decide +kernel
theorem dX8_leave_11 : decode (zcc mX8_leave) 11 = .ok (.ifCond .ne 6, 3) := by decide +kernel
theorem dX8_leave_14 : decode (zcc mX8_leave) 14 = .ok (.bipush (-2), 2) := by decide +kernel
theorem dX8_leave_16 : decode (zcc mX8_leave) 16 = .ok (.ireturn, 1) := by decide +kernel
theorem dX8_leave_17 : decode (zcc mX8_leave) 17 = .ok (.aload_n 0, 1) := by decide +kernel
theorem dX8_leave_18 : decode (zcc mX8_leave) 18 = .ok (.getfield 54, 3) := by decide +kernel
theorem dX8_leave_21 : decode (zcc mX8_leave) 21 = .ok (.iload_n 1, 1) := by decide +kernel
theorem dX8_leave_22 : decode (zcc mX8_leave) 22 = .ok (.baload, 1) := by decide +kernel
theorem dX8_leave_23 : decode (zcc mX8_leave) 23 = .ok (.istore_n 3, 1) := by decide +kernel
theorem dX8_leave_24 : decode (zcc mX8_leave) 24 = .ok (.aload_n 0, 1) := by decide +kernel
theorem dX8_leave_25 : decode (zcc mX8_leave) 25 = .ok (.getfield 54, 3) := by decide +kernel
theorem dX8_leave_28 : decode (zcc mX8_leave) 28 = .ok (.iload_n 1, 1) := by decide +kernel
theorem dX8_leave_29 : decode (zcc mX8_leave) 29 = .ok (.iload_n 2, 1) := by decide +kernel
theorem dX8_leave_30 : decode (zcc mX8_leave) 30 = .ok (.bastore, 1) := by decide +kernel
theorem dX8_leave_31 : decode (zcc mX8_leave) 31 = .ok (.aload_n 0, 1) := by decide +kernel
theorem dX8_leave_32 : decode (zcc mX8_leave) 32 = .ok (.invokevirtual 110, 3) := by decide +kernel
theorem dX8_leave_35 : decode (zcc mX8_leave) 35 = .ok (.iload_n 3, 1) := by decide +kernel
theorem dX8_leave_36 : decode (zcc mX8_leave) 36 = .ok (.ifCond .eq 7, 3) := by decide +kernel
theorem dX8_leave_39 : decode (zcc mX8_leave) 39 = .ok (.iconst 1, 1) := by decide +kernel
theorem dX8_leave_40 : decode (zcc mX8_leave) 40 = .ok (.goto 4, 3) := by decide +kernel
theorem dX8_leave_43 : decode (zcc mX8_leave) 43 = .ok (.iconst 0, 1) := by decide +kernel
theorem dX8_leave_44 : decode (zcc mX8_leave) 44 = .ok (.ireturn, 1) := by decide +kernel
theorem dX8_spell_0 : decode (zcc mX8_spell) 0 = .ok (.iconst 0, 1) := by decide +kernel
theorem dX8_spell_1 : decode (zcc mX8_spell) 1 = .ok (.istore_n 3, 1) := by decide +kernel
theorem dX8_spell_2 : decode (zcc mX8_spell) 2 = .ok (.iconst 0, 1) := by decide +kernel
theorem dX8_spell_3 : decode (zcc mX8_spell) 3 = .ok (.istore 4, 2) := by decide +kernel
theorem dX8_spell_5 : decode (zcc mX8_spell) 5 = .ok (.iload 4, 2) := by decide +kernel
theorem dX8_spell_7 : decode (zcc mX8_spell) 7 = .ok (.aload_n 0, 1) := by decide +kernel
theorem dX8_spell_8 : decode (zcc mX8_spell) 8 = .ok (.getfield 20, 3) := by decide +kernel
theorem dX8_spell_11 : decode (zcc mX8_spell) 11 = .ok (.iload_n 2, 1) := by decide +kernel
theorem dX8_spell_12 : decode (zcc mX8_spell) 12 = .ok (.iaload, 1) := by decide +kernel
theorem dX8_spell_13 : decode (zcc mX8_spell) 13 = .ok (.if_icmp .ge 102, 3) := by decide +kernel
theorem dX8_spell_16 : decode (zcc mX8_spell) 16 = .ok (.aload_n 0, 1) := by decide +kernel
theorem dX8_spell_17 : decode (zcc mX8_spell) 17 = .ok (.getfield 23, 3) := by decide +kernel
theorem dX8_spell_20 : decode (zcc mX8_spell) 20 = .ok (.bipush 6, 2) := by decide +kernel
theorem dX8_spell_22 : decode (zcc mX8_spell) 22 = .ok (.iload_n 2, 1) := by decide +kernel
theorem dX8_spell_23 : decode (zcc mX8_spell) 23 = .ok (.imul, 1) := by decide +kernel
theorem dX8_spell_24 : decode (zcc mX8_spell) 24 = .ok (.iload 4, 2) := by decide +kernel
theorem dX8_spell_26 : decode (zcc mX8_spell) 26 = .ok (.iadd, 1) := by decide +kernel
theorem dX8_spell_27 : decode (zcc mX8_spell) 27 = .ok (.iaload, 1) := by decide +kernel
theorem dX8_spell_28 : decode (zcc mX8_spell) 28 = .ok (.istore 5, 2) := by decide +kernel
theorem dX8_spell_30 : decode (zcc mX8_spell) 30 = .ok (.iload 5, 2) := by decide +kernel
theorem dX8_spell_32 : decode (zcc mX8_spell) 32 = .ok (.bipush 8, 2) := by decide +kernel
theorem dX8_spell_34 : decode (zcc mX8_spell) 34 = .ok (.if_icmp .ge 22, 3) := by decide +kernel
theorem dX8_spell_37 : decode (zcc mX8_spell) 37 = .ok (.aload_n 0, 1) := by decide +kernel
theorem dX8_spell_38 : decode (zcc mX8_spell) 38 = .ok (.getfield 72, 3) := by decide +kernel
theorem dX8_spell_41 : decode (zcc mX8_spell) 41 = .ok (.bipush 32, 2) := by decide +kernel
theorem dX8_spell_43 : decode (zcc mX8_spell) 43 = .ok (.iload_n 1, 1) := by decide +kernel
theorem dX8_spell_44 : decode (zcc mX8_spell) 44 = .ok (.imul, 1) := by decide +kernel
theorem dX8_spell_45 : decode (zcc mX8_spell) 45 = .ok (.iload_n 3, 1) := by decide +kernel
theorem dX8_spell_46 : decode (zcc mX8_spell) 46 = .ok (.iadd, 1) := by decide +kernel
theorem dX8_spell_47 : decode (zcc mX8_spell) 47 = .ok (.iload 5, 2) := by decide +kernel
theorem dX8_spell_49 : decode (zcc mX8_spell) 49 = .ok (.iastore, 1) := by decide +kernel
theorem dX8_spell_50 : decode (zcc mX8_spell) 50 = .ok (.iinc 3 1, 3) := by decide +kernel
theorem dX8_spell_53 : decode (zcc mX8_spell) 53 = .ok (.goto 56, 3) := by decide +kernel
theorem dX8_spell_56 : decode (zcc mX8_spell) 56 = .ok (.iconst 0, 1) := by decide +kernel
theorem dX8_spell_57 : decode (zcc mX8_spell) 57 = .ok (.istore 6, 2) := by decide +kernel
theorem dX8_spell_59 : decode (zcc mX8_spell) 59 = .ok (.iload 6, 2) := by decide +kernel
theorem dX8_spell_61 : decode (zcc mX8_spell) 61 = .ok (.aload_n 0, 1) := by decide +kernel
theorem dX8_spell_62 : decode (zcc mX8_spell) 62 = .ok (.getfield 66, 3) := by decide +kernel
theorem dX8_spell_65 : decode (zcc mX8_spell) 65 = .ok (.iload 5, 2) := by decide +kernel
theorem dX8_spell_67 : decode (zcc mX8_spell) 67 = .ok (.bipush 8, 2) := by decide +kernel
theorem dX8_spell_69 : decode (zcc mX8_spell) 69 = .ok (.isub, 1) := by decide +kernel
theorem dX8_spell_70 : decode (zcc mX8_spell) 70 = .ok (.iaload, 1) := by decide +kernel
theorem dX8_spell_71 : decode (zcc mX8_spell) 71 = .ok (.if_icmp .ge 38, 3) := by decide +kernel
theorem dX8_spell_74 : decode (zcc mX8_spell) 74 = .ok (.aload_n 0, 1) := by decide +kernel
theorem dX8_spell_75 : decode (zcc mX8_spell) 75 = .ok (.getfield 72, 3) := by decide +kernel
theorem dX8_spell_78 : decode (zcc mX8_spell) 78 = .ok (.bipush 32, 2) := by decide +kernel
theorem dX8_spell_80 : decode (zcc mX8_spell) 80 = .ok (.iload_n 1, 1) := by decide +kernel
theorem dX8_spell_81 : decode (zcc mX8_spell) 81 = .ok (.imul, 1) := by decide +kernel
theorem dX8_spell_82 : decode (zcc mX8_spell) 82 = .ok (.iload_n 3, 1) := by decide +kernel
theorem dX8_spell_83 : decode (zcc mX8_spell) 83 = .ok (.iadd, 1) := by decide +kernel
theorem dX8_spell_84 : decode (zcc mX8_spell) 84 = .ok (.aload_n 0, 1) := by decide +kernel
theorem dX8_spell_85 : decode (zcc mX8_spell) 85 = .ok (.getfield 69, 3) := by decide +kernel
theorem dX8_spell_88 : decode (zcc mX8_spell) 88 = .ok (.iconst 5, 1) := by decide +kernel
theorem dX8_spell_89 : decode (zcc mX8_spell) 89 = .ok (.iload 5, 2) := by decide +kernel
theorem dX8_spell_91 : decode (zcc mX8_spell) 91 = .ok (.bipush 8, 2) := by decide +kernel
theorem dX8_spell_93 : decode (zcc mX8_spell) 93 = .ok (.isub, 1) := by decide +kernel
theorem dX8_spell_94 : decode (zcc mX8_spell) 94 = .ok (.imul, 1) := by decide +kernel
theorem dX8_spell_95 : decode (zcc mX8_spell) 95 = .ok (.iload 6, 2) := by decide +kernel
theorem dX8_spell_97 : decode (zcc mX8_spell) 97 = .ok (.iadd, 1) := by decide +kernel
theorem dX8_spell_98 : decode (zcc mX8_spell) 98 = .ok (.iaload, 1) := by decide +kernel
theorem dX8_spell_99 : decode (zcc mX8_spell) 99 = .ok (.iastore, 1) := by decide +kernel
theorem dX8_spell_100 : decode (zcc mX8_spell) 100 = .ok (.iinc 3 1, 3) := by decide +kernel
theorem dX8_spell_103 : decode (zcc mX8_spell) 103 = .ok (.iinc 6 1, 3) := by decide +kernel
theorem dX8_spell_106 : decode (zcc mX8_spell) 106 = .ok (.goto (-47), 3) := by decide +kernel
theorem dX8_spell_109 : decode (zcc mX8_spell) 109 = .ok (.iinc 4 1, 3) := by decide +kernel
theorem dX8_spell_112 : decode (zcc mX8_spell) 112 = .ok (.goto (-107), 3) := by decide +kernel
theorem dX8_spell_115 : decode (zcc mX8_spell) 115 = .ok (.aload_n 0, 1) := by decide +kernel
theorem dX8_spell_116 : decode (zcc mX8_spell) 116 = .ok (.getfield 75, 3) := by decide +kernel
theorem dX8_spell_119 : decode (zcc mX8_spell) 119 = .ok (.iload_n 1, 1) := by decide +kernel
theorem dX8_spell_120 : decode (zcc mX8_spell) 120 = .ok (.iload_n 3, 1) := by decide +kernel
theorem dX8_spell_121 : decode (zcc mX8_spell) 121 = .ok (.iastore, 1) := by decide +kernel
theorem dX8_spell_122 : decode (zcc mX8_spell) 122 = .ok (.return_, 1) := by decide +kernel
theorem dX8_found_0 : decode (zcc mX8_found) 0 = .ok (.iconst 0, 1) := by decide +kernel
theorem dX8_found_1 : decode (zcc mX8_found) 1 = .ok (.istore_n 3, 1) := by decide +kernel
theorem dX8_found_2 : decode (zcc mX8_found) 2 = .ok (.iload_n 3, 1) := by decide +kernel
theorem dX8_found_3 : decode (zcc mX8_found) 3 = .ok (.aload_n 0, 1) := by decide +kernel
theorem dX8_found_4 : decode (zcc mX8_found) 4 = .ok (.getfield 75, 3) := by decide +kernel
theorem dX8_found_7 : decode (zcc mX8_found) 7 = .ok (.iload_n 2, 1) := by decide +kernel
theorem dX8_found_8 : decode (zcc mX8_found) 8 = .ok (.iaload, 1) := by decide +kernel
theorem dX8_found_9 : decode (zcc mX8_found) 9 = .ok (.iadd, 1) := by decide +kernel
theorem dX8_found_10 : decode (zcc mX8_found) 10 = .ok (.aload_n 0, 1) := by decide +kernel
theorem dX8_found_11 : decode (zcc mX8_found) 11 = .ok (.getfield 75, 3) := by decide +kernel
theorem dX8_found_14 : decode (zcc mX8_found) 14 = .ok (.iload_n 1, 1) := by decide +kernel
theorem dX8_found_15 : decode (zcc mX8_found) 15 = .ok (.iaload, 1) := by decide +kernel
theorem dX8_found_16 : decode (zcc mX8_found) 16 = .ok (.if_icmp .gt 80, 3) := by decide +kernel
theorem dX8_found_19 : decode (zcc mX8_found) 19 = .ok (.iconst 1, 1) := by decide +kernel
theorem dX8_found_20 : decode (zcc mX8_found) 20 = .ok (.istore 4, 2) := by decide +kernel
theorem dX8_found_22 : decode (zcc mX8_found) 22 = .ok (.iconst 0, 1) := by decide +kernel
theorem dX8_found_23 : decode (zcc mX8_found) 23 = .ok (.istore 5, 2) := by decide +kernel
theorem dX8_found_25 : decode (zcc mX8_found) 25 = .ok (.iload 5, 2) := by decide +kernel
theorem dX8_found_27 : decode (zcc mX8_found) 27 = .ok (.aload_n 0, 1) := by decide +kernel
theorem dX8_found_28 : decode (zcc mX8_found) 28 = .ok (.getfield 75, 3) := by decide +kernel
theorem dX8_found_31 : decode (zcc mX8_found) 31 = .ok (.iload_n 2, 1) := by decide +kernel
theorem dX8_found_32 : decode (zcc mX8_found) 32 = .ok (.iaload, 1) := by decide +kernel
theorem dX8_found_33 : decode (zcc mX8_found) 33 = .ok (.if_icmp .ge 50, 3) := by decide +kernel
theorem dX8_found_36 : decode (zcc mX8_found) 36 = .ok (.iload 4, 2) := by decide +kernel
theorem dX8_found_38 : decode (zcc mX8_found) 38 = .ok (.ifCond .eq 45, 3) := by decide +kernel
theorem dX8_found_41 : decode (zcc mX8_found) 41 = .ok (.aload_n 0, 1) := by decide +kernel
theorem dX8_found_42 : decode (zcc mX8_found) 42 = .ok (.getfield 72, 3) := by decide +kernel
theorem dX8_found_45 : decode (zcc mX8_found) 45 = .ok (.bipush 32, 2) := by decide +kernel
theorem dX8_found_47 : decode (zcc mX8_found) 47 = .ok (.iload_n 1, 1) := by decide +kernel
theorem dX8_found_48 : decode (zcc mX8_found) 48 = .ok (.imul, 1) := by decide +kernel
theorem dX8_found_49 : decode (zcc mX8_found) 49 = .ok (.iload_n 3, 1) := by decide +kernel
theorem dX8_found_50 : decode (zcc mX8_found) 50 = .ok (.iadd, 1) := by decide +kernel
theorem dX8_found_51 : decode (zcc mX8_found) 51 = .ok (.iload 5, 2) := by decide +kernel
theorem dX8_found_53 : decode (zcc mX8_found) 53 = .ok (.iadd, 1) := by decide +kernel
theorem dX8_found_54 : decode (zcc mX8_found) 54 = .ok (.iaload, 1) := by decide +kernel
theorem dX8_found_55 : decode (zcc mX8_found) 55 = .ok (.aload_n 0, 1) := by decide +kernel
theorem dX8_found_56 : decode (zcc mX8_found) 56 = .ok (.getfield 72, 3) := by decide +kernel
theorem dX8_found_59 : decode (zcc mX8_found) 59 = .ok (.bipush 32, 2) := by decide +kernel
theorem dX8_found_61 : decode (zcc mX8_found) 61 = .ok (.iload_n 2, 1) := by decide +kernel
theorem dX8_found_62 : decode (zcc mX8_found) 62 = .ok (.imul, 1) := by decide +kernel
theorem dX8_found_63 : decode (zcc mX8_found) 63 = .ok (.iload 5, 2) := by decide +kernel
theorem dX8_found_65 : decode (zcc mX8_found) 65 = .ok (.iadd, 1) := by decide +kernel
theorem dX8_found_66 : decode (zcc mX8_found) 66 = .ok (.iaload, 1) := by decide +kernel
theorem dX8_found_67 : decode (zcc mX8_found) 67 = .ok (.if_icmp .ne 7, 3) := by decide +kernel
theorem dX8_found_70 : decode (zcc mX8_found) 70 = .ok (.iconst 1, 1) := by decide +kernel
theorem dX8_found_71 : decode (zcc mX8_found) 71 = .ok (.goto 4, 3) := by decide +kernel
theorem dX8_found_74 : decode (zcc mX8_found) 74 = .ok (.iconst 0, 1) := by decide +kernel
theorem dX8_found_75 : decode (zcc mX8_found) 75 = .ok (.istore 4, 2) := by decide +kernel
theorem dX8_found_77 : decode (zcc mX8_found) 77 = .ok (.iinc 5 1, 3) := by decide +kernel
theorem dX8_found_80 : decode (zcc mX8_found) 80 = .ok (.goto (-55), 3) := by decide +kernel
theorem dX8_found_83 : decode (zcc mX8_found) 83 = .ok (.iload 4, 2) := by decide +kernel
theorem dX8_found_85 : decode (zcc mX8_found) 85 = .ok (.ifCond .eq 5, 3) := by decide +kernel
theorem dX8_found_88 : decode (zcc mX8_found) 88 = .ok (.iload_n 3, 1) := by decide +kernel
theorem dX8_found_89 : decode (zcc mX8_found) 89 = .ok (.ireturn, 1) := by decide +kernel
theorem dX8_found_90 : decode (zcc mX8_found) 90 = .ok (.iinc 3 1, 3) := by decide +kernel
theorem dX8_found_93 : decode (zcc mX8_found) 93 = .ok (.goto (-91), 3) := by decide +kernel
theorem dX8_found_96 : decode (zcc mX8_found) 96 = .ok (.iconst (-1), 1) := by decide +kernel
theorem dX8_found_97 : decode (zcc mX8_found) 97 = .ok (.ireturn, 1) := by decide +kernel
theorem dX8_isTaken_0 : decode (zcc mX8_isTaken) 0 = .ok (.iconst 0, 1) := by decide +kernel
theorem dX8_isTaken_1 : decode (zcc mX8_isTaken) 1 = .ok (.istore_n 3, 1) := by decide +kernel
theorem dX8_isTaken_2 : decode (zcc mX8_isTaken) 2 = .ok (.iconst 0, 1) := by decide +kernel
theorem dX8_isTaken_3 : decode (zcc mX8_isTaken) 3 = .ok (.istore 4, 2) := by decide +kernel
theorem dX8_isTaken_5 : decode (zcc mX8_isTaken) 5 = .ok (.iload 4, 2) := by decide +kernel
theorem dX8_isTaken_7 : decode (zcc mX8_isTaken) 7 = .ok (.aload_n 0, 1) := by decide +kernel
theorem dX8_isTaken_8 : decode (zcc mX8_isTaken) 8 = .ok (.getfield 75, 3) := by decide +kernel
theorem dX8_isTaken_11 : decode (zcc mX8_isTaken) 11 = .ok (.iload_n 2, 1) := by decide +kernel
theorem dX8_isTaken_12 : decode (zcc mX8_isTaken) 12 = .ok (.iaload, 1) := by decide +kernel
theorem dX8_isTaken_13 : decode (zcc mX8_isTaken) 13 = .ok (.if_icmp .ge 36, 3) := by decide +kernel
theorem dX8_isTaken_16 : decode (zcc mX8_isTaken) 16 = .ok (.aload_n 0, 1) := by decide +kernel
theorem dX8_isTaken_17 : decode (zcc mX8_isTaken) 17 = .ok (.getfield 29, 3) := by decide +kernel
theorem dX8_isTaken_20 : decode (zcc mX8_isTaken) 20 = .ok (.bipush 18, 2) := by decide +kernel
theorem dX8_isTaken_22 : decode (zcc mX8_isTaken) 22 = .ok (.iload_n 1, 1) := by decide +kernel
theorem dX8_isTaken_23 : decode (zcc mX8_isTaken) 23 = .ok (.imul, 1) := by decide +kernel
theorem dX8_isTaken_24 : decode (zcc mX8_isTaken) 24 = .ok (.iconst 3, 1) := by decide +kernel
theorem dX8_isTaken_25 : decode (zcc mX8_isTaken) 25 = .ok (.iload_n 3, 1) := by decide +kernel
theorem dX8_isTaken_26 : decode (zcc mX8_isTaken) 26 = .ok (.imul, 1) := by decide +kernel
theorem dX8_isTaken_27 : decode (zcc mX8_isTaken) 27 = .ok (.iadd, 1) := by decide +kernel
theorem dX8_isTaken_28 : decode (zcc mX8_isTaken) 28 = .ok (.aload_n 0, 1) := by decide +kernel
theorem dX8_isTaken_29 : decode (zcc mX8_isTaken) 29 = .ok (.getfield 72, 3) := by decide +kernel
theorem dX8_isTaken_32 : decode (zcc mX8_isTaken) 32 = .ok (.bipush 32, 2) := by decide +kernel
theorem dX8_isTaken_34 : decode (zcc mX8_isTaken) 34 = .ok (.iload_n 2, 1) := by decide +kernel
theorem dX8_isTaken_35 : decode (zcc mX8_isTaken) 35 = .ok (.imul, 1) := by decide +kernel
theorem dX8_isTaken_36 : decode (zcc mX8_isTaken) 36 = .ok (.iload 4, 2) := by decide +kernel
theorem dX8_isTaken_38 : decode (zcc mX8_isTaken) 38 = .ok (.iadd, 1) := by decide +kernel
theorem dX8_isTaken_39 : decode (zcc mX8_isTaken) 39 = .ok (.iaload, 1) := by decide +kernel
theorem dX8_isTaken_40 : decode (zcc mX8_isTaken) 40 = .ok (.iadd, 1) := by decide +kernel
theorem dX8_isTaken_41 : decode (zcc mX8_isTaken) 41 = .ok (.iaload, 1) := by decide +kernel
theorem dX8_isTaken_42 : decode (zcc mX8_isTaken) 42 = .ok (.istore_n 3, 1) := by decide +kernel
theorem dX8_isTaken_43 : decode (zcc mX8_isTaken) 43 = .ok (.iinc 4 1, 3) := by decide +kernel
theorem dX8_isTaken_46 : decode (zcc mX8_isTaken) 46 = .ok (.goto (-41), 3) := by decide +kernel
theorem dX8_isTaken_49 : decode (zcc mX8_isTaken) 49 = .ok (.aload_n 0, 1) := by decide +kernel
theorem dX8_isTaken_50 : decode (zcc mX8_isTaken) 50 = .ok (.getfield 32, 3) := by decide +kernel
theorem dX8_isTaken_53 : decode (zcc mX8_isTaken) 53 = .ok (.bipush 6, 2) := by decide +kernel
theorem dX8_isTaken_55 : decode (zcc mX8_isTaken) 55 = .ok (.iload_n 1, 1) := by decide +kernel
theorem dX8_isTaken_56 : decode (zcc mX8_isTaken) 56 = .ok (.imul, 1) := by decide +kernel
theorem dX8_isTaken_57 : decode (zcc mX8_isTaken) 57 = .ok (.iload_n 3, 1) := by decide +kernel
theorem dX8_isTaken_58 : decode (zcc mX8_isTaken) 58 = .ok (.iadd, 1) := by decide +kernel
theorem dX8_isTaken_59 : decode (zcc mX8_isTaken) 59 = .ok (.baload, 1) := by decide +kernel
theorem dX8_isTaken_60 : decode (zcc mX8_isTaken) 60 = .ok (.ireturn, 1) := by decide +kernel
theorem dX8_make_0 : decode (zcc mX8_make) 0 = .ok (.iload_n 2, 1) := by decide +kernel
theorem dX8_make_1 : decode (zcc mX8_make) 1 = .ok (.istore 4, 2) := by decide +kernel
theorem dX8_make_3 : decode (zcc mX8_make) 3 = .ok (.iload 4, 2) := by decide +kernel
theorem dX8_make_5 : decode (zcc mX8_make) 5 = .ok (.iload_n 3, 1) := by decide +kernel
theorem dX8_make_6 : decode (zcc mX8_make) 6 = .ok (.if_icmp .ge 40, 3) := by decide +kernel
theorem dX8_make_9 : decode (zcc mX8_make) 9 = .ok (.aload_n 0, 1) := by decide +kernel
theorem dX8_make_10 : decode (zcc mX8_make) 10 = .ok (.getfield 78, 3) := by decide +kernel
theorem dX8_make_13 : decode (zcc mX8_make) 13 = .ok (.aload_n 0, 1) := by decide +kernel
theorem dX8_make_14 : decode (zcc mX8_make) 14 = .ok (.getfield 117, 3) := by decide +kernel
theorem dX8_make_17 : decode (zcc mX8_make) 17 = .ok (.aload_n 0, 1) := by decide +kernel
theorem dX8_make_18 : decode (zcc mX8_make) 18 = .ok (.getfield 72, 3) := by decide +kernel
theorem dX8_make_21 : decode (zcc mX8_make) 21 = .ok (.bipush 32, 2) := by decide +kernel
theorem dX8_make_23 : decode (zcc mX8_make) 23 = .ok (.iload_n 1, 1) := by decide +kernel
theorem dX8_make_24 : decode (zcc mX8_make) 24 = .ok (.imul, 1) := by decide +kernel
theorem dX8_make_25 : decode (zcc mX8_make) 25 = .ok (.iload 4, 2) := by decide +kernel
theorem dX8_make_27 : decode (zcc mX8_make) 27 = .ok (.iadd, 1) := by decide +kernel
theorem dX8_make_28 : decode (zcc mX8_make) 28 = .ok (.iaload, 1) := by decide +kernel
theorem dX8_make_29 : decode (zcc mX8_make) 29 = .ok (.iastore, 1) := by decide +kernel
theorem dX8_make_30 : decode (zcc mX8_make) 30 = .ok (.aload_n 0, 1) := by decide +kernel
theorem dX8_make_31 : decode (zcc mX8_make) 31 = .ok (.dup, 1) := by decide +kernel
theorem dX8_make_32 : decode (zcc mX8_make) 32 = .ok (.getfield 117, 3) := by decide +kernel
theorem dX8_make_35 : decode (zcc mX8_make) 35 = .ok (.iconst 1, 1) := by decide +kernel
theorem dX8_make_36 : decode (zcc mX8_make) 36 = .ok (.iadd, 1) := by decide +kernel
theorem dX8_make_37 : decode (zcc mX8_make) 37 = .ok (.putfield 117, 3) := by decide +kernel
theorem dX8_make_40 : decode (zcc mX8_make) 40 = .ok (.iinc 4 1, 3) := by decide +kernel
theorem dX8_make_43 : decode (zcc mX8_make) 43 = .ok (.goto (-40), 3) := by decide +kernel
theorem dX8_make_46 : decode (zcc mX8_make) 46 = .ok (.return_, 1) := by decide +kernel
theorem dX8_isReplaced_0 : decode (zcc mX8_isReplaced) 0 = .ok (.aload_n 0, 1) := by decide +kernel
theorem dX8_isReplaced_1 : decode (zcc mX8_isReplaced) 1 = .ok (.iconst 1, 1) := by decide +kernel
theorem dX8_isReplaced_2 : decode (zcc mX8_isReplaced) 2 = .ok (.iconst 2, 1) := by decide +kernel
theorem dX8_isReplaced_3 : decode (zcc mX8_isReplaced) 3 = .ok (.invokevirtual 120, 3) := by decide +kernel
theorem dX8_isReplaced_6 : decode (zcc mX8_isReplaced) 6 = .ok (.istore_n 1, 1) := by decide +kernel
theorem dX8_isReplaced_7 : decode (zcc mX8_isReplaced) 7 = .ok (.aload_n 0, 1) := by decide +kernel
theorem dX8_isReplaced_8 : decode (zcc mX8_isReplaced) 8 = .ok (.iconst 0, 1) := by decide +kernel
theorem dX8_isReplaced_9 : decode (zcc mX8_isReplaced) 9 = .ok (.putfield 117, 3) := by decide +kernel
theorem dX8_isReplaced_12 : decode (zcc mX8_isReplaced) 12 = .ok (.iload_n 1, 1) := by decide +kernel
theorem dX8_isReplaced_13 : decode (zcc mX8_isReplaced) 13 = .ok (.iconst (-1), 1) := by decide +kernel
theorem dX8_isReplaced_14 : decode (zcc mX8_isReplaced) 14 = .ok (.if_icmp .ne 18, 3) := by decide +kernel
theorem dX8_isReplaced_17 : decode (zcc mX8_isReplaced) 17 = .ok (.aload_n 0, 1) := by decide +kernel
theorem dX8_isReplaced_18 : decode (zcc mX8_isReplaced) 18 = .ok (.iconst 1, 1) := by decide +kernel
theorem dX8_isReplaced_19 : decode (zcc mX8_isReplaced) 19 = .ok (.iconst 0, 1) := by decide +kernel
theorem dX8_isReplaced_20 : decode (zcc mX8_isReplaced) 20 = .ok (.aload_n 0, 1) := by decide +kernel
theorem dX8_isReplaced_21 : decode (zcc mX8_isReplaced) 21 = .ok (.getfield 75, 3) := by decide +kernel
theorem dX8_isReplaced_24 : decode (zcc mX8_isReplaced) 24 = .ok (.iconst 1, 1) := by decide +kernel
theorem dX8_isReplaced_25 : decode (zcc mX8_isReplaced) 25 = .ok (.iaload, 1) := by decide +kernel
theorem dX8_isReplaced_26 : decode (zcc mX8_isReplaced) 26 = .ok (.invokevirtual 124, 3) := by decide +kernel
theorem dX8_isReplaced_29 : decode (zcc mX8_isReplaced) 29 = .ok (.goto 41, 3) := by decide +kernel
theorem dX8_isReplaced_32 : decode (zcc mX8_isReplaced) 32 = .ok (.aload_n 0, 1) := by decide +kernel
theorem dX8_isReplaced_33 : decode (zcc mX8_isReplaced) 33 = .ok (.iconst 1, 1) := by decide +kernel
theorem dX8_isReplaced_34 : decode (zcc mX8_isReplaced) 34 = .ok (.iconst 0, 1) := by decide +kernel
theorem dX8_isReplaced_35 : decode (zcc mX8_isReplaced) 35 = .ok (.iload_n 1, 1) := by decide +kernel
theorem dX8_isReplaced_36 : decode (zcc mX8_isReplaced) 36 = .ok (.invokevirtual 124, 3) := by decide +kernel
theorem dX8_isReplaced_39 : decode (zcc mX8_isReplaced) 39 = .ok (.aload_n 0, 1) := by decide +kernel
theorem dX8_isReplaced_40 : decode (zcc mX8_isReplaced) 40 = .ok (.iconst 3, 1) := by decide +kernel
theorem dX8_isReplaced_41 : decode (zcc mX8_isReplaced) 41 = .ok (.iconst 0, 1) := by decide +kernel
theorem dX8_isReplaced_42 : decode (zcc mX8_isReplaced) 42 = .ok (.aload_n 0, 1) := by decide +kernel
theorem dX8_isReplaced_43 : decode (zcc mX8_isReplaced) 43 = .ok (.getfield 75, 3) := by decide +kernel
theorem dX8_isReplaced_46 : decode (zcc mX8_isReplaced) 46 = .ok (.iconst 3, 1) := by decide +kernel
theorem dX8_isReplaced_47 : decode (zcc mX8_isReplaced) 47 = .ok (.iaload, 1) := by decide +kernel
theorem dX8_isReplaced_48 : decode (zcc mX8_isReplaced) 48 = .ok (.invokevirtual 124, 3) := by decide +kernel
theorem dX8_isReplaced_51 : decode (zcc mX8_isReplaced) 51 = .ok (.aload_n 0, 1) := by decide +kernel
theorem dX8_isReplaced_52 : decode (zcc mX8_isReplaced) 52 = .ok (.iconst 1, 1) := by decide +kernel
theorem dX8_isReplaced_53 : decode (zcc mX8_isReplaced) 53 = .ok (.iload_n 1, 1) := by decide +kernel
theorem dX8_isReplaced_54 : decode (zcc mX8_isReplaced) 54 = .ok (.aload_n 0, 1) := by decide +kernel
theorem dX8_isReplaced_55 : decode (zcc mX8_isReplaced) 55 = .ok (.getfield 75, 3) := by decide +kernel
theorem dX8_isReplaced_58 : decode (zcc mX8_isReplaced) 58 = .ok (.iconst 2, 1) := by decide +kernel
theorem dX8_isReplaced_59 : decode (zcc mX8_isReplaced) 59 = .ok (.iaload, 1) := by decide +kernel
theorem dX8_isReplaced_60 : decode (zcc mX8_isReplaced) 60 = .ok (.iadd, 1) := by decide +kernel
theorem dX8_isReplaced_61 : decode (zcc mX8_isReplaced) 61 = .ok (.aload_n 0, 1) := by decide +kernel
theorem dX8_isReplaced_62 : decode (zcc mX8_isReplaced) 62 = .ok (.getfield 75, 3) := by decide +kernel
theorem dX8_isReplaced_65 : decode (zcc mX8_isReplaced) 65 = .ok (.iconst 1, 1) := by decide +kernel
theorem dX8_isReplaced_66 : decode (zcc mX8_isReplaced) 66 = .ok (.iaload, 1) := by decide +kernel
theorem dX8_isReplaced_67 : decode (zcc mX8_isReplaced) 67 = .ok (.invokevirtual 124, 3) := by decide +kernel
theorem dX8_isReplaced_70 : decode (zcc mX8_isReplaced) 70 = .ok (.aload_n 0, 1) := by decide +kernel
theorem dX8_isReplaced_71 : decode (zcc mX8_isReplaced) 71 = .ok (.getfield 117, 3) := by decide +kernel
theorem dX8_isReplaced_74 : decode (zcc mX8_isReplaced) 74 = .ok (.aload_n 0, 1) := by decide +kernel
theorem dX8_isReplaced_75 : decode (zcc mX8_isReplaced) 75 = .ok (.getfield 75, 3) := by decide +kernel
theorem dX8_isReplaced_78 : decode (zcc mX8_isReplaced) 78 = .ok (.iconst 0, 1) := by decide +kernel
theorem dX8_isReplaced_79 : decode (zcc mX8_isReplaced) 79 = .ok (.iaload, 1) := by decide +kernel
theorem dX8_isReplaced_80 : decode (zcc mX8_isReplaced) 80 = .ok (.if_icmp .ne 7, 3) := by decide +kernel
theorem dX8_isReplaced_83 : decode (zcc mX8_isReplaced) 83 = .ok (.iconst 1, 1) := by decide +kernel
theorem dX8_isReplaced_84 : decode (zcc mX8_isReplaced) 84 = .ok (.goto 4, 3) := by decide +kernel
theorem dX8_isReplaced_87 : decode (zcc mX8_isReplaced) 87 = .ok (.iconst 0, 1) := by decide +kernel
theorem dX8_isReplaced_88 : decode (zcc mX8_isReplaced) 88 = .ok (.istore_n 2, 1) := by decide +kernel
theorem dX8_isReplaced_89 : decode (zcc mX8_isReplaced) 89 = .ok (.iconst 0, 1) := by decide +kernel
theorem dX8_isReplaced_90 : decode (zcc mX8_isReplaced) 90 = .ok (.istore_n 3, 1) := by decide +kernel
theorem dX8_isReplaced_91 : decode (zcc mX8_isReplaced) 91 = .ok (.iload_n 3, 1) := by decide +kernel
theorem dX8_isReplaced_92 : decode (zcc mX8_isReplaced) 92 = .ok (.aload_n 0, 1) := by decide +kernel
theorem dX8_isReplaced_93 : decode (zcc mX8_isReplaced) 93 = .ok (.getfield 117, 3) := by decide +kernel
theorem dX8_isReplaced_96 : decode (zcc mX8_isReplaced) 96 = .ok (.if_icmp .ge 34, 3) := by decide +kernel
theorem dX8_isReplaced_99 : decode (zcc mX8_isReplaced) 99 = .ok (.iload_n 2, 1) := by decide +kernel
theorem dX8_isReplaced_100 : decode (zcc mX8_isReplaced) 100 = .ok (.ifCond .eq 30, 3) := by decide +kernel
theorem dX8_isReplaced_103 : decode (zcc mX8_isReplaced) 103 = .ok (.aload_n 0, 1) := by decide +kernel
theorem dX8_isReplaced_104 : decode (zcc mX8_isReplaced) 104 = .ok (.getfield 78, 3) := by decide +kernel
theorem dX8_isReplaced_107 : decode (zcc mX8_isReplaced) 107 = .ok (.iload_n 3, 1) := by decide +kernel
theorem dX8_isReplaced_108 : decode (zcc mX8_isReplaced) 108 = .ok (.iaload, 1) := by decide +kernel
theorem dX8_isReplaced_109 : decode (zcc mX8_isReplaced) 109 = .ok (.aload_n 0, 1) := by decide +kernel
theorem dX8_isReplaced_110 : decode (zcc mX8_isReplaced) 110 = .ok (.getfield 72, 3) := by decide +kernel
theorem dX8_isReplaced_113 : decode (zcc mX8_isReplaced) 113 = .ok (.iload_n 3, 1) := by decide +kernel
theorem dX8_isReplaced_114 : decode (zcc mX8_isReplaced) 114 = .ok (.iaload, 1) := by decide +kernel
theorem dX8_isReplaced_115 : decode (zcc mX8_isReplaced) 115 = .ok (.if_icmp .ne 7, 3) := by decide +kernel
theorem dX8_isReplaced_118 : decode (zcc mX8_isReplaced) 118 = .ok (.iconst 1, 1) := by decide +kernel
theorem dX8_isReplaced_119 : decode (zcc mX8_isReplaced) 119 = .ok (.goto 4, 3) := by decide +kernel
theorem dX8_isReplaced_122 : decode (zcc mX8_isReplaced) 122 = .ok (.iconst 0, 1) := by decide +kernel
theorem dX8_isReplaced_123 : decode (zcc mX8_isReplaced) 123 = .ok (.istore_n 2, 1) := by decide +kernel
theorem dX8_isReplaced_124 : decode (zcc mX8_isReplaced) 124 = .ok (.iinc 3 1, 3) := by decide +kernel
theorem dX8_isReplaced_127 : decode (zcc mX8_isReplaced) 127 = .ok (.goto (-36), 3) := by decide +kernel
theorem dX8_isReplaced_130 : decode (zcc mX8_isReplaced) 130 = .ok (.iload_n 2, 1) := by decide +kernel
theorem dX8_isReplaced_131 : decode (zcc mX8_isReplaced) 131 = .ok (.ireturn, 1) := by decide +kernel
theorem dX8_isSame_0 : decode (zcc mX8_isSame) 0 = .ok (.aload_n 0, 1) := by decide +kernel
theorem dX8_isSame_1 : decode (zcc mX8_isSame) 1 = .ok (.getfield 75, 3) := by decide +kernel
theorem dX8_isSame_4 : decode (zcc mX8_isSame) 4 = .ok (.iconst 0, 1) := by decide +kernel
theorem dX8_isSame_5 : decode (zcc mX8_isSame) 5 = .ok (.iaload, 1) := by decide +kernel
theorem dX8_isSame_6 : decode (zcc mX8_isSame) 6 = .ok (.aload_n 0, 1) := by decide +kernel
theorem dX8_isSame_7 : decode (zcc mX8_isSame) 7 = .ok (.getfield 75, 3) := by decide +kernel
theorem dX8_isSame_10 : decode (zcc mX8_isSame) 10 = .ok (.iconst 1, 1) := by decide +kernel
theorem dX8_isSame_11 : decode (zcc mX8_isSame) 11 = .ok (.iaload, 1) := by decide +kernel
theorem dX8_isSame_12 : decode (zcc mX8_isSame) 12 = .ok (.if_icmp .ne 7, 3) := by decide +kernel
theorem dX8_isSame_15 : decode (zcc mX8_isSame) 15 = .ok (.iconst 1, 1) := by decide +kernel
theorem dX8_isSame_16 : decode (zcc mX8_isSame) 16 = .ok (.goto 4, 3) := by decide +kernel
theorem dX8_isSame_19 : decode (zcc mX8_isSame) 19 = .ok (.iconst 0, 1) := by decide +kernel
theorem dX8_isSame_20 : decode (zcc mX8_isSame) 20 = .ok (.istore_n 1, 1) := by decide +kernel
theorem dX8_isSame_21 : decode (zcc mX8_isSame) 21 = .ok (.iconst 0, 1) := by decide +kernel
theorem dX8_isSame_22 : decode (zcc mX8_isSame) 22 = .ok (.istore_n 2, 1) := by decide +kernel
theorem dX8_isSame_23 : decode (zcc mX8_isSame) 23 = .ok (.iload_n 2, 1) := by decide +kernel
theorem dX8_isSame_24 : decode (zcc mX8_isSame) 24 = .ok (.aload_n 0, 1) := by decide +kernel
theorem dX8_isSame_25 : decode (zcc mX8_isSame) 25 = .ok (.getfield 75, 3) := by decide +kernel
theorem dX8_isSame_28 : decode (zcc mX8_isSame) 28 = .ok (.iconst 0, 1) := by decide +kernel
theorem dX8_isSame_29 : decode (zcc mX8_isSame) 29 = .ok (.iaload, 1) := by decide +kernel
theorem dX8_isSame_30 : decode (zcc mX8_isSame) 30 = .ok (.if_icmp .ge 37, 3) := by decide +kernel
theorem dX8_isSame_33 : decode (zcc mX8_isSame) 33 = .ok (.iload_n 1, 1) := by decide +kernel
theorem dX8_isSame_34 : decode (zcc mX8_isSame) 34 = .ok (.ifCond .eq 33, 3) := by decide +kernel
theorem dX8_isSame_37 : decode (zcc mX8_isSame) 37 = .ok (.aload_n 0, 1) := by decide +kernel
theorem dX8_isSame_38 : decode (zcc mX8_isSame) 38 = .ok (.getfield 72, 3) := by decide +kernel
theorem dX8_isSame_41 : decode (zcc mX8_isSame) 41 = .ok (.iload_n 2, 1) := by decide +kernel
theorem dX8_isSame_42 : decode (zcc mX8_isSame) 42 = .ok (.iaload, 1) := by decide +kernel
theorem dX8_isSame_43 : decode (zcc mX8_isSame) 43 = .ok (.aload_n 0, 1) := by decide +kernel
theorem dX8_isSame_44 : decode (zcc mX8_isSame) 44 = .ok (.getfield 72, 3) := by decide +kernel
theorem dX8_isSame_47 : decode (zcc mX8_isSame) 47 = .ok (.bipush 32, 2) := by decide +kernel
theorem dX8_isSame_49 : decode (zcc mX8_isSame) 49 = .ok (.iload_n 2, 1) := by decide +kernel
theorem dX8_isSame_50 : decode (zcc mX8_isSame) 50 = .ok (.iadd, 1) := by decide +kernel
theorem dX8_isSame_51 : decode (zcc mX8_isSame) 51 = .ok (.iaload, 1) := by decide +kernel
theorem dX8_isSame_52 : decode (zcc mX8_isSame) 52 = .ok (.if_icmp .ne 7, 3) := by decide +kernel
theorem dX8_isSame_55 : decode (zcc mX8_isSame) 55 = .ok (.iconst 1, 1) := by decide +kernel
theorem dX8_isSame_56 : decode (zcc mX8_isSame) 56 = .ok (.goto 4, 3) := by decide +kernel
theorem dX8_isSame_59 : decode (zcc mX8_isSame) 59 = .ok (.iconst 0, 1) := by decide +kernel
theorem dX8_isSame_60 : decode (zcc mX8_isSame) 60 = .ok (.istore_n 1, 1) := by decide +kernel
theorem dX8_isSame_61 : decode (zcc mX8_isSame) 61 = .ok (.iinc 2 1, 3) := by decide +kernel
theorem dX8_isSame_64 : decode (zcc mX8_isSame) 64 = .ok (.goto (-41), 3) := by decide +kernel
theorem dX8_isSame_67 : decode (zcc mX8_isSame) 67 = .ok (.iload_n 1, 1) := by decide +kernel
theorem dX8_isSame_68 : decode (zcc mX8_isSame) 68 = .ok (.ireturn, 1) := by decide +kernel
theorem dX8_isBefore_0 : decode (zcc mX8_isBefore) 0 = .ok (.iconst 0, 1) := by decide +kernel
theorem dX8_isBefore_1 : decode (zcc mX8_isBefore) 1 = .ok (.istore_n 1, 1) := by decide +kernel
theorem dX8_isBefore_2 : decode (zcc mX8_isBefore) 2 = .ok (.iload_n 1, 1) := by decide +kernel
theorem dX8_isBefore_3 : decode (zcc mX8_isBefore) 3 = .ok (.aload_n 0, 1) := by decide +kernel
theorem dX8_isBefore_4 : decode (zcc mX8_isBefore) 4 = .ok (.getfield 75, 3) := by decide +kernel
theorem dX8_isBefore_7 : decode (zcc mX8_isBefore) 7 = .ok (.iconst 0, 1) := by decide +kernel
theorem dX8_isBefore_8 : decode (zcc mX8_isBefore) 8 = .ok (.iaload, 1) := by decide +kernel
theorem dX8_isBefore_9 : decode (zcc mX8_isBefore) 9 = .ok (.if_icmp .ge 37, 3) := by decide +kernel
theorem dX8_isBefore_12 : decode (zcc mX8_isBefore) 12 = .ok (.iload_n 1, 1) := by decide +kernel
theorem dX8_isBefore_13 : decode (zcc mX8_isBefore) 13 = .ok (.aload_n 0, 1) := by decide +kernel
theorem dX8_isBefore_14 : decode (zcc mX8_isBefore) 14 = .ok (.getfield 75, 3) := by decide +kernel
theorem dX8_isBefore_17 : decode (zcc mX8_isBefore) 17 = .ok (.iconst 1, 1) := by decide +kernel
theorem dX8_isBefore_18 : decode (zcc mX8_isBefore) 18 = .ok (.iaload, 1) := by decide +kernel
theorem dX8_isBefore_19 : decode (zcc mX8_isBefore) 19 = .ok (.if_icmp .ge 27, 3) := by decide +kernel
theorem dX8_isBefore_22 : decode (zcc mX8_isBefore) 22 = .ok (.aload_n 0, 1) := by decide +kernel
theorem dX8_isBefore_23 : decode (zcc mX8_isBefore) 23 = .ok (.getfield 72, 3) := by decide +kernel
theorem dX8_isBefore_26 : decode (zcc mX8_isBefore) 26 = .ok (.iload_n 1, 1) := by decide +kernel
theorem dX8_isBefore_27 : decode (zcc mX8_isBefore) 27 = .ok (.iaload, 1) := by decide +kernel
theorem dX8_isBefore_28 : decode (zcc mX8_isBefore) 28 = .ok (.aload_n 0, 1) := by decide +kernel
theorem dX8_isBefore_29 : decode (zcc mX8_isBefore) 29 = .ok (.getfield 72, 3) := by decide +kernel
theorem dX8_isBefore_32 : decode (zcc mX8_isBefore) 32 = .ok (.bipush 32, 2) := by decide +kernel
theorem dX8_isBefore_34 : decode (zcc mX8_isBefore) 34 = .ok (.iload_n 1, 1) := by decide +kernel
theorem dX8_isBefore_35 : decode (zcc mX8_isBefore) 35 = .ok (.iadd, 1) := by decide +kernel
theorem dX8_isBefore_36 : decode (zcc mX8_isBefore) 36 = .ok (.iaload, 1) := by decide +kernel
theorem dX8_isBefore_37 : decode (zcc mX8_isBefore) 37 = .ok (.if_icmp .ne 9, 3) := by decide +kernel
theorem dX8_isBefore_40 : decode (zcc mX8_isBefore) 40 = .ok (.iinc 1 1, 3) := by decide +kernel
theorem dX8_isBefore_43 : decode (zcc mX8_isBefore) 43 = .ok (.goto (-41), 3) := by decide +kernel
theorem dX8_isBefore_46 : decode (zcc mX8_isBefore) 46 = .ok (.iload_n 1, 1) := by decide +kernel
theorem dX8_isBefore_47 : decode (zcc mX8_isBefore) 47 = .ok (.aload_n 0, 1) := by decide +kernel
theorem dX8_isBefore_48 : decode (zcc mX8_isBefore) 48 = .ok (.getfield 75, 3) := by decide +kernel
theorem dX8_isBefore_51 : decode (zcc mX8_isBefore) 51 = .ok (.iconst 1, 1) := by decide +kernel
theorem dX8_isBefore_52 : decode (zcc mX8_isBefore) 52 = .ok (.iaload, 1) := by decide +kernel
theorem dX8_isBefore_53 : decode (zcc mX8_isBefore) 53 = .ok (.if_icmp .ge 35, 3) := by decide +kernel
theorem dX8_isBefore_56 : decode (zcc mX8_isBefore) 56 = .ok (.iload_n 1, 1) := by decide +kernel
theorem dX8_isBefore_57 : decode (zcc mX8_isBefore) 57 = .ok (.aload_n 0, 1) := by decide +kernel
theorem dX8_isBefore_58 : decode (zcc mX8_isBefore) 58 = .ok (.getfield 75, 3) := by decide +kernel
theorem dX8_isBefore_61 : decode (zcc mX8_isBefore) 61 = .ok (.iconst 0, 1) := by decide +kernel
theorem dX8_isBefore_62 : decode (zcc mX8_isBefore) 62 = .ok (.iaload, 1) := by decide +kernel
theorem dX8_isBefore_63 : decode (zcc mX8_isBefore) 63 = .ok (.if_icmp .eq 21, 3) := by decide +kernel
theorem dX8_isBefore_66 : decode (zcc mX8_isBefore) 66 = .ok (.aload_n 0, 1) := by decide +kernel
theorem dX8_isBefore_67 : decode (zcc mX8_isBefore) 67 = .ok (.getfield 72, 3) := by decide +kernel
theorem dX8_isBefore_70 : decode (zcc mX8_isBefore) 70 = .ok (.iload_n 1, 1) := by decide +kernel
theorem dX8_isBefore_71 : decode (zcc mX8_isBefore) 71 = .ok (.iaload, 1) := by decide +kernel
theorem dX8_isBefore_72 : decode (zcc mX8_isBefore) 72 = .ok (.aload_n 0, 1) := by decide +kernel
theorem dX8_isBefore_73 : decode (zcc mX8_isBefore) 73 = .ok (.getfield 72, 3) := by decide +kernel
theorem dX8_isBefore_76 : decode (zcc mX8_isBefore) 76 = .ok (.bipush 32, 2) := by decide +kernel
theorem dX8_isBefore_78 : decode (zcc mX8_isBefore) 78 = .ok (.iload_n 1, 1) := by decide +kernel
theorem dX8_isBefore_79 : decode (zcc mX8_isBefore) 79 = .ok (.iadd, 1) := by decide +kernel
theorem dX8_isBefore_80 : decode (zcc mX8_isBefore) 80 = .ok (.iaload, 1) := by decide +kernel
theorem dX8_isBefore_81 : decode (zcc mX8_isBefore) 81 = .ok (.if_icmp .ge 7, 3) := by decide +kernel
theorem dX8_isBefore_84 : decode (zcc mX8_isBefore) 84 = .ok (.iconst 1, 1) := by decide +kernel
theorem dX8_isBefore_85 : decode (zcc mX8_isBefore) 85 = .ok (.goto 4, 3) := by decide +kernel
theorem dX8_isBefore_88 : decode (zcc mX8_isBefore) 88 = .ok (.iconst 0, 1) := by decide +kernel
theorem dX8_isBefore_89 : decode (zcc mX8_isBefore) 89 = .ok (.ireturn, 1) := by decide +kernel
theorem dX8_isSum_0 : decode (zcc mX8_isSum) 0 = .ok (.iconst 0, 1) := by decide +kernel
theorem dX8_isSum_1 : decode (zcc mX8_isSum) 1 = .ok (.istore_n 3, 1) := by decide +kernel
theorem dX8_isSum_2 : decode (zcc mX8_isSum) 2 = .ok (.iconst 0, 1) := by decide +kernel
theorem dX8_isSum_3 : decode (zcc mX8_isSum) 3 = .ok (.istore 4, 2) := by decide +kernel
theorem dX8_isSum_5 : decode (zcc mX8_isSum) 5 = .ok (.iload 4, 2) := by decide +kernel
theorem dX8_isSum_7 : decode (zcc mX8_isSum) 7 = .ok (.aload_n 0, 1) := by decide +kernel
theorem dX8_isSum_8 : decode (zcc mX8_isSum) 8 = .ok (.getfield 75, 3) := by decide +kernel
theorem dX8_isSum_11 : decode (zcc mX8_isSum) 11 = .ok (.iconst 0, 1) := by decide +kernel
theorem dX8_isSum_12 : decode (zcc mX8_isSum) 12 = .ok (.iaload, 1) := by decide +kernel
theorem dX8_isSum_13 : decode (zcc mX8_isSum) 13 = .ok (.if_icmp .ge 24, 3) := by decide +kernel
theorem dX8_isSum_16 : decode (zcc mX8_isSum) 16 = .ok (.bipush 31, 2) := by decide +kernel
