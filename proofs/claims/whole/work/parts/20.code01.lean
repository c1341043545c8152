theorem dX2_init_5 : decode (zcc mX2_init) 5 = .ok (.bipush 18, 2) := by decide +kernel
theorem dX2_init_7 : decode (zcc mX2_init) 7 = .ok (.newarray .int, 2) := by decide +kernel
theorem dX2_init_9 : decode (zcc mX2_init) 9 = .ok (.putfield 9, 3) := by decide +kernel
theorem dX2_init_12 : decode (zcc mX2_init) 12 = .ok (.aload_n 0, 1) := by decide +kernel
theorem dX2_init_13 : decode (zcc mX2_init) 13 = .ok (.iconst 1, 1) := by decide +kernel
theorem dX2_init_14 : decode (zcc mX2_init) 14 = .ok (.putfield 15, 3) := by decide +kernel
theorem dX2_init_17 : decode (zcc mX2_init) 17 = .ok (.return_, 1) := by decide +kernel
theorem dX2_restart_0 : decode (zcc mX2_restart) 0 = .ok (.aload_n 0, 1) := by decide +kernel
theorem dX2_restart_1 : decode (zcc mX2_restart) 1 = .ok (.iload_n 1, 1) := by decide +kernel
theorem dX2_restart_2 : decode (zcc mX2_restart) 2 = .ok (.putfield 15, 3) := by decide +kernel
theorem dX2_restart_5 : decode (zcc mX2_restart) 5 = .ok (.aload_n 0, 1) := by decide +kernel
theorem dX2_restart_6 : decode (zcc mX2_restart) 6 = .ok (.iconst 0, 1) := by decide +kernel
theorem dX2_restart_7 : decode (zcc mX2_restart) 7 = .ok (.putfield 19, 3) := by decide +kernel
theorem dX2_restart_10 : decode (zcc mX2_restart) 10 = .ok (.aload_n 0, 1) := by decide +kernel
theorem dX2_restart_11 : decode (zcc mX2_restart) 11 = .ok (.getfield 9, 3) := by decide +kernel
theorem dX2_restart_14 : decode (zcc mX2_restart) 14 = .ok (.iconst 0, 1) := by decide +kernel
theorem dX2_restart_15 : decode (zcc mX2_restart) 15 = .ok (.invokestatic 22, 3) := by decide +kernel
theorem dX2_restart_18 : decode (zcc mX2_restart) 18 = .ok (.return_, 1) := by decide +kernel
theorem dX2_isState_0 : decode (zcc mX2_isState) 0 = .ok (.iload_n 1, 1) := by decide +kernel
theorem dX2_isState_1 : decode (zcc mX2_isState) 1 = .ok (.ifCond .lt 15, 3) := by decide +kernel
theorem dX2_isState_4 : decode (zcc mX2_isState) 4 = .ok (.iload_n 1, 1) := by decide +kernel
theorem dX2_isState_5 : decode (zcc mX2_isState) 5 = .ok (.aload_n 0, 1) := by decide +kernel
theorem dX2_isState_6 : decode (zcc mX2_isState) 6 = .ok (.getfield 15, 3) := by decide +kernel
theorem dX2_isState_9 : decode (zcc mX2_isState) 9 = .ok (.if_icmp .ge 7, 3) := by decide +kernel
theorem dX2_isState_12 : decode (zcc mX2_isState) 12 = .ok (.iconst 1, 1) := by decide +kernel
theorem dX2_isState_13 : decode (zcc mX2_isState) 13 = .ok (.goto 4, 3) := by decide +kernel
theorem dX2_isState_16 : decode (zcc mX2_isState) 16 = .ok (.iconst 0, 1) := by decide +kernel
theorem dX2_isState_17 : decode (zcc mX2_isState) 17 = .ok (.ireturn, 1) := by decide +kernel
theorem dX2_next_0 : decode (zcc mX2_next) 0 = .ok (.iload_n 1, 1) := by decide +kernel
theorem dX2_next_1 : decode (zcc mX2_next) 1 = .ok (.iconst 3, 1) := by decide +kernel
theorem dX2_next_2 : decode (zcc mX2_next) 2 = .ok (.imul, 1) := by decide +kernel
theorem dX2_next_3 : decode (zcc mX2_next) 3 = .ok (.iload_n 2, 1) := by decide +kernel
theorem dX2_next_4 : decode (zcc mX2_next) 4 = .ok (.iadd, 1) := by decide +kernel
theorem dX2_next_5 : decode (zcc mX2_next) 5 = .ok (.istore_n 3, 1) := by decide +kernel
theorem dX2_next_6 : decode (zcc mX2_next) 6 = .ok (.iload_n 3, 1) := by decide +kernel
theorem dX2_next_7 : decode (zcc mX2_next) 7 = .ok (.ifCond .lt 21, 3) := by decide +kernel
theorem dX2_next_10 : decode (zcc mX2_next) 10 = .ok (.iload_n 3, 1) := by decide +kernel
theorem dX2_next_11 : decode (zcc mX2_next) 11 = .ok (.aload_n 0, 1) := by decide +kernel
theorem dX2_next_12 : decode (zcc mX2_next) 12 = .ok (.getfield 9, 3) := by decide +kernel
theorem dX2_next_15 : decode (zcc mX2_next) 15 = .ok (.arraylength, 1) := by decide +kernel
theorem dX2_next_16 : decode (zcc mX2_next) 16 = .ok (.if_icmp .ge 12, 3) := by decide +kernel
theorem dX2_next_19 : decode (zcc mX2_next) 19 = .ok (.aload_n 0, 1) := by decide +kernel
theorem dX2_next_20 : decode (zcc mX2_next) 20 = .ok (.getfield 9, 3) := by decide +kernel
theorem dX2_next_23 : decode (zcc mX2_next) 23 = .ok (.iload_n 3, 1) := by decide +kernel
theorem dX2_next_24 : decode (zcc mX2_next) 24 = .ok (.iaload, 1) := by decide +kernel
theorem dX2_next_25 : decode (zcc mX2_next) 25 = .ok (.goto 4, 3) := by decide +kernel
theorem dX2_next_28 : decode (zcc mX2_next) 28 = .ok (.iconst 0, 1) := by decide +kernel
theorem dX2_next_29 : decode (zcc mX2_next) 29 = .ok (.ireturn, 1) := by decide +kernel
theorem dX2_lead_0 : decode (zcc mX2_lead) 0 = .ok (.iload_n 1, 1) := by decide +kernel
theorem dX2_lead_1 : decode (zcc mX2_lead) 1 = .ok (.iconst 3, 1) := by decide +kernel
theorem dX2_lead_2 : decode (zcc mX2_lead) 2 = .ok (.imul, 1) := by decide +kernel
theorem dX2_lead_3 : decode (zcc mX2_lead) 3 = .ok (.iload_n 2, 1) := by decide +kernel
theorem dX2_lead_4 : decode (zcc mX2_lead) 4 = .ok (.iadd, 1) := by decide +kernel
theorem dX2_lead_5 : decode (zcc mX2_lead) 5 = .ok (.istore 4, 2) := by decide +kernel
theorem dX2_lead_7 : decode (zcc mX2_lead) 7 = .ok (.iload 4, 2) := by decide +kernel
theorem dX2_lead_9 : decode (zcc mX2_lead) 9 = .ok (.ifCond .lt 21, 3) := by decide +kernel
theorem dX2_lead_12 : decode (zcc mX2_lead) 12 = .ok (.iload 4, 2) := by decide +kernel
theorem dX2_lead_14 : decode (zcc mX2_lead) 14 = .ok (.aload_n 0, 1) := by decide +kernel
theorem dX2_lead_15 : decode (zcc mX2_lead) 15 = .ok (.getfield 9, 3) := by decide +kernel
theorem dX2_lead_18 : decode (zcc mX2_lead) 18 = .ok (.arraylength, 1) := by decide +kernel
theorem dX2_lead_19 : decode (zcc mX2_lead) 19 = .ok (.if_icmp .ge 11, 3) := by decide +kernel
theorem dX2_lead_22 : decode (zcc mX2_lead) 22 = .ok (.aload_n 0, 1) := by decide +kernel
theorem dX2_lead_23 : decode (zcc mX2_lead) 23 = .ok (.getfield 9, 3) := by decide +kernel
theorem dX2_lead_26 : decode (zcc mX2_lead) 26 = .ok (.iload 4, 2) := by decide +kernel
theorem dX2_lead_28 : decode (zcc mX2_lead) 28 = .ok (.iload_n 3, 1) := by decide +kernel
theorem dX2_lead_29 : decode (zcc mX2_lead) 29 = .ok (.iastore, 1) := by decide +kernel
theorem dX2_lead_30 : decode (zcc mX2_lead) 30 = .ok (.return_, 1) := by decide +kernel
theorem dX2_isGood_0 : decode (zcc mX2_isGood) 0 = .ok (.aload_n 0, 1) := by decide +kernel
theorem dX2_isGood_1 : decode (zcc mX2_isGood) 1 = .ok (.getfield 19, 3) := by decide +kernel
theorem dX2_isGood_4 : decode (zcc mX2_isGood) 4 = .ok (.iload_n 1, 1) := by decide +kernel
theorem dX2_isGood_5 : decode (zcc mX2_isGood) 5 = .ok (.ishr, 1) := by decide +kernel
theorem dX2_isGood_6 : decode (zcc mX2_isGood) 6 = .ok (.iconst 1, 1) := by decide +kernel
theorem dX2_isGood_7 : decode (zcc mX2_isGood) 7 = .ok (.iand, 1) := by decide +kernel
theorem dX2_isGood_8 : decode (zcc mX2_isGood) 8 = .ok (.ifCond .eq 7, 3) := by decide +kernel
theorem dX2_isGood_11 : decode (zcc mX2_isGood) 11 = .ok (.iconst 1, 1) := by decide +kernel
theorem dX2_isGood_12 : decode (zcc mX2_isGood) 12 = .ok (.goto 4, 3) := by decide +kernel
theorem dX2_isGood_15 : decode (zcc mX2_isGood) 15 = .ok (.iconst 0, 1) := by decide +kernel
theorem dX2_isGood_16 : decode (zcc mX2_isGood) 16 = .ok (.ireturn, 1) := by decide +kernel
theorem dX2_setGood_0 : decode (zcc mX2_setGood) 0 = .ok (.aload_n 0, 1) := by decide +kernel
theorem dX2_setGood_1 : decode (zcc mX2_setGood) 1 = .ok (.iload_n 2, 1) := by decide +kernel
theorem dX2_setGood_2 : decode (zcc mX2_setGood) 2 = .ok (.ifCond .eq 14, 3) := by decide +kernel
theorem dX2_setGood_5 : decode (zcc mX2_setGood) 5 = .ok (.aload_n 0, 1) := by decide +kernel
theorem dX2_setGood_6 : decode (zcc mX2_setGood) 6 = .ok (.getfield 19, 3) := by decide +kernel
theorem dX2_setGood_9 : decode (zcc mX2_setGood) 9 = .ok (.iconst 1, 1) := by decide +kernel
theorem dX2_setGood_10 : decode (zcc mX2_setGood) 10 = .ok (.iload_n 1, 1) := by decide +kernel
theorem dX2_setGood_11 : decode (zcc mX2_setGood) 11 = .ok (.ishl, 1) := by decide +kernel
theorem dX2_setGood_12 : decode (zcc mX2_setGood) 12 = .ok (.ior, 1) := by decide +kernel
theorem dX2_setGood_13 : decode (zcc mX2_setGood) 13 = .ok (.goto 13, 3) := by decide +kernel
theorem dX2_setGood_16 : decode (zcc mX2_setGood) 16 = .ok (.aload_n 0, 1) := by decide +kernel
theorem dX2_setGood_17 : decode (zcc mX2_setGood) 17 = .ok (.getfield 19, 3) := by decide +kernel
theorem dX2_setGood_20 : decode (zcc mX2_setGood) 20 = .ok (.iconst 1, 1) := by decide +kernel
theorem dX2_setGood_21 : decode (zcc mX2_setGood) 21 = .ok (.iload_n 1, 1) := by decide +kernel
theorem dX2_setGood_22 : decode (zcc mX2_setGood) 22 = .ok (.ishl, 1) := by decide +kernel
theorem dX2_setGood_23 : decode (zcc mX2_setGood) 23 = .ok (.iconst (-1), 1) := by decide +kernel
theorem dX2_setGood_24 : decode (zcc mX2_setGood) 24 = .ok (.ixor, 1) := by decide +kernel
theorem dX2_setGood_25 : decode (zcc mX2_setGood) 25 = .ok (.iand, 1) := by decide +kernel
theorem dX2_setGood_26 : decode (zcc mX2_setGood) 26 = .ok (.putfield 19, 3) := by decide +kernel
theorem dX2_setGood_29 : decode (zcc mX2_setGood) 29 = .ok (.return_, 1) := by decide +kernel
theorem dX2_takes_0 : decode (zcc mX2_takes) 0 = .ok (.iconst 0, 1) := by decide +kernel
theorem dX2_takes_1 : decode (zcc mX2_takes) 1 = .ok (.istore_n 2, 1) := by decide +kernel
theorem dX2_takes_2 : decode (zcc mX2_takes) 2 = .ok (.iconst 0, 1) := by decide +kernel
theorem dX2_takes_3 : decode (zcc mX2_takes) 3 = .ok (.istore_n 3, 1) := by decide +kernel
theorem dX2_takes_4 : decode (zcc mX2_takes) 4 = .ok (.iload_n 3, 1) := by decide +kernel
theorem dX2_takes_5 : decode (zcc mX2_takes) 5 = .ok (.aload_n 1, 1) := by decide +kernel
theorem dX2_takes_6 : decode (zcc mX2_takes) 6 = .ok (.getfield 28, 3) := by decide +kernel
theorem dX2_takes_9 : decode (zcc mX2_takes) 9 = .ok (.if_icmp .ge 21, 3) := by decide +kernel
theorem dX2_takes_12 : decode (zcc mX2_takes) 12 = .ok (.aload_n 0, 1) := by decide +kernel
theorem dX2_takes_13 : decode (zcc mX2_takes) 13 = .ok (.iload_n 2, 1) := by decide +kernel
theorem dX2_takes_14 : decode (zcc mX2_takes) 14 = .ok (.aload_n 1, 1) := by decide +kernel
theorem dX2_takes_15 : decode (zcc mX2_takes) 15 = .ok (.getfield 33, 3) := by decide +kernel
theorem dX2_takes_18 : decode (zcc mX2_takes) 18 = .ok (.iload_n 3, 1) := by decide +kernel
theorem dX2_takes_19 : decode (zcc mX2_takes) 19 = .ok (.iaload, 1) := by decide +kernel
theorem dX2_takes_20 : decode (zcc mX2_takes) 20 = .ok (.invokevirtual 36, 3) := by decide +kernel
theorem dX2_takes_23 : decode (zcc mX2_takes) 23 = .ok (.istore_n 2, 1) := by decide +kernel
theorem dX2_takes_24 : decode (zcc mX2_takes) 24 = .ok (.iinc 3 1, 3) := by decide +kernel
theorem dX2_takes_27 : decode (zcc mX2_takes) 27 = .ok (.goto (-23), 3) := by decide +kernel
theorem dX2_takes_30 : decode (zcc mX2_takes) 30 = .ok (.aload_n 0, 1) := by decide +kernel
theorem dX2_takes_31 : decode (zcc mX2_takes) 31 = .ok (.iload_n 2, 1) := by decide +kernel
theorem dX2_takes_32 : decode (zcc mX2_takes) 32 = .ok (.invokevirtual 40, 3) := by decide +kernel
theorem dX2_takes_35 : decode (zcc mX2_takes) 35 = .ok (.ireturn, 1) := by decide +kernel
theorem dX2_shortestWith_0 : decode (zcc mX2_shortestWith) 0 = .ok (.lconst 1, 1) := by decide +kernel
theorem dX2_shortestWith_1 : decode (zcc mX2_shortestWith) 1 = .ok (.lstore_n 3, 1) := by decide +kernel
theorem dX2_shortestWith_2 : decode (zcc mX2_shortestWith) 2 = .ok (.iconst 0, 1) := by decide +kernel
theorem dX2_shortestWith_3 : decode (zcc mX2_shortestWith) 3 = .ok (.istore 5, 2) := by decide +kernel
theorem dX2_shortestWith_5 : decode (zcc mX2_shortestWith) 5 = .ok (.iload 5, 2) := by decide +kernel
theorem dX2_shortestWith_7 : decode (zcc mX2_shortestWith) 7 = .ok (.bipush 36, 2) := by decide +kernel
theorem dX2_shortestWith_9 : decode (zcc mX2_shortestWith) 9 = .ok (.if_icmp .ge 131, 3) := by decide +kernel
theorem dX2_shortestWith_12 : decode (zcc mX2_shortestWith) 12 = .ok (.lload_n 3, 1) := by decide +kernel
theorem dX2_shortestWith_13 : decode (zcc mX2_shortestWith) 13 = .ok (.lstore 6, 2) := by decide +kernel
theorem dX2_shortestWith_15 : decode (zcc mX2_shortestWith) 15 = .ok (.iconst 0, 1) := by decide +kernel
theorem dX2_shortestWith_16 : decode (zcc mX2_shortestWith) 16 = .ok (.istore 8, 2) := by decide +kernel
theorem dX2_shortestWith_18 : decode (zcc mX2_shortestWith) 18 = .ok (.iload 8, 2) := by decide +kernel
theorem dX2_shortestWith_20 : decode (zcc mX2_shortestWith) 20 = .ok (.bipush 36, 2) := by decide +kernel
theorem dX2_shortestWith_22 : decode (zcc mX2_shortestWith) 22 = .ok (.if_icmp .ge 100, 3) := by decide +kernel
theorem dX2_shortestWith_25 : decode (zcc mX2_shortestWith) 25 = .ok (.lload_n 3, 1) := by decide +kernel
theorem dX2_shortestWith_26 : decode (zcc mX2_shortestWith) 26 = .ok (.iload 8, 2) := by decide +kernel
theorem dX2_shortestWith_28 : decode (zcc mX2_shortestWith) 28 = .ok (.lshr, 1) := by decide +kernel
theorem dX2_shortestWith_29 : decode (zcc mX2_shortestWith) 29 = .ok (.lconst 1, 1) := by decide +kernel
theorem dX2_shortestWith_30 : decode (zcc mX2_shortestWith) 30 = .ok (.land, 1) := by decide +kernel
theorem dX2_shortestWith_31 : decode (zcc mX2_shortestWith) 31 = .ok (.lconst 0, 1) := by decide +kernel
theorem dX2_shortestWith_32 : decode (zcc mX2_shortestWith) 32 = .ok (.lcmp, 1) := by decide +kernel
theorem dX2_shortestWith_33 : decode (zcc mX2_shortestWith) 33 = .ok (.ifCond .ne 6, 3) := by decide +kernel
theorem dX2_shortestWith_36 : decode (zcc mX2_shortestWith) 36 = .ok (.goto 80, 3) := by decide +kernel
theorem dX2_shortestWith_39 : decode (zcc mX2_shortestWith) 39 = .ok (.iload 8, 2) := by decide +kernel
theorem dX2_shortestWith_41 : decode (zcc mX2_shortestWith) 41 = .ok (.bipush 6, 2) := by decide +kernel
theorem dX2_shortestWith_43 : decode (zcc mX2_shortestWith) 43 = .ok (.idiv, 1) := by decide +kernel
theorem dX2_shortestWith_44 : decode (zcc mX2_shortestWith) 44 = .ok (.istore 9, 2) := by decide +kernel
theorem dX2_shortestWith_46 : decode (zcc mX2_shortestWith) 46 = .ok (.iload 8, 2) := by decide +kernel
theorem dX2_shortestWith_48 : decode (zcc mX2_shortestWith) 48 = .ok (.bipush 6, 2) := by decide +kernel
theorem dX2_shortestWith_50 : decode (zcc mX2_shortestWith) 50 = .ok (.irem, 1) := by decide +kernel
theorem dX2_shortestWith_51 : decode (zcc mX2_shortestWith) 51 = .ok (.istore 10, 2) := by decide +kernel
theorem dX2_shortestWith_53 : decode (zcc mX2_shortestWith) 53 = .ok (.aload_n 0, 1) := by decide +kernel
theorem dX2_shortestWith_54 : decode (zcc mX2_shortestWith) 54 = .ok (.iload 9, 2) := by decide +kernel
theorem dX2_shortestWith_56 : decode (zcc mX2_shortestWith) 56 = .ok (.invokevirtual 40, 3) := by decide +kernel
theorem dX2_shortestWith_59 : decode (zcc mX2_shortestWith) 59 = .ok (.ifCond .eq 15, 3) := by decide +kernel
theorem dX2_shortestWith_62 : decode (zcc mX2_shortestWith) 62 = .ok (.aload_n 1, 1) := by decide +kernel
theorem dX2_shortestWith_63 : decode (zcc mX2_shortestWith) 63 = .ok (.iload 10, 2) := by decide +kernel
theorem dX2_shortestWith_65 : decode (zcc mX2_shortestWith) 65 = .ok (.invokevirtual 40, 3) := by decide +kernel
theorem dX2_shortestWith_68 : decode (zcc mX2_shortestWith) 68 = .ok (.ifCond .eq 6, 3) := by decide +kernel
theorem dX2_shortestWith_71 : decode (zcc mX2_shortestWith) 71 = .ok (.iload 5, 2) := by decide +kernel
theorem dX2_shortestWith_73 : decode (zcc mX2_shortestWith) 73 = .ok (.ireturn, 1) := by decide +kernel
theorem dX2_shortestWith_74 : decode (zcc mX2_shortestWith) 74 = .ok (.iconst 0, 1) := by decide +kernel
theorem dX2_shortestWith_75 : decode (zcc mX2_shortestWith) 75 = .ok (.istore 11, 2) := by decide +kernel
theorem dX2_shortestWith_77 : decode (zcc mX2_shortestWith) 77 = .ok (.iload 11, 2) := by decide +kernel
theorem dX2_shortestWith_79 : decode (zcc mX2_shortestWith) 79 = .ok (.iload_n 2, 1) := by decide +kernel
theorem dX2_shortestWith_80 : decode (zcc mX2_shortestWith) 80 = .ok (.if_icmp .ge 36, 3) := by decide +kernel
theorem dX2_shortestWith_83 : decode (zcc mX2_shortestWith) 83 = .ok (.lload 6, 2) := by decide +kernel
theorem dX2_shortestWith_85 : decode (zcc mX2_shortestWith) 85 = .ok (.lconst 1, 1) := by decide +kernel
theorem dX2_shortestWith_86 : decode (zcc mX2_shortestWith) 86 = .ok (.aload_n 0, 1) := by decide +kernel
theorem dX2_shortestWith_87 : decode (zcc mX2_shortestWith) 87 = .ok (.iload 9, 2) := by decide +kernel
theorem dX2_shortestWith_89 : decode (zcc mX2_shortestWith) 89 = .ok (.iload 11, 2) := by decide +kernel
theorem dX2_shortestWith_91 : decode (zcc mX2_shortestWith) 91 = .ok (.invokevirtual 36, 3) := by decide +kernel
theorem dX2_shortestWith_94 : decode (zcc mX2_shortestWith) 94 = .ok (.bipush 6, 2) := by decide +kernel
theorem dX2_shortestWith_96 : decode (zcc mX2_shortestWith) 96 = .ok (.imul, 1) := by decide +kernel
theorem dX2_shortestWith_97 : decode (zcc mX2_shortestWith) 97 = .ok (.aload_n 1, 1) := by decide +kernel
theorem dX2_shortestWith_98 : decode (zcc mX2_shortestWith) 98 = .ok (.iload 10, 2) := by decide +kernel
theorem dX2_shortestWith_100 : decode (zcc mX2_shortestWith) 100 = .ok (.iload 11, 2) := by decide +kernel
theorem dX2_shortestWith_102 : decode (zcc mX2_shortestWith) 102 = .ok (.invokevirtual 36, 3) := by decide +kernel
theorem dX2_shortestWith_105 : decode (zcc mX2_shortestWith) 105 = .ok (.iadd, 1) := by decide +kernel
theorem dX2_shortestWith_106 : decode (zcc mX2_shortestWith) 106 = .ok (.lshl, 1) := by decide +kernel
theorem dX2_shortestWith_107 : decode (zcc mX2_shortestWith) 107 = .ok (.lor, 1) := by decide +kernel
theorem dX2_shortestWith_108 : decode (zcc mX2_shortestWith) 108 = .ok (.lstore 6, 2) := by decide +kernel
theorem dX2_shortestWith_110 : decode (zcc mX2_shortestWith) 110 = .ok (.iinc 11 1, 3) := by decide +kernel
theorem dX2_shortestWith_113 : decode (zcc mX2_shortestWith) 113 = .ok (.goto (-36), 3) := by decide +kernel
theorem dX2_shortestWith_116 : decode (zcc mX2_shortestWith) 116 = .ok (.iinc 8 1, 3) := by decide +kernel
theorem dX2_shortestWith_119 : decode (zcc mX2_shortestWith) 119 = .ok (.goto (-101), 3) := by decide +kernel
theorem dX2_shortestWith_122 : decode (zcc mX2_shortestWith) 122 = .ok (.lload 6, 2) := by decide +kernel
theorem dX2_shortestWith_124 : decode (zcc mX2_shortestWith) 124 = .ok (.lload_n 3, 1) := by decide +kernel
theorem dX2_shortestWith_125 : decode (zcc mX2_shortestWith) 125 = .ok (.lcmp, 1) := by decide +kernel
theorem dX2_shortestWith_126 : decode (zcc mX2_shortestWith) 126 = .ok (.ifCond .ne 5, 3) := by decide +kernel
theorem dX2_shortestWith_129 : decode (zcc mX2_shortestWith) 129 = .ok (.iconst (-1), 1) := by decide +kernel
theorem dX2_shortestWith_130 : decode (zcc mX2_shortestWith) 130 = .ok (.ireturn, 1) := by decide +kernel
theorem dX2_shortestWith_131 : decode (zcc mX2_shortestWith) 131 = .ok (.lload 6, 2) := by decide +kernel
theorem dX2_shortestWith_133 : decode (zcc mX2_shortestWith) 133 = .ok (.lstore_n 3, 1) := by decide +kernel
theorem dX2_shortestWith_134 : decode (zcc mX2_shortestWith) 134 = .ok (.iinc 5 1, 3) := by decide +kernel
theorem dX2_shortestWith_137 : decode (zcc mX2_shortestWith) 137 = .ok (.goto (-132), 3) := by decide +kernel
theorem dX2_shortestWith_140 : decode (zcc mX2_shortestWith) 140 = .ok (.iconst (-1), 1) := by decide +kernel
theorem dX2_shortestWith_141 : decode (zcc mX2_shortestWith) 141 = .ok (.ireturn, 1) := by decide +kernel
theorem dX3_init_0 : decode (zcc mX3_init) 0 = .ok (.aload_n 0, 1) := by decide +kernel
theorem dX3_init_1 : decode (zcc mX3_init) 1 = .ok (.invokespecial 3, 3) := by decide +kernel
theorem dX3_init_4 : decode (zcc mX3_init) 4 = .ok (.aload_n 0, 1) := by decide +kernel
theorem dX3_init_5 : decode (zcc mX3_init) 5 = .ok (.bipush 30, 2) := by decide +kernel
theorem dX3_init_7 : decode (zcc mX3_init) 7 = .ok (.newarray .int, 2) := by decide +kernel
theorem dX3_init_9 : decode (zcc mX3_init) 9 = .ok (.putfield 9, 3) := by decide +kernel
theorem dX3_init_12 : decode (zcc mX3_init) 12 = .ok (.return_, 1) := by decide +kernel
theorem dX3_write_0 : decode (zcc mX3_write) 0 = .ok (.aload_n 0, 1) := by decide +kernel
theorem dX3_write_1 : decode (zcc mX3_write) 1 = .ok (.iconst 0, 1) := by decide +kernel
theorem dX3_write_2 : decode (zcc mX3_write) 2 = .ok (.putfield 15, 3) := by decide +kernel
theorem dX3_write_5 : decode (zcc mX3_write) 5 = .ok (.iconst 0, 1) := by decide +kernel
theorem dX3_write_6 : decode (zcc mX3_write) 6 = .ok (.istore_n 3, 1) := by decide +kernel
theorem dX3_write_7 : decode (zcc mX3_write) 7 = .ok (.iload_n 3, 1) := by decide +kernel
theorem dX3_write_8 : decode (zcc mX3_write) 8 = .ok (.aload_n 1, 1) := by decide +kernel
theorem dX3_write_9 : decode (zcc mX3_write) 9 = .ok (.getfield 19, 3) := by decide +kernel
theorem dX3_write_12 : decode (zcc mX3_write) 12 = .ok (.if_icmp .ge 70, 3) := by decide +kernel
theorem dX3_write_15 : decode (zcc mX3_write) 15 = .ok (.aload_n 1, 1) := by decide +kernel
theorem dX3_write_16 : decode (zcc mX3_write) 16 = .ok (.getfield 22, 3) := by decide +kernel
theorem dX3_write_19 : decode (zcc mX3_write) 19 = .ok (.iload_n 3, 1) := by decide +kernel
theorem dX3_write_20 : decode (zcc mX3_write) 20 = .ok (.iaload, 1) := by decide +kernel
theorem dX3_write_21 : decode (zcc mX3_write) 21 = .ok (.bipush 8, 2) := by decide +kernel
theorem dX3_write_23 : decode (zcc mX3_write) 23 = .ok (.isub, 1) := by decide +kernel
theorem dX3_write_24 : decode (zcc mX3_write) 24 = .ok (.istore 4, 2) := by decide +kernel
theorem dX3_write_26 : decode (zcc mX3_write) 26 = .ok (.iload 4, 2) := by decide +kernel
theorem dX3_write_28 : decode (zcc mX3_write) 28 = .ok (.ifCond .ge 16, 3) := by decide +kernel
theorem dX3_write_31 : decode (zcc mX3_write) 31 = .ok (.aload_n 0, 1) := by decide +kernel
theorem dX3_write_32 : decode (zcc mX3_write) 32 = .ok (.aload_n 1, 1) := by decide +kernel
theorem dX3_write_33 : decode (zcc mX3_write) 33 = .ok (.getfield 22, 3) := by decide +kernel
theorem dX3_write_36 : decode (zcc mX3_write) 36 = .ok (.iload_n 3, 1) := by decide +kernel
theorem dX3_write_37 : decode (zcc mX3_write) 37 = .ok (.iaload, 1) := by decide +kernel
theorem dX3_write_38 : decode (zcc mX3_write) 38 = .ok (.invokevirtual 25, 3) := by decide +kernel
theorem dX3_write_41 : decode (zcc mX3_write) 41 = .ok (.goto 35, 3) := by decide +kernel
theorem dX3_write_44 : decode (zcc mX3_write) 44 = .ok (.iload 4, 2) := by decide +kernel
theorem dX3_write_46 : decode (zcc mX3_write) 46 = .ok (.aload_n 2, 1) := by decide +kernel
theorem dX3_write_47 : decode (zcc mX3_write) 47 = .ok (.getfield 29, 3) := by decide +kernel
theorem dX3_write_50 : decode (zcc mX3_write) 50 = .ok (.arraylength, 1) := by decide +kernel
theorem dX3_write_51 : decode (zcc mX3_write) 51 = .ok (.if_icmp .ge 25, 3) := by decide +kernel
theorem dX3_write_54 : decode (zcc mX3_write) 54 = .ok (.aload_n 0, 1) := by decide +kernel
theorem dX3_write_55 : decode (zcc mX3_write) 55 = .ok (.aload_n 2, 1) := by decide +kernel
theorem dX3_write_56 : decode (zcc mX3_write) 56 = .ok (.getfield 34, 3) := by decide +kernel
theorem dX3_write_59 : decode (zcc mX3_write) 59 = .ok (.aload_n 2, 1) := by decide +kernel
theorem dX3_write_60 : decode (zcc mX3_write) 60 = .ok (.getfield 37, 3) := by decide +kernel
theorem dX3_write_63 : decode (zcc mX3_write) 63 = .ok (.iload 4, 2) := by decide +kernel
theorem dX3_write_65 : decode (zcc mX3_write) 65 = .ok (.iaload, 1) := by decide +kernel
theorem dX3_write_66 : decode (zcc mX3_write) 66 = .ok (.aload_n 2, 1) := by decide +kernel
theorem dX3_write_67 : decode (zcc mX3_write) 67 = .ok (.getfield 29, 3) := by decide +kernel
theorem dX3_write_70 : decode (zcc mX3_write) 70 = .ok (.iload 4, 2) := by decide +kernel
theorem dX3_write_72 : decode (zcc mX3_write) 72 = .ok (.iaload, 1) := by decide +kernel
theorem dX3_write_73 : decode (zcc mX3_write) 73 = .ok (.invokevirtual 40, 3) := by decide +kernel
theorem dX3_write_76 : decode (zcc mX3_write) 76 = .ok (.iinc 3 1, 3) := by decide +kernel
theorem dX3_write_79 : decode (zcc mX3_write) 79 = .ok (.goto (-72), 3) := by decide +kernel
theorem dX3_write_82 : decode (zcc mX3_write) 82 = .ok (.return_, 1) := by decide +kernel
theorem dX3_addLetter_0 : decode (zcc mX3_addLetter) 0 = .ok (.aload_n 0, 1) := by decide +kernel
theorem dX3_addLetter_1 : decode (zcc mX3_addLetter) 1 = .ok (.getfield 15, 3) := by decide +kernel
theorem dX3_addLetter_4 : decode (zcc mX3_addLetter) 4 = .ok (.aload_n 0, 1) := by decide +kernel
theorem dX3_addLetter_5 : decode (zcc mX3_addLetter) 5 = .ok (.getfield 9, 3) := by decide +kernel
theorem dX3_addLetter_8 : decode (zcc mX3_addLetter) 8 = .ok (.arraylength, 1) := by decide +kernel
theorem dX3_addLetter_9 : decode (zcc mX3_addLetter) 9 = .ok (.if_icmp .ge 23, 3) := by decide +kernel
theorem dX3_addLetter_12 : decode (zcc mX3_addLetter) 12 = .ok (.aload_n 0, 1) := by decide +kernel
theorem dX3_addLetter_13 : decode (zcc mX3_addLetter) 13 = .ok (.getfield 9, 3) := by decide +kernel
theorem dX3_addLetter_16 : decode (zcc mX3_addLetter) 16 = .ok (.aload_n 0, 1) := by decide +kernel
theorem dX3_addLetter_17 : decode (zcc mX3_addLetter) 17 = .ok (.getfield 15, 3) := by decide +kernel
theorem dX3_addLetter_20 : decode (zcc mX3_addLetter) 20 = .ok (.iload_n 1, 1) := by decide +kernel
theorem dX3_addLetter_21 : decode (zcc mX3_addLetter) 21 = .ok (.iastore, 1) := by decide +kernel
theorem dX3_addLetter_22 : decode (zcc mX3_addLetter) 22 = .ok (.aload_n 0, 1) := by decide +kernel
theorem dX3_addLetter_23 : decode (zcc mX3_addLetter) 23 = .ok (.dup, 1) := by decide +kernel
theorem dX3_addLetter_24 : decode (zcc mX3_addLetter) 24 = .ok (.getfield 15, 3) := by decide +kernel
theorem dX3_addLetter_27 : decode (zcc mX3_addLetter) 27 = .ok (.iconst 1, 1) := by decide +kernel
theorem dX3_addLetter_28 : decode (zcc mX3_addLetter) 28 = .ok (.iadd, 1) := by decide +kernel
theorem dX3_addLetter_29 : decode (zcc mX3_addLetter) 29 = .ok (.putfield 15, 3) := by decide +kernel
theorem dX3_addLetter_32 : decode (zcc mX3_addLetter) 32 = .ok (.return_, 1) := by decide +kernel
theorem dX3_addRow_0 : decode (zcc mX3_addRow) 0 = .ok (.iconst 0, 1) := by decide +kernel
theorem dX3_addRow_1 : decode (zcc mX3_addRow) 1 = .ok (.istore 4, 2) := by decide +kernel
theorem dX3_addRow_3 : decode (zcc mX3_addRow) 3 = .ok (.iload 4, 2) := by decide +kernel
theorem dX3_addRow_5 : decode (zcc mX3_addRow) 5 = .ok (.iload_n 3, 1) := by decide +kernel
theorem dX3_addRow_6 : decode (zcc mX3_addRow) 6 = .ok (.if_icmp .ge 55, 3) := by decide +kernel
theorem dX3_addRow_9 : decode (zcc mX3_addRow) 9 = .ok (.aload_n 0, 1) := by decide +kernel
theorem dX3_addRow_10 : decode (zcc mX3_addRow) 10 = .ok (.getfield 15, 3) := by decide +kernel
theorem dX3_addRow_13 : decode (zcc mX3_addRow) 13 = .ok (.aload_n 0, 1) := by decide +kernel
theorem dX3_addRow_14 : decode (zcc mX3_addRow) 14 = .ok (.getfield 9, 3) := by decide +kernel
theorem dX3_addRow_17 : decode (zcc mX3_addRow) 17 = .ok (.arraylength, 1) := by decide +kernel
theorem dX3_addRow_18 : decode (zcc mX3_addRow) 18 = .ok (.if_icmp .ge 43, 3) := by decide +kernel
theorem dX3_addRow_21 : decode (zcc mX3_addRow) 21 = .ok (.iload_n 2, 1) := by decide +kernel
theorem dX3_addRow_22 : decode (zcc mX3_addRow) 22 = .ok (.iload 4, 2) := by decide +kernel
theorem dX3_addRow_24 : decode (zcc mX3_addRow) 24 = .ok (.iadd, 1) := by decide +kernel
theorem dX3_addRow_25 : decode (zcc mX3_addRow) 25 = .ok (.aload_n 1, 1) := by decide +kernel
theorem dX3_addRow_26 : decode (zcc mX3_addRow) 26 = .ok (.arraylength, 1) := by decide +kernel
theorem dX3_addRow_27 : decode (zcc mX3_addRow) 27 = .ok (.if_icmp .ge 34, 3) := by decide +kernel
theorem dX3_addRow_30 : decode (zcc mX3_addRow) 30 = .ok (.aload_n 0, 1) := by decide +kernel
theorem dX3_addRow_31 : decode (zcc mX3_addRow) 31 = .ok (.getfield 9, 3) := by decide +kernel
theorem dX3_addRow_34 : decode (zcc mX3_addRow) 34 = .ok (.aload_n 0, 1) := by decide +kernel
theorem dX3_addRow_35 : decode (zcc mX3_addRow) 35 = .ok (.getfield 15, 3) := by decide +kernel
theorem dX3_addRow_38 : decode (zcc mX3_addRow) 38 = .ok (.aload_n 1, 1) := by decide +kernel
theorem dX3_addRow_39 : decode (zcc mX3_addRow) 39 = .ok (.iload_n 2, 1) := by decide +kernel
theorem dX3_addRow_40 : decode (zcc mX3_addRow) 40 = .ok (.iload 4, 2) := by decide +kernel
theorem dX3_addRow_42 : decode (zcc mX3_addRow) 42 = .ok (.iadd, 1) := by decide +kernel
theorem dX3_addRow_43 : decode (zcc mX3_addRow) 43 = .ok (.iaload, 1) := by decide +kernel
theorem dX3_addRow_44 : decode (zcc mX3_addRow) 44 = .ok (.iastore, 1) := by decide +kernel
theorem dX3_addRow_45 : decode (zcc mX3_addRow) 45 = .ok (.aload_n 0, 1) := by decide +kernel
theorem dX3_addRow_46 : decode (zcc mX3_addRow) 46 = .ok (.dup, 1) := by decide +kernel
theorem dX3_addRow_47 : decode (zcc mX3_addRow) 47 = .ok (.getfield 15, 3) := by decide +kernel
theorem dX3_addRow_50 : decode (zcc mX3_addRow) 50 = .ok (.iconst 1, 1) := by decide +kernel
theorem dX3_addRow_51 : decode (zcc mX3_addRow) 51 = .ok (.iadd, 1) := by decide +kernel
theorem dX3_addRow_52 : decode (zcc mX3_addRow) 52 = .ok (.putfield 15, 3) := by decide +kernel
theorem dX3_addRow_55 : decode (zcc mX3_addRow) 55 = .ok (.iinc 4 1, 3) := by decide +kernel
theorem dX3_addRow_58 : decode (zcc mX3_addRow) 58 = .ok (.goto (-55), 3) := by decide +kernel
theorem dX3_addRow_61 : decode (zcc mX3_addRow) 61 = .ok (.return_, 1) := by decide +kernel
theorem dX3_agrees_0 : decode (zcc mX3_agrees) 0 = .ok (.iload_n 1, 1) := by decide +kernel
theorem dX3_agrees_1 : decode (zcc mX3_agrees) 1 = .ok (.iload 4, 2) := by decide +kernel
theorem dX3_agrees_3 : decode (zcc mX3_agrees) 3 = .ok (.iadd, 1) := by decide +kernel
theorem dX3_agrees_4 : decode (zcc mX3_agrees) 4 = .ok (.aload_n 0, 1) := by decide +kernel
theorem dX3_agrees_5 : decode (zcc mX3_agrees) 5 = .ok (.getfield 15, 3) := by decide +kernel
theorem dX3_agrees_8 : decode (zcc mX3_agrees) 8 = .ok (.if_icmp .gt 14, 3) := by decide +kernel
theorem dX3_agrees_11 : decode (zcc mX3_agrees) 11 = .ok (.iload_n 3, 1) := by decide +kernel
theorem dX3_agrees_12 : decode (zcc mX3_agrees) 12 = .ok (.iload 4, 2) := by decide +kernel
theorem dX3_agrees_14 : decode (zcc mX3_agrees) 14 = .ok (.iadd, 1) := by decide +kernel
theorem dX3_agrees_15 : decode (zcc mX3_agrees) 15 = .ok (.aload_n 2, 1) := by decide +kernel
theorem dX3_agrees_16 : decode (zcc mX3_agrees) 16 = .ok (.getfield 15, 3) := by decide +kernel
theorem dX3_agrees_19 : decode (zcc mX3_agrees) 19 = .ok (.if_icmp .le 5, 3) := by decide +kernel
theorem dX3_agrees_22 : decode (zcc mX3_agrees) 22 = .ok (.iconst 0, 1) := by decide +kernel
theorem dX3_agrees_23 : decode (zcc mX3_agrees) 23 = .ok (.ireturn, 1) := by decide +kernel
theorem dX3_agrees_24 : decode (zcc mX3_agrees) 24 = .ok (.iconst 0, 1) := by decide +kernel
theorem dX3_agrees_25 : decode (zcc mX3_agrees) 25 = .ok (.istore 5, 2) := by decide +kernel
theorem dX3_agrees_27 : decode (zcc mX3_agrees) 27 = .ok (.iload 5, 2) := by decide +kernel
theorem dX3_agrees_29 : decode (zcc mX3_agrees) 29 = .ok (.iload 4, 2) := by decide +kernel
theorem dX3_agrees_31 : decode (zcc mX3_agrees) 31 = .ok (.if_icmp .ge 32, 3) := by decide +kernel
theorem dX3_agrees_34 : decode (zcc mX3_agrees) 34 = .ok (.aload_n 0, 1) := by decide +kernel
theorem dX3_agrees_35 : decode (zcc mX3_agrees) 35 = .ok (.getfield 9, 3) := by decide +kernel
theorem dX3_agrees_38 : decode (zcc mX3_agrees) 38 = .ok (.iload_n 1, 1) := by decide +kernel
theorem dX3_agrees_39 : decode (zcc mX3_agrees) 39 = .ok (.iload 5, 2) := by decide +kernel
theorem dX3_agrees_41 : decode (zcc mX3_agrees) 41 = .ok (.iadd, 1) := by decide +kernel
theorem dX3_agrees_42 : decode (zcc mX3_agrees) 42 = .ok (.iaload, 1) := by decide +kernel
theorem dX3_agrees_43 : decode (zcc mX3_agrees) 43 = .ok (.aload_n 2, 1) := by decide +kernel
theorem dX3_agrees_44 : decode (zcc mX3_agrees) 44 = .ok (.getfield 9, 3) := by decide +kernel
theorem dX3_agrees_47 : decode (zcc mX3_agrees) 47 = .ok (.iload_n 3, 1) := by decide +kernel
theorem dX3_agrees_48 : decode (zcc mX3_agrees) 48 = .ok (.iload 5, 2) := by decide +kernel
theorem dX3_agrees_50 : decode (zcc mX3_agrees) 50 = .ok (.iadd, 1) := by decide +kernel
theorem dX3_agrees_51 : decode (zcc mX3_agrees) 51 = .ok (.iaload, 1) := by decide +kernel
theorem dX3_agrees_52 : decode (zcc mX3_agrees) 52 = .ok (.if_icmp .eq 5, 3) := by decide +kernel
theorem dX3_agrees_55 : decode (zcc mX3_agrees) 55 = .ok (.iconst 0, 1) := by decide +kernel
theorem dX3_agrees_56 : decode (zcc mX3_agrees) 56 = .ok (.ireturn, 1) := by decide +kernel
theorem dX3_agrees_57 : decode (zcc mX3_agrees) 57 = .ok (.iinc 5 1, 3) := by decide +kernel
theorem dX3_agrees_60 : decode (zcc mX3_agrees) 60 = .ok (.goto (-33), 3) := by decide +kernel
theorem dX3_agrees_63 : decode (zcc mX3_agrees) 63 = .ok (.iconst 1, 1) := by decide +kernel
theorem dX3_agrees_64 : decode (zcc mX3_agrees) 64 = .ok (.ireturn, 1) := by decide +kernel
theorem dX3_isSame_0 : decode (zcc mX3_isSame) 0 = .ok (.aload_n 0, 1) := by decide +kernel
theorem dX3_isSame_1 : decode (zcc mX3_isSame) 1 = .ok (.getfield 15, 3) := by decide +kernel
theorem dX3_isSame_4 : decode (zcc mX3_isSame) 4 = .ok (.aload_n 1, 1) := by decide +kernel
theorem dX3_isSame_5 : decode (zcc mX3_isSame) 5 = .ok (.getfield 15, 3) := by decide +kernel
theorem dX3_isSame_8 : decode (zcc mX3_isSame) 8 = .ok (.if_icmp .ne 21, 3) := by decide +kernel
theorem dX3_isSame_11 : decode (zcc mX3_isSame) 11 = .ok (.aload_n 0, 1) := by decide +kernel
theorem dX3_isSame_12 : decode (zcc mX3_isSame) 12 = .ok (.iconst 0, 1) := by decide +kernel
theorem dX3_isSame_13 : decode (zcc mX3_isSame) 13 = .ok (.aload_n 1, 1) := by decide +kernel
theorem dX3_isSame_14 : decode (zcc mX3_isSame) 14 = .ok (.iconst 0, 1) := by decide +kernel
theorem dX3_isSame_15 : decode (zcc mX3_isSame) 15 = .ok (.aload_n 0, 1) := by decide +kernel
theorem dX3_isSame_16 : decode (zcc mX3_isSame) 16 = .ok (.getfield 15, 3) := by decide +kernel
theorem dX3_isSame_19 : decode (zcc mX3_isSame) 19 = .ok (.invokevirtual 44, 3) := by decide +kernel
theorem dX3_isSame_22 : decode (zcc mX3_isSame) 22 = .ok (.ifCond .eq 7, 3) := by decide +kernel
theorem dX3_isSame_25 : decode (zcc mX3_isSame) 25 = .ok (.iconst 1, 1) := by decide +kernel
theorem dX3_isSame_26 : decode (zcc mX3_isSame) 26 = .ok (.goto 4, 3) := by decide +kernel
theorem dX3_isSame_29 : decode (zcc mX3_isSame) 29 = .ok (.iconst 0, 1) := by decide +kernel
theorem dX3_isSame_30 : decode (zcc mX3_isSame) 30 = .ok (.ireturn, 1) := by decide +kernel
theorem dX3_placeOf_0 : decode (zcc mX3_placeOf) 0 = .ok (.iconst 0, 1) := by decide +kernel
theorem dX3_placeOf_1 : decode (zcc mX3_placeOf) 1 = .ok (.istore_n 2, 1) := by decide +kernel
theorem dX3_placeOf_2 : decode (zcc mX3_placeOf) 2 = .ok (.iload_n 2, 1) := by decide +kernel
theorem dX3_placeOf_3 : decode (zcc mX3_placeOf) 3 = .ok (.aload_n 1, 1) := by decide +kernel
theorem dX3_placeOf_4 : decode (zcc mX3_placeOf) 4 = .ok (.getfield 15, 3) := by decide +kernel
theorem dX3_placeOf_7 : decode (zcc mX3_placeOf) 7 = .ok (.iadd, 1) := by decide +kernel
theorem dX3_placeOf_8 : decode (zcc mX3_placeOf) 8 = .ok (.aload_n 0, 1) := by decide +kernel
theorem dX3_placeOf_9 : decode (zcc mX3_placeOf) 9 = .ok (.getfield 15, 3) := by decide +kernel
theorem dX3_placeOf_12 : decode (zcc mX3_placeOf) 12 = .ok (.if_icmp .gt 25, 3) := by decide +kernel
theorem dX3_placeOf_15 : decode (zcc mX3_placeOf) 15 = .ok (.aload_n 0, 1) := by decide +kernel
theorem dX3_placeOf_16 : decode (zcc mX3_placeOf) 16 = .ok (.iload_n 2, 1) := by decide +kernel
theorem dX3_placeOf_17 : decode (zcc mX3_placeOf) 17 = .ok (.aload_n 1, 1) := by decide +kernel
theorem dX3_placeOf_18 : decode (zcc mX3_placeOf) 18 = .ok (.iconst 0, 1) := by decide +kernel
theorem dX3_placeOf_19 : decode (zcc mX3_placeOf) 19 = .ok (.aload_n 1, 1) := by decide +kernel
theorem dX3_placeOf_20 : decode (zcc mX3_placeOf) 20 = .ok (.getfield 15, 3) := by decide +kernel
theorem dX3_placeOf_23 : decode (zcc mX3_placeOf) 23 = .ok (.invokevirtual 44, 3) := by decide +kernel
theorem dX3_placeOf_26 : decode (zcc mX3_placeOf) 26 = .ok (.ifCond .eq 5, 3) := by decide +kernel
theorem dX3_placeOf_29 : decode (zcc mX3_placeOf) 29 = .ok (.iload_n 2, 1) := by decide +kernel
theorem dX3_placeOf_30 : decode (zcc mX3_placeOf) 30 = .ok (.ireturn, 1) := by decide +kernel
theorem dX3_placeOf_31 : decode (zcc mX3_placeOf) 31 = .ok (.iinc 2 1, 3) := by decide +kernel
theorem dX3_placeOf_34 : decode (zcc mX3_placeOf) 34 = .ok (.goto (-32), 3) := by decide +kernel
theorem dX3_placeOf_37 : decode (zcc mX3_placeOf) 37 = .ok (.iconst (-1), 1) := by decide +kernel
theorem dX3_placeOf_38 : decode (zcc mX3_placeOf) 38 = .ok (.ireturn, 1) := by decide +kernel
theorem dX3_isBefore_0 : decode (zcc mX3_isBefore) 0 = .ok (.iconst 0, 1) := by decide +kernel
theorem dX3_isBefore_1 : decode (zcc mX3_isBefore) 1 = .ok (.istore_n 2, 1) := by decide +kernel
theorem dX3_isBefore_2 : decode (zcc mX3_isBefore) 2 = .ok (.iload_n 2, 1) := by decide +kernel
theorem dX3_isBefore_3 : decode (zcc mX3_isBefore) 3 = .ok (.aload_n 0, 1) := by decide +kernel
theorem dX3_isBefore_4 : decode (zcc mX3_isBefore) 4 = .ok (.getfield 15, 3) := by decide +kernel
theorem dX3_isBefore_7 : decode (zcc mX3_isBefore) 7 = .ok (.if_icmp .ge 53, 3) := by decide +kernel
theorem dX3_isBefore_10 : decode (zcc mX3_isBefore) 10 = .ok (.iload_n 2, 1) := by decide +kernel
theorem dX3_isBefore_11 : decode (zcc mX3_isBefore) 11 = .ok (.aload_n 1, 1) := by decide +kernel
theorem dX3_isBefore_12 : decode (zcc mX3_isBefore) 12 = .ok (.getfield 15, 3) := by decide +kernel
theorem dX3_isBefore_15 : decode (zcc mX3_isBefore) 15 = .ok (.if_icmp .ge 45, 3) := by decide +kernel
theorem dX3_isBefore_18 : decode (zcc mX3_isBefore) 18 = .ok (.aload_n 0, 1) := by decide +kernel
theorem dX3_isBefore_19 : decode (zcc mX3_isBefore) 19 = .ok (.getfield 9, 3) := by decide +kernel
theorem dX3_isBefore_22 : decode (zcc mX3_isBefore) 22 = .ok (.iload_n 2, 1) := by decide +kernel
theorem dX3_isBefore_23 : decode (zcc mX3_isBefore) 23 = .ok (.iaload, 1) := by decide +kernel
theorem dX3_isBefore_24 : decode (zcc mX3_isBefore) 24 = .ok (.aload_n 1, 1) := by decide +kernel
theorem dX3_isBefore_25 : decode (zcc mX3_isBefore) 25 = .ok (.getfield 9, 3) := by decide +kernel
theorem dX3_isBefore_28 : decode (zcc mX3_isBefore) 28 = .ok (.iload_n 2, 1) := by decide +kernel
theorem dX3_isBefore_29 : decode (zcc mX3_isBefore) 29 = .ok (.iaload, 1) := by decide +kernel
theorem dX3_isBefore_30 : decode (zcc mX3_isBefore) 30 = .ok (.if_icmp .eq 24, 3) := by decide +kernel
theorem dX3_isBefore_33 : decode (zcc mX3_isBefore) 33 = .ok (.aload_n 0, 1) := by decide +kernel
theorem dX3_isBefore_34 : decode (zcc mX3_isBefore) 34 = .ok (.getfield 9, 3) := by decide +kernel
theorem dX3_isBefore_37 : decode (zcc mX3_isBefore) 37 = .ok (.iload_n 2, 1) := by decide +kernel
theorem dX3_isBefore_38 : decode (zcc mX3_isBefore) 38 = .ok (.iaload, 1) := by decide +kernel
theorem dX3_isBefore_39 : decode (zcc mX3_isBefore) 39 = .ok (.aload_n 1, 1) := by decide +kernel
theorem dX3_isBefore_40 : decode (zcc mX3_isBefore) 40 = .ok (.getfield 9, 3) := by decide +kernel
theorem dX3_isBefore_43 : decode (zcc mX3_isBefore) 43 = .ok (.iload_n 2, 1) := by decide +kernel
theorem dX3_isBefore_44 : decode (zcc mX3_isBefore) 44 = .ok (.iaload, 1) := by decide +kernel
theorem dX3_isBefore_45 : decode (zcc mX3_isBefore) 45 = .ok (.if_icmp .ge 7, 3) := by decide +kernel
theorem dX3_isBefore_48 : decode (zcc mX3_isBefore) 48 = .ok (.iconst 1, 1) := by decide +kernel
theorem dX3_isBefore_49 : decode (zcc mX3_isBefore) 49 = .ok (.goto 4, 3) := by decide +kernel
theorem dX3_isBefore_52 : decode (zcc mX3_isBefore) 52 = .ok (.iconst 0, 1) := by decide +kernel
theorem dX3_isBefore_53 : decode (zcc mX3_isBefore) 53 = .ok (.ireturn, 1) := by decide +kernel
theorem dX3_isBefore_54 : decode (zcc mX3_isBefore) 54 = .ok (.iinc 2 1, 3) := by decide +kernel
theorem dX3_isBefore_57 : decode (zcc mX3_isBefore) 57 = .ok (.goto (-55), 3) := by decide +kernel
theorem dX3_isBefore_60 : decode (zcc mX3_isBefore) 60 = .ok (.aload_n 0, 1) := by decide +kernel
theorem dX3_isBefore_61 : decode (zcc mX3_isBefore) 61 = .ok (.getfield 15, 3) := by decide +kernel
theorem dX3_isBefore_64 : decode (zcc mX3_isBefore) 64 = .ok (.aload_n 1, 1) := by decide +kernel
theorem dX3_isBefore_65 : decode (zcc mX3_isBefore) 65 = .ok (.getfield 15, 3) := by decide +kernel
theorem dX3_isBefore_68 : decode (zcc mX3_isBefore) 68 = .ok (.if_icmp .ge 7, 3) := by decide +kernel
theorem dX3_isBefore_71 : decode (zcc mX3_isBefore) 71 = .ok (.iconst 1, 1) := by decide +kernel
theorem dX3_isBefore_72 : decode (zcc mX3_isBefore) 72 = .ok (.goto 4, 3) := by decide +kernel
theorem dX3_isBefore_75 : decode (zcc mX3_isBefore) 75 = .ok (.iconst 0, 1) := by decide +kernel
theorem dX3_isBefore_76 : decode (zcc mX3_isBefore) 76 = .ok (.ireturn, 1) := by decide +kernel
theorem dX3_hasSum_0 : decode (zcc mX3_hasSum) 0 = .ok (.iconst 0, 1) := by decide +kernel
theorem dX3_hasSum_1 : decode (zcc mX3_hasSum) 1 = .ok (.istore_n 3, 1) := by decide +kernel
theorem dX3_hasSum_2 : decode (zcc mX3_hasSum) 2 = .ok (.iconst 0, 1) := by decide +kernel
theorem dX3_hasSum_3 : decode (zcc mX3_hasSum) 3 = .ok (.istore 4, 2) := by decide +kernel
theorem dX3_hasSum_5 : decode (zcc mX3_hasSum) 5 = .ok (.iload 4, 2) := by decide +kernel
theorem dX3_hasSum_7 : decode (zcc mX3_hasSum) 7 = .ok (.aload_n 0, 1) := by decide +kernel
theorem dX3_hasSum_8 : decode (zcc mX3_hasSum) 8 = .ok (.getfield 15, 3) := by decide +kernel
theorem dX3_hasSum_11 : decode (zcc mX3_hasSum) 11 = .ok (.if_icmp .ge 24, 3) := by decide +kernel
theorem dX3_hasSum_14 : decode (zcc mX3_hasSum) 14 = .ok (.bipush 31, 2) := by decide +kernel
theorem dX3_hasSum_16 : decode (zcc mX3_hasSum) 16 = .ok (.iload_n 3, 1) := by decide +kernel
theorem dX3_hasSum_17 : decode (zcc mX3_hasSum) 17 = .ok (.imul, 1) := by decide +kernel
theorem dX3_hasSum_18 : decode (zcc mX3_hasSum) 18 = .ok (.aload_n 0, 1) := by decide +kernel
theorem dX3_hasSum_19 : decode (zcc mX3_hasSum) 19 = .ok (.getfield 9, 3) := by decide +kernel
theorem dX3_hasSum_22 : decode (zcc mX3_hasSum) 22 = .ok (.iload 4, 2) := by decide +kernel
theorem dX3_hasSum_24 : decode (zcc mX3_hasSum) 24 = .ok (.iaload, 1) := by decide +kernel
theorem dX3_hasSum_25 : decode (zcc mX3_hasSum) 25 = .ok (.iadd, 1) := by decide +kernel
theorem dX3_hasSum_26 : decode (zcc mX3_hasSum) 26 = .ok (.iconst 1, 1) := by decide +kernel
theorem dX3_hasSum_27 : decode (zcc mX3_hasSum) 27 = .ok (.iadd, 1) := by decide +kernel
theorem dX3_hasSum_28 : decode (zcc mX3_hasSum) 28 = .ok (.istore_n 3, 1) := by decide +kernel
theorem dX3_hasSum_29 : decode (zcc mX3_hasSum) 29 = .ok (.iinc 4 1, 3) := by decide +kernel
theorem dX3_hasSum_32 : decode (zcc mX3_hasSum) 32 = .ok (.goto (-27), 3) := by decide +kernel
theorem dX3_hasSum_35 : decode (zcc mX3_hasSum) 35 = .ok (.iload_n 1, 1) := by decide +kernel
theorem dX3_hasSum_36 : decode (zcc mX3_hasSum) 36 = .ok (.ifCond .le 16, 3) := by decide +kernel
theorem dX3_hasSum_39 : decode (zcc mX3_hasSum) 39 = .ok (.iload_n 3, 1) := by decide +kernel
