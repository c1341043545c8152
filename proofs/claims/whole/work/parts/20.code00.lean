theorem dX0_init_0 : decode (zcc mX0_init) 0 = .ok (.aload_n 0, 1) := by decide +kernel
theorem dX0_init_1 : decode (zcc mX0_init) 1 = .ok (.invokespecial 3, 3) := by decide +kernel
theorem dX0_init_4 : decode (zcc mX0_init) 4 = .ok (.aload_n 0, 1) := by decide +kernel
theorem dX0_init_5 : decode (zcc mX0_init) 5 = .ok (.bipush 125, 2) := by decide +kernel
theorem dX0_init_7 : decode (zcc mX0_init) 7 = .ok (.newarray .long, 2) := by decide +kernel
theorem dX0_init_9 : decode (zcc mX0_init) 9 = .ok (.putfield 9, 3) := by decide +kernel
theorem dX0_init_12 : decode (zcc mX0_init) 12 = .ok (.aload_n 0, 1) := by decide +kernel
theorem dX0_init_13 : decode (zcc mX0_init) 13 = .ok (.bipush 125, 2) := by decide +kernel
theorem dX0_init_15 : decode (zcc mX0_init) 15 = .ok (.newarray .long, 2) := by decide +kernel
theorem dX0_init_17 : decode (zcc mX0_init) 17 = .ok (.putfield 15, 3) := by decide +kernel
theorem dX0_init_20 : decode (zcc mX0_init) 20 = .ok (.return_, 1) := by decide +kernel
theorem dX0_restart_0 : decode (zcc mX0_restart) 0 = .ok (.aload_n 0, 1) := by decide +kernel
theorem dX0_restart_1 : decode (zcc mX0_restart) 1 = .ok (.iload_n 1, 1) := by decide +kernel
theorem dX0_restart_2 : decode (zcc mX0_restart) 2 = .ok (.putfield 18, 3) := by decide +kernel
theorem dX0_restart_5 : decode (zcc mX0_restart) 5 = .ok (.aload_n 0, 1) := by decide +kernel
theorem dX0_restart_6 : decode (zcc mX0_restart) 6 = .ok (.iload_n 2, 1) := by decide +kernel
theorem dX0_restart_7 : decode (zcc mX0_restart) 7 = .ok (.putfield 22, 3) := by decide +kernel
theorem dX0_restart_10 : decode (zcc mX0_restart) 10 = .ok (.aload_n 0, 1) := by decide +kernel
theorem dX0_restart_11 : decode (zcc mX0_restart) 11 = .ok (.iload_n 3, 1) := by decide +kernel
theorem dX0_restart_12 : decode (zcc mX0_restart) 12 = .ok (.putfield 25, 3) := by decide +kernel
theorem dX0_restart_15 : decode (zcc mX0_restart) 15 = .ok (.aload_n 0, 1) := by decide +kernel
theorem dX0_restart_16 : decode (zcc mX0_restart) 16 = .ok (.iload 4, 2) := by decide +kernel
theorem dX0_restart_18 : decode (zcc mX0_restart) 18 = .ok (.putfield 28, 3) := by decide +kernel
theorem dX0_restart_21 : decode (zcc mX0_restart) 21 = .ok (.aload_n 0, 1) := by decide +kernel
theorem dX0_restart_22 : decode (zcc mX0_restart) 22 = .ok (.iload 5, 2) := by decide +kernel
theorem dX0_restart_24 : decode (zcc mX0_restart) 24 = .ok (.putfield 31, 3) := by decide +kernel
theorem dX0_restart_27 : decode (zcc mX0_restart) 27 = .ok (.aload_n 0, 1) := by decide +kernel
theorem dX0_restart_28 : decode (zcc mX0_restart) 28 = .ok (.iconst 0, 1) := by decide +kernel
theorem dX0_restart_29 : decode (zcc mX0_restart) 29 = .ok (.putfield 34, 3) := by decide +kernel
theorem dX0_restart_32 : decode (zcc mX0_restart) 32 = .ok (.aload_n 0, 1) := by decide +kernel
theorem dX0_restart_33 : decode (zcc mX0_restart) 33 = .ok (.iconst 0, 1) := by decide +kernel
theorem dX0_restart_34 : decode (zcc mX0_restart) 34 = .ok (.putfield 38, 3) := by decide +kernel
theorem dX0_restart_37 : decode (zcc mX0_restart) 37 = .ok (.aload_n 0, 1) := by decide +kernel
theorem dX0_restart_38 : decode (zcc mX0_restart) 38 = .ok (.invokevirtual 41, 3) := by decide +kernel
theorem dX0_restart_41 : decode (zcc mX0_restart) 41 = .ok (.return_, 1) := by decide +kernel
theorem dX0_forget_0 : decode (zcc mX0_forget) 0 = .ok (.aload_n 0, 1) := by decide +kernel
theorem dX0_forget_1 : decode (zcc mX0_forget) 1 = .ok (.getfield 9, 3) := by decide +kernel
theorem dX0_forget_4 : decode (zcc mX0_forget) 4 = .ok (.lconst 0, 1) := by decide +kernel
theorem dX0_forget_5 : decode (zcc mX0_forget) 5 = .ok (.invokestatic 44, 3) := by decide +kernel
theorem dX0_forget_8 : decode (zcc mX0_forget) 8 = .ok (.aload_n 0, 1) := by decide +kernel
theorem dX0_forget_9 : decode (zcc mX0_forget) 9 = .ok (.getfield 15, 3) := by decide +kernel
theorem dX0_forget_12 : decode (zcc mX0_forget) 12 = .ok (.lconst 0, 1) := by decide +kernel
theorem dX0_forget_13 : decode (zcc mX0_forget) 13 = .ok (.invokestatic 44, 3) := by decide +kernel
theorem dX0_forget_16 : decode (zcc mX0_forget) 16 = .ok (.return_, 1) := by decide +kernel
theorem dX0_isJudged_0 : decode (zcc mX0_isJudged) 0 = .ok (.aload_n 0, 1) := by decide +kernel
theorem dX0_isJudged_1 : decode (zcc mX0_isJudged) 1 = .ok (.getfield 9, 3) := by decide +kernel
theorem dX0_isJudged_4 : decode (zcc mX0_isJudged) 4 = .ok (.iload_n 1, 1) := by decide +kernel
theorem dX0_isJudged_5 : decode (zcc mX0_isJudged) 5 = .ok (.invokestatic 50, 3) := by decide +kernel
theorem dX0_isJudged_8 : decode (zcc mX0_isJudged) 8 = .ok (.ireturn, 1) := by decide +kernel
theorem dX0_isSoIn_0 : decode (zcc mX0_isSoIn) 0 = .ok (.aload_n 0, 1) := by decide +kernel
theorem dX0_isSoIn_1 : decode (zcc mX0_isSoIn) 1 = .ok (.getfield 15, 3) := by decide +kernel
theorem dX0_isSoIn_4 : decode (zcc mX0_isSoIn) 4 = .ok (.iload_n 1, 1) := by decide +kernel
theorem dX0_isSoIn_5 : decode (zcc mX0_isSoIn) 5 = .ok (.invokestatic 50, 3) := by decide +kernel
theorem dX0_isSoIn_8 : decode (zcc mX0_isSoIn) 8 = .ok (.ireturn, 1) := by decide +kernel
theorem dX0_isBit_0 : decode (zcc mX0_isBit) 0 = .ok (.iload_n 1, 1) := by decide +kernel
theorem dX0_isBit_1 : decode (zcc mX0_isBit) 1 = .ok (.bipush 64, 2) := by decide +kernel
theorem dX0_isBit_3 : decode (zcc mX0_isBit) 3 = .ok (.idiv, 1) := by decide +kernel
theorem dX0_isBit_4 : decode (zcc mX0_isBit) 4 = .ok (.istore_n 2, 1) := by decide +kernel
theorem dX0_isBit_5 : decode (zcc mX0_isBit) 5 = .ok (.iload_n 2, 1) := by decide +kernel
theorem dX0_isBit_6 : decode (zcc mX0_isBit) 6 = .ok (.ifCond .lt 28, 3) := by decide +kernel
theorem dX0_isBit_9 : decode (zcc mX0_isBit) 9 = .ok (.iload_n 2, 1) := by decide +kernel
theorem dX0_isBit_10 : decode (zcc mX0_isBit) 10 = .ok (.aload_n 0, 1) := by decide +kernel
theorem dX0_isBit_11 : decode (zcc mX0_isBit) 11 = .ok (.arraylength, 1) := by decide +kernel
theorem dX0_isBit_12 : decode (zcc mX0_isBit) 12 = .ok (.if_icmp .ge 22, 3) := by decide +kernel
theorem dX0_isBit_15 : decode (zcc mX0_isBit) 15 = .ok (.aload_n 0, 1) := by decide +kernel
theorem dX0_isBit_16 : decode (zcc mX0_isBit) 16 = .ok (.iload_n 2, 1) := by decide +kernel
theorem dX0_isBit_17 : decode (zcc mX0_isBit) 17 = .ok (.laload, 1) := by decide +kernel
theorem dX0_isBit_18 : decode (zcc mX0_isBit) 18 = .ok (.iload_n 1, 1) := by decide +kernel
theorem dX0_isBit_19 : decode (zcc mX0_isBit) 19 = .ok (.bipush 64, 2) := by decide +kernel
theorem dX0_isBit_21 : decode (zcc mX0_isBit) 21 = .ok (.irem, 1) := by decide +kernel
theorem dX0_isBit_22 : decode (zcc mX0_isBit) 22 = .ok (.lushr, 1) := by decide +kernel
theorem dX0_isBit_23 : decode (zcc mX0_isBit) 23 = .ok (.lconst 1, 1) := by decide +kernel
theorem dX0_isBit_24 : decode (zcc mX0_isBit) 24 = .ok (.land, 1) := by decide +kernel
theorem dX0_isBit_25 : decode (zcc mX0_isBit) 25 = .ok (.lconst 0, 1) := by decide +kernel
theorem dX0_isBit_26 : decode (zcc mX0_isBit) 26 = .ok (.lcmp, 1) := by decide +kernel
theorem dX0_isBit_27 : decode (zcc mX0_isBit) 27 = .ok (.ifCond .eq 7, 3) := by decide +kernel
theorem dX0_isBit_30 : decode (zcc mX0_isBit) 30 = .ok (.iconst 1, 1) := by decide +kernel
theorem dX0_isBit_31 : decode (zcc mX0_isBit) 31 = .ok (.goto 4, 3) := by decide +kernel
theorem dX0_isBit_34 : decode (zcc mX0_isBit) 34 = .ok (.iconst 0, 1) := by decide +kernel
theorem dX0_isBit_35 : decode (zcc mX0_isBit) 35 = .ok (.ireturn, 1) := by decide +kernel
theorem dX0_keep_0 : decode (zcc mX0_keep) 0 = .ok (.iload_n 1, 1) := by decide +kernel
theorem dX0_keep_1 : decode (zcc mX0_keep) 1 = .ok (.bipush 64, 2) := by decide +kernel
theorem dX0_keep_3 : decode (zcc mX0_keep) 3 = .ok (.idiv, 1) := by decide +kernel
theorem dX0_keep_4 : decode (zcc mX0_keep) 4 = .ok (.istore_n 3, 1) := by decide +kernel
theorem dX0_keep_5 : decode (zcc mX0_keep) 5 = .ok (.iload_n 3, 1) := by decide +kernel
theorem dX0_keep_6 : decode (zcc mX0_keep) 6 = .ok (.ifCond .lt 47, 3) := by decide +kernel
theorem dX0_keep_9 : decode (zcc mX0_keep) 9 = .ok (.iload_n 3, 1) := by decide +kernel
theorem dX0_keep_10 : decode (zcc mX0_keep) 10 = .ok (.bipush 125, 2) := by decide +kernel
theorem dX0_keep_12 : decode (zcc mX0_keep) 12 = .ok (.if_icmp .ge 41, 3) := by decide +kernel
theorem dX0_keep_15 : decode (zcc mX0_keep) 15 = .ok (.aload_n 0, 1) := by decide +kernel
theorem dX0_keep_16 : decode (zcc mX0_keep) 16 = .ok (.getfield 9, 3) := by decide +kernel
theorem dX0_keep_19 : decode (zcc mX0_keep) 19 = .ok (.iload_n 3, 1) := by decide +kernel
theorem dX0_keep_20 : decode (zcc mX0_keep) 20 = .ok (.dup2, 1) := by decide +kernel
theorem dX0_keep_21 : decode (zcc mX0_keep) 21 = .ok (.laload, 1) := by decide +kernel
theorem dX0_keep_22 : decode (zcc mX0_keep) 22 = .ok (.lconst 1, 1) := by decide +kernel
theorem dX0_keep_23 : decode (zcc mX0_keep) 23 = .ok (.iload_n 1, 1) := by decide +kernel
theorem dX0_keep_24 : decode (zcc mX0_keep) 24 = .ok (.bipush 64, 2) := by decide +kernel
theorem dX0_keep_26 : decode (zcc mX0_keep) 26 = .ok (.irem, 1) := by decide +kernel
theorem dX0_keep_27 : decode (zcc mX0_keep) 27 = .ok (.lshl, 1) := by decide +kernel
theorem dX0_keep_28 : decode (zcc mX0_keep) 28 = .ok (.lor, 1) := by decide +kernel
theorem dX0_keep_29 : decode (zcc mX0_keep) 29 = .ok (.lastore, 1) := by decide +kernel
theorem dX0_keep_30 : decode (zcc mX0_keep) 30 = .ok (.aload_n 0, 1) := by decide +kernel
theorem dX0_keep_31 : decode (zcc mX0_keep) 31 = .ok (.getfield 15, 3) := by decide +kernel
theorem dX0_keep_34 : decode (zcc mX0_keep) 34 = .ok (.iload_n 3, 1) := by decide +kernel
theorem dX0_keep_35 : decode (zcc mX0_keep) 35 = .ok (.dup2, 1) := by decide +kernel
theorem dX0_keep_36 : decode (zcc mX0_keep) 36 = .ok (.laload, 1) := by decide +kernel
theorem dX0_keep_37 : decode (zcc mX0_keep) 37 = .ok (.iload_n 2, 1) := by decide +kernel
theorem dX0_keep_38 : decode (zcc mX0_keep) 38 = .ok (.ifCond .eq 7, 3) := by decide +kernel
theorem dX0_keep_41 : decode (zcc mX0_keep) 41 = .ok (.lconst 1, 1) := by decide +kernel
theorem dX0_keep_42 : decode (zcc mX0_keep) 42 = .ok (.goto 4, 3) := by decide +kernel
theorem dX0_keep_45 : decode (zcc mX0_keep) 45 = .ok (.lconst 0, 1) := by decide +kernel
theorem dX0_keep_46 : decode (zcc mX0_keep) 46 = .ok (.iload_n 1, 1) := by decide +kernel
theorem dX0_keep_47 : decode (zcc mX0_keep) 47 = .ok (.bipush 64, 2) := by decide +kernel
theorem dX0_keep_49 : decode (zcc mX0_keep) 49 = .ok (.irem, 1) := by decide +kernel
theorem dX0_keep_50 : decode (zcc mX0_keep) 50 = .ok (.lshl, 1) := by decide +kernel
theorem dX0_keep_51 : decode (zcc mX0_keep) 51 = .ok (.lor, 1) := by decide +kernel
theorem dX0_keep_52 : decode (zcc mX0_keep) 52 = .ok (.lastore, 1) := by decide +kernel
theorem dX0_keep_53 : decode (zcc mX0_keep) 53 = .ok (.return_, 1) := by decide +kernel
theorem dX0_ruledOut_0 : decode (zcc mX0_ruledOut) 0 = .ok (.iload_n 1, 1) := by decide +kernel
theorem dX0_ruledOut_1 : decode (zcc mX0_ruledOut) 1 = .ok (.ifCond .lt 9, 3) := by decide +kernel
theorem dX0_ruledOut_4 : decode (zcc mX0_ruledOut) 4 = .ok (.iload_n 1, 1) := by decide +kernel
theorem dX0_ruledOut_5 : decode (zcc mX0_ruledOut) 5 = .ok (.bipush 125, 2) := by decide +kernel
theorem dX0_ruledOut_7 : decode (zcc mX0_ruledOut) 7 = .ok (.if_icmp .lt 5, 3) := by decide +kernel
theorem dX0_ruledOut_10 : decode (zcc mX0_ruledOut) 10 = .ok (.lconst 0, 1) := by decide +kernel
theorem dX0_ruledOut_11 : decode (zcc mX0_ruledOut) 11 = .ok (.lreturn, 1) := by decide +kernel
theorem dX0_ruledOut_12 : decode (zcc mX0_ruledOut) 12 = .ok (.aload_n 0, 1) := by decide +kernel
theorem dX0_ruledOut_13 : decode (zcc mX0_ruledOut) 13 = .ok (.getfield 9, 3) := by decide +kernel
theorem dX0_ruledOut_16 : decode (zcc mX0_ruledOut) 16 = .ok (.iload_n 1, 1) := by decide +kernel
theorem dX0_ruledOut_17 : decode (zcc mX0_ruledOut) 17 = .ok (.laload, 1) := by decide +kernel
theorem dX0_ruledOut_18 : decode (zcc mX0_ruledOut) 18 = .ok (.aload_n 0, 1) := by decide +kernel
theorem dX0_ruledOut_19 : decode (zcc mX0_ruledOut) 19 = .ok (.getfield 34, 3) := by decide +kernel
theorem dX0_ruledOut_22 : decode (zcc mX0_ruledOut) 22 = .ok (.ifCond .eq 12, 3) := by decide +kernel
theorem dX0_ruledOut_25 : decode (zcc mX0_ruledOut) 25 = .ok (.aload_n 0, 1) := by decide +kernel
theorem dX0_ruledOut_26 : decode (zcc mX0_ruledOut) 26 = .ok (.getfield 15, 3) := by decide +kernel
theorem dX0_ruledOut_29 : decode (zcc mX0_ruledOut) 29 = .ok (.iload_n 1, 1) := by decide +kernel
theorem dX0_ruledOut_30 : decode (zcc mX0_ruledOut) 30 = .ok (.laload, 1) := by decide +kernel
theorem dX0_ruledOut_31 : decode (zcc mX0_ruledOut) 31 = .ok (.goto 13, 3) := by decide +kernel
theorem dX0_ruledOut_34 : decode (zcc mX0_ruledOut) 34 = .ok (.aload_n 0, 1) := by decide +kernel
theorem dX0_ruledOut_35 : decode (zcc mX0_ruledOut) 35 = .ok (.getfield 15, 3) := by decide +kernel
theorem dX0_ruledOut_38 : decode (zcc mX0_ruledOut) 38 = .ok (.iload_n 1, 1) := by decide +kernel
theorem dX0_ruledOut_39 : decode (zcc mX0_ruledOut) 39 = .ok (.laload, 1) := by decide +kernel
theorem dX0_ruledOut_40 : decode (zcc mX0_ruledOut) 40 = .ok (.ldc2_w 54, 3) := by decide +kernel
theorem dX0_ruledOut_43 : decode (zcc mX0_ruledOut) 43 = .ok (.lxor, 1) := by decide +kernel
theorem dX0_ruledOut_44 : decode (zcc mX0_ruledOut) 44 = .ok (.land, 1) := by decide +kernel
theorem dX0_ruledOut_45 : decode (zcc mX0_ruledOut) 45 = .ok (.lreturn, 1) := by decide +kernel
theorem dX0_notJudged_0 : decode (zcc mX0_notJudged) 0 = .ok (.iload_n 1, 1) := by decide +kernel
theorem dX0_notJudged_1 : decode (zcc mX0_notJudged) 1 = .ok (.ifCond .lt 9, 3) := by decide +kernel
theorem dX0_notJudged_4 : decode (zcc mX0_notJudged) 4 = .ok (.iload_n 1, 1) := by decide +kernel
theorem dX0_notJudged_5 : decode (zcc mX0_notJudged) 5 = .ok (.bipush 125, 2) := by decide +kernel
theorem dX0_notJudged_7 : decode (zcc mX0_notJudged) 7 = .ok (.if_icmp .lt 7, 3) := by decide +kernel
theorem dX0_notJudged_10 : decode (zcc mX0_notJudged) 10 = .ok (.lconst 0, 1) := by decide +kernel
theorem dX0_notJudged_11 : decode (zcc mX0_notJudged) 11 = .ok (.goto 13, 3) := by decide +kernel
theorem dX0_notJudged_14 : decode (zcc mX0_notJudged) 14 = .ok (.aload_n 0, 1) := by decide +kernel
theorem dX0_notJudged_15 : decode (zcc mX0_notJudged) 15 = .ok (.getfield 9, 3) := by decide +kernel
theorem dX0_notJudged_18 : decode (zcc mX0_notJudged) 18 = .ok (.iload_n 1, 1) := by decide +kernel
theorem dX0_notJudged_19 : decode (zcc mX0_notJudged) 19 = .ok (.laload, 1) := by decide +kernel
theorem dX0_notJudged_20 : decode (zcc mX0_notJudged) 20 = .ok (.ldc2_w 54, 3) := by decide +kernel
theorem dX0_notJudged_23 : decode (zcc mX0_notJudged) 23 = .ok (.lxor, 1) := by decide +kernel
theorem dX0_notJudged_24 : decode (zcc mX0_notJudged) 24 = .ok (.lreturn, 1) := by decide +kernel
theorem dX0_hasSecondTerm_0 : decode (zcc mX0_hasSecondTerm) 0 = .ok (.aload_n 0, 1) := by decide +kernel
theorem dX0_hasSecondTerm_1 : decode (zcc mX0_hasSecondTerm) 1 = .ok (.getfield 18, 3) := by decide +kernel
theorem dX0_hasSecondTerm_4 : decode (zcc mX0_hasSecondTerm) 4 = .ok (.iconst 2, 1) := by decide +kernel
theorem dX0_hasSecondTerm_5 : decode (zcc mX0_hasSecondTerm) 5 = .ok (.if_icmp .eq 15, 3) := by decide +kernel
theorem dX0_hasSecondTerm_8 : decode (zcc mX0_hasSecondTerm) 8 = .ok (.aload_n 0, 1) := by decide +kernel
theorem dX0_hasSecondTerm_9 : decode (zcc mX0_hasSecondTerm) 9 = .ok (.getfield 18, 3) := by decide +kernel
theorem dX0_hasSecondTerm_12 : decode (zcc mX0_hasSecondTerm) 12 = .ok (.iconst 5, 1) := by decide +kernel
theorem dX0_hasSecondTerm_13 : decode (zcc mX0_hasSecondTerm) 13 = .ok (.if_icmp .eq 7, 3) := by decide +kernel
theorem dX0_hasSecondTerm_16 : decode (zcc mX0_hasSecondTerm) 16 = .ok (.iconst 1, 1) := by decide +kernel
theorem dX0_hasSecondTerm_17 : decode (zcc mX0_hasSecondTerm) 17 = .ok (.goto 4, 3) := by decide +kernel
theorem dX0_hasSecondTerm_20 : decode (zcc mX0_hasSecondTerm) 20 = .ok (.iconst 0, 1) := by decide +kernel
theorem dX0_hasSecondTerm_21 : decode (zcc mX0_hasSecondTerm) 21 = .ok (.ireturn, 1) := by decide +kernel
theorem dX0_isAboutTerm_0 : decode (zcc mX0_isAboutTerm) 0 = .ok (.aload_n 0, 1) := by decide +kernel
theorem dX0_isAboutTerm_1 : decode (zcc mX0_isAboutTerm) 1 = .ok (.getfield 22, 3) := by decide +kernel
theorem dX0_isAboutTerm_4 : decode (zcc mX0_isAboutTerm) 4 = .ok (.iload_n 1, 1) := by decide +kernel
theorem dX0_isAboutTerm_5 : decode (zcc mX0_isAboutTerm) 5 = .ok (.if_icmp .eq 43, 3) := by decide +kernel
theorem dX0_isAboutTerm_8 : decode (zcc mX0_isAboutTerm) 8 = .ok (.aload_n 0, 1) := by decide +kernel
theorem dX0_isAboutTerm_9 : decode (zcc mX0_isAboutTerm) 9 = .ok (.invokevirtual 56, 3) := by decide +kernel
theorem dX0_isAboutTerm_12 : decode (zcc mX0_isAboutTerm) 12 = .ok (.ifCond .eq 11, 3) := by decide +kernel
theorem dX0_isAboutTerm_15 : decode (zcc mX0_isAboutTerm) 15 = .ok (.aload_n 0, 1) := by decide +kernel
theorem dX0_isAboutTerm_16 : decode (zcc mX0_isAboutTerm) 16 = .ok (.getfield 25, 3) := by decide +kernel
theorem dX0_isAboutTerm_19 : decode (zcc mX0_isAboutTerm) 19 = .ok (.iload_n 1, 1) := by decide +kernel
theorem dX0_isAboutTerm_20 : decode (zcc mX0_isAboutTerm) 20 = .ok (.if_icmp .eq 28, 3) := by decide +kernel
theorem dX0_isAboutTerm_23 : decode (zcc mX0_isAboutTerm) 23 = .ok (.aload_n 0, 1) := by decide +kernel
theorem dX0_isAboutTerm_24 : decode (zcc mX0_isAboutTerm) 24 = .ok (.getfield 18, 3) := by decide +kernel
theorem dX0_isAboutTerm_27 : decode (zcc mX0_isAboutTerm) 27 = .ok (.bipush 6, 2) := by decide +kernel
theorem dX0_isAboutTerm_29 : decode (zcc mX0_isAboutTerm) 29 = .ok (.if_icmp .ne 23, 3) := by decide +kernel
theorem dX0_isAboutTerm_32 : decode (zcc mX0_isAboutTerm) 32 = .ok (.aload_n 0, 1) := by decide +kernel
theorem dX0_isAboutTerm_33 : decode (zcc mX0_isAboutTerm) 33 = .ok (.getfield 28, 3) := by decide +kernel
theorem dX0_isAboutTerm_36 : decode (zcc mX0_isAboutTerm) 36 = .ok (.iload_n 1, 1) := by decide +kernel
theorem dX0_isAboutTerm_37 : decode (zcc mX0_isAboutTerm) 37 = .ok (.if_icmp .eq 11, 3) := by decide +kernel
theorem dX0_isAboutTerm_40 : decode (zcc mX0_isAboutTerm) 40 = .ok (.aload_n 0, 1) := by decide +kernel
theorem dX0_isAboutTerm_41 : decode (zcc mX0_isAboutTerm) 41 = .ok (.getfield 31, 3) := by decide +kernel
theorem dX0_isAboutTerm_44 : decode (zcc mX0_isAboutTerm) 44 = .ok (.iload_n 1, 1) := by decide +kernel
theorem dX0_isAboutTerm_45 : decode (zcc mX0_isAboutTerm) 45 = .ok (.if_icmp .ne 7, 3) := by decide +kernel
theorem dX0_isAboutTerm_48 : decode (zcc mX0_isAboutTerm) 48 = .ok (.iconst 1, 1) := by decide +kernel
theorem dX0_isAboutTerm_49 : decode (zcc mX0_isAboutTerm) 49 = .ok (.goto 4, 3) := by decide +kernel
theorem dX0_isAboutTerm_52 : decode (zcc mX0_isAboutTerm) 52 = .ok (.iconst 0, 1) := by decide +kernel
theorem dX0_isAboutTerm_53 : decode (zcc mX0_isAboutTerm) 53 = .ok (.ireturn, 1) := by decide +kernel
theorem dX0_isAboutMachine_0 : decode (zcc mX0_isAboutMachine) 0 = .ok (.aload_n 0, 1) := by decide +kernel
theorem dX0_isAboutMachine_1 : decode (zcc mX0_isAboutMachine) 1 = .ok (.getfield 18, 3) := by decide +kernel
theorem dX0_isAboutMachine_4 : decode (zcc mX0_isAboutMachine) 4 = .ok (.iconst 2, 1) := by decide +kernel
theorem dX0_isAboutMachine_5 : decode (zcc mX0_isAboutMachine) 5 = .ok (.if_icmp .ne 15, 3) := by decide +kernel
theorem dX0_isAboutMachine_8 : decode (zcc mX0_isAboutMachine) 8 = .ok (.aload_n 0, 1) := by decide +kernel
theorem dX0_isAboutMachine_9 : decode (zcc mX0_isAboutMachine) 9 = .ok (.getfield 25, 3) := by decide +kernel
theorem dX0_isAboutMachine_12 : decode (zcc mX0_isAboutMachine) 12 = .ok (.iload_n 1, 1) := by decide +kernel
theorem dX0_isAboutMachine_13 : decode (zcc mX0_isAboutMachine) 13 = .ok (.if_icmp .ne 7, 3) := by decide +kernel
theorem dX0_isAboutMachine_16 : decode (zcc mX0_isAboutMachine) 16 = .ok (.iconst 1, 1) := by decide +kernel
theorem dX0_isAboutMachine_17 : decode (zcc mX0_isAboutMachine) 17 = .ok (.goto 4, 3) := by decide +kernel
theorem dX0_isAboutMachine_20 : decode (zcc mX0_isAboutMachine) 20 = .ok (.iconst 0, 1) := by decide +kernel
theorem dX0_isAboutMachine_21 : decode (zcc mX0_isAboutMachine) 21 = .ok (.ireturn, 1) := by decide +kernel
theorem dX1_init_0 : decode (zcc mX1_init) 0 = .ok (.aload_n 0, 1) := by decide +kernel
theorem dX1_init_1 : decode (zcc mX1_init) 1 = .ok (.invokespecial 3, 3) := by decide +kernel
theorem dX1_init_4 : decode (zcc mX1_init) 4 = .ok (.aload_n 0, 1) := by decide +kernel
theorem dX1_init_5 : decode (zcc mX1_init) 5 = .ok (.new 9, 3) := by decide +kernel
theorem dX1_init_8 : decode (zcc mX1_init) 8 = .ok (.dup, 1) := by decide +kernel
theorem dX1_init_9 : decode (zcc mX1_init) 9 = .ok (.invokespecial 11, 3) := by decide +kernel
theorem dX1_init_12 : decode (zcc mX1_init) 12 = .ok (.putfield 12, 3) := by decide +kernel
theorem dX1_init_15 : decode (zcc mX1_init) 15 = .ok (.aload_n 0, 1) := by decide +kernel
theorem dX1_init_16 : decode (zcc mX1_init) 16 = .ok (.new 18, 3) := by decide +kernel
theorem dX1_init_19 : decode (zcc mX1_init) 19 = .ok (.dup, 1) := by decide +kernel
theorem dX1_init_20 : decode (zcc mX1_init) 20 = .ok (.invokespecial 20, 3) := by decide +kernel
theorem dX1_init_23 : decode (zcc mX1_init) 23 = .ok (.putfield 21, 3) := by decide +kernel
theorem dX1_init_26 : decode (zcc mX1_init) 26 = .ok (.aload_n 0, 1) := by decide +kernel
theorem dX1_init_27 : decode (zcc mX1_init) 27 = .ok (.new 18, 3) := by decide +kernel
theorem dX1_init_30 : decode (zcc mX1_init) 30 = .ok (.dup, 1) := by decide +kernel
theorem dX1_init_31 : decode (zcc mX1_init) 31 = .ok (.invokespecial 20, 3) := by decide +kernel
theorem dX1_init_34 : decode (zcc mX1_init) 34 = .ok (.putfield 25, 3) := by decide +kernel
theorem dX1_init_37 : decode (zcc mX1_init) 37 = .ok (.aload_n 0, 1) := by decide +kernel
theorem dX1_init_38 : decode (zcc mX1_init) 38 = .ok (.new 18, 3) := by decide +kernel
theorem dX1_init_41 : decode (zcc mX1_init) 41 = .ok (.dup, 1) := by decide +kernel
theorem dX1_init_42 : decode (zcc mX1_init) 42 = .ok (.invokespecial 20, 3) := by decide +kernel
theorem dX1_init_45 : decode (zcc mX1_init) 45 = .ok (.putfield 28, 3) := by decide +kernel
theorem dX1_init_48 : decode (zcc mX1_init) 48 = .ok (.aload_n 0, 1) := by decide +kernel
theorem dX1_init_49 : decode (zcc mX1_init) 49 = .ok (.new 18, 3) := by decide +kernel
theorem dX1_init_52 : decode (zcc mX1_init) 52 = .ok (.dup, 1) := by decide +kernel
theorem dX1_init_53 : decode (zcc mX1_init) 53 = .ok (.invokespecial 20, 3) := by decide +kernel
theorem dX1_init_56 : decode (zcc mX1_init) 56 = .ok (.putfield 31, 3) := by decide +kernel
theorem dX1_init_59 : decode (zcc mX1_init) 59 = .ok (.aload_n 0, 1) := by decide +kernel
theorem dX1_init_60 : decode (zcc mX1_init) 60 = .ok (.aload_n 1, 1) := by decide +kernel
theorem dX1_init_61 : decode (zcc mX1_init) 61 = .ok (.putfield 34, 3) := by decide +kernel
theorem dX1_init_64 : decode (zcc mX1_init) 64 = .ok (.aload_n 0, 1) := by decide +kernel
theorem dX1_init_65 : decode (zcc mX1_init) 65 = .ok (.aload_n 2, 1) := by decide +kernel
theorem dX1_init_66 : decode (zcc mX1_init) 66 = .ok (.putfield 38, 3) := by decide +kernel
theorem dX1_init_69 : decode (zcc mX1_init) 69 = .ok (.return_, 1) := by decide +kernel
theorem dX1_termAt_0 : decode (zcc mX1_termAt) 0 = .ok (.iload_n 1, 1) := by decide +kernel
theorem dX1_termAt_1 : decode (zcc mX1_termAt) 1 = .ok (.ifCond .lt 21, 3) := by decide +kernel
theorem dX1_termAt_4 : decode (zcc mX1_termAt) 4 = .ok (.iload_n 1, 1) := by decide +kernel
theorem dX1_termAt_5 : decode (zcc mX1_termAt) 5 = .ok (.aload_n 0, 1) := by decide +kernel
theorem dX1_termAt_6 : decode (zcc mX1_termAt) 6 = .ok (.getfield 34, 3) := by decide +kernel
theorem dX1_termAt_9 : decode (zcc mX1_termAt) 9 = .ok (.arraylength, 1) := by decide +kernel
theorem dX1_termAt_10 : decode (zcc mX1_termAt) 10 = .ok (.if_icmp .ge 12, 3) := by decide +kernel
theorem dX1_termAt_13 : decode (zcc mX1_termAt) 13 = .ok (.aload_n 0, 1) := by decide +kernel
theorem dX1_termAt_14 : decode (zcc mX1_termAt) 14 = .ok (.getfield 34, 3) := by decide +kernel
theorem dX1_termAt_17 : decode (zcc mX1_termAt) 17 = .ok (.iload_n 1, 1) := by decide +kernel
theorem dX1_termAt_18 : decode (zcc mX1_termAt) 18 = .ok (.aaload, 1) := by decide +kernel
theorem dX1_termAt_19 : decode (zcc mX1_termAt) 19 = .ok (.goto 7, 3) := by decide +kernel
theorem dX1_termAt_22 : decode (zcc mX1_termAt) 22 = .ok (.aload_n 0, 1) := by decide +kernel
theorem dX1_termAt_23 : decode (zcc mX1_termAt) 23 = .ok (.getfield 12, 3) := by decide +kernel
theorem dX1_termAt_26 : decode (zcc mX1_termAt) 26 = .ok (.areturn, 1) := by decide +kernel
theorem dX1_machineAt_0 : decode (zcc mX1_machineAt) 0 = .ok (.iload_n 1, 1) := by decide +kernel
theorem dX1_machineAt_1 : decode (zcc mX1_machineAt) 1 = .ok (.ifCond .lt 21, 3) := by decide +kernel
theorem dX1_machineAt_4 : decode (zcc mX1_machineAt) 4 = .ok (.iload_n 1, 1) := by decide +kernel
theorem dX1_machineAt_5 : decode (zcc mX1_machineAt) 5 = .ok (.aload_n 0, 1) := by decide +kernel
theorem dX1_machineAt_6 : decode (zcc mX1_machineAt) 6 = .ok (.getfield 38, 3) := by decide +kernel
theorem dX1_machineAt_9 : decode (zcc mX1_machineAt) 9 = .ok (.arraylength, 1) := by decide +kernel
theorem dX1_machineAt_10 : decode (zcc mX1_machineAt) 10 = .ok (.if_icmp .ge 12, 3) := by decide +kernel
theorem dX1_machineAt_13 : decode (zcc mX1_machineAt) 13 = .ok (.aload_n 0, 1) := by decide +kernel
theorem dX1_machineAt_14 : decode (zcc mX1_machineAt) 14 = .ok (.getfield 38, 3) := by decide +kernel
theorem dX1_machineAt_17 : decode (zcc mX1_machineAt) 17 = .ok (.iload_n 1, 1) := by decide +kernel
theorem dX1_machineAt_18 : decode (zcc mX1_machineAt) 18 = .ok (.aaload, 1) := by decide +kernel
theorem dX1_machineAt_19 : decode (zcc mX1_machineAt) 19 = .ok (.goto 4, 3) := by decide +kernel
theorem dX1_machineAt_22 : decode (zcc mX1_machineAt) 22 = .ok (.aconst_null, 1) := by decide +kernel
theorem dX1_machineAt_23 : decode (zcc mX1_machineAt) 23 = .ok (.areturn, 1) := by decide +kernel
theorem dX1_isLonger_0 : decode (zcc mX1_isLonger) 0 = .ok (.aload_n 0, 1) := by decide +kernel
theorem dX1_isLonger_1 : decode (zcc mX1_isLonger) 1 = .ok (.aload_n 1, 1) := by decide +kernel
theorem dX1_isLonger_2 : decode (zcc mX1_isLonger) 2 = .ok (.getfield 42, 3) := by decide +kernel
theorem dX1_isLonger_5 : decode (zcc mX1_isLonger) 5 = .ok (.invokevirtual 47, 3) := by decide +kernel
theorem dX1_isLonger_8 : decode (zcc mX1_isLonger) 8 = .ok (.aload_n 2, 1) := by decide +kernel
theorem dX1_isLonger_9 : decode (zcc mX1_isLonger) 9 = .ok (.invokevirtual 51, 3) := by decide +kernel
theorem dX1_isLonger_12 : decode (zcc mX1_isLonger) 12 = .ok (.aload_n 0, 1) := by decide +kernel
theorem dX1_isLonger_13 : decode (zcc mX1_isLonger) 13 = .ok (.aload_n 1, 1) := by decide +kernel
theorem dX1_isLonger_14 : decode (zcc mX1_isLonger) 14 = .ok (.getfield 55, 3) := by decide +kernel
theorem dX1_isLonger_17 : decode (zcc mX1_isLonger) 17 = .ok (.invokevirtual 47, 3) := by decide +kernel
theorem dX1_isLonger_20 : decode (zcc mX1_isLonger) 20 = .ok (.aload_n 2, 1) := by decide +kernel
theorem dX1_isLonger_21 : decode (zcc mX1_isLonger) 21 = .ok (.invokevirtual 51, 3) := by decide +kernel
theorem dX1_isLonger_24 : decode (zcc mX1_isLonger) 24 = .ok (.isub, 1) := by decide +kernel
theorem dX1_isLonger_25 : decode (zcc mX1_isLonger) 25 = .ok (.istore_n 3, 1) := by decide +kernel
theorem dX1_isLonger_26 : decode (zcc mX1_isLonger) 26 = .ok (.iload_n 3, 1) := by decide +kernel
theorem dX1_isLonger_27 : decode (zcc mX1_isLonger) 27 = .ok (.aload_n 1, 1) := by decide +kernel
theorem dX1_isLonger_28 : decode (zcc mX1_isLonger) 28 = .ok (.getfield 57, 3) := by decide +kernel
theorem dX1_isLonger_31 : decode (zcc mX1_isLonger) 31 = .ok (.if_icmp .lt 7, 3) := by decide +kernel
theorem dX1_isLonger_34 : decode (zcc mX1_isLonger) 34 = .ok (.iconst 1, 1) := by decide +kernel
theorem dX1_isLonger_35 : decode (zcc mX1_isLonger) 35 = .ok (.goto 4, 3) := by decide +kernel
theorem dX1_isLonger_38 : decode (zcc mX1_isLonger) 38 = .ok (.iconst 0, 1) := by decide +kernel
theorem dX1_isLonger_39 : decode (zcc mX1_isLonger) 39 = .ok (.ireturn, 1) := by decide +kernel
theorem dX1_isOneLength_0 : decode (zcc mX1_isOneLength) 0 = .ok (.aload_n 0, 1) := by decide +kernel
theorem dX1_isOneLength_1 : decode (zcc mX1_isOneLength) 1 = .ok (.aload_n 1, 1) := by decide +kernel
theorem dX1_isOneLength_2 : decode (zcc mX1_isOneLength) 2 = .ok (.getfield 42, 3) := by decide +kernel
theorem dX1_isOneLength_5 : decode (zcc mX1_isOneLength) 5 = .ok (.invokevirtual 47, 3) := by decide +kernel
theorem dX1_isOneLength_8 : decode (zcc mX1_isOneLength) 8 = .ok (.aload_n 2, 1) := by decide +kernel
theorem dX1_isOneLength_9 : decode (zcc mX1_isOneLength) 9 = .ok (.invokevirtual 51, 3) := by decide +kernel
theorem dX1_isOneLength_12 : decode (zcc mX1_isOneLength) 12 = .ok (.aload_n 0, 1) := by decide +kernel
theorem dX1_isOneLength_13 : decode (zcc mX1_isOneLength) 13 = .ok (.aload_n 1, 1) := by decide +kernel
theorem dX1_isOneLength_14 : decode (zcc mX1_isOneLength) 14 = .ok (.getfield 55, 3) := by decide +kernel
theorem dX1_isOneLength_17 : decode (zcc mX1_isOneLength) 17 = .ok (.invokevirtual 47, 3) := by decide +kernel
theorem dX1_isOneLength_20 : decode (zcc mX1_isOneLength) 20 = .ok (.aload_n 2, 1) := by decide +kernel
theorem dX1_isOneLength_21 : decode (zcc mX1_isOneLength) 21 = .ok (.invokevirtual 51, 3) := by decide +kernel
theorem dX1_isOneLength_24 : decode (zcc mX1_isOneLength) 24 = .ok (.if_icmp .ne 7, 3) := by decide +kernel
theorem dX1_isOneLength_27 : decode (zcc mX1_isOneLength) 27 = .ok (.iconst 1, 1) := by decide +kernel
theorem dX1_isOneLength_28 : decode (zcc mX1_isOneLength) 28 = .ok (.goto 4, 3) := by decide +kernel
theorem dX1_isOneLength_31 : decode (zcc mX1_isOneLength) 31 = .ok (.iconst 0, 1) := by decide +kernel
theorem dX1_isOneLength_32 : decode (zcc mX1_isOneLength) 32 = .ok (.ireturn, 1) := by decide +kernel
theorem dX1_isSo_0 : decode (zcc mX1_isSo) 0 = .ok (.aload_n 1, 1) := by decide +kernel
theorem dX1_isSo_1 : decode (zcc mX1_isSo) 1 = .ok (.getfield 59, 3) := by decide +kernel
theorem dX1_isSo_4 : decode (zcc mX1_isSo) 4 = .ok (.iconst 1, 1) := by decide +kernel
theorem dX1_isSo_5 : decode (zcc mX1_isSo) 5 = .ok (.if_icmp .ne 13, 3) := by decide +kernel
theorem dX1_isSo_8 : decode (zcc mX1_isSo) 8 = .ok (.aload_n 0, 1) := by decide +kernel
theorem dX1_isSo_9 : decode (zcc mX1_isSo) 9 = .ok (.aload_n 1, 1) := by decide +kernel
theorem dX1_isSo_10 : decode (zcc mX1_isSo) 10 = .ok (.aload_n 2, 1) := by decide +kernel
theorem dX1_isSo_11 : decode (zcc mX1_isSo) 11 = .ok (.getfield 62, 3) := by decide +kernel
theorem dX1_isSo_14 : decode (zcc mX1_isSo) 14 = .ok (.invokevirtual 68, 3) := by decide +kernel
theorem dX1_isSo_17 : decode (zcc mX1_isSo) 17 = .ok (.ireturn, 1) := by decide +kernel
theorem dX1_isSo_18 : decode (zcc mX1_isSo) 18 = .ok (.aload_n 1, 1) := by decide +kernel
theorem dX1_isSo_19 : decode (zcc mX1_isSo) 19 = .ok (.getfield 59, 3) := by decide +kernel
theorem dX1_isSo_22 : decode (zcc mX1_isSo) 22 = .ok (.ifCond .ne 17, 3) := by decide +kernel
theorem dX1_isSo_25 : decode (zcc mX1_isSo) 25 = .ok (.aload_n 0, 1) := by decide +kernel
theorem dX1_isSo_26 : decode (zcc mX1_isSo) 26 = .ok (.aload_n 1, 1) := by decide +kernel
theorem dX1_isSo_27 : decode (zcc mX1_isSo) 27 = .ok (.aload_n 2, 1) := by decide +kernel
theorem dX1_isSo_28 : decode (zcc mX1_isSo) 28 = .ok (.getfield 62, 3) := by decide +kernel
theorem dX1_isSo_31 : decode (zcc mX1_isSo) 31 = .ok (.invokevirtual 72, 3) := by decide +kernel
theorem dX1_isSo_34 : decode (zcc mX1_isSo) 34 = .ok (.ifCond .ne 5, 3) := by decide +kernel
theorem dX1_isSo_37 : decode (zcc mX1_isSo) 37 = .ok (.iconst 0, 1) := by decide +kernel
theorem dX1_isSo_38 : decode (zcc mX1_isSo) 38 = .ok (.ireturn, 1) := by decide +kernel
theorem dX1_isSo_39 : decode (zcc mX1_isSo) 39 = .ok (.aload_n 0, 1) := by decide +kernel
theorem dX1_isSo_40 : decode (zcc mX1_isSo) 40 = .ok (.getfield 21, 3) := by decide +kernel
theorem dX1_isSo_43 : decode (zcc mX1_isSo) 43 = .ok (.aload_n 0, 1) := by decide +kernel
theorem dX1_isSo_44 : decode (zcc mX1_isSo) 44 = .ok (.aload_n 1, 1) := by decide +kernel
theorem dX1_isSo_45 : decode (zcc mX1_isSo) 45 = .ok (.getfield 42, 3) := by decide +kernel
theorem dX1_isSo_48 : decode (zcc mX1_isSo) 48 = .ok (.invokevirtual 47, 3) := by decide +kernel
theorem dX1_isSo_51 : decode (zcc mX1_isSo) 51 = .ok (.aload_n 2, 1) := by decide +kernel
theorem dX1_isSo_52 : decode (zcc mX1_isSo) 52 = .ok (.invokevirtual 75, 3) := by decide +kernel
theorem dX1_isSo_55 : decode (zcc mX1_isSo) 55 = .ok (.aload_n 1, 1) := by decide +kernel
theorem dX1_isSo_56 : decode (zcc mX1_isSo) 56 = .ok (.invokevirtual 79, 3) := by decide +kernel
theorem dX1_isSo_59 : decode (zcc mX1_isSo) 59 = .ok (.ifCond .eq 19, 3) := by decide +kernel
theorem dX1_isSo_62 : decode (zcc mX1_isSo) 62 = .ok (.aload_n 0, 1) := by decide +kernel
theorem dX1_isSo_63 : decode (zcc mX1_isSo) 63 = .ok (.getfield 25, 3) := by decide +kernel
theorem dX1_isSo_66 : decode (zcc mX1_isSo) 66 = .ok (.aload_n 0, 1) := by decide +kernel
theorem dX1_isSo_67 : decode (zcc mX1_isSo) 67 = .ok (.aload_n 1, 1) := by decide +kernel
theorem dX1_isSo_68 : decode (zcc mX1_isSo) 68 = .ok (.getfield 55, 3) := by decide +kernel
theorem dX1_isSo_71 : decode (zcc mX1_isSo) 71 = .ok (.invokevirtual 47, 3) := by decide +kernel
theorem dX1_isSo_74 : decode (zcc mX1_isSo) 74 = .ok (.aload_n 2, 1) := by decide +kernel
theorem dX1_isSo_75 : decode (zcc mX1_isSo) 75 = .ok (.invokevirtual 75, 3) := by decide +kernel
theorem dX1_isSo_78 : decode (zcc mX1_isSo) 78 = .ok (.aload_n 1, 1) := by decide +kernel
theorem dX1_isSo_79 : decode (zcc mX1_isSo) 79 = .ok (.getfield 59, 3) := by decide +kernel
theorem dX1_isSo_82 : decode (zcc mX1_isSo) 82 = .ok (.tableswitch 223 0 6 #[42, 223, 54, 84, 96, 117, 133], 42) := by decide +kernel
theorem dX1_isSo_124 : decode (zcc mX1_isSo) 124 = .ok (.aload_n 0, 1) := by decide +kernel
theorem dX1_isSo_125 : decode (zcc mX1_isSo) 125 = .ok (.getfield 21, 3) := by decide +kernel
theorem dX1_isSo_128 : decode (zcc mX1_isSo) 128 = .ok (.aload_n 0, 1) := by decide +kernel
theorem dX1_isSo_129 : decode (zcc mX1_isSo) 129 = .ok (.getfield 25, 3) := by decide +kernel
theorem dX1_isSo_132 : decode (zcc mX1_isSo) 132 = .ok (.invokevirtual 83, 3) := by decide +kernel
theorem dX1_isSo_135 : decode (zcc mX1_isSo) 135 = .ok (.ireturn, 1) := by decide +kernel
theorem dX1_isSo_136 : decode (zcc mX1_isSo) 136 = .ok (.aload_n 0, 1) := by decide +kernel
theorem dX1_isSo_137 : decode (zcc mX1_isSo) 137 = .ok (.aload_n 1, 1) := by decide +kernel
theorem dX1_isSo_138 : decode (zcc mX1_isSo) 138 = .ok (.getfield 55, 3) := by decide +kernel
theorem dX1_isSo_141 : decode (zcc mX1_isSo) 141 = .ok (.invokevirtual 87, 3) := by decide +kernel
theorem dX1_isSo_144 : decode (zcc mX1_isSo) 144 = .ok (.astore_n 3, 1) := by decide +kernel
theorem dX1_isSo_145 : decode (zcc mX1_isSo) 145 = .ok (.aload_n 3, 1) := by decide +kernel
theorem dX1_isSo_146 : decode (zcc mX1_isSo) 146 = .ok (.ifnull 18, 3) := by decide +kernel
theorem dX1_isSo_149 : decode (zcc mX1_isSo) 149 = .ok (.aload_n 3, 1) := by decide +kernel
theorem dX1_isSo_150 : decode (zcc mX1_isSo) 150 = .ok (.aload_n 0, 1) := by decide +kernel
theorem dX1_isSo_151 : decode (zcc mX1_isSo) 151 = .ok (.getfield 21, 3) := by decide +kernel
theorem dX1_isSo_154 : decode (zcc mX1_isSo) 154 = .ok (.invokevirtual 91, 3) := by decide +kernel
theorem dX1_isSo_157 : decode (zcc mX1_isSo) 157 = .ok (.ifCond .eq 7, 3) := by decide +kernel
theorem dX1_isSo_160 : decode (zcc mX1_isSo) 160 = .ok (.iconst 1, 1) := by decide +kernel
theorem dX1_isSo_161 : decode (zcc mX1_isSo) 161 = .ok (.goto 4, 3) := by decide +kernel
theorem dX1_isSo_164 : decode (zcc mX1_isSo) 164 = .ok (.iconst 0, 1) := by decide +kernel
theorem dX1_isSo_165 : decode (zcc mX1_isSo) 165 = .ok (.ireturn, 1) := by decide +kernel
theorem dX1_isSo_166 : decode (zcc mX1_isSo) 166 = .ok (.aload_n 0, 1) := by decide +kernel
theorem dX1_isSo_167 : decode (zcc mX1_isSo) 167 = .ok (.getfield 21, 3) := by decide +kernel
theorem dX1_isSo_170 : decode (zcc mX1_isSo) 170 = .ok (.aload_n 0, 1) := by decide +kernel
theorem dX1_isSo_171 : decode (zcc mX1_isSo) 171 = .ok (.getfield 25, 3) := by decide +kernel
theorem dX1_isSo_174 : decode (zcc mX1_isSo) 174 = .ok (.invokevirtual 96, 3) := by decide +kernel
theorem dX1_isSo_177 : decode (zcc mX1_isSo) 177 = .ok (.ireturn, 1) := by decide +kernel
theorem dX1_isSo_178 : decode (zcc mX1_isSo) 178 = .ok (.aload_n 0, 1) := by decide +kernel
theorem dX1_isSo_179 : decode (zcc mX1_isSo) 179 = .ok (.getfield 21, 3) := by decide +kernel
theorem dX1_isSo_182 : decode (zcc mX1_isSo) 182 = .ok (.aload_n 0, 1) := by decide +kernel
theorem dX1_isSo_183 : decode (zcc mX1_isSo) 183 = .ok (.getfield 25, 3) := by decide +kernel
theorem dX1_isSo_186 : decode (zcc mX1_isSo) 186 = .ok (.invokevirtual 99, 3) := by decide +kernel
theorem dX1_isSo_189 : decode (zcc mX1_isSo) 189 = .ok (.iconst (-1), 1) := by decide +kernel
theorem dX1_isSo_190 : decode (zcc mX1_isSo) 190 = .ok (.if_icmp .eq 7, 3) := by decide +kernel
theorem dX1_isSo_193 : decode (zcc mX1_isSo) 193 = .ok (.iconst 1, 1) := by decide +kernel
theorem dX1_isSo_194 : decode (zcc mX1_isSo) 194 = .ok (.goto 4, 3) := by decide +kernel
theorem dX1_isSo_197 : decode (zcc mX1_isSo) 197 = .ok (.iconst 0, 1) := by decide +kernel
theorem dX1_isSo_198 : decode (zcc mX1_isSo) 198 = .ok (.ireturn, 1) := by decide +kernel
theorem dX1_isSo_199 : decode (zcc mX1_isSo) 199 = .ok (.aload_n 0, 1) := by decide +kernel
theorem dX1_isSo_200 : decode (zcc mX1_isSo) 200 = .ok (.getfield 21, 3) := by decide +kernel
theorem dX1_isSo_203 : decode (zcc mX1_isSo) 203 = .ok (.aload_n 1, 1) := by decide +kernel
theorem dX1_isSo_204 : decode (zcc mX1_isSo) 204 = .ok (.getfield 55, 3) := by decide +kernel
theorem dX1_isSo_207 : decode (zcc mX1_isSo) 207 = .ok (.aload_n 1, 1) := by decide +kernel
theorem dX1_isSo_208 : decode (zcc mX1_isSo) 208 = .ok (.getfield 57, 3) := by decide +kernel
theorem dX1_isSo_211 : decode (zcc mX1_isSo) 211 = .ok (.invokevirtual 103, 3) := by decide +kernel
theorem dX1_isSo_214 : decode (zcc mX1_isSo) 214 = .ok (.ireturn, 1) := by decide +kernel
theorem dX1_isSo_215 : decode (zcc mX1_isSo) 215 = .ok (.aload_n 0, 1) := by decide +kernel
theorem dX1_isSo_216 : decode (zcc mX1_isSo) 216 = .ok (.getfield 28, 3) := by decide +kernel
theorem dX1_isSo_219 : decode (zcc mX1_isSo) 219 = .ok (.aload_n 0, 1) := by decide +kernel
theorem dX1_isSo_220 : decode (zcc mX1_isSo) 220 = .ok (.aload_n 1, 1) := by decide +kernel
theorem dX1_isSo_221 : decode (zcc mX1_isSo) 221 = .ok (.getfield 57, 3) := by decide +kernel
theorem dX1_isSo_224 : decode (zcc mX1_isSo) 224 = .ok (.invokevirtual 47, 3) := by decide +kernel
theorem dX1_isSo_227 : decode (zcc mX1_isSo) 227 = .ok (.aload_n 2, 1) := by decide +kernel
theorem dX1_isSo_228 : decode (zcc mX1_isSo) 228 = .ok (.invokevirtual 75, 3) := by decide +kernel
theorem dX1_isSo_231 : decode (zcc mX1_isSo) 231 = .ok (.aload_n 0, 1) := by decide +kernel
theorem dX1_isSo_232 : decode (zcc mX1_isSo) 232 = .ok (.getfield 31, 3) := by decide +kernel
theorem dX1_isSo_235 : decode (zcc mX1_isSo) 235 = .ok (.aload_n 0, 1) := by decide +kernel
theorem dX1_isSo_236 : decode (zcc mX1_isSo) 236 = .ok (.aload_n 1, 1) := by decide +kernel
theorem dX1_isSo_237 : decode (zcc mX1_isSo) 237 = .ok (.getfield 107, 3) := by decide +kernel
theorem dX1_isSo_240 : decode (zcc mX1_isSo) 240 = .ok (.invokevirtual 47, 3) := by decide +kernel
theorem dX1_isSo_243 : decode (zcc mX1_isSo) 243 = .ok (.aload_n 2, 1) := by decide +kernel
theorem dX1_isSo_244 : decode (zcc mX1_isSo) 244 = .ok (.invokevirtual 75, 3) := by decide +kernel
theorem dX1_isSo_247 : decode (zcc mX1_isSo) 247 = .ok (.aload_n 0, 1) := by decide +kernel
theorem dX1_isSo_248 : decode (zcc mX1_isSo) 248 = .ok (.getfield 25, 3) := by decide +kernel
theorem dX1_isSo_251 : decode (zcc mX1_isSo) 251 = .ok (.aload_n 0, 1) := by decide +kernel
theorem dX1_isSo_252 : decode (zcc mX1_isSo) 252 = .ok (.getfield 28, 3) := by decide +kernel
theorem dX1_isSo_255 : decode (zcc mX1_isSo) 255 = .ok (.invokevirtual 99, 3) := by decide +kernel
theorem dX1_isSo_258 : decode (zcc mX1_isSo) 258 = .ok (.istore 4, 2) := by decide +kernel
theorem dX1_isSo_260 : decode (zcc mX1_isSo) 260 = .ok (.iload 4, 2) := by decide +kernel
theorem dX1_isSo_262 : decode (zcc mX1_isSo) 262 = .ok (.iconst (-1), 1) := by decide +kernel
theorem dX1_isSo_263 : decode (zcc mX1_isSo) 263 = .ok (.if_icmp .ne 17, 3) := by decide +kernel
theorem dX1_isSo_266 : decode (zcc mX1_isSo) 266 = .ok (.aload_n 0, 1) := by decide +kernel
theorem dX1_isSo_267 : decode (zcc mX1_isSo) 267 = .ok (.getfield 21, 3) := by decide +kernel
theorem dX1_isSo_270 : decode (zcc mX1_isSo) 270 = .ok (.aload_n 0, 1) := by decide +kernel
theorem dX1_isSo_271 : decode (zcc mX1_isSo) 271 = .ok (.getfield 25, 3) := by decide +kernel
theorem dX1_isSo_274 : decode (zcc mX1_isSo) 274 = .ok (.invokevirtual 83, 3) := by decide +kernel
theorem dX1_isSo_277 : decode (zcc mX1_isSo) 277 = .ok (.goto 27, 3) := by decide +kernel
theorem dX1_isSo_280 : decode (zcc mX1_isSo) 280 = .ok (.aload_n 0, 1) := by decide +kernel
theorem dX1_isSo_281 : decode (zcc mX1_isSo) 281 = .ok (.getfield 21, 3) := by decide +kernel
theorem dX1_isSo_284 : decode (zcc mX1_isSo) 284 = .ok (.aload_n 0, 1) := by decide +kernel
theorem dX1_isSo_285 : decode (zcc mX1_isSo) 285 = .ok (.getfield 25, 3) := by decide +kernel
theorem dX1_isSo_288 : decode (zcc mX1_isSo) 288 = .ok (.iload 4, 2) := by decide +kernel
theorem dX1_isSo_290 : decode (zcc mX1_isSo) 290 = .ok (.aload_n 0, 1) := by decide +kernel
theorem dX1_isSo_291 : decode (zcc mX1_isSo) 291 = .ok (.getfield 28, 3) := by decide +kernel
theorem dX1_isSo_294 : decode (zcc mX1_isSo) 294 = .ok (.getfield 109, 3) := by decide +kernel
theorem dX1_isSo_297 : decode (zcc mX1_isSo) 297 = .ok (.aload_n 0, 1) := by decide +kernel
theorem dX1_isSo_298 : decode (zcc mX1_isSo) 298 = .ok (.getfield 31, 3) := by decide +kernel
theorem dX1_isSo_301 : decode (zcc mX1_isSo) 301 = .ok (.invokevirtual 112, 3) := by decide +kernel
theorem dX1_isSo_304 : decode (zcc mX1_isSo) 304 = .ok (.ireturn, 1) := by decide +kernel
theorem dX1_isSo_305 : decode (zcc mX1_isSo) 305 = .ok (.iconst 0, 1) := by decide +kernel
theorem dX1_isSo_306 : decode (zcc mX1_isSo) 306 = .ok (.ireturn, 1) := by decide +kernel
theorem dX2_init_0 : decode (zcc mX2_init) 0 = .ok (.aload_n 0, 1) := by decide +kernel
theorem dX2_init_1 : decode (zcc mX2_init) 1 = .ok (.invokespecial 3, 3) := by decide +kernel
theorem dX2_init_4 : decode (zcc mX2_init) 4 = .ok (.aload_n 0, 1) := by decide +kernel
