theorem dX3_hasSum_40 : decode (zcc mX3_hasSum) 40 = .ok (.iload_n 1, 1) := by decide +kernel
theorem dX3_hasSum_41 : decode (zcc mX3_hasSum) 41 = .ok (.invokestatic 48, 3) := by decide +kernel
theorem dX3_hasSum_44 : decode (zcc mX3_hasSum) 44 = .ok (.iload_n 2, 1) := by decide +kernel
theorem dX3_hasSum_45 : decode (zcc mX3_hasSum) 45 = .ok (.if_icmp .ne 7, 3) := by decide +kernel
theorem dX3_hasSum_48 : decode (zcc mX3_hasSum) 48 = .ok (.iconst 1, 1) := by decide +kernel
theorem dX3_hasSum_49 : decode (zcc mX3_hasSum) 49 = .ok (.goto 4, 3) := by decide +kernel
theorem dX3_hasSum_52 : decode (zcc mX3_hasSum) 52 = .ok (.iconst 0, 1) := by decide +kernel
theorem dX3_hasSum_53 : decode (zcc mX3_hasSum) 53 = .ok (.ireturn, 1) := by decide +kernel
theorem dX3_isReplaced_0 : decode (zcc mX3_isReplaced) 0 = .ok (.aload_n 1, 1) := by decide +kernel
theorem dX3_isReplaced_1 : decode (zcc mX3_isReplaced) 1 = .ok (.getfield 15, 3) := by decide +kernel
theorem dX3_isReplaced_4 : decode (zcc mX3_isReplaced) 4 = .ok (.iload_n 2, 1) := by decide +kernel
theorem dX3_isReplaced_5 : decode (zcc mX3_isReplaced) 5 = .ok (.isub, 1) := by decide +kernel
theorem dX3_isReplaced_6 : decode (zcc mX3_isReplaced) 6 = .ok (.iload_n 3, 1) := by decide +kernel
theorem dX3_isReplaced_7 : decode (zcc mX3_isReplaced) 7 = .ok (.isub, 1) := by decide +kernel
theorem dX3_isReplaced_8 : decode (zcc mX3_isReplaced) 8 = .ok (.istore 5, 2) := by decide +kernel
theorem dX3_isReplaced_10 : decode (zcc mX3_isReplaced) 10 = .ok (.aload_n 0, 1) := by decide +kernel
theorem dX3_isReplaced_11 : decode (zcc mX3_isReplaced) 11 = .ok (.getfield 15, 3) := by decide +kernel
theorem dX3_isReplaced_14 : decode (zcc mX3_isReplaced) 14 = .ok (.iload_n 2, 1) := by decide +kernel
theorem dX3_isReplaced_15 : decode (zcc mX3_isReplaced) 15 = .ok (.aload 4, 2) := by decide +kernel
theorem dX3_isReplaced_17 : decode (zcc mX3_isReplaced) 17 = .ok (.getfield 15, 3) := by decide +kernel
theorem dX3_isReplaced_20 : decode (zcc mX3_isReplaced) 20 = .ok (.iadd, 1) := by decide +kernel
theorem dX3_isReplaced_21 : decode (zcc mX3_isReplaced) 21 = .ok (.iload 5, 2) := by decide +kernel
theorem dX3_isReplaced_23 : decode (zcc mX3_isReplaced) 23 = .ok (.iadd, 1) := by decide +kernel
theorem dX3_isReplaced_24 : decode (zcc mX3_isReplaced) 24 = .ok (.if_icmp .ne 54, 3) := by decide +kernel
theorem dX3_isReplaced_27 : decode (zcc mX3_isReplaced) 27 = .ok (.aload_n 0, 1) := by decide +kernel
theorem dX3_isReplaced_28 : decode (zcc mX3_isReplaced) 28 = .ok (.iconst 0, 1) := by decide +kernel
theorem dX3_isReplaced_29 : decode (zcc mX3_isReplaced) 29 = .ok (.aload_n 1, 1) := by decide +kernel
theorem dX3_isReplaced_30 : decode (zcc mX3_isReplaced) 30 = .ok (.iconst 0, 1) := by decide +kernel
theorem dX3_isReplaced_31 : decode (zcc mX3_isReplaced) 31 = .ok (.iload_n 2, 1) := by decide +kernel
theorem dX3_isReplaced_32 : decode (zcc mX3_isReplaced) 32 = .ok (.invokevirtual 44, 3) := by decide +kernel
theorem dX3_isReplaced_35 : decode (zcc mX3_isReplaced) 35 = .ok (.ifCond .eq 43, 3) := by decide +kernel
theorem dX3_isReplaced_38 : decode (zcc mX3_isReplaced) 38 = .ok (.aload_n 0, 1) := by decide +kernel
theorem dX3_isReplaced_39 : decode (zcc mX3_isReplaced) 39 = .ok (.iload_n 2, 1) := by decide +kernel
theorem dX3_isReplaced_40 : decode (zcc mX3_isReplaced) 40 = .ok (.aload 4, 2) := by decide +kernel
theorem dX3_isReplaced_42 : decode (zcc mX3_isReplaced) 42 = .ok (.iconst 0, 1) := by decide +kernel
theorem dX3_isReplaced_43 : decode (zcc mX3_isReplaced) 43 = .ok (.aload 4, 2) := by decide +kernel
theorem dX3_isReplaced_45 : decode (zcc mX3_isReplaced) 45 = .ok (.getfield 15, 3) := by decide +kernel
theorem dX3_isReplaced_48 : decode (zcc mX3_isReplaced) 48 = .ok (.invokevirtual 44, 3) := by decide +kernel
theorem dX3_isReplaced_51 : decode (zcc mX3_isReplaced) 51 = .ok (.ifCond .eq 27, 3) := by decide +kernel
theorem dX3_isReplaced_54 : decode (zcc mX3_isReplaced) 54 = .ok (.aload_n 0, 1) := by decide +kernel
theorem dX3_isReplaced_55 : decode (zcc mX3_isReplaced) 55 = .ok (.iload_n 2, 1) := by decide +kernel
theorem dX3_isReplaced_56 : decode (zcc mX3_isReplaced) 56 = .ok (.aload 4, 2) := by decide +kernel
theorem dX3_isReplaced_58 : decode (zcc mX3_isReplaced) 58 = .ok (.getfield 15, 3) := by decide +kernel
theorem dX3_isReplaced_61 : decode (zcc mX3_isReplaced) 61 = .ok (.iadd, 1) := by decide +kernel
theorem dX3_isReplaced_62 : decode (zcc mX3_isReplaced) 62 = .ok (.aload_n 1, 1) := by decide +kernel
theorem dX3_isReplaced_63 : decode (zcc mX3_isReplaced) 63 = .ok (.iload_n 2, 1) := by decide +kernel
theorem dX3_isReplaced_64 : decode (zcc mX3_isReplaced) 64 = .ok (.iload_n 3, 1) := by decide +kernel
theorem dX3_isReplaced_65 : decode (zcc mX3_isReplaced) 65 = .ok (.iadd, 1) := by decide +kernel
theorem dX3_isReplaced_66 : decode (zcc mX3_isReplaced) 66 = .ok (.iload 5, 2) := by decide +kernel
theorem dX3_isReplaced_68 : decode (zcc mX3_isReplaced) 68 = .ok (.invokevirtual 44, 3) := by decide +kernel
theorem dX3_isReplaced_71 : decode (zcc mX3_isReplaced) 71 = .ok (.ifCond .eq 7, 3) := by decide +kernel
theorem dX3_isReplaced_74 : decode (zcc mX3_isReplaced) 74 = .ok (.iconst 1, 1) := by decide +kernel
theorem dX3_isReplaced_75 : decode (zcc mX3_isReplaced) 75 = .ok (.goto 4, 3) := by decide +kernel
theorem dX3_isReplaced_78 : decode (zcc mX3_isReplaced) 78 = .ok (.iconst 0, 1) := by decide +kernel
theorem dX3_isReplaced_79 : decode (zcc mX3_isReplaced) 79 = .ok (.ireturn, 1) := by decide +kernel
theorem dX4_init_0 : decode (zcc mX4_init) 0 = .ok (.aload_n 0, 1) := by decide +kernel
theorem dX4_init_1 : decode (zcc mX4_init) 1 = .ok (.invokespecial 3, 3) := by decide +kernel
theorem dX4_init_4 : decode (zcc mX4_init) 4 = .ok (.aload_n 0, 1) := by decide +kernel
theorem dX4_init_5 : decode (zcc mX4_init) 5 = .ok (.iconst 4, 1) := by decide +kernel
theorem dX4_init_6 : decode (zcc mX4_init) 6 = .ok (.newarray .int, 2) := by decide +kernel
theorem dX4_init_8 : decode (zcc mX4_init) 8 = .ok (.putfield 9, 3) := by decide +kernel
theorem dX4_init_11 : decode (zcc mX4_init) 11 = .ok (.aload_n 0, 1) := by decide +kernel
theorem dX4_init_12 : decode (zcc mX4_init) 12 = .ok (.iconst 2, 1) := by decide +kernel
theorem dX4_init_13 : decode (zcc mX4_init) 13 = .ok (.putfield 15, 3) := by decide +kernel
theorem dX4_init_16 : decode (zcc mX4_init) 16 = .ok (.aload_n 0, 1) := by decide +kernel
theorem dX4_init_17 : decode (zcc mX4_init) 17 = .ok (.iconst 1, 1) := by decide +kernel
theorem dX4_init_18 : decode (zcc mX4_init) 18 = .ok (.putfield 19, 3) := by decide +kernel
theorem dX4_init_21 : decode (zcc mX4_init) 21 = .ok (.return_, 1) := by decide +kernel
theorem dX4_restart_0 : decode (zcc mX4_restart) 0 = .ok (.aload_n 0, 1) := by decide +kernel
theorem dX4_restart_1 : decode (zcc mX4_restart) 1 = .ok (.iload_n 1, 1) := by decide +kernel
theorem dX4_restart_2 : decode (zcc mX4_restart) 2 = .ok (.putfield 15, 3) := by decide +kernel
theorem dX4_restart_5 : decode (zcc mX4_restart) 5 = .ok (.aload_n 0, 1) := by decide +kernel
theorem dX4_restart_6 : decode (zcc mX4_restart) 6 = .ok (.iconst 0, 1) := by decide +kernel
theorem dX4_restart_7 : decode (zcc mX4_restart) 7 = .ok (.putfield 22, 3) := by decide +kernel
theorem dX4_restart_10 : decode (zcc mX4_restart) 10 = .ok (.aload_n 0, 1) := by decide +kernel
theorem dX4_restart_11 : decode (zcc mX4_restart) 11 = .ok (.iconst 1, 1) := by decide +kernel
theorem dX4_restart_12 : decode (zcc mX4_restart) 12 = .ok (.putfield 19, 3) := by decide +kernel
theorem dX4_restart_15 : decode (zcc mX4_restart) 15 = .ok (.return_, 1) := by decide +kernel
theorem dX4_isLetter_0 : decode (zcc mX4_isLetter) 0 = .ok (.iload_n 1, 1) := by decide +kernel
theorem dX4_isLetter_1 : decode (zcc mX4_isLetter) 1 = .ok (.ifCond .lt 15, 3) := by decide +kernel
theorem dX4_isLetter_4 : decode (zcc mX4_isLetter) 4 = .ok (.iload_n 1, 1) := by decide +kernel
theorem dX4_isLetter_5 : decode (zcc mX4_isLetter) 5 = .ok (.aload_n 0, 1) := by decide +kernel
theorem dX4_isLetter_6 : decode (zcc mX4_isLetter) 6 = .ok (.getfield 15, 3) := by decide +kernel
theorem dX4_isLetter_9 : decode (zcc mX4_isLetter) 9 = .ok (.if_icmp .ge 7, 3) := by decide +kernel
theorem dX4_isLetter_12 : decode (zcc mX4_isLetter) 12 = .ok (.iconst 1, 1) := by decide +kernel
theorem dX4_isLetter_13 : decode (zcc mX4_isLetter) 13 = .ok (.goto 4, 3) := by decide +kernel
theorem dX4_isLetter_16 : decode (zcc mX4_isLetter) 16 = .ok (.iconst 0, 1) := by decide +kernel
theorem dX4_isLetter_17 : decode (zcc mX4_isLetter) 17 = .ok (.ireturn, 1) := by decide +kernel
theorem dX4_isText_0 : decode (zcc mX4_isText) 0 = .ok (.iload_n 1, 1) := by decide +kernel
theorem dX4_isText_1 : decode (zcc mX4_isText) 1 = .ok (.ifCond .lt 15, 3) := by decide +kernel
theorem dX4_isText_4 : decode (zcc mX4_isText) 4 = .ok (.iload_n 1, 1) := by decide +kernel
theorem dX4_isText_5 : decode (zcc mX4_isText) 5 = .ok (.aload_n 0, 1) := by decide +kernel
theorem dX4_isText_6 : decode (zcc mX4_isText) 6 = .ok (.getfield 22, 3) := by decide +kernel
theorem dX4_isText_9 : decode (zcc mX4_isText) 9 = .ok (.if_icmp .ge 7, 3) := by decide +kernel
theorem dX4_isText_12 : decode (zcc mX4_isText) 12 = .ok (.iconst 1, 1) := by decide +kernel
theorem dX4_isText_13 : decode (zcc mX4_isText) 13 = .ok (.goto 4, 3) := by decide +kernel
theorem dX4_isText_16 : decode (zcc mX4_isText) 16 = .ok (.iconst 0, 1) := by decide +kernel
theorem dX4_isText_17 : decode (zcc mX4_isText) 17 = .ok (.ireturn, 1) := by decide +kernel
theorem dX4_hasRoomFor_0 : decode (zcc mX4_hasRoomFor) 0 = .ok (.aload_n 0, 1) := by decide +kernel
theorem dX4_hasRoomFor_1 : decode (zcc mX4_hasRoomFor) 1 = .ok (.getfield 22, 3) := by decide +kernel
theorem dX4_hasRoomFor_4 : decode (zcc mX4_hasRoomFor) 4 = .ok (.iconst 4, 1) := by decide +kernel
theorem dX4_hasRoomFor_5 : decode (zcc mX4_hasRoomFor) 5 = .ok (.if_icmp .ge 23, 3) := by decide +kernel
theorem dX4_hasRoomFor_8 : decode (zcc mX4_hasRoomFor) 8 = .ok (.aload_n 0, 1) := by decide +kernel
theorem dX4_hasRoomFor_9 : decode (zcc mX4_hasRoomFor) 9 = .ok (.getfield 19, 3) := by decide +kernel
theorem dX4_hasRoomFor_12 : decode (zcc mX4_hasRoomFor) 12 = .ok (.aload_n 0, 1) := by decide +kernel
theorem dX4_hasRoomFor_13 : decode (zcc mX4_hasRoomFor) 13 = .ok (.iload_n 1, 1) := by decide +kernel
theorem dX4_hasRoomFor_14 : decode (zcc mX4_hasRoomFor) 14 = .ok (.invokevirtual 25, 3) := by decide +kernel
theorem dX4_hasRoomFor_17 : decode (zcc mX4_hasRoomFor) 17 = .ok (.imul, 1) := by decide +kernel
theorem dX4_hasRoomFor_18 : decode (zcc mX4_hasRoomFor) 18 = .ok (.sipush 8000, 3) := by decide +kernel
theorem dX4_hasRoomFor_21 : decode (zcc mX4_hasRoomFor) 21 = .ok (.if_icmp .gt 7, 3) := by decide +kernel
theorem dX4_hasRoomFor_24 : decode (zcc mX4_hasRoomFor) 24 = .ok (.iconst 1, 1) := by decide +kernel
theorem dX4_hasRoomFor_25 : decode (zcc mX4_hasRoomFor) 25 = .ok (.goto 4, 3) := by decide +kernel
theorem dX4_hasRoomFor_28 : decode (zcc mX4_hasRoomFor) 28 = .ok (.iconst 0, 1) := by decide +kernel
theorem dX4_hasRoomFor_29 : decode (zcc mX4_hasRoomFor) 29 = .ok (.ireturn, 1) := by decide +kernel
theorem dX4_add_0 : decode (zcc mX4_add) 0 = .ok (.aload_n 0, 1) := by decide +kernel
theorem dX4_add_1 : decode (zcc mX4_add) 1 = .ok (.getfield 22, 3) := by decide +kernel
theorem dX4_add_4 : decode (zcc mX4_add) 4 = .ok (.iconst 4, 1) := by decide +kernel
theorem dX4_add_5 : decode (zcc mX4_add) 5 = .ok (.if_icmp .ge 37, 3) := by decide +kernel
theorem dX4_add_8 : decode (zcc mX4_add) 8 = .ok (.aload_n 0, 1) := by decide +kernel
theorem dX4_add_9 : decode (zcc mX4_add) 9 = .ok (.getfield 9, 3) := by decide +kernel
theorem dX4_add_12 : decode (zcc mX4_add) 12 = .ok (.aload_n 0, 1) := by decide +kernel
theorem dX4_add_13 : decode (zcc mX4_add) 13 = .ok (.getfield 22, 3) := by decide +kernel
theorem dX4_add_16 : decode (zcc mX4_add) 16 = .ok (.iload_n 1, 1) := by decide +kernel
theorem dX4_add_17 : decode (zcc mX4_add) 17 = .ok (.iastore, 1) := by decide +kernel
theorem dX4_add_18 : decode (zcc mX4_add) 18 = .ok (.aload_n 0, 1) := by decide +kernel
theorem dX4_add_19 : decode (zcc mX4_add) 19 = .ok (.dup, 1) := by decide +kernel
theorem dX4_add_20 : decode (zcc mX4_add) 20 = .ok (.getfield 22, 3) := by decide +kernel
theorem dX4_add_23 : decode (zcc mX4_add) 23 = .ok (.iconst 1, 1) := by decide +kernel
theorem dX4_add_24 : decode (zcc mX4_add) 24 = .ok (.iadd, 1) := by decide +kernel
theorem dX4_add_25 : decode (zcc mX4_add) 25 = .ok (.putfield 22, 3) := by decide +kernel
theorem dX4_add_28 : decode (zcc mX4_add) 28 = .ok (.aload_n 0, 1) := by decide +kernel
theorem dX4_add_29 : decode (zcc mX4_add) 29 = .ok (.dup, 1) := by decide +kernel
theorem dX4_add_30 : decode (zcc mX4_add) 30 = .ok (.getfield 19, 3) := by decide +kernel
theorem dX4_add_33 : decode (zcc mX4_add) 33 = .ok (.aload_n 0, 1) := by decide +kernel
theorem dX4_add_34 : decode (zcc mX4_add) 34 = .ok (.iload_n 1, 1) := by decide +kernel
theorem dX4_add_35 : decode (zcc mX4_add) 35 = .ok (.invokevirtual 25, 3) := by decide +kernel
theorem dX4_add_38 : decode (zcc mX4_add) 38 = .ok (.imul, 1) := by decide +kernel
theorem dX4_add_39 : decode (zcc mX4_add) 39 = .ok (.putfield 19, 3) := by decide +kernel
theorem dX4_add_42 : decode (zcc mX4_add) 42 = .ok (.return_, 1) := by decide +kernel
theorem dX4_rowsUpTo_0 : decode (zcc mX4_rowsUpTo) 0 = .ok (.iconst 1, 1) := by decide +kernel
theorem dX4_rowsUpTo_1 : decode (zcc mX4_rowsUpTo) 1 = .ok (.istore_n 2, 1) := by decide +kernel
theorem dX4_rowsUpTo_2 : decode (zcc mX4_rowsUpTo) 2 = .ok (.iconst 1, 1) := by decide +kernel
theorem dX4_rowsUpTo_3 : decode (zcc mX4_rowsUpTo) 3 = .ok (.istore_n 3, 1) := by decide +kernel
theorem dX4_rowsUpTo_4 : decode (zcc mX4_rowsUpTo) 4 = .ok (.iconst 0, 1) := by decide +kernel
theorem dX4_rowsUpTo_5 : decode (zcc mX4_rowsUpTo) 5 = .ok (.istore 4, 2) := by decide +kernel
theorem dX4_rowsUpTo_7 : decode (zcc mX4_rowsUpTo) 7 = .ok (.iload 4, 2) := by decide +kernel
theorem dX4_rowsUpTo_9 : decode (zcc mX4_rowsUpTo) 9 = .ok (.iload_n 1, 1) := by decide +kernel
theorem dX4_rowsUpTo_10 : decode (zcc mX4_rowsUpTo) 10 = .ok (.if_icmp .ge 20, 3) := by decide +kernel
theorem dX4_rowsUpTo_13 : decode (zcc mX4_rowsUpTo) 13 = .ok (.iload_n 3, 1) := by decide +kernel
theorem dX4_rowsUpTo_14 : decode (zcc mX4_rowsUpTo) 14 = .ok (.aload_n 0, 1) := by decide +kernel
theorem dX4_rowsUpTo_15 : decode (zcc mX4_rowsUpTo) 15 = .ok (.getfield 15, 3) := by decide +kernel
theorem dX4_rowsUpTo_18 : decode (zcc mX4_rowsUpTo) 18 = .ok (.imul, 1) := by decide +kernel
theorem dX4_rowsUpTo_19 : decode (zcc mX4_rowsUpTo) 19 = .ok (.istore_n 3, 1) := by decide +kernel
theorem dX4_rowsUpTo_20 : decode (zcc mX4_rowsUpTo) 20 = .ok (.iload_n 2, 1) := by decide +kernel
theorem dX4_rowsUpTo_21 : decode (zcc mX4_rowsUpTo) 21 = .ok (.iload_n 3, 1) := by decide +kernel
theorem dX4_rowsUpTo_22 : decode (zcc mX4_rowsUpTo) 22 = .ok (.iadd, 1) := by decide +kernel
theorem dX4_rowsUpTo_23 : decode (zcc mX4_rowsUpTo) 23 = .ok (.istore_n 2, 1) := by decide +kernel
theorem dX4_rowsUpTo_24 : decode (zcc mX4_rowsUpTo) 24 = .ok (.iinc 4 1, 3) := by decide +kernel
theorem dX4_rowsUpTo_27 : decode (zcc mX4_rowsUpTo) 27 = .ok (.goto (-20), 3) := by decide +kernel
theorem dX4_rowsUpTo_30 : decode (zcc mX4_rowsUpTo) 30 = .ok (.iload_n 2, 1) := by decide +kernel
theorem dX4_rowsUpTo_31 : decode (zcc mX4_rowsUpTo) 31 = .ok (.ireturn, 1) := by decide +kernel
theorem dX4_lengthWays_0 : decode (zcc mX4_lengthWays) 0 = .ok (.iconst 1, 1) := by decide +kernel
theorem dX4_lengthWays_1 : decode (zcc mX4_lengthWays) 1 = .ok (.istore_n 1, 1) := by decide +kernel
theorem dX4_lengthWays_2 : decode (zcc mX4_lengthWays) 2 = .ok (.iconst 0, 1) := by decide +kernel
theorem dX4_lengthWays_3 : decode (zcc mX4_lengthWays) 3 = .ok (.istore_n 2, 1) := by decide +kernel
theorem dX4_lengthWays_4 : decode (zcc mX4_lengthWays) 4 = .ok (.iload_n 2, 1) := by decide +kernel
theorem dX4_lengthWays_5 : decode (zcc mX4_lengthWays) 5 = .ok (.aload_n 0, 1) := by decide +kernel
theorem dX4_lengthWays_6 : decode (zcc mX4_lengthWays) 6 = .ok (.getfield 22, 3) := by decide +kernel
theorem dX4_lengthWays_9 : decode (zcc mX4_lengthWays) 9 = .ok (.if_icmp .ge 20, 3) := by decide +kernel
theorem dX4_lengthWays_12 : decode (zcc mX4_lengthWays) 12 = .ok (.iload_n 1, 1) := by decide +kernel
theorem dX4_lengthWays_13 : decode (zcc mX4_lengthWays) 13 = .ok (.aload_n 0, 1) := by decide +kernel
theorem dX4_lengthWays_14 : decode (zcc mX4_lengthWays) 14 = .ok (.getfield 9, 3) := by decide +kernel
theorem dX4_lengthWays_17 : decode (zcc mX4_lengthWays) 17 = .ok (.iload_n 2, 1) := by decide +kernel
theorem dX4_lengthWays_18 : decode (zcc mX4_lengthWays) 18 = .ok (.iaload, 1) := by decide +kernel
theorem dX4_lengthWays_19 : decode (zcc mX4_lengthWays) 19 = .ok (.iconst 1, 1) := by decide +kernel
theorem dX4_lengthWays_20 : decode (zcc mX4_lengthWays) 20 = .ok (.iadd, 1) := by decide +kernel
theorem dX4_lengthWays_21 : decode (zcc mX4_lengthWays) 21 = .ok (.imul, 1) := by decide +kernel
theorem dX4_lengthWays_22 : decode (zcc mX4_lengthWays) 22 = .ok (.istore_n 1, 1) := by decide +kernel
theorem dX4_lengthWays_23 : decode (zcc mX4_lengthWays) 23 = .ok (.iinc 2 1, 3) := by decide +kernel
theorem dX4_lengthWays_26 : decode (zcc mX4_lengthWays) 26 = .ok (.goto (-22), 3) := by decide +kernel
theorem dX4_lengthWays_29 : decode (zcc mX4_lengthWays) 29 = .ok (.iload_n 1, 1) := by decide +kernel
theorem dX4_lengthWays_30 : decode (zcc mX4_lengthWays) 30 = .ok (.ireturn, 1) := by decide +kernel
theorem dX5_init_0 : decode (zcc mX5_init) 0 = .ok (.aload_n 0, 1) := by decide +kernel
theorem dX5_init_1 : decode (zcc mX5_init) 1 = .ok (.invokespecial 3, 3) := by decide +kernel
theorem dX5_init_4 : decode (zcc mX5_init) 4 = .ok (.aload_n 0, 1) := by decide +kernel
theorem dX5_init_5 : decode (zcc mX5_init) 5 = .ok (.bipush 6, 2) := by decide +kernel
theorem dX5_init_7 : decode (zcc mX5_init) 7 = .ok (.newarray .int, 2) := by decide +kernel
theorem dX5_init_9 : decode (zcc mX5_init) 9 = .ok (.putfield 9, 3) := by decide +kernel
theorem dX5_init_12 : decode (zcc mX5_init) 12 = .ok (.return_, 1) := by decide +kernel
theorem dX5_restart_0 : decode (zcc mX5_restart) 0 = .ok (.aload_n 0, 1) := by decide +kernel
theorem dX5_restart_1 : decode (zcc mX5_restart) 1 = .ok (.iconst 0, 1) := by decide +kernel
theorem dX5_restart_2 : decode (zcc mX5_restart) 2 = .ok (.putfield 15, 3) := by decide +kernel
theorem dX5_restart_5 : decode (zcc mX5_restart) 5 = .ok (.return_, 1) := by decide +kernel
theorem dX5_add_0 : decode (zcc mX5_add) 0 = .ok (.aload_n 0, 1) := by decide +kernel
theorem dX5_add_1 : decode (zcc mX5_add) 1 = .ok (.getfield 15, 3) := by decide +kernel
theorem dX5_add_4 : decode (zcc mX5_add) 4 = .ok (.bipush 6, 2) := by decide +kernel
theorem dX5_add_6 : decode (zcc mX5_add) 6 = .ok (.if_icmp .lt 5, 3) := by decide +kernel
theorem dX5_add_9 : decode (zcc mX5_add) 9 = .ok (.iconst 0, 1) := by decide +kernel
theorem dX5_add_10 : decode (zcc mX5_add) 10 = .ok (.ireturn, 1) := by decide +kernel
theorem dX5_add_11 : decode (zcc mX5_add) 11 = .ok (.aload_n 0, 1) := by decide +kernel
theorem dX5_add_12 : decode (zcc mX5_add) 12 = .ok (.getfield 9, 3) := by decide +kernel
theorem dX5_add_15 : decode (zcc mX5_add) 15 = .ok (.aload_n 0, 1) := by decide +kernel
theorem dX5_add_16 : decode (zcc mX5_add) 16 = .ok (.getfield 15, 3) := by decide +kernel
theorem dX5_add_19 : decode (zcc mX5_add) 19 = .ok (.iload_n 1, 1) := by decide +kernel
theorem dX5_add_20 : decode (zcc mX5_add) 20 = .ok (.iastore, 1) := by decide +kernel
theorem dX5_add_21 : decode (zcc mX5_add) 21 = .ok (.aload_n 0, 1) := by decide +kernel
theorem dX5_add_22 : decode (zcc mX5_add) 22 = .ok (.dup, 1) := by decide +kernel
theorem dX5_add_23 : decode (zcc mX5_add) 23 = .ok (.getfield 15, 3) := by decide +kernel
theorem dX5_add_26 : decode (zcc mX5_add) 26 = .ok (.iconst 1, 1) := by decide +kernel
theorem dX5_add_27 : decode (zcc mX5_add) 27 = .ok (.iadd, 1) := by decide +kernel
theorem dX5_add_28 : decode (zcc mX5_add) 28 = .ok (.putfield 15, 3) := by decide +kernel
theorem dX5_add_31 : decode (zcc mX5_add) 31 = .ok (.iconst 1, 1) := by decide +kernel
theorem dX5_add_32 : decode (zcc mX5_add) 32 = .ok (.ireturn, 1) := by decide +kernel
theorem dX5_lengthWith_0 : decode (zcc mX5_lengthWith) 0 = .ok (.iconst 0, 1) := by decide +kernel
theorem dX5_lengthWith_1 : decode (zcc mX5_lengthWith) 1 = .ok (.istore_n 2, 1) := by decide +kernel
theorem dX5_lengthWith_2 : decode (zcc mX5_lengthWith) 2 = .ok (.iconst 0, 1) := by decide +kernel
theorem dX5_lengthWith_3 : decode (zcc mX5_lengthWith) 3 = .ok (.istore_n 3, 1) := by decide +kernel
theorem dX5_lengthWith_4 : decode (zcc mX5_lengthWith) 4 = .ok (.iload_n 3, 1) := by decide +kernel
theorem dX5_lengthWith_5 : decode (zcc mX5_lengthWith) 5 = .ok (.aload_n 0, 1) := by decide +kernel
theorem dX5_lengthWith_6 : decode (zcc mX5_lengthWith) 6 = .ok (.getfield 15, 3) := by decide +kernel
theorem dX5_lengthWith_9 : decode (zcc mX5_lengthWith) 9 = .ok (.if_icmp .ge 43, 3) := by decide +kernel
theorem dX5_lengthWith_12 : decode (zcc mX5_lengthWith) 12 = .ok (.aload_n 0, 1) := by decide +kernel
theorem dX5_lengthWith_13 : decode (zcc mX5_lengthWith) 13 = .ok (.getfield 9, 3) := by decide +kernel
theorem dX5_lengthWith_16 : decode (zcc mX5_lengthWith) 16 = .ok (.iload_n 3, 1) := by decide +kernel
theorem dX5_lengthWith_17 : decode (zcc mX5_lengthWith) 17 = .ok (.iaload, 1) := by decide +kernel
theorem dX5_lengthWith_18 : decode (zcc mX5_lengthWith) 18 = .ok (.bipush 8, 2) := by decide +kernel
theorem dX5_lengthWith_20 : decode (zcc mX5_lengthWith) 20 = .ok (.isub, 1) := by decide +kernel
theorem dX5_lengthWith_21 : decode (zcc mX5_lengthWith) 21 = .ok (.istore 4, 2) := by decide +kernel
theorem dX5_lengthWith_23 : decode (zcc mX5_lengthWith) 23 = .ok (.iload_n 2, 1) := by decide +kernel
theorem dX5_lengthWith_24 : decode (zcc mX5_lengthWith) 24 = .ok (.iload 4, 2) := by decide +kernel
theorem dX5_lengthWith_26 : decode (zcc mX5_lengthWith) 26 = .ok (.ifCond .lt 17, 3) := by decide +kernel
theorem dX5_lengthWith_29 : decode (zcc mX5_lengthWith) 29 = .ok (.iload 4, 2) := by decide +kernel
theorem dX5_lengthWith_31 : decode (zcc mX5_lengthWith) 31 = .ok (.aload_n 1, 1) := by decide +kernel
theorem dX5_lengthWith_32 : decode (zcc mX5_lengthWith) 32 = .ok (.arraylength, 1) := by decide +kernel
theorem dX5_lengthWith_33 : decode (zcc mX5_lengthWith) 33 = .ok (.if_icmp .ge 10, 3) := by decide +kernel
theorem dX5_lengthWith_36 : decode (zcc mX5_lengthWith) 36 = .ok (.aload_n 1, 1) := by decide +kernel
theorem dX5_lengthWith_37 : decode (zcc mX5_lengthWith) 37 = .ok (.iload 4, 2) := by decide +kernel
theorem dX5_lengthWith_39 : decode (zcc mX5_lengthWith) 39 = .ok (.iaload, 1) := by decide +kernel
theorem dX5_lengthWith_40 : decode (zcc mX5_lengthWith) 40 = .ok (.goto 4, 3) := by decide +kernel
theorem dX5_lengthWith_43 : decode (zcc mX5_lengthWith) 43 = .ok (.iconst 1, 1) := by decide +kernel
theorem dX5_lengthWith_44 : decode (zcc mX5_lengthWith) 44 = .ok (.iadd, 1) := by decide +kernel
theorem dX5_lengthWith_45 : decode (zcc mX5_lengthWith) 45 = .ok (.istore_n 2, 1) := by decide +kernel
theorem dX5_lengthWith_46 : decode (zcc mX5_lengthWith) 46 = .ok (.iinc 3 1, 3) := by decide +kernel
theorem dX5_lengthWith_49 : decode (zcc mX5_lengthWith) 49 = .ok (.goto (-45), 3) := by decide +kernel
theorem dX5_lengthWith_52 : decode (zcc mX5_lengthWith) 52 = .ok (.iload_n 2, 1) := by decide +kernel
theorem dX5_lengthWith_53 : decode (zcc mX5_lengthWith) 53 = .ok (.ireturn, 1) := by decide +kernel
theorem dX6_init_0 : decode (zcc mX6_init) 0 = .ok (.aload_n 0, 1) := by decide +kernel
theorem dX6_init_1 : decode (zcc mX6_init) 1 = .ok (.invokespecial 3, 3) := by decide +kernel
theorem dX6_init_4 : decode (zcc mX6_init) 4 = .ok (.aload_n 0, 1) := by decide +kernel
theorem dX6_init_5 : decode (zcc mX6_init) 5 = .ok (.iconst 4, 1) := by decide +kernel
theorem dX6_init_6 : decode (zcc mX6_init) 6 = .ok (.newarray .int, 2) := by decide +kernel
theorem dX6_init_8 : decode (zcc mX6_init) 8 = .ok (.putfield 9, 3) := by decide +kernel
theorem dX6_init_11 : decode (zcc mX6_init) 11 = .ok (.aload_n 0, 1) := by decide +kernel
theorem dX6_init_12 : decode (zcc mX6_init) 12 = .ok (.iconst 4, 1) := by decide +kernel
theorem dX6_init_13 : decode (zcc mX6_init) 13 = .ok (.newarray .int, 2) := by decide +kernel
theorem dX6_init_15 : decode (zcc mX6_init) 15 = .ok (.putfield 15, 3) := by decide +kernel
theorem dX6_init_18 : decode (zcc mX6_init) 18 = .ok (.aload_n 0, 1) := by decide +kernel
theorem dX6_init_19 : decode (zcc mX6_init) 19 = .ok (.bipush 20, 2) := by decide +kernel
theorem dX6_init_21 : decode (zcc mX6_init) 21 = .ok (.newarray .int, 2) := by decide +kernel
theorem dX6_init_23 : decode (zcc mX6_init) 23 = .ok (.putfield 18, 3) := by decide +kernel
theorem dX6_init_26 : decode (zcc mX6_init) 26 = .ok (.aload_n 0, 1) := by decide +kernel
theorem dX6_init_27 : decode (zcc mX6_init) 27 = .ok (.iconst 1, 1) := by decide +kernel
theorem dX6_init_28 : decode (zcc mX6_init) 28 = .ok (.putfield 21, 3) := by decide +kernel
theorem dX6_init_31 : decode (zcc mX6_init) 31 = .ok (.aload_n 0, 1) := by decide +kernel
theorem dX6_init_32 : decode (zcc mX6_init) 32 = .ok (.aload_n 1, 1) := by decide +kernel
theorem dX6_init_33 : decode (zcc mX6_init) 33 = .ok (.putfield 25, 3) := by decide +kernel
theorem dX6_init_36 : decode (zcc mX6_init) 36 = .ok (.return_, 1) := by decide +kernel
theorem dX6_restart_0 : decode (zcc mX6_restart) 0 = .ok (.aload_n 0, 1) := by decide +kernel
theorem dX6_restart_1 : decode (zcc mX6_restart) 1 = .ok (.getfield 9, 3) := by decide +kernel
theorem dX6_restart_4 : decode (zcc mX6_restart) 4 = .ok (.iconst 0, 1) := by decide +kernel
theorem dX6_restart_5 : decode (zcc mX6_restart) 5 = .ok (.invokestatic 29, 3) := by decide +kernel
theorem dX6_restart_8 : decode (zcc mX6_restart) 8 = .ok (.aload_n 0, 1) := by decide +kernel
theorem dX6_restart_9 : decode (zcc mX6_restart) 9 = .ok (.iconst 0, 1) := by decide +kernel
theorem dX6_restart_10 : decode (zcc mX6_restart) 10 = .ok (.putfield 35, 3) := by decide +kernel
theorem dX6_restart_13 : decode (zcc mX6_restart) 13 = .ok (.aload_n 0, 1) := by decide +kernel
theorem dX6_restart_14 : decode (zcc mX6_restart) 14 = .ok (.invokevirtual 38, 3) := by decide +kernel
theorem dX6_restart_17 : decode (zcc mX6_restart) 17 = .ok (.return_, 1) := by decide +kernel
theorem dX6_layOut_0 : decode (zcc mX6_layOut) 0 = .ok (.aload_n 0, 1) := by decide +kernel
theorem dX6_layOut_1 : decode (zcc mX6_layOut) 1 = .ok (.iconst 0, 1) := by decide +kernel
theorem dX6_layOut_2 : decode (zcc mX6_layOut) 2 = .ok (.putfield 41, 3) := by decide +kernel
theorem dX6_layOut_5 : decode (zcc mX6_layOut) 5 = .ok (.iconst 0, 1) := by decide +kernel
theorem dX6_layOut_6 : decode (zcc mX6_layOut) 6 = .ok (.istore_n 1, 1) := by decide +kernel
theorem dX6_layOut_7 : decode (zcc mX6_layOut) 7 = .ok (.iload_n 1, 1) := by decide +kernel
theorem dX6_layOut_8 : decode (zcc mX6_layOut) 8 = .ok (.aload_n 0, 1) := by decide +kernel
theorem dX6_layOut_9 : decode (zcc mX6_layOut) 9 = .ok (.getfield 25, 3) := by decide +kernel
theorem dX6_layOut_12 : decode (zcc mX6_layOut) 12 = .ok (.getfield 44, 3) := by decide +kernel
theorem dX6_layOut_15 : decode (zcc mX6_layOut) 15 = .ok (.if_icmp .ge 34, 3) := by decide +kernel
theorem dX6_layOut_18 : decode (zcc mX6_layOut) 18 = .ok (.aload_n 0, 1) := by decide +kernel
theorem dX6_layOut_19 : decode (zcc mX6_layOut) 19 = .ok (.getfield 15, 3) := by decide +kernel
theorem dX6_layOut_22 : decode (zcc mX6_layOut) 22 = .ok (.iload_n 1, 1) := by decide +kernel
theorem dX6_layOut_23 : decode (zcc mX6_layOut) 23 = .ok (.aload_n 0, 1) := by decide +kernel
theorem dX6_layOut_24 : decode (zcc mX6_layOut) 24 = .ok (.getfield 41, 3) := by decide +kernel
theorem dX6_layOut_27 : decode (zcc mX6_layOut) 27 = .ok (.iastore, 1) := by decide +kernel
theorem dX6_layOut_28 : decode (zcc mX6_layOut) 28 = .ok (.aload_n 0, 1) := by decide +kernel
theorem dX6_layOut_29 : decode (zcc mX6_layOut) 29 = .ok (.dup, 1) := by decide +kernel
theorem dX6_layOut_30 : decode (zcc mX6_layOut) 30 = .ok (.getfield 41, 3) := by decide +kernel
theorem dX6_layOut_33 : decode (zcc mX6_layOut) 33 = .ok (.aload_n 0, 1) := by decide +kernel
theorem dX6_layOut_34 : decode (zcc mX6_layOut) 34 = .ok (.getfield 9, 3) := by decide +kernel
theorem dX6_layOut_37 : decode (zcc mX6_layOut) 37 = .ok (.iload_n 1, 1) := by decide +kernel
theorem dX6_layOut_38 : decode (zcc mX6_layOut) 38 = .ok (.iaload, 1) := by decide +kernel
theorem dX6_layOut_39 : decode (zcc mX6_layOut) 39 = .ok (.iadd, 1) := by decide +kernel
theorem dX6_layOut_40 : decode (zcc mX6_layOut) 40 = .ok (.putfield 41, 3) := by decide +kernel
theorem dX6_layOut_43 : decode (zcc mX6_layOut) 43 = .ok (.iinc 1 1, 3) := by decide +kernel
theorem dX6_layOut_46 : decode (zcc mX6_layOut) 46 = .ok (.goto (-39), 3) := by decide +kernel
theorem dX6_layOut_49 : decode (zcc mX6_layOut) 49 = .ok (.aload_n 0, 1) := by decide +kernel
theorem dX6_layOut_50 : decode (zcc mX6_layOut) 50 = .ok (.iconst 1, 1) := by decide +kernel
theorem dX6_layOut_51 : decode (zcc mX6_layOut) 51 = .ok (.putfield 21, 3) := by decide +kernel
theorem dX6_layOut_54 : decode (zcc mX6_layOut) 54 = .ok (.iconst 0, 1) := by decide +kernel
theorem dX6_layOut_55 : decode (zcc mX6_layOut) 55 = .ok (.istore_n 1, 1) := by decide +kernel
theorem dX6_layOut_56 : decode (zcc mX6_layOut) 56 = .ok (.iload_n 1, 1) := by decide +kernel
theorem dX6_layOut_57 : decode (zcc mX6_layOut) 57 = .ok (.aload_n 0, 1) := by decide +kernel
theorem dX6_layOut_58 : decode (zcc mX6_layOut) 58 = .ok (.getfield 41, 3) := by decide +kernel
theorem dX6_layOut_61 : decode (zcc mX6_layOut) 61 = .ok (.if_icmp .ge 25, 3) := by decide +kernel
theorem dX6_layOut_64 : decode (zcc mX6_layOut) 64 = .ok (.aload_n 0, 1) := by decide +kernel
theorem dX6_layOut_65 : decode (zcc mX6_layOut) 65 = .ok (.dup, 1) := by decide +kernel
theorem dX6_layOut_66 : decode (zcc mX6_layOut) 66 = .ok (.getfield 21, 3) := by decide +kernel
theorem dX6_layOut_69 : decode (zcc mX6_layOut) 69 = .ok (.aload_n 0, 1) := by decide +kernel
theorem dX6_layOut_70 : decode (zcc mX6_layOut) 70 = .ok (.getfield 25, 3) := by decide +kernel
theorem dX6_layOut_73 : decode (zcc mX6_layOut) 73 = .ok (.getfield 49, 3) := by decide +kernel
theorem dX6_layOut_76 : decode (zcc mX6_layOut) 76 = .ok (.imul, 1) := by decide +kernel
theorem dX6_layOut_77 : decode (zcc mX6_layOut) 77 = .ok (.putfield 21, 3) := by decide +kernel
theorem dX6_layOut_80 : decode (zcc mX6_layOut) 80 = .ok (.iinc 1 1, 3) := by decide +kernel
theorem dX6_layOut_83 : decode (zcc mX6_layOut) 83 = .ok (.goto (-27), 3) := by decide +kernel
theorem dX6_layOut_86 : decode (zcc mX6_layOut) 86 = .ok (.return_, 1) := by decide +kernel
theorem dX6_goToNextLengths_0 : decode (zcc mX6_goToNextLengths) 0 = .ok (.aload_n 0, 1) := by decide +kernel
theorem dX6_goToNextLengths_1 : decode (zcc mX6_goToNextLengths) 1 = .ok (.dup, 1) := by decide +kernel
theorem dX6_goToNextLengths_2 : decode (zcc mX6_goToNextLengths) 2 = .ok (.getfield 35, 3) := by decide +kernel
theorem dX6_goToNextLengths_5 : decode (zcc mX6_goToNextLengths) 5 = .ok (.aload_n 0, 1) := by decide +kernel
theorem dX6_goToNextLengths_6 : decode (zcc mX6_goToNextLengths) 6 = .ok (.getfield 21, 3) := by decide +kernel
theorem dX6_goToNextLengths_9 : decode (zcc mX6_goToNextLengths) 9 = .ok (.iadd, 1) := by decide +kernel
theorem dX6_goToNextLengths_10 : decode (zcc mX6_goToNextLengths) 10 = .ok (.putfield 35, 3) := by decide +kernel
theorem dX6_goToNextLengths_13 : decode (zcc mX6_goToNextLengths) 13 = .ok (.aload_n 0, 1) := by decide +kernel
theorem dX6_goToNextLengths_14 : decode (zcc mX6_goToNextLengths) 14 = .ok (.getfield 25, 3) := by decide +kernel
theorem dX6_goToNextLengths_17 : decode (zcc mX6_goToNextLengths) 17 = .ok (.getfield 44, 3) := by decide +kernel
theorem dX6_goToNextLengths_20 : decode (zcc mX6_goToNextLengths) 20 = .ok (.iconst 1, 1) := by decide +kernel
theorem dX6_goToNextLengths_21 : decode (zcc mX6_goToNextLengths) 21 = .ok (.isub, 1) := by decide +kernel
theorem dX6_goToNextLengths_22 : decode (zcc mX6_goToNextLengths) 22 = .ok (.istore_n 1, 1) := by decide +kernel
theorem dX6_goToNextLengths_23 : decode (zcc mX6_goToNextLengths) 23 = .ok (.iload_n 1, 1) := by decide +kernel
theorem dX6_goToNextLengths_24 : decode (zcc mX6_goToNextLengths) 24 = .ok (.ifCond .lt 34, 3) := by decide +kernel
theorem dX6_goToNextLengths_27 : decode (zcc mX6_goToNextLengths) 27 = .ok (.aload_n 0, 1) := by decide +kernel
theorem dX6_goToNextLengths_28 : decode (zcc mX6_goToNextLengths) 28 = .ok (.getfield 9, 3) := by decide +kernel
theorem dX6_goToNextLengths_31 : decode (zcc mX6_goToNextLengths) 31 = .ok (.iload_n 1, 1) := by decide +kernel
theorem dX6_goToNextLengths_32 : decode (zcc mX6_goToNextLengths) 32 = .ok (.iaload, 1) := by decide +kernel
theorem dX6_goToNextLengths_33 : decode (zcc mX6_goToNextLengths) 33 = .ok (.aload_n 0, 1) := by decide +kernel
theorem dX6_goToNextLengths_34 : decode (zcc mX6_goToNextLengths) 34 = .ok (.getfield 25, 3) := by decide +kernel
theorem dX6_goToNextLengths_37 : decode (zcc mX6_goToNextLengths) 37 = .ok (.getfield 52, 3) := by decide +kernel
theorem dX6_goToNextLengths_40 : decode (zcc mX6_goToNextLengths) 40 = .ok (.iload_n 1, 1) := by decide +kernel
theorem dX6_goToNextLengths_41 : decode (zcc mX6_goToNextLengths) 41 = .ok (.iaload, 1) := by decide +kernel
theorem dX6_goToNextLengths_42 : decode (zcc mX6_goToNextLengths) 42 = .ok (.if_icmp .lt 16, 3) := by decide +kernel
theorem dX6_goToNextLengths_45 : decode (zcc mX6_goToNextLengths) 45 = .ok (.aload_n 0, 1) := by decide +kernel
theorem dX6_goToNextLengths_46 : decode (zcc mX6_goToNextLengths) 46 = .ok (.getfield 9, 3) := by decide +kernel
theorem dX6_goToNextLengths_49 : decode (zcc mX6_goToNextLengths) 49 = .ok (.iload_n 1, 1) := by decide +kernel
theorem dX6_goToNextLengths_50 : decode (zcc mX6_goToNextLengths) 50 = .ok (.iconst 0, 1) := by decide +kernel
theorem dX6_goToNextLengths_51 : decode (zcc mX6_goToNextLengths) 51 = .ok (.iastore, 1) := by decide +kernel
theorem dX6_goToNextLengths_52 : decode (zcc mX6_goToNextLengths) 52 = .ok (.iinc 1 (-1), 3) := by decide +kernel
theorem dX6_goToNextLengths_55 : decode (zcc mX6_goToNextLengths) 55 = .ok (.goto (-32), 3) := by decide +kernel
theorem dX6_goToNextLengths_58 : decode (zcc mX6_goToNextLengths) 58 = .ok (.iload_n 1, 1) := by decide +kernel
theorem dX6_goToNextLengths_59 : decode (zcc mX6_goToNextLengths) 59 = .ok (.ifCond .lt 16, 3) := by decide +kernel
theorem dX6_goToNextLengths_62 : decode (zcc mX6_goToNextLengths) 62 = .ok (.aload_n 0, 1) := by decide +kernel
theorem dX6_goToNextLengths_63 : decode (zcc mX6_goToNextLengths) 63 = .ok (.getfield 9, 3) := by decide +kernel
theorem dX6_goToNextLengths_66 : decode (zcc mX6_goToNextLengths) 66 = .ok (.iload_n 1, 1) := by decide +kernel
theorem dX6_goToNextLengths_67 : decode (zcc mX6_goToNextLengths) 67 = .ok (.dup2, 1) := by decide +kernel
theorem dX6_goToNextLengths_68 : decode (zcc mX6_goToNextLengths) 68 = .ok (.iaload, 1) := by decide +kernel
theorem dX6_goToNextLengths_69 : decode (zcc mX6_goToNextLengths) 69 = .ok (.iconst 1, 1) := by decide +kernel
theorem dX6_goToNextLengths_70 : decode (zcc mX6_goToNextLengths) 70 = .ok (.iadd, 1) := by decide +kernel
theorem dX6_goToNextLengths_71 : decode (zcc mX6_goToNextLengths) 71 = .ok (.iastore, 1) := by decide +kernel
theorem dX6_goToNextLengths_72 : decode (zcc mX6_goToNextLengths) 72 = .ok (.goto 8, 3) := by decide +kernel
theorem dX6_goToNextLengths_75 : decode (zcc mX6_goToNextLengths) 75 = .ok (.aload_n 0, 1) := by decide +kernel
theorem dX6_goToNextLengths_76 : decode (zcc mX6_goToNextLengths) 76 = .ok (.iconst 0, 1) := by decide +kernel
theorem dX6_goToNextLengths_77 : decode (zcc mX6_goToNextLengths) 77 = .ok (.putfield 35, 3) := by decide +kernel
theorem dX6_goToNextLengths_80 : decode (zcc mX6_goToNextLengths) 80 = .ok (.aload_n 0, 1) := by decide +kernel
theorem dX6_goToNextLengths_81 : decode (zcc mX6_goToNextLengths) 81 = .ok (.invokevirtual 38, 3) := by decide +kernel
theorem dX6_goToNextLengths_84 : decode (zcc mX6_goToNextLengths) 84 = .ok (.return_, 1) := by decide +kernel
theorem dX6_goTo_0 : decode (zcc mX6_goTo) 0 = .ok (.iload_n 1, 1) := by decide +kernel
theorem dX6_goTo_1 : decode (zcc mX6_goTo) 1 = .ok (.aload_n 0, 1) := by decide +kernel
theorem dX6_goTo_2 : decode (zcc mX6_goTo) 2 = .ok (.getfield 35, 3) := by decide +kernel
theorem dX6_goTo_5 : decode (zcc mX6_goTo) 5 = .ok (.if_icmp .ge 7, 3) := by decide +kernel
theorem dX6_goTo_8 : decode (zcc mX6_goTo) 8 = .ok (.aload_n 0, 1) := by decide +kernel
theorem dX6_goTo_9 : decode (zcc mX6_goTo) 9 = .ok (.invokevirtual 55, 3) := by decide +kernel
theorem dX6_goTo_12 : decode (zcc mX6_goTo) 12 = .ok (.aload_n 0, 1) := by decide +kernel
theorem dX6_goTo_13 : decode (zcc mX6_goTo) 13 = .ok (.getfield 25, 3) := by decide +kernel
theorem dX6_goTo_16 : decode (zcc mX6_goTo) 16 = .ok (.invokevirtual 58, 3) := by decide +kernel
theorem dX6_goTo_19 : decode (zcc mX6_goTo) 19 = .ok (.istore_n 2, 1) := by decide +kernel
theorem dX6_goTo_20 : decode (zcc mX6_goTo) 20 = .ok (.iload_n 2, 1) := by decide +kernel
theorem dX6_goTo_21 : decode (zcc mX6_goTo) 21 = .ok (.ifCond .le 26, 3) := by decide +kernel
theorem dX6_goTo_24 : decode (zcc mX6_goTo) 24 = .ok (.iload_n 1, 1) := by decide +kernel
theorem dX6_goTo_25 : decode (zcc mX6_goTo) 25 = .ok (.aload_n 0, 1) := by decide +kernel
theorem dX6_goTo_26 : decode (zcc mX6_goTo) 26 = .ok (.getfield 35, 3) := by decide +kernel
theorem dX6_goTo_29 : decode (zcc mX6_goTo) 29 = .ok (.aload_n 0, 1) := by decide +kernel
theorem dX6_goTo_30 : decode (zcc mX6_goTo) 30 = .ok (.getfield 21, 3) := by decide +kernel
theorem dX6_goTo_33 : decode (zcc mX6_goTo) 33 = .ok (.iadd, 1) := by decide +kernel
theorem dX6_goTo_34 : decode (zcc mX6_goTo) 34 = .ok (.if_icmp .lt 13, 3) := by decide +kernel
theorem dX6_goTo_37 : decode (zcc mX6_goTo) 37 = .ok (.aload_n 0, 1) := by decide +kernel
theorem dX6_goTo_38 : decode (zcc mX6_goTo) 38 = .ok (.invokevirtual 62, 3) := by decide +kernel
theorem dX6_goTo_41 : decode (zcc mX6_goTo) 41 = .ok (.iinc 2 (-1), 3) := by decide +kernel
theorem dX6_goTo_44 : decode (zcc mX6_goTo) 44 = .ok (.goto (-24), 3) := by decide +kernel
theorem dX6_goTo_47 : decode (zcc mX6_goTo) 47 = .ok (.iload_n 1, 1) := by decide +kernel
theorem dX6_goTo_48 : decode (zcc mX6_goTo) 48 = .ok (.aload_n 0, 1) := by decide +kernel
theorem dX6_goTo_49 : decode (zcc mX6_goTo) 49 = .ok (.getfield 35, 3) := by decide +kernel
theorem dX6_goTo_52 : decode (zcc mX6_goTo) 52 = .ok (.isub, 1) := by decide +kernel
theorem dX6_goTo_53 : decode (zcc mX6_goTo) 53 = .ok (.istore_n 2, 1) := by decide +kernel
theorem dX6_goTo_54 : decode (zcc mX6_goTo) 54 = .ok (.aload_n 0, 1) := by decide +kernel
theorem dX6_goTo_55 : decode (zcc mX6_goTo) 55 = .ok (.getfield 41, 3) := by decide +kernel
theorem dX6_goTo_58 : decode (zcc mX6_goTo) 58 = .ok (.iconst 1, 1) := by decide +kernel
theorem dX6_goTo_59 : decode (zcc mX6_goTo) 59 = .ok (.isub, 1) := by decide +kernel
theorem dX6_goTo_60 : decode (zcc mX6_goTo) 60 = .ok (.istore_n 3, 1) := by decide +kernel
theorem dX6_goTo_61 : decode (zcc mX6_goTo) 61 = .ok (.iload_n 3, 1) := by decide +kernel
theorem dX6_goTo_62 : decode (zcc mX6_goTo) 62 = .ok (.ifCond .lt 44, 3) := by decide +kernel
theorem dX6_goTo_65 : decode (zcc mX6_goTo) 65 = .ok (.aload_n 0, 1) := by decide +kernel
theorem dX6_goTo_66 : decode (zcc mX6_goTo) 66 = .ok (.getfield 25, 3) := by decide +kernel
theorem dX6_goTo_69 : decode (zcc mX6_goTo) 69 = .ok (.getfield 49, 3) := by decide +kernel
theorem dX6_goTo_72 : decode (zcc mX6_goTo) 72 = .ok (.ifCond .le 34, 3) := by decide +kernel
theorem dX6_goTo_75 : decode (zcc mX6_goTo) 75 = .ok (.aload_n 0, 1) := by decide +kernel
theorem dX6_goTo_76 : decode (zcc mX6_goTo) 76 = .ok (.getfield 18, 3) := by decide +kernel
theorem dX6_goTo_79 : decode (zcc mX6_goTo) 79 = .ok (.iload_n 3, 1) := by decide +kernel
theorem dX6_goTo_80 : decode (zcc mX6_goTo) 80 = .ok (.iload_n 2, 1) := by decide +kernel
theorem dX6_goTo_81 : decode (zcc mX6_goTo) 81 = .ok (.aload_n 0, 1) := by decide +kernel
theorem dX6_goTo_82 : decode (zcc mX6_goTo) 82 = .ok (.getfield 25, 3) := by decide +kernel
theorem dX6_goTo_85 : decode (zcc mX6_goTo) 85 = .ok (.getfield 49, 3) := by decide +kernel
theorem dX6_goTo_88 : decode (zcc mX6_goTo) 88 = .ok (.irem, 1) := by decide +kernel
theorem dX6_goTo_89 : decode (zcc mX6_goTo) 89 = .ok (.iastore, 1) := by decide +kernel
theorem dX6_goTo_90 : decode (zcc mX6_goTo) 90 = .ok (.iload_n 2, 1) := by decide +kernel
theorem dX6_goTo_91 : decode (zcc mX6_goTo) 91 = .ok (.aload_n 0, 1) := by decide +kernel
theorem dX6_goTo_92 : decode (zcc mX6_goTo) 92 = .ok (.getfield 25, 3) := by decide +kernel
theorem dX6_goTo_95 : decode (zcc mX6_goTo) 95 = .ok (.getfield 49, 3) := by decide +kernel
theorem dX6_goTo_98 : decode (zcc mX6_goTo) 98 = .ok (.idiv, 1) := by decide +kernel
theorem dX6_goTo_99 : decode (zcc mX6_goTo) 99 = .ok (.istore_n 2, 1) := by decide +kernel
theorem dX6_goTo_100 : decode (zcc mX6_goTo) 100 = .ok (.iinc 3 (-1), 3) := by decide +kernel
theorem dX6_goTo_103 : decode (zcc mX6_goTo) 103 = .ok (.goto (-42), 3) := by decide +kernel
theorem dX6_goTo_106 : decode (zcc mX6_goTo) 106 = .ok (.return_, 1) := by decide +kernel
theorem dX6_lengthOf_0 : decode (zcc mX6_lengthOf) 0 = .ok (.aload_n 0, 1) := by decide +kernel
theorem dX6_lengthOf_1 : decode (zcc mX6_lengthOf) 1 = .ok (.getfield 25, 3) := by decide +kernel
theorem dX6_lengthOf_4 : decode (zcc mX6_lengthOf) 4 = .ok (.iload_n 1, 1) := by decide +kernel
theorem dX6_lengthOf_5 : decode (zcc mX6_lengthOf) 5 = .ok (.invokevirtual 65, 3) := by decide +kernel
theorem dX6_lengthOf_8 : decode (zcc mX6_lengthOf) 8 = .ok (.ifCond .eq 12, 3) := by decide +kernel
theorem dX6_lengthOf_11 : decode (zcc mX6_lengthOf) 11 = .ok (.aload_n 0, 1) := by decide +kernel
theorem dX6_lengthOf_12 : decode (zcc mX6_lengthOf) 12 = .ok (.getfield 9, 3) := by decide +kernel
theorem dX6_lengthOf_15 : decode (zcc mX6_lengthOf) 15 = .ok (.iload_n 1, 1) := by decide +kernel
theorem dX6_lengthOf_16 : decode (zcc mX6_lengthOf) 16 = .ok (.iaload, 1) := by decide +kernel
theorem dX6_lengthOf_17 : decode (zcc mX6_lengthOf) 17 = .ok (.goto 4, 3) := by decide +kernel
theorem dX6_lengthOf_20 : decode (zcc mX6_lengthOf) 20 = .ok (.iconst 0, 1) := by decide +kernel
theorem dX6_lengthOf_21 : decode (zcc mX6_lengthOf) 21 = .ok (.ireturn, 1) := by decide +kernel
theorem dX6_letterOf_0 : decode (zcc mX6_letterOf) 0 = .ok (.iload_n 2, 1) := by decide +kernel
theorem dX6_letterOf_1 : decode (zcc mX6_letterOf) 1 = .ok (.ifCond .lt 28, 3) := by decide +kernel
theorem dX6_letterOf_4 : decode (zcc mX6_letterOf) 4 = .ok (.iload_n 2, 1) := by decide +kernel
theorem dX6_letterOf_5 : decode (zcc mX6_letterOf) 5 = .ok (.aload_n 0, 1) := by decide +kernel
theorem dX6_letterOf_6 : decode (zcc mX6_letterOf) 6 = .ok (.iload_n 1, 1) := by decide +kernel
theorem dX6_letterOf_7 : decode (zcc mX6_letterOf) 7 = .ok (.invokevirtual 69, 3) := by decide +kernel
theorem dX6_letterOf_10 : decode (zcc mX6_letterOf) 10 = .ok (.if_icmp .ge 19, 3) := by decide +kernel
theorem dX6_letterOf_13 : decode (zcc mX6_letterOf) 13 = .ok (.aload_n 0, 1) := by decide +kernel
