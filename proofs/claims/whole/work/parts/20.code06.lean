theorem dX8_text_66 : decode (zcc mX8_text) 66 = .ok (.getfield 13, 3) := by decide +kernel
theorem dX8_text_69 : decode (zcc mX8_text) 69 = .ok (.aload_n 0, 1) := by decide +kernel
theorem dX8_text_70 : decode (zcc mX8_text) 70 = .ok (.getfield 101, 3) := by decide +kernel
theorem dX8_text_73 : decode (zcc mX8_text) 73 = .ok (.iload_n 1, 1) := by decide +kernel
theorem dX8_text_74 : decode (zcc mX8_text) 74 = .ok (.iastore, 1) := by decide +kernel
theorem dX8_text_75 : decode (zcc mX8_text) 75 = .ok (.aload_n 0, 1) := by decide +kernel
theorem dX8_text_76 : decode (zcc mX8_text) 76 = .ok (.dup, 1) := by decide +kernel
theorem dX8_text_77 : decode (zcc mX8_text) 77 = .ok (.getfield 17, 3) := by decide +kernel
theorem dX8_text_80 : decode (zcc mX8_text) 80 = .ok (.iload_n 2, 1) := by decide +kernel
theorem dX8_text_81 : decode (zcc mX8_text) 81 = .ok (.imul, 1) := by decide +kernel
theorem dX8_text_82 : decode (zcc mX8_text) 82 = .ok (.putfield 17, 3) := by decide +kernel
theorem dX8_text_85 : decode (zcc mX8_text) 85 = .ok (.aload_n 0, 1) := by decide +kernel
theorem dX8_text_86 : decode (zcc mX8_text) 86 = .ok (.dup, 1) := by decide +kernel
theorem dX8_text_87 : decode (zcc mX8_text) 87 = .ok (.getfield 101, 3) := by decide +kernel
theorem dX8_text_90 : decode (zcc mX8_text) 90 = .ok (.iconst 1, 1) := by decide +kernel
theorem dX8_text_91 : decode (zcc mX8_text) 91 = .ok (.iadd, 1) := by decide +kernel
theorem dX8_text_92 : decode (zcc mX8_text) 92 = .ok (.putfield 101, 3) := by decide +kernel
theorem dX8_text_95 : decode (zcc mX8_text) 95 = .ok (.aload_n 0, 1) := by decide +kernel
theorem dX8_text_96 : decode (zcc mX8_text) 96 = .ok (.invokevirtual 110, 3) := by decide +kernel
theorem dX8_text_99 : decode (zcc mX8_text) 99 = .ok (.aload_n 0, 1) := by decide +kernel
theorem dX8_text_100 : decode (zcc mX8_text) 100 = .ok (.getfield 101, 3) := by decide +kernel
theorem dX8_text_103 : decode (zcc mX8_text) 103 = .ok (.iconst 1, 1) := by decide +kernel
theorem dX8_text_104 : decode (zcc mX8_text) 104 = .ok (.isub, 1) := by decide +kernel
theorem dX8_text_105 : decode (zcc mX8_text) 105 = .ok (.ireturn, 1) := by decide +kernel
theorem dX8_term_0 : decode (zcc mX8_term) 0 = .ok (.aload_n 0, 1) := by decide +kernel
theorem dX8_term_1 : decode (zcc mX8_term) 1 = .ok (.getfield 104, 3) := by decide +kernel
theorem dX8_term_4 : decode (zcc mX8_term) 4 = .ok (.bipush 12, 2) := by decide +kernel
theorem dX8_term_6 : decode (zcc mX8_term) 6 = .ok (.if_icmp .ne 6, 3) := by decide +kernel
theorem dX8_term_9 : decode (zcc mX8_term) 9 = .ok (.bipush (-5), 2) := by decide +kernel
theorem dX8_term_11 : decode (zcc mX8_term) 11 = .ok (.ireturn, 1) := by decide +kernel
theorem dX8_term_12 : decode (zcc mX8_term) 12 = .ok (.aload_n 0, 1) := by decide +kernel
theorem dX8_term_13 : decode (zcc mX8_term) 13 = .ok (.getfield 20, 3) := by decide +kernel
theorem dX8_term_16 : decode (zcc mX8_term) 16 = .ok (.aload_n 0, 1) := by decide +kernel
theorem dX8_term_17 : decode (zcc mX8_term) 17 = .ok (.getfield 104, 3) := by decide +kernel
theorem dX8_term_20 : decode (zcc mX8_term) 20 = .ok (.iconst 0, 1) := by decide +kernel
theorem dX8_term_21 : decode (zcc mX8_term) 21 = .ok (.iastore, 1) := by decide +kernel
theorem dX8_term_22 : decode (zcc mX8_term) 22 = .ok (.aload_n 0, 1) := by decide +kernel
theorem dX8_term_23 : decode (zcc mX8_term) 23 = .ok (.dup, 1) := by decide +kernel
theorem dX8_term_24 : decode (zcc mX8_term) 24 = .ok (.getfield 104, 3) := by decide +kernel
theorem dX8_term_27 : decode (zcc mX8_term) 27 = .ok (.iconst 1, 1) := by decide +kernel
theorem dX8_term_28 : decode (zcc mX8_term) 28 = .ok (.iadd, 1) := by decide +kernel
theorem dX8_term_29 : decode (zcc mX8_term) 29 = .ok (.putfield 104, 3) := by decide +kernel
theorem dX8_term_32 : decode (zcc mX8_term) 32 = .ok (.aload_n 0, 1) := by decide +kernel
theorem dX8_term_33 : decode (zcc mX8_term) 33 = .ok (.invokevirtual 110, 3) := by decide +kernel
theorem dX8_term_36 : decode (zcc mX8_term) 36 = .ok (.aload_n 0, 1) := by decide +kernel
theorem dX8_term_37 : decode (zcc mX8_term) 37 = .ok (.getfield 104, 3) := by decide +kernel
theorem dX8_term_40 : decode (zcc mX8_term) 40 = .ok (.iconst 1, 1) := by decide +kernel
theorem dX8_term_41 : decode (zcc mX8_term) 41 = .ok (.isub, 1) := by decide +kernel
theorem dX8_term_42 : decode (zcc mX8_term) 42 = .ok (.ireturn, 1) := by decide +kernel
theorem dX8_part_0 : decode (zcc mX8_part) 0 = .ok (.iload_n 1, 1) := by decide +kernel
theorem dX8_part_1 : decode (zcc mX8_part) 1 = .ok (.iconst 0, 1) := by decide +kernel
theorem dX8_part_2 : decode (zcc mX8_part) 2 = .ok (.aload_n 0, 1) := by decide +kernel
theorem dX8_part_3 : decode (zcc mX8_part) 3 = .ok (.getfield 104, 3) := by decide +kernel
theorem dX8_part_6 : decode (zcc mX8_part) 6 = .ok (.iconst 1, 1) := by decide +kernel
theorem dX8_part_7 : decode (zcc mX8_part) 7 = .ok (.isub, 1) := by decide +kernel
theorem dX8_part_8 : decode (zcc mX8_part) 8 = .ok (.invokestatic 94, 3) := by decide +kernel
theorem dX8_part_11 : decode (zcc mX8_part) 11 = .ok (.ifCond .ne 6, 3) := by decide +kernel
theorem dX8_part_14 : decode (zcc mX8_part) 14 = .ok (.bipush (-2), 2) := by decide +kernel
theorem dX8_part_16 : decode (zcc mX8_part) 16 = .ok (.ireturn, 1) := by decide +kernel
theorem dX8_part_17 : decode (zcc mX8_part) 17 = .ok (.iload_n 2, 1) := by decide +kernel
theorem dX8_part_18 : decode (zcc mX8_part) 18 = .ok (.iconst 0, 1) := by decide +kernel
theorem dX8_part_19 : decode (zcc mX8_part) 19 = .ok (.aload_n 0, 1) := by decide +kernel
theorem dX8_part_20 : decode (zcc mX8_part) 20 = .ok (.getfield 7, 3) := by decide +kernel
theorem dX8_part_23 : decode (zcc mX8_part) 23 = .ok (.iconst 1, 1) := by decide +kernel
theorem dX8_part_24 : decode (zcc mX8_part) 24 = .ok (.isub, 1) := by decide +kernel
theorem dX8_part_25 : decode (zcc mX8_part) 25 = .ok (.invokestatic 94, 3) := by decide +kernel
theorem dX8_part_28 : decode (zcc mX8_part) 28 = .ok (.ifCond .ne 22, 3) := by decide +kernel
theorem dX8_part_31 : decode (zcc mX8_part) 31 = .ok (.iload_n 2, 1) := by decide +kernel
theorem dX8_part_32 : decode (zcc mX8_part) 32 = .ok (.bipush 8, 2) := by decide +kernel
theorem dX8_part_34 : decode (zcc mX8_part) 34 = .ok (.bipush 7, 2) := by decide +kernel
theorem dX8_part_36 : decode (zcc mX8_part) 36 = .ok (.aload_n 0, 1) := by decide +kernel
theorem dX8_part_37 : decode (zcc mX8_part) 37 = .ok (.getfield 101, 3) := by decide +kernel
theorem dX8_part_40 : decode (zcc mX8_part) 40 = .ok (.iadd, 1) := by decide +kernel
theorem dX8_part_41 : decode (zcc mX8_part) 41 = .ok (.invokestatic 94, 3) := by decide +kernel
theorem dX8_part_44 : decode (zcc mX8_part) 44 = .ok (.ifCond .ne 6, 3) := by decide +kernel
theorem dX8_part_47 : decode (zcc mX8_part) 47 = .ok (.bipush (-3), 2) := by decide +kernel
theorem dX8_part_49 : decode (zcc mX8_part) 49 = .ok (.ireturn, 1) := by decide +kernel
theorem dX8_part_50 : decode (zcc mX8_part) 50 = .ok (.aload_n 0, 1) := by decide +kernel
theorem dX8_part_51 : decode (zcc mX8_part) 51 = .ok (.getfield 20, 3) := by decide +kernel
theorem dX8_part_54 : decode (zcc mX8_part) 54 = .ok (.iload_n 1, 1) := by decide +kernel
theorem dX8_part_55 : decode (zcc mX8_part) 55 = .ok (.iaload, 1) := by decide +kernel
theorem dX8_part_56 : decode (zcc mX8_part) 56 = .ok (.bipush 6, 2) := by decide +kernel
theorem dX8_part_58 : decode (zcc mX8_part) 58 = .ok (.if_icmp .ne 6, 3) := by decide +kernel
theorem dX8_part_61 : decode (zcc mX8_part) 61 = .ok (.bipush (-5), 2) := by decide +kernel
theorem dX8_part_63 : decode (zcc mX8_part) 63 = .ok (.ireturn, 1) := by decide +kernel
theorem dX8_part_64 : decode (zcc mX8_part) 64 = .ok (.aload_n 0, 1) := by decide +kernel
theorem dX8_part_65 : decode (zcc mX8_part) 65 = .ok (.getfield 23, 3) := by decide +kernel
theorem dX8_part_68 : decode (zcc mX8_part) 68 = .ok (.bipush 6, 2) := by decide +kernel
theorem dX8_part_70 : decode (zcc mX8_part) 70 = .ok (.iload_n 1, 1) := by decide +kernel
theorem dX8_part_71 : decode (zcc mX8_part) 71 = .ok (.imul, 1) := by decide +kernel
theorem dX8_part_72 : decode (zcc mX8_part) 72 = .ok (.aload_n 0, 1) := by decide +kernel
theorem dX8_part_73 : decode (zcc mX8_part) 73 = .ok (.getfield 20, 3) := by decide +kernel
theorem dX8_part_76 : decode (zcc mX8_part) 76 = .ok (.iload_n 1, 1) := by decide +kernel
theorem dX8_part_77 : decode (zcc mX8_part) 77 = .ok (.iaload, 1) := by decide +kernel
theorem dX8_part_78 : decode (zcc mX8_part) 78 = .ok (.iadd, 1) := by decide +kernel
theorem dX8_part_79 : decode (zcc mX8_part) 79 = .ok (.iload_n 2, 1) := by decide +kernel
theorem dX8_part_80 : decode (zcc mX8_part) 80 = .ok (.iastore, 1) := by decide +kernel
theorem dX8_part_81 : decode (zcc mX8_part) 81 = .ok (.aload_n 0, 1) := by decide +kernel
theorem dX8_part_82 : decode (zcc mX8_part) 82 = .ok (.getfield 20, 3) := by decide +kernel
theorem dX8_part_85 : decode (zcc mX8_part) 85 = .ok (.iload_n 1, 1) := by decide +kernel
theorem dX8_part_86 : decode (zcc mX8_part) 86 = .ok (.dup2, 1) := by decide +kernel
theorem dX8_part_87 : decode (zcc mX8_part) 87 = .ok (.iaload, 1) := by decide +kernel
theorem dX8_part_88 : decode (zcc mX8_part) 88 = .ok (.iconst 1, 1) := by decide +kernel
theorem dX8_part_89 : decode (zcc mX8_part) 89 = .ok (.iadd, 1) := by decide +kernel
theorem dX8_part_90 : decode (zcc mX8_part) 90 = .ok (.iastore, 1) := by decide +kernel
theorem dX8_part_91 : decode (zcc mX8_part) 91 = .ok (.aload_n 0, 1) := by decide +kernel
theorem dX8_part_92 : decode (zcc mX8_part) 92 = .ok (.invokevirtual 110, 3) := by decide +kernel
theorem dX8_part_95 : decode (zcc mX8_part) 95 = .ok (.aload_n 0, 1) := by decide +kernel
theorem dX8_part_96 : decode (zcc mX8_part) 96 = .ok (.getfield 20, 3) := by decide +kernel
theorem dX8_part_99 : decode (zcc mX8_part) 99 = .ok (.iload_n 1, 1) := by decide +kernel
theorem dX8_part_100 : decode (zcc mX8_part) 100 = .ok (.iaload, 1) := by decide +kernel
theorem dX8_part_101 : decode (zcc mX8_part) 101 = .ok (.ireturn, 1) := by decide +kernel
theorem dX8_machine_0 : decode (zcc mX8_machine) 0 = .ok (.iload_n 1, 1) := by decide +kernel
theorem dX8_machine_1 : decode (zcc mX8_machine) 1 = .ok (.iconst 1, 1) := by decide +kernel
theorem dX8_machine_2 : decode (zcc mX8_machine) 2 = .ok (.bipush 6, 2) := by decide +kernel
theorem dX8_machine_4 : decode (zcc mX8_machine) 4 = .ok (.invokestatic 94, 3) := by decide +kernel
theorem dX8_machine_7 : decode (zcc mX8_machine) 7 = .ok (.ifCond .ne 6, 3) := by decide +kernel
theorem dX8_machine_10 : decode (zcc mX8_machine) 10 = .ok (.bipush (-3), 2) := by decide +kernel
theorem dX8_machine_12 : decode (zcc mX8_machine) 12 = .ok (.ireturn, 1) := by decide +kernel
theorem dX8_machine_13 : decode (zcc mX8_machine) 13 = .ok (.aload_n 0, 1) := by decide +kernel
theorem dX8_machine_14 : decode (zcc mX8_machine) 14 = .ok (.getfield 107, 3) := by decide +kernel
theorem dX8_machine_17 : decode (zcc mX8_machine) 17 = .ok (.iconst 3, 1) := by decide +kernel
theorem dX8_machine_18 : decode (zcc mX8_machine) 18 = .ok (.if_icmp .ne 6, 3) := by decide +kernel
theorem dX8_machine_21 : decode (zcc mX8_machine) 21 = .ok (.bipush (-5), 2) := by decide +kernel
theorem dX8_machine_23 : decode (zcc mX8_machine) 23 = .ok (.ireturn, 1) := by decide +kernel
theorem dX8_machine_24 : decode (zcc mX8_machine) 24 = .ok (.aload_n 0, 1) := by decide +kernel
theorem dX8_machine_25 : decode (zcc mX8_machine) 25 = .ok (.getfield 26, 3) := by decide +kernel
theorem dX8_machine_28 : decode (zcc mX8_machine) 28 = .ok (.aload_n 0, 1) := by decide +kernel
theorem dX8_machine_29 : decode (zcc mX8_machine) 29 = .ok (.getfield 107, 3) := by decide +kernel
theorem dX8_machine_32 : decode (zcc mX8_machine) 32 = .ok (.iload_n 1, 1) := by decide +kernel
theorem dX8_machine_33 : decode (zcc mX8_machine) 33 = .ok (.iastore, 1) := by decide +kernel
theorem dX8_machine_34 : decode (zcc mX8_machine) 34 = .ok (.iconst 0, 1) := by decide +kernel
theorem dX8_machine_35 : decode (zcc mX8_machine) 35 = .ok (.istore_n 2, 1) := by decide +kernel
theorem dX8_machine_36 : decode (zcc mX8_machine) 36 = .ok (.iload_n 2, 1) := by decide +kernel
theorem dX8_machine_37 : decode (zcc mX8_machine) 37 = .ok (.bipush 18, 2) := by decide +kernel
theorem dX8_machine_39 : decode (zcc mX8_machine) 39 = .ok (.if_icmp .ge 24, 3) := by decide +kernel
theorem dX8_machine_42 : decode (zcc mX8_machine) 42 = .ok (.aload_n 0, 1) := by decide +kernel
theorem dX8_machine_43 : decode (zcc mX8_machine) 43 = .ok (.getfield 29, 3) := by decide +kernel
theorem dX8_machine_46 : decode (zcc mX8_machine) 46 = .ok (.bipush 18, 2) := by decide +kernel
theorem dX8_machine_48 : decode (zcc mX8_machine) 48 = .ok (.aload_n 0, 1) := by decide +kernel
theorem dX8_machine_49 : decode (zcc mX8_machine) 49 = .ok (.getfield 107, 3) := by decide +kernel
theorem dX8_machine_52 : decode (zcc mX8_machine) 52 = .ok (.imul, 1) := by decide +kernel
theorem dX8_machine_53 : decode (zcc mX8_machine) 53 = .ok (.iload_n 2, 1) := by decide +kernel
theorem dX8_machine_54 : decode (zcc mX8_machine) 54 = .ok (.iadd, 1) := by decide +kernel
theorem dX8_machine_55 : decode (zcc mX8_machine) 55 = .ok (.iconst 0, 1) := by decide +kernel
theorem dX8_machine_56 : decode (zcc mX8_machine) 56 = .ok (.iastore, 1) := by decide +kernel
theorem dX8_machine_57 : decode (zcc mX8_machine) 57 = .ok (.iinc 2 1, 3) := by decide +kernel
theorem dX8_machine_60 : decode (zcc mX8_machine) 60 = .ok (.goto (-24), 3) := by decide +kernel
theorem dX8_machine_63 : decode (zcc mX8_machine) 63 = .ok (.iconst 0, 1) := by decide +kernel
theorem dX8_machine_64 : decode (zcc mX8_machine) 64 = .ok (.istore_n 2, 1) := by decide +kernel
theorem dX8_machine_65 : decode (zcc mX8_machine) 65 = .ok (.iload_n 2, 1) := by decide +kernel
theorem dX8_machine_66 : decode (zcc mX8_machine) 66 = .ok (.bipush 6, 2) := by decide +kernel
theorem dX8_machine_68 : decode (zcc mX8_machine) 68 = .ok (.if_icmp .ge 24, 3) := by decide +kernel
theorem dX8_machine_71 : decode (zcc mX8_machine) 71 = .ok (.aload_n 0, 1) := by decide +kernel
theorem dX8_machine_72 : decode (zcc mX8_machine) 72 = .ok (.getfield 32, 3) := by decide +kernel
theorem dX8_machine_75 : decode (zcc mX8_machine) 75 = .ok (.bipush 6, 2) := by decide +kernel
theorem dX8_machine_77 : decode (zcc mX8_machine) 77 = .ok (.aload_n 0, 1) := by decide +kernel
theorem dX8_machine_78 : decode (zcc mX8_machine) 78 = .ok (.getfield 107, 3) := by decide +kernel
theorem dX8_machine_81 : decode (zcc mX8_machine) 81 = .ok (.imul, 1) := by decide +kernel
theorem dX8_machine_82 : decode (zcc mX8_machine) 82 = .ok (.iload_n 2, 1) := by decide +kernel
theorem dX8_machine_83 : decode (zcc mX8_machine) 83 = .ok (.iadd, 1) := by decide +kernel
theorem dX8_machine_84 : decode (zcc mX8_machine) 84 = .ok (.iconst 0, 1) := by decide +kernel
theorem dX8_machine_85 : decode (zcc mX8_machine) 85 = .ok (.bastore, 1) := by decide +kernel
theorem dX8_machine_86 : decode (zcc mX8_machine) 86 = .ok (.iinc 2 1, 3) := by decide +kernel
theorem dX8_machine_89 : decode (zcc mX8_machine) 89 = .ok (.goto (-24), 3) := by decide +kernel
theorem dX8_machine_92 : decode (zcc mX8_machine) 92 = .ok (.aload_n 0, 1) := by decide +kernel
theorem dX8_machine_93 : decode (zcc mX8_machine) 93 = .ok (.dup, 1) := by decide +kernel
theorem dX8_machine_94 : decode (zcc mX8_machine) 94 = .ok (.getfield 107, 3) := by decide +kernel
theorem dX8_machine_97 : decode (zcc mX8_machine) 97 = .ok (.iconst 1, 1) := by decide +kernel
theorem dX8_machine_98 : decode (zcc mX8_machine) 98 = .ok (.iadd, 1) := by decide +kernel
theorem dX8_machine_99 : decode (zcc mX8_machine) 99 = .ok (.putfield 107, 3) := by decide +kernel
theorem dX8_machine_102 : decode (zcc mX8_machine) 102 = .ok (.aload_n 0, 1) := by decide +kernel
theorem dX8_machine_103 : decode (zcc mX8_machine) 103 = .ok (.invokevirtual 110, 3) := by decide +kernel
theorem dX8_machine_106 : decode (zcc mX8_machine) 106 = .ok (.aload_n 0, 1) := by decide +kernel
theorem dX8_machine_107 : decode (zcc mX8_machine) 107 = .ok (.getfield 107, 3) := by decide +kernel
theorem dX8_machine_110 : decode (zcc mX8_machine) 110 = .ok (.iconst 1, 1) := by decide +kernel
theorem dX8_machine_111 : decode (zcc mX8_machine) 111 = .ok (.isub, 1) := by decide +kernel
theorem dX8_machine_112 : decode (zcc mX8_machine) 112 = .ok (.ireturn, 1) := by decide +kernel
theorem dX8_step_0 : decode (zcc mX8_step) 0 = .ok (.iload_n 1, 1) := by decide +kernel
theorem dX8_step_1 : decode (zcc mX8_step) 1 = .ok (.iconst 0, 1) := by decide +kernel
theorem dX8_step_2 : decode (zcc mX8_step) 2 = .ok (.aload_n 0, 1) := by decide +kernel
theorem dX8_step_3 : decode (zcc mX8_step) 3 = .ok (.getfield 107, 3) := by decide +kernel
theorem dX8_step_6 : decode (zcc mX8_step) 6 = .ok (.iconst 1, 1) := by decide +kernel
theorem dX8_step_7 : decode (zcc mX8_step) 7 = .ok (.isub, 1) := by decide +kernel
theorem dX8_step_8 : decode (zcc mX8_step) 8 = .ok (.invokestatic 94, 3) := by decide +kernel
theorem dX8_step_11 : decode (zcc mX8_step) 11 = .ok (.ifCond .ne 6, 3) := by decide +kernel
theorem dX8_step_14 : decode (zcc mX8_step) 14 = .ok (.bipush (-2), 2) := by decide +kernel
theorem dX8_step_16 : decode (zcc mX8_step) 16 = .ok (.ireturn, 1) := by decide +kernel
theorem dX8_step_17 : decode (zcc mX8_step) 17 = .ok (.iload_n 2, 1) := by decide +kernel
theorem dX8_step_18 : decode (zcc mX8_step) 18 = .ok (.iconst 0, 1) := by decide +kernel
theorem dX8_step_19 : decode (zcc mX8_step) 19 = .ok (.aload_n 0, 1) := by decide +kernel
theorem dX8_step_20 : decode (zcc mX8_step) 20 = .ok (.getfield 26, 3) := by decide +kernel
theorem dX8_step_23 : decode (zcc mX8_step) 23 = .ok (.iload_n 1, 1) := by decide +kernel
theorem dX8_step_24 : decode (zcc mX8_step) 24 = .ok (.iaload, 1) := by decide +kernel
theorem dX8_step_25 : decode (zcc mX8_step) 25 = .ok (.iconst 1, 1) := by decide +kernel
theorem dX8_step_26 : decode (zcc mX8_step) 26 = .ok (.isub, 1) := by decide +kernel
theorem dX8_step_27 : decode (zcc mX8_step) 27 = .ok (.invokestatic 94, 3) := by decide +kernel
theorem dX8_step_30 : decode (zcc mX8_step) 30 = .ok (.ifCond .eq 34, 3) := by decide +kernel
theorem dX8_step_33 : decode (zcc mX8_step) 33 = .ok (.iload_n 3, 1) := by decide +kernel
theorem dX8_step_34 : decode (zcc mX8_step) 34 = .ok (.iconst 0, 1) := by decide +kernel
theorem dX8_step_35 : decode (zcc mX8_step) 35 = .ok (.aload_n 0, 1) := by decide +kernel
theorem dX8_step_36 : decode (zcc mX8_step) 36 = .ok (.getfield 7, 3) := by decide +kernel
theorem dX8_step_39 : decode (zcc mX8_step) 39 = .ok (.iconst 1, 1) := by decide +kernel
theorem dX8_step_40 : decode (zcc mX8_step) 40 = .ok (.isub, 1) := by decide +kernel
theorem dX8_step_41 : decode (zcc mX8_step) 41 = .ok (.invokestatic 94, 3) := by decide +kernel
theorem dX8_step_44 : decode (zcc mX8_step) 44 = .ok (.ifCond .eq 20, 3) := by decide +kernel
theorem dX8_step_47 : decode (zcc mX8_step) 47 = .ok (.iload 4, 2) := by decide +kernel
theorem dX8_step_49 : decode (zcc mX8_step) 49 = .ok (.iconst 0, 1) := by decide +kernel
theorem dX8_step_50 : decode (zcc mX8_step) 50 = .ok (.aload_n 0, 1) := by decide +kernel
theorem dX8_step_51 : decode (zcc mX8_step) 51 = .ok (.getfield 26, 3) := by decide +kernel
theorem dX8_step_54 : decode (zcc mX8_step) 54 = .ok (.iload_n 1, 1) := by decide +kernel
theorem dX8_step_55 : decode (zcc mX8_step) 55 = .ok (.iaload, 1) := by decide +kernel
theorem dX8_step_56 : decode (zcc mX8_step) 56 = .ok (.iconst 1, 1) := by decide +kernel
theorem dX8_step_57 : decode (zcc mX8_step) 57 = .ok (.isub, 1) := by decide +kernel
theorem dX8_step_58 : decode (zcc mX8_step) 58 = .ok (.invokestatic 94, 3) := by decide +kernel
theorem dX8_step_61 : decode (zcc mX8_step) 61 = .ok (.ifCond .ne 6, 3) := by decide +kernel
theorem dX8_step_64 : decode (zcc mX8_step) 64 = .ok (.bipush (-3), 2) := by decide +kernel
theorem dX8_step_66 : decode (zcc mX8_step) 66 = .ok (.ireturn, 1) := by decide +kernel
theorem dX8_step_67 : decode (zcc mX8_step) 67 = .ok (.bipush 18, 2) := by decide +kernel
theorem dX8_step_69 : decode (zcc mX8_step) 69 = .ok (.iload_n 1, 1) := by decide +kernel
theorem dX8_step_70 : decode (zcc mX8_step) 70 = .ok (.imul, 1) := by decide +kernel
theorem dX8_step_71 : decode (zcc mX8_step) 71 = .ok (.iconst 3, 1) := by decide +kernel
theorem dX8_step_72 : decode (zcc mX8_step) 72 = .ok (.iload_n 2, 1) := by decide +kernel
theorem dX8_step_73 : decode (zcc mX8_step) 73 = .ok (.imul, 1) := by decide +kernel
theorem dX8_step_74 : decode (zcc mX8_step) 74 = .ok (.iadd, 1) := by decide +kernel
theorem dX8_step_75 : decode (zcc mX8_step) 75 = .ok (.iload_n 3, 1) := by decide +kernel
theorem dX8_step_76 : decode (zcc mX8_step) 76 = .ok (.iadd, 1) := by decide +kernel
theorem dX8_step_77 : decode (zcc mX8_step) 77 = .ok (.istore 5, 2) := by decide +kernel
theorem dX8_step_79 : decode (zcc mX8_step) 79 = .ok (.aload_n 0, 1) := by decide +kernel
theorem dX8_step_80 : decode (zcc mX8_step) 80 = .ok (.getfield 29, 3) := by decide +kernel
theorem dX8_step_83 : decode (zcc mX8_step) 83 = .ok (.iload 5, 2) := by decide +kernel
theorem dX8_step_85 : decode (zcc mX8_step) 85 = .ok (.iaload, 1) := by decide +kernel
theorem dX8_step_86 : decode (zcc mX8_step) 86 = .ok (.istore 6, 2) := by decide +kernel
theorem dX8_step_88 : decode (zcc mX8_step) 88 = .ok (.aload_n 0, 1) := by decide +kernel
theorem dX8_step_89 : decode (zcc mX8_step) 89 = .ok (.getfield 29, 3) := by decide +kernel
theorem dX8_step_92 : decode (zcc mX8_step) 92 = .ok (.iload 5, 2) := by decide +kernel
theorem dX8_step_94 : decode (zcc mX8_step) 94 = .ok (.iload 4, 2) := by decide +kernel
theorem dX8_step_96 : decode (zcc mX8_step) 96 = .ok (.iastore, 1) := by decide +kernel
theorem dX8_step_97 : decode (zcc mX8_step) 97 = .ok (.aload_n 0, 1) := by decide +kernel
theorem dX8_step_98 : decode (zcc mX8_step) 98 = .ok (.invokevirtual 110, 3) := by decide +kernel
theorem dX8_step_101 : decode (zcc mX8_step) 101 = .ok (.iload 6, 2) := by decide +kernel
theorem dX8_step_103 : decode (zcc mX8_step) 103 = .ok (.ireturn, 1) := by decide +kernel
theorem dX8_good_0 : decode (zcc mX8_good) 0 = .ok (.iload_n 1, 1) := by decide +kernel
theorem dX8_good_1 : decode (zcc mX8_good) 1 = .ok (.iconst 0, 1) := by decide +kernel
theorem dX8_good_2 : decode (zcc mX8_good) 2 = .ok (.aload_n 0, 1) := by decide +kernel
theorem dX8_good_3 : decode (zcc mX8_good) 3 = .ok (.getfield 107, 3) := by decide +kernel
theorem dX8_good_6 : decode (zcc mX8_good) 6 = .ok (.iconst 1, 1) := by decide +kernel
theorem dX8_good_7 : decode (zcc mX8_good) 7 = .ok (.isub, 1) := by decide +kernel
theorem dX8_good_8 : decode (zcc mX8_good) 8 = .ok (.invokestatic 94, 3) := by decide +kernel
theorem dX8_good_11 : decode (zcc mX8_good) 11 = .ok (.ifCond .ne 6, 3) := by decide +kernel
theorem dX8_good_14 : decode (zcc mX8_good) 14 = .ok (.bipush (-2), 2) := by decide +kernel
theorem dX8_good_16 : decode (zcc mX8_good) 16 = .ok (.ireturn, 1) := by decide +kernel
theorem dX8_good_17 : decode (zcc mX8_good) 17 = .ok (.iload_n 2, 1) := by decide +kernel
theorem dX8_good_18 : decode (zcc mX8_good) 18 = .ok (.iconst 0, 1) := by decide +kernel
theorem dX8_good_19 : decode (zcc mX8_good) 19 = .ok (.aload_n 0, 1) := by decide +kernel
theorem dX8_good_20 : decode (zcc mX8_good) 20 = .ok (.getfield 26, 3) := by decide +kernel
theorem dX8_good_23 : decode (zcc mX8_good) 23 = .ok (.iload_n 1, 1) := by decide +kernel
theorem dX8_good_24 : decode (zcc mX8_good) 24 = .ok (.iaload, 1) := by decide +kernel
theorem dX8_good_25 : decode (zcc mX8_good) 25 = .ok (.iconst 1, 1) := by decide +kernel
theorem dX8_good_26 : decode (zcc mX8_good) 26 = .ok (.isub, 1) := by decide +kernel
theorem dX8_good_27 : decode (zcc mX8_good) 27 = .ok (.invokestatic 94, 3) := by decide +kernel
theorem dX8_good_30 : decode (zcc mX8_good) 30 = .ok (.ifCond .ne 6, 3) := by decide +kernel
theorem dX8_good_33 : decode (zcc mX8_good) 33 = .ok (.bipush (-3), 2) := by decide +kernel
theorem dX8_good_35 : decode (zcc mX8_good) 35 = .ok (.ireturn, 1) := by decide +kernel
theorem dX8_good_36 : decode (zcc mX8_good) 36 = .ok (.aload_n 0, 1) := by decide +kernel
theorem dX8_good_37 : decode (zcc mX8_good) 37 = .ok (.getfield 32, 3) := by decide +kernel
theorem dX8_good_40 : decode (zcc mX8_good) 40 = .ok (.bipush 6, 2) := by decide +kernel
theorem dX8_good_42 : decode (zcc mX8_good) 42 = .ok (.iload_n 1, 1) := by decide +kernel
theorem dX8_good_43 : decode (zcc mX8_good) 43 = .ok (.imul, 1) := by decide +kernel
theorem dX8_good_44 : decode (zcc mX8_good) 44 = .ok (.iload_n 2, 1) := by decide +kernel
theorem dX8_good_45 : decode (zcc mX8_good) 45 = .ok (.iadd, 1) := by decide +kernel
theorem dX8_good_46 : decode (zcc mX8_good) 46 = .ok (.baload, 1) := by decide +kernel
theorem dX8_good_47 : decode (zcc mX8_good) 47 = .ok (.istore 4, 2) := by decide +kernel
theorem dX8_good_49 : decode (zcc mX8_good) 49 = .ok (.aload_n 0, 1) := by decide +kernel
theorem dX8_good_50 : decode (zcc mX8_good) 50 = .ok (.getfield 32, 3) := by decide +kernel
theorem dX8_good_53 : decode (zcc mX8_good) 53 = .ok (.bipush 6, 2) := by decide +kernel
theorem dX8_good_55 : decode (zcc mX8_good) 55 = .ok (.iload_n 1, 1) := by decide +kernel
theorem dX8_good_56 : decode (zcc mX8_good) 56 = .ok (.imul, 1) := by decide +kernel
theorem dX8_good_57 : decode (zcc mX8_good) 57 = .ok (.iload_n 2, 1) := by decide +kernel
theorem dX8_good_58 : decode (zcc mX8_good) 58 = .ok (.iadd, 1) := by decide +kernel
theorem dX8_good_59 : decode (zcc mX8_good) 59 = .ok (.iload_n 3, 1) := by decide +kernel
theorem dX8_good_60 : decode (zcc mX8_good) 60 = .ok (.bastore, 1) := by decide +kernel
theorem dX8_good_61 : decode (zcc mX8_good) 61 = .ok (.aload_n 0, 1) := by decide +kernel
theorem dX8_good_62 : decode (zcc mX8_good) 62 = .ok (.invokevirtual 110, 3) := by decide +kernel
theorem dX8_good_65 : decode (zcc mX8_good) 65 = .ok (.iload 4, 2) := by decide +kernel
theorem dX8_good_67 : decode (zcc mX8_good) 67 = .ok (.ifCond .eq 7, 3) := by decide +kernel
theorem dX8_good_70 : decode (zcc mX8_good) 70 = .ok (.iconst 1, 1) := by decide +kernel
theorem dX8_good_71 : decode (zcc mX8_good) 71 = .ok (.goto 4, 3) := by decide +kernel
theorem dX8_good_74 : decode (zcc mX8_good) 74 = .ok (.iconst 0, 1) := by decide +kernel
theorem dX8_good_75 : decode (zcc mX8_good) 75 = .ok (.ireturn, 1) := by decide +kernel
theorem dX8_isTerm_0 : decode (zcc mX8_isTerm) 0 = .ok (.iload_n 1, 1) := by decide +kernel
theorem dX8_isTerm_1 : decode (zcc mX8_isTerm) 1 = .ok (.iconst 0, 1) := by decide +kernel
theorem dX8_isTerm_2 : decode (zcc mX8_isTerm) 2 = .ok (.aload_n 0, 1) := by decide +kernel
theorem dX8_isTerm_3 : decode (zcc mX8_isTerm) 3 = .ok (.getfield 104, 3) := by decide +kernel
theorem dX8_isTerm_6 : decode (zcc mX8_isTerm) 6 = .ok (.iconst 1, 1) := by decide +kernel
theorem dX8_isTerm_7 : decode (zcc mX8_isTerm) 7 = .ok (.isub, 1) := by decide +kernel
theorem dX8_isTerm_8 : decode (zcc mX8_isTerm) 8 = .ok (.invokestatic 94, 3) := by decide +kernel
theorem dX8_isTerm_11 : decode (zcc mX8_isTerm) 11 = .ok (.ireturn, 1) := by decide +kernel
theorem dX8_formula_0 : decode (zcc mX8_formula) 0 = .ok (.iload_n 1, 1) := by decide +kernel
theorem dX8_formula_1 : decode (zcc mX8_formula) 1 = .ok (.iconst 0, 1) := by decide +kernel
theorem dX8_formula_2 : decode (zcc mX8_formula) 2 = .ok (.bipush 6, 2) := by decide +kernel
theorem dX8_formula_4 : decode (zcc mX8_formula) 4 = .ok (.invokestatic 94, 3) := by decide +kernel
theorem dX8_formula_7 : decode (zcc mX8_formula) 7 = .ok (.ifCond .ne 6, 3) := by decide +kernel
theorem dX8_formula_10 : decode (zcc mX8_formula) 10 = .ok (.bipush (-3), 2) := by decide +kernel
theorem dX8_formula_12 : decode (zcc mX8_formula) 12 = .ok (.ireturn, 1) := by decide +kernel
theorem dX8_formula_13 : decode (zcc mX8_formula) 13 = .ok (.aload_n 0, 1) := by decide +kernel
theorem dX8_formula_14 : decode (zcc mX8_formula) 14 = .ok (.iload_n 2, 1) := by decide +kernel
theorem dX8_formula_15 : decode (zcc mX8_formula) 15 = .ok (.invokevirtual 113, 3) := by decide +kernel
theorem dX8_formula_18 : decode (zcc mX8_formula) 18 = .ok (.istore 6, 2) := by decide +kernel
theorem dX8_formula_20 : decode (zcc mX8_formula) 20 = .ok (.iload_n 1, 1) := by decide +kernel
theorem dX8_formula_21 : decode (zcc mX8_formula) 21 = .ok (.iconst 1, 1) := by decide +kernel
theorem dX8_formula_22 : decode (zcc mX8_formula) 22 = .ok (.if_icmp .ne 31, 3) := by decide +kernel
theorem dX8_formula_25 : decode (zcc mX8_formula) 25 = .ok (.iload 6, 2) := by decide +kernel
theorem dX8_formula_27 : decode (zcc mX8_formula) 27 = .ok (.ifCond .eq 20, 3) := by decide +kernel
theorem dX8_formula_30 : decode (zcc mX8_formula) 30 = .ok (.iload_n 3, 1) := by decide +kernel
theorem dX8_formula_31 : decode (zcc mX8_formula) 31 = .ok (.iconst (-1), 1) := by decide +kernel
theorem dX8_formula_32 : decode (zcc mX8_formula) 32 = .ok (.if_icmp .eq 11, 3) := by decide +kernel
theorem dX8_formula_35 : decode (zcc mX8_formula) 35 = .ok (.aload_n 0, 1) := by decide +kernel
theorem dX8_formula_36 : decode (zcc mX8_formula) 36 = .ok (.iload_n 3, 1) := by decide +kernel
theorem dX8_formula_37 : decode (zcc mX8_formula) 37 = .ok (.invokevirtual 113, 3) := by decide +kernel
theorem dX8_formula_40 : decode (zcc mX8_formula) 40 = .ok (.ifCond .eq 7, 3) := by decide +kernel
theorem dX8_formula_43 : decode (zcc mX8_formula) 43 = .ok (.iconst 1, 1) := by decide +kernel
theorem dX8_formula_44 : decode (zcc mX8_formula) 44 = .ok (.goto 4, 3) := by decide +kernel
theorem dX8_formula_47 : decode (zcc mX8_formula) 47 = .ok (.iconst 0, 1) := by decide +kernel
theorem dX8_formula_48 : decode (zcc mX8_formula) 48 = .ok (.istore 6, 2) := by decide +kernel
theorem dX8_formula_50 : decode (zcc mX8_formula) 50 = .ok (.goto 62, 3) := by decide +kernel
theorem dX8_formula_53 : decode (zcc mX8_formula) 53 = .ok (.iload_n 1, 1) := by decide +kernel
theorem dX8_formula_54 : decode (zcc mX8_formula) 54 = .ok (.iconst 2, 1) := by decide +kernel
theorem dX8_formula_55 : decode (zcc mX8_formula) 55 = .ok (.if_icmp .ne 32, 3) := by decide +kernel
theorem dX8_formula_58 : decode (zcc mX8_formula) 58 = .ok (.iload 6, 2) := by decide +kernel
theorem dX8_formula_60 : decode (zcc mX8_formula) 60 = .ok (.ifCond .eq 21, 3) := by decide +kernel
theorem dX8_formula_63 : decode (zcc mX8_formula) 63 = .ok (.iload_n 3, 1) := by decide +kernel
theorem dX8_formula_64 : decode (zcc mX8_formula) 64 = .ok (.iconst 0, 1) := by decide +kernel
theorem dX8_formula_65 : decode (zcc mX8_formula) 65 = .ok (.aload_n 0, 1) := by decide +kernel
theorem dX8_formula_66 : decode (zcc mX8_formula) 66 = .ok (.getfield 107, 3) := by decide +kernel
theorem dX8_formula_69 : decode (zcc mX8_formula) 69 = .ok (.iconst 1, 1) := by decide +kernel
theorem dX8_formula_70 : decode (zcc mX8_formula) 70 = .ok (.isub, 1) := by decide +kernel
theorem dX8_formula_71 : decode (zcc mX8_formula) 71 = .ok (.invokestatic 94, 3) := by decide +kernel
theorem dX8_formula_74 : decode (zcc mX8_formula) 74 = .ok (.ifCond .eq 7, 3) := by decide +kernel
theorem dX8_formula_77 : decode (zcc mX8_formula) 77 = .ok (.iconst 1, 1) := by decide +kernel
theorem dX8_formula_78 : decode (zcc mX8_formula) 78 = .ok (.goto 4, 3) := by decide +kernel
theorem dX8_formula_81 : decode (zcc mX8_formula) 81 = .ok (.iconst 0, 1) := by decide +kernel
theorem dX8_formula_82 : decode (zcc mX8_formula) 82 = .ok (.istore 6, 2) := by decide +kernel
theorem dX8_formula_84 : decode (zcc mX8_formula) 84 = .ok (.goto 28, 3) := by decide +kernel
theorem dX8_formula_87 : decode (zcc mX8_formula) 87 = .ok (.iload_n 1, 1) := by decide +kernel
theorem dX8_formula_88 : decode (zcc mX8_formula) 88 = .ok (.iconst 5, 1) := by decide +kernel
theorem dX8_formula_89 : decode (zcc mX8_formula) 89 = .ok (.if_icmp .eq 23, 3) := by decide +kernel
theorem dX8_formula_92 : decode (zcc mX8_formula) 92 = .ok (.iload 6, 2) := by decide +kernel
theorem dX8_formula_94 : decode (zcc mX8_formula) 94 = .ok (.ifCond .eq 15, 3) := by decide +kernel
theorem dX8_formula_97 : decode (zcc mX8_formula) 97 = .ok (.aload_n 0, 1) := by decide +kernel
theorem dX8_formula_98 : decode (zcc mX8_formula) 98 = .ok (.iload_n 3, 1) := by decide +kernel
theorem dX8_formula_99 : decode (zcc mX8_formula) 99 = .ok (.invokevirtual 113, 3) := by decide +kernel
theorem dX8_formula_102 : decode (zcc mX8_formula) 102 = .ok (.ifCond .eq 7, 3) := by decide +kernel
theorem dX8_formula_105 : decode (zcc mX8_formula) 105 = .ok (.iconst 1, 1) := by decide +kernel
theorem dX8_formula_106 : decode (zcc mX8_formula) 106 = .ok (.goto 4, 3) := by decide +kernel
theorem dX8_formula_109 : decode (zcc mX8_formula) 109 = .ok (.iconst 0, 1) := by decide +kernel
theorem dX8_formula_110 : decode (zcc mX8_formula) 110 = .ok (.istore 6, 2) := by decide +kernel
theorem dX8_formula_112 : decode (zcc mX8_formula) 112 = .ok (.iload_n 1, 1) := by decide +kernel
theorem dX8_formula_113 : decode (zcc mX8_formula) 113 = .ok (.bipush 6, 2) := by decide +kernel
theorem dX8_formula_115 : decode (zcc mX8_formula) 115 = .ok (.if_icmp .ne 33, 3) := by decide +kernel
theorem dX8_formula_118 : decode (zcc mX8_formula) 118 = .ok (.iload 6, 2) := by decide +kernel
theorem dX8_formula_120 : decode (zcc mX8_formula) 120 = .ok (.ifCond .eq 25, 3) := by decide +kernel
theorem dX8_formula_123 : decode (zcc mX8_formula) 123 = .ok (.aload_n 0, 1) := by decide +kernel
theorem dX8_formula_124 : decode (zcc mX8_formula) 124 = .ok (.iload 4, 2) := by decide +kernel
theorem dX8_formula_126 : decode (zcc mX8_formula) 126 = .ok (.invokevirtual 113, 3) := by decide +kernel
theorem dX8_formula_129 : decode (zcc mX8_formula) 129 = .ok (.ifCond .eq 16, 3) := by decide +kernel
theorem dX8_formula_132 : decode (zcc mX8_formula) 132 = .ok (.aload_n 0, 1) := by decide +kernel
theorem dX8_formula_133 : decode (zcc mX8_formula) 133 = .ok (.iload 5, 2) := by decide +kernel
theorem dX8_formula_135 : decode (zcc mX8_formula) 135 = .ok (.invokevirtual 113, 3) := by decide +kernel
theorem dX8_formula_138 : decode (zcc mX8_formula) 138 = .ok (.ifCond .eq 7, 3) := by decide +kernel
theorem dX8_formula_141 : decode (zcc mX8_formula) 141 = .ok (.iconst 1, 1) := by decide +kernel
theorem dX8_formula_142 : decode (zcc mX8_formula) 142 = .ok (.goto 4, 3) := by decide +kernel
theorem dX8_formula_145 : decode (zcc mX8_formula) 145 = .ok (.iconst 0, 1) := by decide +kernel
theorem dX8_formula_146 : decode (zcc mX8_formula) 146 = .ok (.istore 6, 2) := by decide +kernel
theorem dX8_formula_148 : decode (zcc mX8_formula) 148 = .ok (.iload 6, 2) := by decide +kernel
theorem dX8_formula_150 : decode (zcc mX8_formula) 150 = .ok (.ifCond .ne 6, 3) := by decide +kernel
theorem dX8_formula_153 : decode (zcc mX8_formula) 153 = .ok (.bipush (-2), 2) := by decide +kernel
theorem dX8_formula_155 : decode (zcc mX8_formula) 155 = .ok (.ireturn, 1) := by decide +kernel
theorem dX8_formula_156 : decode (zcc mX8_formula) 156 = .ok (.iload_n 1, 1) := by decide +kernel
theorem dX8_formula_157 : decode (zcc mX8_formula) 157 = .ok (.iconst 1, 1) := by decide +kernel
theorem dX8_formula_158 : decode (zcc mX8_formula) 158 = .ok (.if_icmp .ne 15, 3) := by decide +kernel
theorem dX8_formula_161 : decode (zcc mX8_formula) 161 = .ok (.iload 4, 2) := by decide +kernel
theorem dX8_formula_163 : decode (zcc mX8_formula) 163 = .ok (.bipush (-40), 2) := by decide +kernel
theorem dX8_formula_165 : decode (zcc mX8_formula) 165 = .ok (.bipush 40, 2) := by decide +kernel
theorem dX8_formula_167 : decode (zcc mX8_formula) 167 = .ok (.invokestatic 94, 3) := by decide +kernel
theorem dX8_formula_170 : decode (zcc mX8_formula) 170 = .ok (.ifCond .eq 30, 3) := by decide +kernel
theorem dX8_formula_173 : decode (zcc mX8_formula) 173 = .ok (.iload_n 1, 1) := by decide +kernel
theorem dX8_formula_174 : decode (zcc mX8_formula) 174 = .ok (.iconst 5, 1) := by decide +kernel
theorem dX8_formula_175 : decode (zcc mX8_formula) 175 = .ok (.if_icmp .ne 28, 3) := by decide +kernel
theorem dX8_formula_178 : decode (zcc mX8_formula) 178 = .ok (.iload_n 3, 1) := by decide +kernel
theorem dX8_formula_179 : decode (zcc mX8_formula) 179 = .ok (.iconst 2, 1) := by decide +kernel
theorem dX8_formula_180 : decode (zcc mX8_formula) 180 = .ok (.bipush 16, 2) := by decide +kernel
theorem dX8_formula_182 : decode (zcc mX8_formula) 182 = .ok (.invokestatic 94, 3) := by decide +kernel
theorem dX8_formula_185 : decode (zcc mX8_formula) 185 = .ok (.ifCond .eq 15, 3) := by decide +kernel
theorem dX8_formula_188 : decode (zcc mX8_formula) 188 = .ok (.iload 4, 2) := by decide +kernel
theorem dX8_formula_190 : decode (zcc mX8_formula) 190 = .ok (.iconst 0, 1) := by decide +kernel
theorem dX8_formula_191 : decode (zcc mX8_formula) 191 = .ok (.iload_n 3, 1) := by decide +kernel
theorem dX8_formula_192 : decode (zcc mX8_formula) 192 = .ok (.iconst 1, 1) := by decide +kernel
theorem dX8_formula_193 : decode (zcc mX8_formula) 193 = .ok (.isub, 1) := by decide +kernel
theorem dX8_formula_194 : decode (zcc mX8_formula) 194 = .ok (.invokestatic 94, 3) := by decide +kernel
theorem dX8_formula_197 : decode (zcc mX8_formula) 197 = .ok (.ifCond .ne 6, 3) := by decide +kernel
theorem dX8_formula_200 : decode (zcc mX8_formula) 200 = .ok (.bipush (-3), 2) := by decide +kernel
theorem dX8_formula_202 : decode (zcc mX8_formula) 202 = .ok (.ireturn, 1) := by decide +kernel
theorem dX8_formula_203 : decode (zcc mX8_formula) 203 = .ok (.aload_n 0, 1) := by decide +kernel
theorem dX8_formula_204 : decode (zcc mX8_formula) 204 = .ok (.getfield 98, 3) := by decide +kernel
theorem dX8_formula_207 : decode (zcc mX8_formula) 207 = .ok (.bipush 10, 2) := by decide +kernel
theorem dX8_formula_209 : decode (zcc mX8_formula) 209 = .ok (.if_icmp .ne 6, 3) := by decide +kernel
theorem dX8_formula_212 : decode (zcc mX8_formula) 212 = .ok (.bipush (-5), 2) := by decide +kernel
theorem dX8_formula_214 : decode (zcc mX8_formula) 214 = .ok (.ireturn, 1) := by decide +kernel
theorem dX8_formula_215 : decode (zcc mX8_formula) 215 = .ok (.aload_n 0, 1) := by decide +kernel
theorem dX8_formula_216 : decode (zcc mX8_formula) 216 = .ok (.getfield 98, 3) := by decide +kernel
theorem dX8_formula_219 : decode (zcc mX8_formula) 219 = .ok (.istore 7, 2) := by decide +kernel
theorem dX8_formula_221 : decode (zcc mX8_formula) 221 = .ok (.aload_n 0, 1) := by decide +kernel
theorem dX8_formula_222 : decode (zcc mX8_formula) 222 = .ok (.getfield 36, 3) := by decide +kernel
theorem dX8_formula_225 : decode (zcc mX8_formula) 225 = .ok (.iload 7, 2) := by decide +kernel
theorem dX8_formula_227 : decode (zcc mX8_formula) 227 = .ok (.iload_n 1, 1) := by decide +kernel
theorem dX8_formula_228 : decode (zcc mX8_formula) 228 = .ok (.iastore, 1) := by decide +kernel
theorem dX8_formula_229 : decode (zcc mX8_formula) 229 = .ok (.aload_n 0, 1) := by decide +kernel
theorem dX8_formula_230 : decode (zcc mX8_formula) 230 = .ok (.getfield 39, 3) := by decide +kernel
theorem dX8_formula_233 : decode (zcc mX8_formula) 233 = .ok (.iload 7, 2) := by decide +kernel
theorem dX8_formula_235 : decode (zcc mX8_formula) 235 = .ok (.iload_n 2, 1) := by decide +kernel
theorem dX8_formula_236 : decode (zcc mX8_formula) 236 = .ok (.iastore, 1) := by decide +kernel
theorem dX8_formula_237 : decode (zcc mX8_formula) 237 = .ok (.aload_n 0, 1) := by decide +kernel
theorem dX8_formula_238 : decode (zcc mX8_formula) 238 = .ok (.getfield 42, 3) := by decide +kernel
theorem dX8_formula_241 : decode (zcc mX8_formula) 241 = .ok (.iload 7, 2) := by decide +kernel
theorem dX8_formula_243 : decode (zcc mX8_formula) 243 = .ok (.iload_n 3, 1) := by decide +kernel
theorem dX8_formula_244 : decode (zcc mX8_formula) 244 = .ok (.iastore, 1) := by decide +kernel
theorem dX8_formula_245 : decode (zcc mX8_formula) 245 = .ok (.aload_n 0, 1) := by decide +kernel
theorem dX8_formula_246 : decode (zcc mX8_formula) 246 = .ok (.getfield 45, 3) := by decide +kernel
theorem dX8_formula_249 : decode (zcc mX8_formula) 249 = .ok (.iload 7, 2) := by decide +kernel
theorem dX8_formula_251 : decode (zcc mX8_formula) 251 = .ok (.iload 4, 2) := by decide +kernel
theorem dX8_formula_253 : decode (zcc mX8_formula) 253 = .ok (.iastore, 1) := by decide +kernel
theorem dX8_formula_254 : decode (zcc mX8_formula) 254 = .ok (.aload_n 0, 1) := by decide +kernel
theorem dX8_formula_255 : decode (zcc mX8_formula) 255 = .ok (.getfield 48, 3) := by decide +kernel
theorem dX8_formula_258 : decode (zcc mX8_formula) 258 = .ok (.iload 7, 2) := by decide +kernel
theorem dX8_formula_260 : decode (zcc mX8_formula) 260 = .ok (.iload 5, 2) := by decide +kernel
theorem dX8_formula_262 : decode (zcc mX8_formula) 262 = .ok (.iastore, 1) := by decide +kernel
theorem dX8_formula_263 : decode (zcc mX8_formula) 263 = .ok (.aload_n 0, 1) := by decide +kernel
theorem dX8_formula_264 : decode (zcc mX8_formula) 264 = .ok (.getfield 51, 3) := by decide +kernel
theorem dX8_formula_267 : decode (zcc mX8_formula) 267 = .ok (.iload 7, 2) := by decide +kernel
theorem dX8_formula_269 : decode (zcc mX8_formula) 269 = .ok (.iconst 0, 1) := by decide +kernel
theorem dX8_formula_270 : decode (zcc mX8_formula) 270 = .ok (.bastore, 1) := by decide +kernel
theorem dX8_formula_271 : decode (zcc mX8_formula) 271 = .ok (.aload_n 0, 1) := by decide +kernel
theorem dX8_formula_272 : decode (zcc mX8_formula) 272 = .ok (.getfield 54, 3) := by decide +kernel
theorem dX8_formula_275 : decode (zcc mX8_formula) 275 = .ok (.iload 7, 2) := by decide +kernel
theorem dX8_formula_277 : decode (zcc mX8_formula) 277 = .ok (.iconst 0, 1) := by decide +kernel
theorem dX8_formula_278 : decode (zcc mX8_formula) 278 = .ok (.bastore, 1) := by decide +kernel
theorem dX8_formula_279 : decode (zcc mX8_formula) 279 = .ok (.aload_n 0, 1) := by decide +kernel
theorem dX8_formula_280 : decode (zcc mX8_formula) 280 = .ok (.dup, 1) := by decide +kernel
theorem dX8_formula_281 : decode (zcc mX8_formula) 281 = .ok (.getfield 98, 3) := by decide +kernel
