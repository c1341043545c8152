theorem dX6_letterOf_14 : decode (zcc mX6_letterOf) 14 = .ok (.getfield 18, 3) := by decide +kernel
theorem dX6_letterOf_17 : decode (zcc mX6_letterOf) 17 = .ok (.aload_n 0, 1) := by decide +kernel
theorem dX6_letterOf_18 : decode (zcc mX6_letterOf) 18 = .ok (.getfield 15, 3) := by decide +kernel
theorem dX6_letterOf_21 : decode (zcc mX6_letterOf) 21 = .ok (.iload_n 1, 1) := by decide +kernel
theorem dX6_letterOf_22 : decode (zcc mX6_letterOf) 22 = .ok (.iaload, 1) := by decide +kernel
theorem dX6_letterOf_23 : decode (zcc mX6_letterOf) 23 = .ok (.iload_n 2, 1) := by decide +kernel
theorem dX6_letterOf_24 : decode (zcc mX6_letterOf) 24 = .ok (.iadd, 1) := by decide +kernel
theorem dX6_letterOf_25 : decode (zcc mX6_letterOf) 25 = .ok (.iaload, 1) := by decide +kernel
theorem dX6_letterOf_26 : decode (zcc mX6_letterOf) 26 = .ok (.goto 4, 3) := by decide +kernel
theorem dX6_letterOf_29 : decode (zcc mX6_letterOf) 29 = .ok (.iconst (-1), 1) := by decide +kernel
theorem dX6_letterOf_30 : decode (zcc mX6_letterOf) 30 = .ok (.ireturn, 1) := by decide +kernel
theorem dX7_init_0 : decode (zcc mX7_init) 0 = .ok (.aload_n 0, 1) := by decide +kernel
theorem dX7_init_1 : decode (zcc mX7_init) 1 = .ok (.invokespecial 3, 3) := by decide +kernel
theorem dX7_init_4 : decode (zcc mX7_init) 4 = .ok (.aload_n 0, 1) := by decide +kernel
theorem dX7_init_5 : decode (zcc mX7_init) 5 = .ok (.new 9, 3) := by decide +kernel
theorem dX7_init_8 : decode (zcc mX7_init) 8 = .ok (.dup, 1) := by decide +kernel
theorem dX7_init_9 : decode (zcc mX7_init) 9 = .ok (.invokespecial 11, 3) := by decide +kernel
theorem dX7_init_12 : decode (zcc mX7_init) 12 = .ok (.putfield 12, 3) := by decide +kernel
theorem dX7_init_15 : decode (zcc mX7_init) 15 = .ok (.aload_n 0, 1) := by decide +kernel
theorem dX7_init_16 : decode (zcc mX7_init) 16 = .ok (.new 16, 3) := by decide +kernel
theorem dX7_init_19 : decode (zcc mX7_init) 19 = .ok (.dup, 1) := by decide +kernel
theorem dX7_init_20 : decode (zcc mX7_init) 20 = .ok (.aload_n 0, 1) := by decide +kernel
theorem dX7_init_21 : decode (zcc mX7_init) 21 = .ok (.getfield 12, 3) := by decide +kernel
theorem dX7_init_24 : decode (zcc mX7_init) 24 = .ok (.invokespecial 18, 3) := by decide +kernel
theorem dX7_init_27 : decode (zcc mX7_init) 27 = .ok (.putfield 21, 3) := by decide +kernel
theorem dX7_init_30 : decode (zcc mX7_init) 30 = .ok (.aload_n 0, 1) := by decide +kernel
theorem dX7_init_31 : decode (zcc mX7_init) 31 = .ok (.new 16, 3) := by decide +kernel
theorem dX7_init_34 : decode (zcc mX7_init) 34 = .ok (.dup, 1) := by decide +kernel
theorem dX7_init_35 : decode (zcc mX7_init) 35 = .ok (.aload_n 0, 1) := by decide +kernel
theorem dX7_init_36 : decode (zcc mX7_init) 36 = .ok (.getfield 12, 3) := by decide +kernel
theorem dX7_init_39 : decode (zcc mX7_init) 39 = .ok (.invokespecial 18, 3) := by decide +kernel
theorem dX7_init_42 : decode (zcc mX7_init) 42 = .ok (.putfield 25, 3) := by decide +kernel
theorem dX7_init_45 : decode (zcc mX7_init) 45 = .ok (.aload_n 0, 1) := by decide +kernel
theorem dX7_init_46 : decode (zcc mX7_init) 46 = .ok (.bipush 12, 2) := by decide +kernel
theorem dX7_init_48 : decode (zcc mX7_init) 48 = .ok (.anewarray 28, 3) := by decide +kernel
theorem dX7_init_51 : decode (zcc mX7_init) 51 = .ok (.putfield 30, 3) := by decide +kernel
theorem dX7_init_54 : decode (zcc mX7_init) 54 = .ok (.aload_n 0, 1) := by decide +kernel
theorem dX7_init_55 : decode (zcc mX7_init) 55 = .ok (.iconst 3, 1) := by decide +kernel
theorem dX7_init_56 : decode (zcc mX7_init) 56 = .ok (.anewarray 34, 3) := by decide +kernel
theorem dX7_init_59 : decode (zcc mX7_init) 59 = .ok (.putfield 36, 3) := by decide +kernel
theorem dX7_init_62 : decode (zcc mX7_init) 62 = .ok (.aload_n 0, 1) := by decide +kernel
theorem dX7_init_63 : decode (zcc mX7_init) 63 = .ok (.bipush 10, 2) := by decide +kernel
theorem dX7_init_65 : decode (zcc mX7_init) 65 = .ok (.anewarray 40, 3) := by decide +kernel
theorem dX7_init_68 : decode (zcc mX7_init) 68 = .ok (.putfield 42, 3) := by decide +kernel
theorem dX7_init_71 : decode (zcc mX7_init) 71 = .ok (.aload_n 0, 1) := by decide +kernel
theorem dX7_init_72 : decode (zcc mX7_init) 72 = .ok (.new 46, 3) := by decide +kernel
theorem dX7_init_75 : decode (zcc mX7_init) 75 = .ok (.dup, 1) := by decide +kernel
theorem dX7_init_76 : decode (zcc mX7_init) 76 = .ok (.aload_n 0, 1) := by decide +kernel
theorem dX7_init_77 : decode (zcc mX7_init) 77 = .ok (.getfield 30, 3) := by decide +kernel
theorem dX7_init_80 : decode (zcc mX7_init) 80 = .ok (.aload_n 0, 1) := by decide +kernel
theorem dX7_init_81 : decode (zcc mX7_init) 81 = .ok (.getfield 36, 3) := by decide +kernel
theorem dX7_init_84 : decode (zcc mX7_init) 84 = .ok (.invokespecial 48, 3) := by decide +kernel
theorem dX7_init_87 : decode (zcc mX7_init) 87 = .ok (.putfield 51, 3) := by decide +kernel
theorem dX7_init_90 : decode (zcc mX7_init) 90 = .ok (.iconst 0, 1) := by decide +kernel
theorem dX7_init_91 : decode (zcc mX7_init) 91 = .ok (.istore_n 1, 1) := by decide +kernel
theorem dX7_init_92 : decode (zcc mX7_init) 92 = .ok (.iload_n 1, 1) := by decide +kernel
theorem dX7_init_93 : decode (zcc mX7_init) 93 = .ok (.bipush 12, 2) := by decide +kernel
theorem dX7_init_95 : decode (zcc mX7_init) 95 = .ok (.if_icmp .ge 22, 3) := by decide +kernel
theorem dX7_init_98 : decode (zcc mX7_init) 98 = .ok (.aload_n 0, 1) := by decide +kernel
theorem dX7_init_99 : decode (zcc mX7_init) 99 = .ok (.getfield 30, 3) := by decide +kernel
theorem dX7_init_102 : decode (zcc mX7_init) 102 = .ok (.iload_n 1, 1) := by decide +kernel
theorem dX7_init_103 : decode (zcc mX7_init) 103 = .ok (.new 28, 3) := by decide +kernel
theorem dX7_init_106 : decode (zcc mX7_init) 106 = .ok (.dup, 1) := by decide +kernel
theorem dX7_init_107 : decode (zcc mX7_init) 107 = .ok (.invokespecial 55, 3) := by decide +kernel
theorem dX7_init_110 : decode (zcc mX7_init) 110 = .ok (.aastore, 1) := by decide +kernel
theorem dX7_init_111 : decode (zcc mX7_init) 111 = .ok (.iinc 1 1, 3) := by decide +kernel
theorem dX7_init_114 : decode (zcc mX7_init) 114 = .ok (.goto (-22), 3) := by decide +kernel
theorem dX7_init_117 : decode (zcc mX7_init) 117 = .ok (.iconst 0, 1) := by decide +kernel
theorem dX7_init_118 : decode (zcc mX7_init) 118 = .ok (.istore_n 1, 1) := by decide +kernel
theorem dX7_init_119 : decode (zcc mX7_init) 119 = .ok (.iload_n 1, 1) := by decide +kernel
theorem dX7_init_120 : decode (zcc mX7_init) 120 = .ok (.iconst 3, 1) := by decide +kernel
theorem dX7_init_121 : decode (zcc mX7_init) 121 = .ok (.if_icmp .ge 22, 3) := by decide +kernel
theorem dX7_init_124 : decode (zcc mX7_init) 124 = .ok (.aload_n 0, 1) := by decide +kernel
theorem dX7_init_125 : decode (zcc mX7_init) 125 = .ok (.getfield 36, 3) := by decide +kernel
theorem dX7_init_128 : decode (zcc mX7_init) 128 = .ok (.iload_n 1, 1) := by decide +kernel
theorem dX7_init_129 : decode (zcc mX7_init) 129 = .ok (.new 34, 3) := by decide +kernel
theorem dX7_init_132 : decode (zcc mX7_init) 132 = .ok (.dup, 1) := by decide +kernel
theorem dX7_init_133 : decode (zcc mX7_init) 133 = .ok (.invokespecial 56, 3) := by decide +kernel
theorem dX7_init_136 : decode (zcc mX7_init) 136 = .ok (.aastore, 1) := by decide +kernel
theorem dX7_init_137 : decode (zcc mX7_init) 137 = .ok (.iinc 1 1, 3) := by decide +kernel
theorem dX7_init_140 : decode (zcc mX7_init) 140 = .ok (.goto (-21), 3) := by decide +kernel
theorem dX7_init_143 : decode (zcc mX7_init) 143 = .ok (.iconst 0, 1) := by decide +kernel
theorem dX7_init_144 : decode (zcc mX7_init) 144 = .ok (.istore_n 1, 1) := by decide +kernel
theorem dX7_init_145 : decode (zcc mX7_init) 145 = .ok (.iload_n 1, 1) := by decide +kernel
theorem dX7_init_146 : decode (zcc mX7_init) 146 = .ok (.bipush 10, 2) := by decide +kernel
theorem dX7_init_148 : decode (zcc mX7_init) 148 = .ok (.if_icmp .ge 22, 3) := by decide +kernel
theorem dX7_init_151 : decode (zcc mX7_init) 151 = .ok (.aload_n 0, 1) := by decide +kernel
theorem dX7_init_152 : decode (zcc mX7_init) 152 = .ok (.getfield 42, 3) := by decide +kernel
theorem dX7_init_155 : decode (zcc mX7_init) 155 = .ok (.iload_n 1, 1) := by decide +kernel
theorem dX7_init_156 : decode (zcc mX7_init) 156 = .ok (.new 40, 3) := by decide +kernel
theorem dX7_init_159 : decode (zcc mX7_init) 159 = .ok (.dup, 1) := by decide +kernel
theorem dX7_init_160 : decode (zcc mX7_init) 160 = .ok (.invokespecial 57, 3) := by decide +kernel
theorem dX7_init_163 : decode (zcc mX7_init) 163 = .ok (.aastore, 1) := by decide +kernel
theorem dX7_init_164 : decode (zcc mX7_init) 164 = .ok (.iinc 1 1, 3) := by decide +kernel
theorem dX7_init_167 : decode (zcc mX7_init) 167 = .ok (.goto (-22), 3) := by decide +kernel
theorem dX7_init_170 : decode (zcc mX7_init) 170 = .ok (.return_, 1) := by decide +kernel
theorem dX7_clear_0 : decode (zcc mX7_clear) 0 = .ok (.iload_n 1, 1) := by decide +kernel
theorem dX7_clear_1 : decode (zcc mX7_clear) 1 = .ok (.iconst 2, 1) := by decide +kernel
theorem dX7_clear_2 : decode (zcc mX7_clear) 2 = .ok (.if_icmp .lt 8, 3) := by decide +kernel
theorem dX7_clear_5 : decode (zcc mX7_clear) 5 = .ok (.iload_n 1, 1) := by decide +kernel
theorem dX7_clear_6 : decode (zcc mX7_clear) 6 = .ok (.iconst 3, 1) := by decide +kernel
theorem dX7_clear_7 : decode (zcc mX7_clear) 7 = .ok (.if_icmp .le 6, 3) := by decide +kernel
theorem dX7_clear_10 : decode (zcc mX7_clear) 10 = .ok (.bipush (-3), 2) := by decide +kernel
theorem dX7_clear_12 : decode (zcc mX7_clear) 12 = .ok (.ireturn, 1) := by decide +kernel
theorem dX7_clear_13 : decode (zcc mX7_clear) 13 = .ok (.aload_n 0, 1) := by decide +kernel
theorem dX7_clear_14 : decode (zcc mX7_clear) 14 = .ok (.getfield 58, 3) := by decide +kernel
theorem dX7_clear_17 : decode (zcc mX7_clear) 17 = .ok (.istore_n 2, 1) := by decide +kernel
theorem dX7_clear_18 : decode (zcc mX7_clear) 18 = .ok (.aload_n 0, 1) := by decide +kernel
theorem dX7_clear_19 : decode (zcc mX7_clear) 19 = .ok (.getfield 12, 3) := by decide +kernel
theorem dX7_clear_22 : decode (zcc mX7_clear) 22 = .ok (.iload_n 1, 1) := by decide +kernel
theorem dX7_clear_23 : decode (zcc mX7_clear) 23 = .ok (.invokevirtual 62, 3) := by decide +kernel
theorem dX7_clear_26 : decode (zcc mX7_clear) 26 = .ok (.aload_n 0, 1) := by decide +kernel
theorem dX7_clear_27 : decode (zcc mX7_clear) 27 = .ok (.iconst 0, 1) := by decide +kernel
theorem dX7_clear_28 : decode (zcc mX7_clear) 28 = .ok (.putfield 66, 3) := by decide +kernel
theorem dX7_clear_31 : decode (zcc mX7_clear) 31 = .ok (.aload_n 0, 1) := by decide +kernel
theorem dX7_clear_32 : decode (zcc mX7_clear) 32 = .ok (.iconst 0, 1) := by decide +kernel
theorem dX7_clear_33 : decode (zcc mX7_clear) 33 = .ok (.putfield 69, 3) := by decide +kernel
theorem dX7_clear_36 : decode (zcc mX7_clear) 36 = .ok (.aload_n 0, 1) := by decide +kernel
theorem dX7_clear_37 : decode (zcc mX7_clear) 37 = .ok (.iconst 0, 1) := by decide +kernel
theorem dX7_clear_38 : decode (zcc mX7_clear) 38 = .ok (.putfield 58, 3) := by decide +kernel
theorem dX7_clear_41 : decode (zcc mX7_clear) 41 = .ok (.aload_n 0, 1) := by decide +kernel
theorem dX7_clear_42 : decode (zcc mX7_clear) 42 = .ok (.invokevirtual 72, 3) := by decide +kernel
theorem dX7_clear_45 : decode (zcc mX7_clear) 45 = .ok (.aload_n 0, 1) := by decide +kernel
theorem dX7_clear_46 : decode (zcc mX7_clear) 46 = .ok (.invokevirtual 75, 3) := by decide +kernel
theorem dX7_clear_49 : decode (zcc mX7_clear) 49 = .ok (.iload_n 2, 1) := by decide +kernel
theorem dX7_clear_50 : decode (zcc mX7_clear) 50 = .ok (.ireturn, 1) := by decide +kernel
theorem dX7_text_0 : decode (zcc mX7_text) 0 = .ok (.iload_n 1, 1) := by decide +kernel
theorem dX7_text_1 : decode (zcc mX7_text) 1 = .ok (.ifCond .lt 8, 3) := by decide +kernel
theorem dX7_text_4 : decode (zcc mX7_text) 4 = .ok (.iload_n 1, 1) := by decide +kernel
theorem dX7_text_5 : decode (zcc mX7_text) 5 = .ok (.iconst 5, 1) := by decide +kernel
theorem dX7_text_6 : decode (zcc mX7_text) 6 = .ok (.if_icmp .le 6, 3) := by decide +kernel
theorem dX7_text_9 : decode (zcc mX7_text) 9 = .ok (.bipush (-3), 2) := by decide +kernel
theorem dX7_text_11 : decode (zcc mX7_text) 11 = .ok (.ireturn, 1) := by decide +kernel
theorem dX7_text_12 : decode (zcc mX7_text) 12 = .ok (.aload_n 0, 1) := by decide +kernel
theorem dX7_text_13 : decode (zcc mX7_text) 13 = .ok (.getfield 12, 3) := by decide +kernel
theorem dX7_text_16 : decode (zcc mX7_text) 16 = .ok (.iload_n 1, 1) := by decide +kernel
theorem dX7_text_17 : decode (zcc mX7_text) 17 = .ok (.invokevirtual 78, 3) := by decide +kernel
theorem dX7_text_20 : decode (zcc mX7_text) 20 = .ok (.ifCond .ne 6, 3) := by decide +kernel
theorem dX7_text_23 : decode (zcc mX7_text) 23 = .ok (.bipush (-5), 2) := by decide +kernel
theorem dX7_text_25 : decode (zcc mX7_text) 25 = .ok (.ireturn, 1) := by decide +kernel
theorem dX7_text_26 : decode (zcc mX7_text) 26 = .ok (.aload_n 0, 1) := by decide +kernel
theorem dX7_text_27 : decode (zcc mX7_text) 27 = .ok (.getfield 12, 3) := by decide +kernel
theorem dX7_text_30 : decode (zcc mX7_text) 30 = .ok (.iload_n 1, 1) := by decide +kernel
theorem dX7_text_31 : decode (zcc mX7_text) 31 = .ok (.invokevirtual 82, 3) := by decide +kernel
theorem dX7_text_34 : decode (zcc mX7_text) 34 = .ok (.aload_n 0, 1) := by decide +kernel
theorem dX7_text_35 : decode (zcc mX7_text) 35 = .ok (.invokevirtual 72, 3) := by decide +kernel
theorem dX7_text_38 : decode (zcc mX7_text) 38 = .ok (.aload_n 0, 1) := by decide +kernel
theorem dX7_text_39 : decode (zcc mX7_text) 39 = .ok (.invokevirtual 75, 3) := by decide +kernel
theorem dX7_text_42 : decode (zcc mX7_text) 42 = .ok (.aload_n 0, 1) := by decide +kernel
theorem dX7_text_43 : decode (zcc mX7_text) 43 = .ok (.getfield 12, 3) := by decide +kernel
theorem dX7_text_46 : decode (zcc mX7_text) 46 = .ok (.getfield 85, 3) := by decide +kernel
theorem dX7_text_49 : decode (zcc mX7_text) 49 = .ok (.iconst 1, 1) := by decide +kernel
theorem dX7_text_50 : decode (zcc mX7_text) 50 = .ok (.isub, 1) := by decide +kernel
theorem dX7_text_51 : decode (zcc mX7_text) 51 = .ok (.ireturn, 1) := by decide +kernel
theorem dX7_term_0 : decode (zcc mX7_term) 0 = .ok (.aload_n 0, 1) := by decide +kernel
theorem dX7_term_1 : decode (zcc mX7_term) 1 = .ok (.getfield 66, 3) := by decide +kernel
theorem dX7_term_4 : decode (zcc mX7_term) 4 = .ok (.bipush 12, 2) := by decide +kernel
theorem dX7_term_6 : decode (zcc mX7_term) 6 = .ok (.if_icmp .lt 6, 3) := by decide +kernel
theorem dX7_term_9 : decode (zcc mX7_term) 9 = .ok (.bipush (-5), 2) := by decide +kernel
theorem dX7_term_11 : decode (zcc mX7_term) 11 = .ok (.ireturn, 1) := by decide +kernel
theorem dX7_term_12 : decode (zcc mX7_term) 12 = .ok (.aload_n 0, 1) := by decide +kernel
theorem dX7_term_13 : decode (zcc mX7_term) 13 = .ok (.getfield 30, 3) := by decide +kernel
theorem dX7_term_16 : decode (zcc mX7_term) 16 = .ok (.aload_n 0, 1) := by decide +kernel
theorem dX7_term_17 : decode (zcc mX7_term) 17 = .ok (.getfield 66, 3) := by decide +kernel
theorem dX7_term_20 : decode (zcc mX7_term) 20 = .ok (.aaload, 1) := by decide +kernel
theorem dX7_term_21 : decode (zcc mX7_term) 21 = .ok (.invokevirtual 88, 3) := by decide +kernel
theorem dX7_term_24 : decode (zcc mX7_term) 24 = .ok (.aload_n 0, 1) := by decide +kernel
theorem dX7_term_25 : decode (zcc mX7_term) 25 = .ok (.dup, 1) := by decide +kernel
theorem dX7_term_26 : decode (zcc mX7_term) 26 = .ok (.getfield 66, 3) := by decide +kernel
theorem dX7_term_29 : decode (zcc mX7_term) 29 = .ok (.iconst 1, 1) := by decide +kernel
theorem dX7_term_30 : decode (zcc mX7_term) 30 = .ok (.iadd, 1) := by decide +kernel
theorem dX7_term_31 : decode (zcc mX7_term) 31 = .ok (.putfield 66, 3) := by decide +kernel
theorem dX7_term_34 : decode (zcc mX7_term) 34 = .ok (.aload_n 0, 1) := by decide +kernel
theorem dX7_term_35 : decode (zcc mX7_term) 35 = .ok (.invokevirtual 75, 3) := by decide +kernel
theorem dX7_term_38 : decode (zcc mX7_term) 38 = .ok (.aload_n 0, 1) := by decide +kernel
theorem dX7_term_39 : decode (zcc mX7_term) 39 = .ok (.getfield 66, 3) := by decide +kernel
theorem dX7_term_42 : decode (zcc mX7_term) 42 = .ok (.iconst 1, 1) := by decide +kernel
theorem dX7_term_43 : decode (zcc mX7_term) 43 = .ok (.isub, 1) := by decide +kernel
theorem dX7_term_44 : decode (zcc mX7_term) 44 = .ok (.ireturn, 1) := by decide +kernel
theorem dX7_part_0 : decode (zcc mX7_part) 0 = .ok (.aload_n 0, 1) := by decide +kernel
theorem dX7_part_1 : decode (zcc mX7_part) 1 = .ok (.iload_n 1, 1) := by decide +kernel
theorem dX7_part_2 : decode (zcc mX7_part) 2 = .ok (.invokevirtual 90, 3) := by decide +kernel
theorem dX7_part_5 : decode (zcc mX7_part) 5 = .ok (.ifCond .ne 6, 3) := by decide +kernel
theorem dX7_part_8 : decode (zcc mX7_part) 8 = .ok (.bipush (-2), 2) := by decide +kernel
theorem dX7_part_10 : decode (zcc mX7_part) 10 = .ok (.ireturn, 1) := by decide +kernel
theorem dX7_part_11 : decode (zcc mX7_part) 11 = .ok (.aload_n 0, 1) := by decide +kernel
theorem dX7_part_12 : decode (zcc mX7_part) 12 = .ok (.getfield 12, 3) := by decide +kernel
theorem dX7_part_15 : decode (zcc mX7_part) 15 = .ok (.iload_n 2, 1) := by decide +kernel
theorem dX7_part_16 : decode (zcc mX7_part) 16 = .ok (.invokevirtual 93, 3) := by decide +kernel
theorem dX7_part_19 : decode (zcc mX7_part) 19 = .ok (.ifCond .ne 26, 3) := by decide +kernel
theorem dX7_part_22 : decode (zcc mX7_part) 22 = .ok (.iload_n 2, 1) := by decide +kernel
theorem dX7_part_23 : decode (zcc mX7_part) 23 = .ok (.bipush 8, 2) := by decide +kernel
theorem dX7_part_25 : decode (zcc mX7_part) 25 = .ok (.if_icmp .lt 17, 3) := by decide +kernel
theorem dX7_part_28 : decode (zcc mX7_part) 28 = .ok (.aload_n 0, 1) := by decide +kernel
theorem dX7_part_29 : decode (zcc mX7_part) 29 = .ok (.getfield 12, 3) := by decide +kernel
theorem dX7_part_32 : decode (zcc mX7_part) 32 = .ok (.iload_n 2, 1) := by decide +kernel
theorem dX7_part_33 : decode (zcc mX7_part) 33 = .ok (.bipush 8, 2) := by decide +kernel
theorem dX7_part_35 : decode (zcc mX7_part) 35 = .ok (.isub, 1) := by decide +kernel
theorem dX7_part_36 : decode (zcc mX7_part) 36 = .ok (.invokevirtual 96, 3) := by decide +kernel
theorem dX7_part_39 : decode (zcc mX7_part) 39 = .ok (.ifCond .ne 6, 3) := by decide +kernel
theorem dX7_part_42 : decode (zcc mX7_part) 42 = .ok (.bipush (-3), 2) := by decide +kernel
theorem dX7_part_44 : decode (zcc mX7_part) 44 = .ok (.ireturn, 1) := by decide +kernel
theorem dX7_part_45 : decode (zcc mX7_part) 45 = .ok (.aload_n 0, 1) := by decide +kernel
theorem dX7_part_46 : decode (zcc mX7_part) 46 = .ok (.getfield 30, 3) := by decide +kernel
theorem dX7_part_49 : decode (zcc mX7_part) 49 = .ok (.iload_n 1, 1) := by decide +kernel
theorem dX7_part_50 : decode (zcc mX7_part) 50 = .ok (.aaload, 1) := by decide +kernel
theorem dX7_part_51 : decode (zcc mX7_part) 51 = .ok (.iload_n 2, 1) := by decide +kernel
theorem dX7_part_52 : decode (zcc mX7_part) 52 = .ok (.invokevirtual 99, 3) := by decide +kernel
theorem dX7_part_55 : decode (zcc mX7_part) 55 = .ok (.ifCond .ne 6, 3) := by decide +kernel
theorem dX7_part_58 : decode (zcc mX7_part) 58 = .ok (.bipush (-5), 2) := by decide +kernel
theorem dX7_part_60 : decode (zcc mX7_part) 60 = .ok (.ireturn, 1) := by decide +kernel
theorem dX7_part_61 : decode (zcc mX7_part) 61 = .ok (.iconst 0, 1) := by decide +kernel
theorem dX7_part_62 : decode (zcc mX7_part) 62 = .ok (.istore_n 3, 1) := by decide +kernel
theorem dX7_part_63 : decode (zcc mX7_part) 63 = .ok (.iload_n 3, 1) := by decide +kernel
theorem dX7_part_64 : decode (zcc mX7_part) 64 = .ok (.aload_n 0, 1) := by decide +kernel
theorem dX7_part_65 : decode (zcc mX7_part) 65 = .ok (.getfield 58, 3) := by decide +kernel
theorem dX7_part_68 : decode (zcc mX7_part) 68 = .ok (.if_icmp .ge 31, 3) := by decide +kernel
theorem dX7_part_71 : decode (zcc mX7_part) 71 = .ok (.aload_n 0, 1) := by decide +kernel
theorem dX7_part_72 : decode (zcc mX7_part) 72 = .ok (.getfield 42, 3) := by decide +kernel
theorem dX7_part_75 : decode (zcc mX7_part) 75 = .ok (.iload_n 3, 1) := by decide +kernel
theorem dX7_part_76 : decode (zcc mX7_part) 76 = .ok (.aaload, 1) := by decide +kernel
theorem dX7_part_77 : decode (zcc mX7_part) 77 = .ok (.iload_n 1, 1) := by decide +kernel
theorem dX7_part_78 : decode (zcc mX7_part) 78 = .ok (.invokevirtual 101, 3) := by decide +kernel
theorem dX7_part_81 : decode (zcc mX7_part) 81 = .ok (.ifCond .eq 12, 3) := by decide +kernel
theorem dX7_part_84 : decode (zcc mX7_part) 84 = .ok (.aload_n 0, 1) := by decide +kernel
theorem dX7_part_85 : decode (zcc mX7_part) 85 = .ok (.getfield 42, 3) := by decide +kernel
theorem dX7_part_88 : decode (zcc mX7_part) 88 = .ok (.iload_n 3, 1) := by decide +kernel
theorem dX7_part_89 : decode (zcc mX7_part) 89 = .ok (.aaload, 1) := by decide +kernel
theorem dX7_part_90 : decode (zcc mX7_part) 90 = .ok (.invokevirtual 104, 3) := by decide +kernel
theorem dX7_part_93 : decode (zcc mX7_part) 93 = .ok (.iinc 3 1, 3) := by decide +kernel
theorem dX7_part_96 : decode (zcc mX7_part) 96 = .ok (.goto (-33), 3) := by decide +kernel
theorem dX7_part_99 : decode (zcc mX7_part) 99 = .ok (.aload_n 0, 1) := by decide +kernel
theorem dX7_part_100 : decode (zcc mX7_part) 100 = .ok (.invokevirtual 75, 3) := by decide +kernel
theorem dX7_part_103 : decode (zcc mX7_part) 103 = .ok (.aload_n 0, 1) := by decide +kernel
theorem dX7_part_104 : decode (zcc mX7_part) 104 = .ok (.getfield 30, 3) := by decide +kernel
theorem dX7_part_107 : decode (zcc mX7_part) 107 = .ok (.iload_n 1, 1) := by decide +kernel
theorem dX7_part_108 : decode (zcc mX7_part) 108 = .ok (.aaload, 1) := by decide +kernel
theorem dX7_part_109 : decode (zcc mX7_part) 109 = .ok (.getfield 107, 3) := by decide +kernel
theorem dX7_part_112 : decode (zcc mX7_part) 112 = .ok (.ireturn, 1) := by decide +kernel
theorem dX7_machine_0 : decode (zcc mX7_machine) 0 = .ok (.iload_n 1, 1) := by decide +kernel
theorem dX7_machine_1 : decode (zcc mX7_machine) 1 = .ok (.iconst 1, 1) := by decide +kernel
theorem dX7_machine_2 : decode (zcc mX7_machine) 2 = .ok (.if_icmp .lt 9, 3) := by decide +kernel
theorem dX7_machine_5 : decode (zcc mX7_machine) 5 = .ok (.iload_n 1, 1) := by decide +kernel
theorem dX7_machine_6 : decode (zcc mX7_machine) 6 = .ok (.bipush 6, 2) := by decide +kernel
theorem dX7_machine_8 : decode (zcc mX7_machine) 8 = .ok (.if_icmp .le 6, 3) := by decide +kernel
theorem dX7_machine_11 : decode (zcc mX7_machine) 11 = .ok (.bipush (-3), 2) := by decide +kernel
theorem dX7_machine_13 : decode (zcc mX7_machine) 13 = .ok (.ireturn, 1) := by decide +kernel
theorem dX7_machine_14 : decode (zcc mX7_machine) 14 = .ok (.aload_n 0, 1) := by decide +kernel
theorem dX7_machine_15 : decode (zcc mX7_machine) 15 = .ok (.getfield 69, 3) := by decide +kernel
theorem dX7_machine_18 : decode (zcc mX7_machine) 18 = .ok (.iconst 3, 1) := by decide +kernel
theorem dX7_machine_19 : decode (zcc mX7_machine) 19 = .ok (.if_icmp .lt 6, 3) := by decide +kernel
theorem dX7_machine_22 : decode (zcc mX7_machine) 22 = .ok (.bipush (-5), 2) := by decide +kernel
theorem dX7_machine_24 : decode (zcc mX7_machine) 24 = .ok (.ireturn, 1) := by decide +kernel
theorem dX7_machine_25 : decode (zcc mX7_machine) 25 = .ok (.aload_n 0, 1) := by decide +kernel
theorem dX7_machine_26 : decode (zcc mX7_machine) 26 = .ok (.getfield 36, 3) := by decide +kernel
theorem dX7_machine_29 : decode (zcc mX7_machine) 29 = .ok (.aload_n 0, 1) := by decide +kernel
theorem dX7_machine_30 : decode (zcc mX7_machine) 30 = .ok (.getfield 69, 3) := by decide +kernel
theorem dX7_machine_33 : decode (zcc mX7_machine) 33 = .ok (.aaload, 1) := by decide +kernel
theorem dX7_machine_34 : decode (zcc mX7_machine) 34 = .ok (.iload_n 1, 1) := by decide +kernel
theorem dX7_machine_35 : decode (zcc mX7_machine) 35 = .ok (.invokevirtual 110, 3) := by decide +kernel
theorem dX7_machine_38 : decode (zcc mX7_machine) 38 = .ok (.aload_n 0, 1) := by decide +kernel
theorem dX7_machine_39 : decode (zcc mX7_machine) 39 = .ok (.dup, 1) := by decide +kernel
theorem dX7_machine_40 : decode (zcc mX7_machine) 40 = .ok (.getfield 69, 3) := by decide +kernel
theorem dX7_machine_43 : decode (zcc mX7_machine) 43 = .ok (.iconst 1, 1) := by decide +kernel
theorem dX7_machine_44 : decode (zcc mX7_machine) 44 = .ok (.iadd, 1) := by decide +kernel
theorem dX7_machine_45 : decode (zcc mX7_machine) 45 = .ok (.putfield 69, 3) := by decide +kernel
theorem dX7_machine_48 : decode (zcc mX7_machine) 48 = .ok (.aload_n 0, 1) := by decide +kernel
theorem dX7_machine_49 : decode (zcc mX7_machine) 49 = .ok (.invokevirtual 75, 3) := by decide +kernel
theorem dX7_machine_52 : decode (zcc mX7_machine) 52 = .ok (.aload_n 0, 1) := by decide +kernel
theorem dX7_machine_53 : decode (zcc mX7_machine) 53 = .ok (.getfield 69, 3) := by decide +kernel
theorem dX7_machine_56 : decode (zcc mX7_machine) 56 = .ok (.iconst 1, 1) := by decide +kernel
theorem dX7_machine_57 : decode (zcc mX7_machine) 57 = .ok (.isub, 1) := by decide +kernel
theorem dX7_machine_58 : decode (zcc mX7_machine) 58 = .ok (.ireturn, 1) := by decide +kernel
theorem dX7_step_0 : decode (zcc mX7_step) 0 = .ok (.aload_n 0, 1) := by decide +kernel
theorem dX7_step_1 : decode (zcc mX7_step) 1 = .ok (.iload_n 1, 1) := by decide +kernel
theorem dX7_step_2 : decode (zcc mX7_step) 2 = .ok (.invokevirtual 111, 3) := by decide +kernel
theorem dX7_step_5 : decode (zcc mX7_step) 5 = .ok (.ifCond .ne 6, 3) := by decide +kernel
theorem dX7_step_8 : decode (zcc mX7_step) 8 = .ok (.bipush (-2), 2) := by decide +kernel
theorem dX7_step_10 : decode (zcc mX7_step) 10 = .ok (.ireturn, 1) := by decide +kernel
theorem dX7_step_11 : decode (zcc mX7_step) 11 = .ok (.aload_n 0, 1) := by decide +kernel
theorem dX7_step_12 : decode (zcc mX7_step) 12 = .ok (.getfield 36, 3) := by decide +kernel
theorem dX7_step_15 : decode (zcc mX7_step) 15 = .ok (.iload_n 1, 1) := by decide +kernel
theorem dX7_step_16 : decode (zcc mX7_step) 16 = .ok (.aaload, 1) := by decide +kernel
theorem dX7_step_17 : decode (zcc mX7_step) 17 = .ok (.astore 5, 2) := by decide +kernel
theorem dX7_step_19 : decode (zcc mX7_step) 19 = .ok (.aload 5, 2) := by decide +kernel
theorem dX7_step_21 : decode (zcc mX7_step) 21 = .ok (.iload_n 2, 1) := by decide +kernel
theorem dX7_step_22 : decode (zcc mX7_step) 22 = .ok (.invokevirtual 114, 3) := by decide +kernel
theorem dX7_step_25 : decode (zcc mX7_step) 25 = .ok (.ifCond .eq 24, 3) := by decide +kernel
theorem dX7_step_28 : decode (zcc mX7_step) 28 = .ok (.aload_n 0, 1) := by decide +kernel
theorem dX7_step_29 : decode (zcc mX7_step) 29 = .ok (.getfield 12, 3) := by decide +kernel
theorem dX7_step_32 : decode (zcc mX7_step) 32 = .ok (.iload_n 3, 1) := by decide +kernel
theorem dX7_step_33 : decode (zcc mX7_step) 33 = .ok (.invokevirtual 93, 3) := by decide +kernel
theorem dX7_step_36 : decode (zcc mX7_step) 36 = .ok (.ifCond .eq 13, 3) := by decide +kernel
theorem dX7_step_39 : decode (zcc mX7_step) 39 = .ok (.aload 5, 2) := by decide +kernel
theorem dX7_step_41 : decode (zcc mX7_step) 41 = .ok (.iload 4, 2) := by decide +kernel
theorem dX7_step_43 : decode (zcc mX7_step) 43 = .ok (.invokevirtual 114, 3) := by decide +kernel
theorem dX7_step_46 : decode (zcc mX7_step) 46 = .ok (.ifCond .ne 6, 3) := by decide +kernel
theorem dX7_step_49 : decode (zcc mX7_step) 49 = .ok (.bipush (-3), 2) := by decide +kernel
theorem dX7_step_51 : decode (zcc mX7_step) 51 = .ok (.ireturn, 1) := by decide +kernel
theorem dX7_step_52 : decode (zcc mX7_step) 52 = .ok (.aload 5, 2) := by decide +kernel
theorem dX7_step_54 : decode (zcc mX7_step) 54 = .ok (.iload_n 2, 1) := by decide +kernel
theorem dX7_step_55 : decode (zcc mX7_step) 55 = .ok (.iload_n 3, 1) := by decide +kernel
theorem dX7_step_56 : decode (zcc mX7_step) 56 = .ok (.invokevirtual 117, 3) := by decide +kernel
theorem dX7_step_59 : decode (zcc mX7_step) 59 = .ok (.istore 6, 2) := by decide +kernel
theorem dX7_step_61 : decode (zcc mX7_step) 61 = .ok (.aload 5, 2) := by decide +kernel
theorem dX7_step_63 : decode (zcc mX7_step) 63 = .ok (.iload_n 2, 1) := by decide +kernel
theorem dX7_step_64 : decode (zcc mX7_step) 64 = .ok (.iload_n 3, 1) := by decide +kernel
theorem dX7_step_65 : decode (zcc mX7_step) 65 = .ok (.iload 4, 2) := by decide +kernel
theorem dX7_step_67 : decode (zcc mX7_step) 67 = .ok (.invokevirtual 121, 3) := by decide +kernel
theorem dX7_step_70 : decode (zcc mX7_step) 70 = .ok (.aload_n 0, 1) := by decide +kernel
theorem dX7_step_71 : decode (zcc mX7_step) 71 = .ok (.iload_n 1, 1) := by decide +kernel
theorem dX7_step_72 : decode (zcc mX7_step) 72 = .ok (.invokevirtual 125, 3) := by decide +kernel
theorem dX7_step_75 : decode (zcc mX7_step) 75 = .ok (.iload 6, 2) := by decide +kernel
theorem dX7_step_77 : decode (zcc mX7_step) 77 = .ok (.ireturn, 1) := by decide +kernel
theorem dX7_good_0 : decode (zcc mX7_good) 0 = .ok (.aload_n 0, 1) := by decide +kernel
theorem dX7_good_1 : decode (zcc mX7_good) 1 = .ok (.iload_n 1, 1) := by decide +kernel
theorem dX7_good_2 : decode (zcc mX7_good) 2 = .ok (.invokevirtual 111, 3) := by decide +kernel
theorem dX7_good_5 : decode (zcc mX7_good) 5 = .ok (.ifCond .ne 6, 3) := by decide +kernel
theorem dX7_good_8 : decode (zcc mX7_good) 8 = .ok (.bipush (-2), 2) := by decide +kernel
theorem dX7_good_10 : decode (zcc mX7_good) 10 = .ok (.ireturn, 1) := by decide +kernel
theorem dX7_good_11 : decode (zcc mX7_good) 11 = .ok (.aload_n 0, 1) := by decide +kernel
theorem dX7_good_12 : decode (zcc mX7_good) 12 = .ok (.getfield 36, 3) := by decide +kernel
theorem dX7_good_15 : decode (zcc mX7_good) 15 = .ok (.iload_n 1, 1) := by decide +kernel
theorem dX7_good_16 : decode (zcc mX7_good) 16 = .ok (.aaload, 1) := by decide +kernel
theorem dX7_good_17 : decode (zcc mX7_good) 17 = .ok (.astore 4, 2) := by decide +kernel
theorem dX7_good_19 : decode (zcc mX7_good) 19 = .ok (.aload 4, 2) := by decide +kernel
theorem dX7_good_21 : decode (zcc mX7_good) 21 = .ok (.iload_n 2, 1) := by decide +kernel
theorem dX7_good_22 : decode (zcc mX7_good) 22 = .ok (.invokevirtual 114, 3) := by decide +kernel
theorem dX7_good_25 : decode (zcc mX7_good) 25 = .ok (.ifCond .ne 6, 3) := by decide +kernel
theorem dX7_good_28 : decode (zcc mX7_good) 28 = .ok (.bipush (-3), 2) := by decide +kernel
theorem dX7_good_30 : decode (zcc mX7_good) 30 = .ok (.ireturn, 1) := by decide +kernel
theorem dX7_good_31 : decode (zcc mX7_good) 31 = .ok (.aload 4, 2) := by decide +kernel
theorem dX7_good_33 : decode (zcc mX7_good) 33 = .ok (.iload_n 2, 1) := by decide +kernel
theorem dX7_good_34 : decode (zcc mX7_good) 34 = .ok (.invokevirtual 128, 3) := by decide +kernel
theorem dX7_good_37 : decode (zcc mX7_good) 37 = .ok (.invokestatic 131, 3) := by decide +kernel
theorem dX7_good_40 : decode (zcc mX7_good) 40 = .ok (.istore 5, 2) := by decide +kernel
theorem dX7_good_42 : decode (zcc mX7_good) 42 = .ok (.aload 4, 2) := by decide +kernel
theorem dX7_good_44 : decode (zcc mX7_good) 44 = .ok (.iload_n 2, 1) := by decide +kernel
theorem dX7_good_45 : decode (zcc mX7_good) 45 = .ok (.iload_n 3, 1) := by decide +kernel
theorem dX7_good_46 : decode (zcc mX7_good) 46 = .ok (.invokevirtual 135, 3) := by decide +kernel
theorem dX7_good_49 : decode (zcc mX7_good) 49 = .ok (.aload_n 0, 1) := by decide +kernel
theorem dX7_good_50 : decode (zcc mX7_good) 50 = .ok (.iload_n 1, 1) := by decide +kernel
theorem dX7_good_51 : decode (zcc mX7_good) 51 = .ok (.invokevirtual 125, 3) := by decide +kernel
theorem dX7_good_54 : decode (zcc mX7_good) 54 = .ok (.iload 5, 2) := by decide +kernel
theorem dX7_good_56 : decode (zcc mX7_good) 56 = .ok (.ireturn, 1) := by decide +kernel
theorem dX7_formula_0 : decode (zcc mX7_formula) 0 = .ok (.iload_n 1, 1) := by decide +kernel
theorem dX7_formula_1 : decode (zcc mX7_formula) 1 = .ok (.ifCond .lt 9, 3) := by decide +kernel
theorem dX7_formula_4 : decode (zcc mX7_formula) 4 = .ok (.iload_n 1, 1) := by decide +kernel
theorem dX7_formula_5 : decode (zcc mX7_formula) 5 = .ok (.bipush 6, 2) := by decide +kernel
theorem dX7_formula_7 : decode (zcc mX7_formula) 7 = .ok (.if_icmp .le 6, 3) := by decide +kernel
theorem dX7_formula_10 : decode (zcc mX7_formula) 10 = .ok (.bipush (-3), 2) := by decide +kernel
theorem dX7_formula_12 : decode (zcc mX7_formula) 12 = .ok (.ireturn, 1) := by decide +kernel
theorem dX7_formula_13 : decode (zcc mX7_formula) 13 = .ok (.aload_n 0, 1) := by decide +kernel
theorem dX7_formula_14 : decode (zcc mX7_formula) 14 = .ok (.iload_n 2, 1) := by decide +kernel
theorem dX7_formula_15 : decode (zcc mX7_formula) 15 = .ok (.invokevirtual 90, 3) := by decide +kernel
theorem dX7_formula_18 : decode (zcc mX7_formula) 18 = .ok (.ifCond .eq 16, 3) := by decide +kernel
theorem dX7_formula_21 : decode (zcc mX7_formula) 21 = .ok (.aload_n 0, 1) := by decide +kernel
theorem dX7_formula_22 : decode (zcc mX7_formula) 22 = .ok (.iload_n 1, 1) := by decide +kernel
theorem dX7_formula_23 : decode (zcc mX7_formula) 23 = .ok (.iload_n 3, 1) := by decide +kernel
theorem dX7_formula_24 : decode (zcc mX7_formula) 24 = .ok (.iload 4, 2) := by decide +kernel
theorem dX7_formula_26 : decode (zcc mX7_formula) 26 = .ok (.iload 5, 2) := by decide +kernel
theorem dX7_formula_28 : decode (zcc mX7_formula) 28 = .ok (.invokevirtual 139, 3) := by decide +kernel
theorem dX7_formula_31 : decode (zcc mX7_formula) 31 = .ok (.ifCond .ne 6, 3) := by decide +kernel
theorem dX7_formula_34 : decode (zcc mX7_formula) 34 = .ok (.bipush (-2), 2) := by decide +kernel
theorem dX7_formula_36 : decode (zcc mX7_formula) 36 = .ok (.ireturn, 1) := by decide +kernel
theorem dX7_formula_37 : decode (zcc mX7_formula) 37 = .ok (.iload_n 1, 1) := by decide +kernel
theorem dX7_formula_38 : decode (zcc mX7_formula) 38 = .ok (.iload_n 3, 1) := by decide +kernel
theorem dX7_formula_39 : decode (zcc mX7_formula) 39 = .ok (.iload 4, 2) := by decide +kernel
theorem dX7_formula_41 : decode (zcc mX7_formula) 41 = .ok (.invokestatic 143, 3) := by decide +kernel
theorem dX7_formula_44 : decode (zcc mX7_formula) 44 = .ok (.ifCond .ne 6, 3) := by decide +kernel
theorem dX7_formula_47 : decode (zcc mX7_formula) 47 = .ok (.bipush (-3), 2) := by decide +kernel
theorem dX7_formula_49 : decode (zcc mX7_formula) 49 = .ok (.ireturn, 1) := by decide +kernel
theorem dX7_formula_50 : decode (zcc mX7_formula) 50 = .ok (.aload_n 0, 1) := by decide +kernel
theorem dX7_formula_51 : decode (zcc mX7_formula) 51 = .ok (.getfield 58, 3) := by decide +kernel
theorem dX7_formula_54 : decode (zcc mX7_formula) 54 = .ok (.bipush 10, 2) := by decide +kernel
theorem dX7_formula_56 : decode (zcc mX7_formula) 56 = .ok (.if_icmp .lt 6, 3) := by decide +kernel
theorem dX7_formula_59 : decode (zcc mX7_formula) 59 = .ok (.bipush (-5), 2) := by decide +kernel
theorem dX7_formula_61 : decode (zcc mX7_formula) 61 = .ok (.ireturn, 1) := by decide +kernel
theorem dX7_formula_62 : decode (zcc mX7_formula) 62 = .ok (.aload_n 0, 1) := by decide +kernel
theorem dX7_formula_63 : decode (zcc mX7_formula) 63 = .ok (.getfield 42, 3) := by decide +kernel
theorem dX7_formula_66 : decode (zcc mX7_formula) 66 = .ok (.aload_n 0, 1) := by decide +kernel
theorem dX7_formula_67 : decode (zcc mX7_formula) 67 = .ok (.getfield 58, 3) := by decide +kernel
theorem dX7_formula_70 : decode (zcc mX7_formula) 70 = .ok (.aaload, 1) := by decide +kernel
theorem dX7_formula_71 : decode (zcc mX7_formula) 71 = .ok (.iload_n 1, 1) := by decide +kernel
theorem dX7_formula_72 : decode (zcc mX7_formula) 72 = .ok (.iload_n 2, 1) := by decide +kernel
theorem dX7_formula_73 : decode (zcc mX7_formula) 73 = .ok (.iload_n 3, 1) := by decide +kernel
theorem dX7_formula_74 : decode (zcc mX7_formula) 74 = .ok (.iload 4, 2) := by decide +kernel
theorem dX7_formula_76 : decode (zcc mX7_formula) 76 = .ok (.iload 5, 2) := by decide +kernel
theorem dX7_formula_78 : decode (zcc mX7_formula) 78 = .ok (.invokevirtual 147, 3) := by decide +kernel
theorem dX7_formula_81 : decode (zcc mX7_formula) 81 = .ok (.aload_n 0, 1) := by decide +kernel
theorem dX7_formula_82 : decode (zcc mX7_formula) 82 = .ok (.dup, 1) := by decide +kernel
theorem dX7_formula_83 : decode (zcc mX7_formula) 83 = .ok (.getfield 58, 3) := by decide +kernel
theorem dX7_formula_86 : decode (zcc mX7_formula) 86 = .ok (.iconst 1, 1) := by decide +kernel
theorem dX7_formula_87 : decode (zcc mX7_formula) 87 = .ok (.iadd, 1) := by decide +kernel
theorem dX7_formula_88 : decode (zcc mX7_formula) 88 = .ok (.putfield 58, 3) := by decide +kernel
theorem dX7_formula_91 : decode (zcc mX7_formula) 91 = .ok (.aload_n 0, 1) := by decide +kernel
theorem dX7_formula_92 : decode (zcc mX7_formula) 92 = .ok (.invokevirtual 75, 3) := by decide +kernel
theorem dX7_formula_95 : decode (zcc mX7_formula) 95 = .ok (.aload_n 0, 1) := by decide +kernel
theorem dX7_formula_96 : decode (zcc mX7_formula) 96 = .ok (.getfield 58, 3) := by decide +kernel
theorem dX7_formula_99 : decode (zcc mX7_formula) 99 = .ok (.iconst 1, 1) := by decide +kernel
theorem dX7_formula_100 : decode (zcc mX7_formula) 100 = .ok (.isub, 1) := by decide +kernel
theorem dX7_formula_101 : decode (zcc mX7_formula) 101 = .ok (.ireturn, 1) := by decide +kernel
theorem dX7_deny_0 : decode (zcc mX7_deny) 0 = .ok (.aload_n 0, 1) := by decide +kernel
theorem dX7_deny_1 : decode (zcc mX7_deny) 1 = .ok (.iload_n 1, 1) := by decide +kernel
theorem dX7_deny_2 : decode (zcc mX7_deny) 2 = .ok (.invokevirtual 150, 3) := by decide +kernel
theorem dX7_deny_5 : decode (zcc mX7_deny) 5 = .ok (.ifCond .ne 6, 3) := by decide +kernel
theorem dX7_deny_8 : decode (zcc mX7_deny) 8 = .ok (.bipush (-2), 2) := by decide +kernel
theorem dX7_deny_10 : decode (zcc mX7_deny) 10 = .ok (.ireturn, 1) := by decide +kernel
theorem dX7_deny_11 : decode (zcc mX7_deny) 11 = .ok (.aload_n 0, 1) := by decide +kernel
theorem dX7_deny_12 : decode (zcc mX7_deny) 12 = .ok (.getfield 42, 3) := by decide +kernel
theorem dX7_deny_15 : decode (zcc mX7_deny) 15 = .ok (.iload_n 1, 1) := by decide +kernel
theorem dX7_deny_16 : decode (zcc mX7_deny) 16 = .ok (.aaload, 1) := by decide +kernel
theorem dX7_deny_17 : decode (zcc mX7_deny) 17 = .ok (.getfield 153, 3) := by decide +kernel
theorem dX7_deny_20 : decode (zcc mX7_deny) 20 = .ok (.invokestatic 131, 3) := by decide +kernel
theorem dX7_deny_23 : decode (zcc mX7_deny) 23 = .ok (.istore_n 3, 1) := by decide +kernel
theorem dX7_deny_24 : decode (zcc mX7_deny) 24 = .ok (.aload_n 0, 1) := by decide +kernel
theorem dX7_deny_25 : decode (zcc mX7_deny) 25 = .ok (.getfield 42, 3) := by decide +kernel
theorem dX7_deny_28 : decode (zcc mX7_deny) 28 = .ok (.iload_n 1, 1) := by decide +kernel
theorem dX7_deny_29 : decode (zcc mX7_deny) 29 = .ok (.aaload, 1) := by decide +kernel
theorem dX7_deny_30 : decode (zcc mX7_deny) 30 = .ok (.iload_n 2, 1) := by decide +kernel
theorem dX7_deny_31 : decode (zcc mX7_deny) 31 = .ok (.putfield 153, 3) := by decide +kernel
theorem dX7_deny_34 : decode (zcc mX7_deny) 34 = .ok (.aload_n 0, 1) := by decide +kernel
theorem dX7_deny_35 : decode (zcc mX7_deny) 35 = .ok (.invokevirtual 75, 3) := by decide +kernel
theorem dX7_deny_38 : decode (zcc mX7_deny) 38 = .ok (.iload_n 3, 1) := by decide +kernel
theorem dX7_deny_39 : decode (zcc mX7_deny) 39 = .ok (.ireturn, 1) := by decide +kernel
theorem dX7_leave_0 : decode (zcc mX7_leave) 0 = .ok (.aload_n 0, 1) := by decide +kernel
theorem dX7_leave_1 : decode (zcc mX7_leave) 1 = .ok (.iload_n 1, 1) := by decide +kernel
theorem dX7_leave_2 : decode (zcc mX7_leave) 2 = .ok (.invokevirtual 150, 3) := by decide +kernel
theorem dX7_leave_5 : decode (zcc mX7_leave) 5 = .ok (.ifCond .ne 6, 3) := by decide +kernel
theorem dX7_leave_8 : decode (zcc mX7_leave) 8 = .ok (.bipush (-2), 2) := by decide +kernel
theorem dX7_leave_10 : decode (zcc mX7_leave) 10 = .ok (.ireturn, 1) := by decide +kernel
theorem dX7_leave_11 : decode (zcc mX7_leave) 11 = .ok (.aload_n 0, 1) := by decide +kernel
theorem dX7_leave_12 : decode (zcc mX7_leave) 12 = .ok (.getfield 42, 3) := by decide +kernel
theorem dX7_leave_15 : decode (zcc mX7_leave) 15 = .ok (.iload_n 1, 1) := by decide +kernel
theorem dX7_leave_16 : decode (zcc mX7_leave) 16 = .ok (.aaload, 1) := by decide +kernel
theorem dX7_leave_17 : decode (zcc mX7_leave) 17 = .ok (.getfield 157, 3) := by decide +kernel
theorem dX7_leave_20 : decode (zcc mX7_leave) 20 = .ok (.invokestatic 131, 3) := by decide +kernel
theorem dX7_leave_23 : decode (zcc mX7_leave) 23 = .ok (.istore_n 3, 1) := by decide +kernel
theorem dX7_leave_24 : decode (zcc mX7_leave) 24 = .ok (.aload_n 0, 1) := by decide +kernel
theorem dX7_leave_25 : decode (zcc mX7_leave) 25 = .ok (.getfield 42, 3) := by decide +kernel
theorem dX7_leave_28 : decode (zcc mX7_leave) 28 = .ok (.iload_n 1, 1) := by decide +kernel
theorem dX7_leave_29 : decode (zcc mX7_leave) 29 = .ok (.aaload, 1) := by decide +kernel
theorem dX7_leave_30 : decode (zcc mX7_leave) 30 = .ok (.iload_n 2, 1) := by decide +kernel
theorem dX7_leave_31 : decode (zcc mX7_leave) 31 = .ok (.putfield 157, 3) := by decide +kernel
theorem dX7_leave_34 : decode (zcc mX7_leave) 34 = .ok (.aload_n 0, 1) := by decide +kernel
theorem dX7_leave_35 : decode (zcc mX7_leave) 35 = .ok (.invokevirtual 75, 3) := by decide +kernel
theorem dX7_leave_38 : decode (zcc mX7_leave) 38 = .ok (.iload_n 3, 1) := by decide +kernel
theorem dX7_leave_39 : decode (zcc mX7_leave) 39 = .ok (.ireturn, 1) := by decide +kernel
theorem dX7_solve_0 : decode (zcc mX7_solve) 0 = .ok (.aload_n 0, 1) := by decide +kernel
theorem dX7_solve_1 : decode (zcc mX7_solve) 1 = .ok (.iconst 0, 1) := by decide +kernel
