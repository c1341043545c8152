theorem dX8_isSum_18 : decode (zcc mX8_isSum) 18 = .ok (.iload_n 3, 1) := by decide +kernel
theorem dX8_isSum_19 : decode (zcc mX8_isSum) 19 = .ok (.imul, 1) := by decide +kernel
theorem dX8_isSum_20 : decode (zcc mX8_isSum) 20 = .ok (.aload_n 0, 1) := by decide +kernel
theorem dX8_isSum_21 : decode (zcc mX8_isSum) 21 = .ok (.getfield 72, 3) := by decide +kernel
theorem dX8_isSum_24 : decode (zcc mX8_isSum) 24 = .ok (.iload 4, 2) := by decide +kernel
theorem dX8_isSum_26 : decode (zcc mX8_isSum) 26 = .ok (.iaload, 1) := by decide +kernel
theorem dX8_isSum_27 : decode (zcc mX8_isSum) 27 = .ok (.iadd, 1) := by decide +kernel
theorem dX8_isSum_28 : decode (zcc mX8_isSum) 28 = .ok (.iconst 1, 1) := by decide +kernel
theorem dX8_isSum_29 : decode (zcc mX8_isSum) 29 = .ok (.iadd, 1) := by decide +kernel
theorem dX8_isSum_30 : decode (zcc mX8_isSum) 30 = .ok (.istore_n 3, 1) := by decide +kernel
theorem dX8_isSum_31 : decode (zcc mX8_isSum) 31 = .ok (.iinc 4 1, 3) := by decide +kernel
theorem dX8_isSum_34 : decode (zcc mX8_isSum) 34 = .ok (.goto (-29), 3) := by decide +kernel
theorem dX8_isSum_37 : decode (zcc mX8_isSum) 37 = .ok (.iload_n 3, 1) := by decide +kernel
theorem dX8_isSum_38 : decode (zcc mX8_isSum) 38 = .ok (.i2l, 1) := by decide +kernel
theorem dX8_isSum_39 : decode (zcc mX8_isSum) 39 = .ok (.iload_n 2, 1) := by decide +kernel
theorem dX8_isSum_40 : decode (zcc mX8_isSum) 40 = .ok (.i2l, 1) := by decide +kernel
theorem dX8_isSum_41 : decode (zcc mX8_isSum) 41 = .ok (.lsub, 1) := by decide +kernel
theorem dX8_isSum_42 : decode (zcc mX8_isSum) 42 = .ok (.lstore 4, 2) := by decide +kernel
theorem dX8_isSum_44 : decode (zcc mX8_isSum) 44 = .ok (.lload 4, 2) := by decide +kernel
theorem dX8_isSum_46 : decode (zcc mX8_isSum) 46 = .ok (.iload_n 1, 1) := by decide +kernel
theorem dX8_isSum_47 : decode (zcc mX8_isSum) 47 = .ok (.i2l, 1) := by decide +kernel
theorem dX8_isSum_48 : decode (zcc mX8_isSum) 48 = .ok (.lrem, 1) := by decide +kernel
theorem dX8_isSum_49 : decode (zcc mX8_isSum) 49 = .ok (.lconst 0, 1) := by decide +kernel
theorem dX8_isSum_50 : decode (zcc mX8_isSum) 50 = .ok (.lcmp, 1) := by decide +kernel
theorem dX8_isSum_51 : decode (zcc mX8_isSum) 51 = .ok (.ifCond .ne 7, 3) := by decide +kernel
theorem dX8_isSum_54 : decode (zcc mX8_isSum) 54 = .ok (.iconst 1, 1) := by decide +kernel
theorem dX8_isSum_55 : decode (zcc mX8_isSum) 55 = .ok (.goto 4, 3) := by decide +kernel
theorem dX8_isSum_58 : decode (zcc mX8_isSum) 58 = .ok (.iconst 0, 1) := by decide +kernel
theorem dX8_isSum_59 : decode (zcc mX8_isSum) 59 = .ok (.ireturn, 1) := by decide +kernel
theorem dX8_is_0 : decode (zcc mX8_is) 0 = .ok (.aload_n 0, 1) := by decide +kernel
theorem dX8_is_1 : decode (zcc mX8_is) 1 = .ok (.iconst 0, 1) := by decide +kernel
theorem dX8_is_2 : decode (zcc mX8_is) 2 = .ok (.aload_n 0, 1) := by decide +kernel
theorem dX8_is_3 : decode (zcc mX8_is) 3 = .ok (.getfield 39, 3) := by decide +kernel
theorem dX8_is_6 : decode (zcc mX8_is) 6 = .ok (.iload_n 1, 1) := by decide +kernel
theorem dX8_is_7 : decode (zcc mX8_is) 7 = .ok (.iaload, 1) := by decide +kernel
theorem dX8_is_8 : decode (zcc mX8_is) 8 = .ok (.invokevirtual 128, 3) := by decide +kernel
theorem dX8_is_11 : decode (zcc mX8_is) 11 = .ok (.aload_n 0, 1) := by decide +kernel
theorem dX8_is_12 : decode (zcc mX8_is) 12 = .ok (.getfield 36, 3) := by decide +kernel
theorem dX8_is_15 : decode (zcc mX8_is) 15 = .ok (.iload_n 1, 1) := by decide +kernel
theorem dX8_is_16 : decode (zcc mX8_is) 16 = .ok (.iaload, 1) := by decide +kernel
theorem dX8_is_17 : decode (zcc mX8_is) 17 = .ok (.iconst 1, 1) := by decide +kernel
theorem dX8_is_18 : decode (zcc mX8_is) 18 = .ok (.if_icmp .ne 16, 3) := by decide +kernel
theorem dX8_is_21 : decode (zcc mX8_is) 21 = .ok (.aload_n 0, 1) := by decide +kernel
theorem dX8_is_22 : decode (zcc mX8_is) 22 = .ok (.getfield 42, 3) := by decide +kernel
theorem dX8_is_25 : decode (zcc mX8_is) 25 = .ok (.iload_n 1, 1) := by decide +kernel
theorem dX8_is_26 : decode (zcc mX8_is) 26 = .ok (.iaload, 1) := by decide +kernel
theorem dX8_is_27 : decode (zcc mX8_is) 27 = .ok (.iconst (-1), 1) := by decide +kernel
theorem dX8_is_28 : decode (zcc mX8_is) 28 = .ok (.if_icmp .eq 37, 3) := by decide +kernel
theorem dX8_is_31 : decode (zcc mX8_is) 31 = .ok (.goto 23, 3) := by decide +kernel
theorem dX8_is_34 : decode (zcc mX8_is) 34 = .ok (.aload_n 0, 1) := by decide +kernel
theorem dX8_is_35 : decode (zcc mX8_is) 35 = .ok (.getfield 36, 3) := by decide +kernel
theorem dX8_is_38 : decode (zcc mX8_is) 38 = .ok (.iload_n 1, 1) := by decide +kernel
theorem dX8_is_39 : decode (zcc mX8_is) 39 = .ok (.iaload, 1) := by decide +kernel
theorem dX8_is_40 : decode (zcc mX8_is) 40 = .ok (.iconst 2, 1) := by decide +kernel
theorem dX8_is_41 : decode (zcc mX8_is) 41 = .ok (.if_icmp .eq 24, 3) := by decide +kernel
theorem dX8_is_44 : decode (zcc mX8_is) 44 = .ok (.aload_n 0, 1) := by decide +kernel
theorem dX8_is_45 : decode (zcc mX8_is) 45 = .ok (.getfield 36, 3) := by decide +kernel
theorem dX8_is_48 : decode (zcc mX8_is) 48 = .ok (.iload_n 1, 1) := by decide +kernel
theorem dX8_is_49 : decode (zcc mX8_is) 49 = .ok (.iaload, 1) := by decide +kernel
theorem dX8_is_50 : decode (zcc mX8_is) 50 = .ok (.iconst 5, 1) := by decide +kernel
theorem dX8_is_51 : decode (zcc mX8_is) 51 = .ok (.if_icmp .eq 14, 3) := by decide +kernel
theorem dX8_is_54 : decode (zcc mX8_is) 54 = .ok (.aload_n 0, 1) := by decide +kernel
theorem dX8_is_55 : decode (zcc mX8_is) 55 = .ok (.iconst 1, 1) := by decide +kernel
theorem dX8_is_56 : decode (zcc mX8_is) 56 = .ok (.aload_n 0, 1) := by decide +kernel
theorem dX8_is_57 : decode (zcc mX8_is) 57 = .ok (.getfield 42, 3) := by decide +kernel
theorem dX8_is_60 : decode (zcc mX8_is) 60 = .ok (.iload_n 1, 1) := by decide +kernel
theorem dX8_is_61 : decode (zcc mX8_is) 61 = .ok (.iaload, 1) := by decide +kernel
theorem dX8_is_62 : decode (zcc mX8_is) 62 = .ok (.invokevirtual 128, 3) := by decide +kernel
theorem dX8_is_65 : decode (zcc mX8_is) 65 = .ok (.aload_n 0, 1) := by decide +kernel
theorem dX8_is_66 : decode (zcc mX8_is) 66 = .ok (.getfield 36, 3) := by decide +kernel
theorem dX8_is_69 : decode (zcc mX8_is) 69 = .ok (.iload_n 1, 1) := by decide +kernel
theorem dX8_is_70 : decode (zcc mX8_is) 70 = .ok (.iaload, 1) := by decide +kernel
theorem dX8_is_71 : decode (zcc mX8_is) 71 = .ok (.tableswitch 134 0 5 #[37, 42, 84, 96, 101, 117], 37) := by decide +kernel
theorem dX8_is_108 : decode (zcc mX8_is) 108 = .ok (.aload_n 0, 1) := by decide +kernel
theorem dX8_is_109 : decode (zcc mX8_is) 109 = .ok (.invokevirtual 132, 3) := by decide +kernel
theorem dX8_is_112 : decode (zcc mX8_is) 112 = .ok (.ireturn, 1) := by decide +kernel
theorem dX8_is_113 : decode (zcc mX8_is) 113 = .ok (.aload_n 0, 1) := by decide +kernel
theorem dX8_is_114 : decode (zcc mX8_is) 114 = .ok (.getfield 75, 3) := by decide +kernel
theorem dX8_is_117 : decode (zcc mX8_is) 117 = .ok (.iconst 0, 1) := by decide +kernel
theorem dX8_is_118 : decode (zcc mX8_is) 118 = .ok (.iaload, 1) := by decide +kernel
theorem dX8_is_119 : decode (zcc mX8_is) 119 = .ok (.aload_n 0, 1) := by decide +kernel
theorem dX8_is_120 : decode (zcc mX8_is) 120 = .ok (.getfield 42, 3) := by decide +kernel
theorem dX8_is_123 : decode (zcc mX8_is) 123 = .ok (.iload_n 1, 1) := by decide +kernel
theorem dX8_is_124 : decode (zcc mX8_is) 124 = .ok (.iaload, 1) := by decide +kernel
theorem dX8_is_125 : decode (zcc mX8_is) 125 = .ok (.iconst (-1), 1) := by decide +kernel
theorem dX8_is_126 : decode (zcc mX8_is) 126 = .ok (.if_icmp .ne 7, 3) := by decide +kernel
theorem dX8_is_129 : decode (zcc mX8_is) 129 = .ok (.iconst 0, 1) := by decide +kernel
theorem dX8_is_130 : decode (zcc mX8_is) 130 = .ok (.goto 9, 3) := by decide +kernel
theorem dX8_is_133 : decode (zcc mX8_is) 133 = .ok (.aload_n 0, 1) := by decide +kernel
theorem dX8_is_134 : decode (zcc mX8_is) 134 = .ok (.getfield 75, 3) := by decide +kernel
theorem dX8_is_137 : decode (zcc mX8_is) 137 = .ok (.iconst 1, 1) := by decide +kernel
theorem dX8_is_138 : decode (zcc mX8_is) 138 = .ok (.iaload, 1) := by decide +kernel
theorem dX8_is_139 : decode (zcc mX8_is) 139 = .ok (.aload_n 0, 1) := by decide +kernel
theorem dX8_is_140 : decode (zcc mX8_is) 140 = .ok (.getfield 45, 3) := by decide +kernel
theorem dX8_is_143 : decode (zcc mX8_is) 143 = .ok (.iload_n 1, 1) := by decide +kernel
theorem dX8_is_144 : decode (zcc mX8_is) 144 = .ok (.iaload, 1) := by decide +kernel
theorem dX8_is_145 : decode (zcc mX8_is) 145 = .ok (.iadd, 1) := by decide +kernel
theorem dX8_is_146 : decode (zcc mX8_is) 146 = .ok (.if_icmp .lt 7, 3) := by decide +kernel
theorem dX8_is_149 : decode (zcc mX8_is) 149 = .ok (.iconst 1, 1) := by decide +kernel
theorem dX8_is_150 : decode (zcc mX8_is) 150 = .ok (.goto 4, 3) := by decide +kernel
theorem dX8_is_153 : decode (zcc mX8_is) 153 = .ok (.iconst 0, 1) := by decide +kernel
theorem dX8_is_154 : decode (zcc mX8_is) 154 = .ok (.ireturn, 1) := by decide +kernel
theorem dX8_is_155 : decode (zcc mX8_is) 155 = .ok (.aload_n 0, 1) := by decide +kernel
theorem dX8_is_156 : decode (zcc mX8_is) 156 = .ok (.aload_n 0, 1) := by decide +kernel
theorem dX8_is_157 : decode (zcc mX8_is) 157 = .ok (.getfield 42, 3) := by decide +kernel
theorem dX8_is_160 : decode (zcc mX8_is) 160 = .ok (.iload_n 1, 1) := by decide +kernel
theorem dX8_is_161 : decode (zcc mX8_is) 161 = .ok (.iaload, 1) := by decide +kernel
theorem dX8_is_162 : decode (zcc mX8_is) 162 = .ok (.iconst 0, 1) := by decide +kernel
theorem dX8_is_163 : decode (zcc mX8_is) 163 = .ok (.invokevirtual 136, 3) := by decide +kernel
theorem dX8_is_166 : decode (zcc mX8_is) 166 = .ok (.ireturn, 1) := by decide +kernel
theorem dX8_is_167 : decode (zcc mX8_is) 167 = .ok (.aload_n 0, 1) := by decide +kernel
theorem dX8_is_168 : decode (zcc mX8_is) 168 = .ok (.invokevirtual 140, 3) := by decide +kernel
theorem dX8_is_171 : decode (zcc mX8_is) 171 = .ok (.ireturn, 1) := by decide +kernel
theorem dX8_is_172 : decode (zcc mX8_is) 172 = .ok (.aload_n 0, 1) := by decide +kernel
theorem dX8_is_173 : decode (zcc mX8_is) 173 = .ok (.iconst 0, 1) := by decide +kernel
theorem dX8_is_174 : decode (zcc mX8_is) 174 = .ok (.iconst 1, 1) := by decide +kernel
theorem dX8_is_175 : decode (zcc mX8_is) 175 = .ok (.invokevirtual 120, 3) := by decide +kernel
theorem dX8_is_178 : decode (zcc mX8_is) 178 = .ok (.iconst (-1), 1) := by decide +kernel
theorem dX8_is_179 : decode (zcc mX8_is) 179 = .ok (.if_icmp .eq 7, 3) := by decide +kernel
theorem dX8_is_182 : decode (zcc mX8_is) 182 = .ok (.iconst 1, 1) := by decide +kernel
theorem dX8_is_183 : decode (zcc mX8_is) 183 = .ok (.goto 4, 3) := by decide +kernel
theorem dX8_is_186 : decode (zcc mX8_is) 186 = .ok (.iconst 0, 1) := by decide +kernel
theorem dX8_is_187 : decode (zcc mX8_is) 187 = .ok (.ireturn, 1) := by decide +kernel
theorem dX8_is_188 : decode (zcc mX8_is) 188 = .ok (.aload_n 0, 1) := by decide +kernel
theorem dX8_is_189 : decode (zcc mX8_is) 189 = .ok (.aload_n 0, 1) := by decide +kernel
theorem dX8_is_190 : decode (zcc mX8_is) 190 = .ok (.getfield 42, 3) := by decide +kernel
theorem dX8_is_193 : decode (zcc mX8_is) 193 = .ok (.iload_n 1, 1) := by decide +kernel
theorem dX8_is_194 : decode (zcc mX8_is) 194 = .ok (.iaload, 1) := by decide +kernel
theorem dX8_is_195 : decode (zcc mX8_is) 195 = .ok (.aload_n 0, 1) := by decide +kernel
theorem dX8_is_196 : decode (zcc mX8_is) 196 = .ok (.getfield 45, 3) := by decide +kernel
theorem dX8_is_199 : decode (zcc mX8_is) 199 = .ok (.iload_n 1, 1) := by decide +kernel
theorem dX8_is_200 : decode (zcc mX8_is) 200 = .ok (.iaload, 1) := by decide +kernel
theorem dX8_is_201 : decode (zcc mX8_is) 201 = .ok (.invokevirtual 143, 3) := by decide +kernel
theorem dX8_is_204 : decode (zcc mX8_is) 204 = .ok (.ireturn, 1) := by decide +kernel
theorem dX8_is_205 : decode (zcc mX8_is) 205 = .ok (.aload_n 0, 1) := by decide +kernel
theorem dX8_is_206 : decode (zcc mX8_is) 206 = .ok (.iconst 2, 1) := by decide +kernel
theorem dX8_is_207 : decode (zcc mX8_is) 207 = .ok (.aload_n 0, 1) := by decide +kernel
theorem dX8_is_208 : decode (zcc mX8_is) 208 = .ok (.getfield 45, 3) := by decide +kernel
theorem dX8_is_211 : decode (zcc mX8_is) 211 = .ok (.iload_n 1, 1) := by decide +kernel
theorem dX8_is_212 : decode (zcc mX8_is) 212 = .ok (.iaload, 1) := by decide +kernel
theorem dX8_is_213 : decode (zcc mX8_is) 213 = .ok (.invokevirtual 128, 3) := by decide +kernel
theorem dX8_is_216 : decode (zcc mX8_is) 216 = .ok (.aload_n 0, 1) := by decide +kernel
theorem dX8_is_217 : decode (zcc mX8_is) 217 = .ok (.iconst 3, 1) := by decide +kernel
theorem dX8_is_218 : decode (zcc mX8_is) 218 = .ok (.aload_n 0, 1) := by decide +kernel
theorem dX8_is_219 : decode (zcc mX8_is) 219 = .ok (.getfield 48, 3) := by decide +kernel
theorem dX8_is_222 : decode (zcc mX8_is) 222 = .ok (.iload_n 1, 1) := by decide +kernel
theorem dX8_is_223 : decode (zcc mX8_is) 223 = .ok (.iaload, 1) := by decide +kernel
theorem dX8_is_224 : decode (zcc mX8_is) 224 = .ok (.invokevirtual 128, 3) := by decide +kernel
theorem dX8_is_227 : decode (zcc mX8_is) 227 = .ok (.aload_n 0, 1) := by decide +kernel
theorem dX8_is_228 : decode (zcc mX8_is) 228 = .ok (.invokevirtual 146, 3) := by decide +kernel
theorem dX8_is_231 : decode (zcc mX8_is) 231 = .ok (.ireturn, 1) := by decide +kernel
theorem dX8_first_0 : decode (zcc mX8_first) 0 = .ok (.iconst 0, 1) := by decide +kernel
theorem dX8_first_1 : decode (zcc mX8_first) 1 = .ok (.istore_n 1, 1) := by decide +kernel
theorem dX8_first_2 : decode (zcc mX8_first) 2 = .ok (.iload_n 1, 1) := by decide +kernel
theorem dX8_first_3 : decode (zcc mX8_first) 3 = .ok (.iconst 4, 1) := by decide +kernel
theorem dX8_first_4 : decode (zcc mX8_first) 4 = .ok (.if_icmp .ge 16, 3) := by decide +kernel
theorem dX8_first_7 : decode (zcc mX8_first) 7 = .ok (.aload_n 0, 1) := by decide +kernel
theorem dX8_first_8 : decode (zcc mX8_first) 8 = .ok (.getfield 66, 3) := by decide +kernel
theorem dX8_first_11 : decode (zcc mX8_first) 11 = .ok (.iload_n 1, 1) := by decide +kernel
theorem dX8_first_12 : decode (zcc mX8_first) 12 = .ok (.iconst 0, 1) := by decide +kernel
theorem dX8_first_13 : decode (zcc mX8_first) 13 = .ok (.iastore, 1) := by decide +kernel
theorem dX8_first_14 : decode (zcc mX8_first) 14 = .ok (.iinc 1 1, 3) := by decide +kernel
theorem dX8_first_17 : decode (zcc mX8_first) 17 = .ok (.goto (-15), 3) := by decide +kernel
theorem dX8_first_20 : decode (zcc mX8_first) 20 = .ok (.iconst 0, 1) := by decide +kernel
theorem dX8_first_21 : decode (zcc mX8_first) 21 = .ok (.istore_n 1, 1) := by decide +kernel
theorem dX8_first_22 : decode (zcc mX8_first) 22 = .ok (.iload_n 1, 1) := by decide +kernel
theorem dX8_first_23 : decode (zcc mX8_first) 23 = .ok (.bipush 20, 2) := by decide +kernel
theorem dX8_first_25 : decode (zcc mX8_first) 25 = .ok (.if_icmp .ge 16, 3) := by decide +kernel
theorem dX8_first_28 : decode (zcc mX8_first) 28 = .ok (.aload_n 0, 1) := by decide +kernel
theorem dX8_first_29 : decode (zcc mX8_first) 29 = .ok (.getfield 69, 3) := by decide +kernel
theorem dX8_first_32 : decode (zcc mX8_first) 32 = .ok (.iload_n 1, 1) := by decide +kernel
theorem dX8_first_33 : decode (zcc mX8_first) 33 = .ok (.iconst 0, 1) := by decide +kernel
theorem dX8_first_34 : decode (zcc mX8_first) 34 = .ok (.iastore, 1) := by decide +kernel
theorem dX8_first_35 : decode (zcc mX8_first) 35 = .ok (.iinc 1 1, 3) := by decide +kernel
theorem dX8_first_38 : decode (zcc mX8_first) 38 = .ok (.goto (-16), 3) := by decide +kernel
theorem dX8_first_41 : decode (zcc mX8_first) 41 = .ok (.return_, 1) := by decide +kernel
theorem dX8_nextLetters_0 : decode (zcc mX8_nextLetters) 0 = .ok (.aload_n 0, 1) := by decide +kernel
theorem dX8_nextLetters_1 : decode (zcc mX8_nextLetters) 1 = .ok (.getfield 101, 3) := by decide +kernel
theorem dX8_nextLetters_4 : decode (zcc mX8_nextLetters) 4 = .ok (.iconst 1, 1) := by decide +kernel
theorem dX8_nextLetters_5 : decode (zcc mX8_nextLetters) 5 = .ok (.isub, 1) := by decide +kernel
theorem dX8_nextLetters_6 : decode (zcc mX8_nextLetters) 6 = .ok (.istore_n 1, 1) := by decide +kernel
theorem dX8_nextLetters_7 : decode (zcc mX8_nextLetters) 7 = .ok (.iload_n 1, 1) := by decide +kernel
theorem dX8_nextLetters_8 : decode (zcc mX8_nextLetters) 8 = .ok (.ifCond .lt 74, 3) := by decide +kernel
theorem dX8_nextLetters_11 : decode (zcc mX8_nextLetters) 11 = .ok (.aload_n 0, 1) := by decide +kernel
theorem dX8_nextLetters_12 : decode (zcc mX8_nextLetters) 12 = .ok (.getfield 66, 3) := by decide +kernel
theorem dX8_nextLetters_15 : decode (zcc mX8_nextLetters) 15 = .ok (.iload_n 1, 1) := by decide +kernel
theorem dX8_nextLetters_16 : decode (zcc mX8_nextLetters) 16 = .ok (.iaload, 1) := by decide +kernel
theorem dX8_nextLetters_17 : decode (zcc mX8_nextLetters) 17 = .ok (.iconst 1, 1) := by decide +kernel
theorem dX8_nextLetters_18 : decode (zcc mX8_nextLetters) 18 = .ok (.isub, 1) := by decide +kernel
theorem dX8_nextLetters_19 : decode (zcc mX8_nextLetters) 19 = .ok (.istore_n 2, 1) := by decide +kernel
theorem dX8_nextLetters_20 : decode (zcc mX8_nextLetters) 20 = .ok (.iload_n 2, 1) := by decide +kernel
theorem dX8_nextLetters_21 : decode (zcc mX8_nextLetters) 21 = .ok (.ifCond .lt 55, 3) := by decide +kernel
theorem dX8_nextLetters_24 : decode (zcc mX8_nextLetters) 24 = .ok (.aload_n 0, 1) := by decide +kernel
theorem dX8_nextLetters_25 : decode (zcc mX8_nextLetters) 25 = .ok (.getfield 69, 3) := by decide +kernel
theorem dX8_nextLetters_28 : decode (zcc mX8_nextLetters) 28 = .ok (.iconst 5, 1) := by decide +kernel
theorem dX8_nextLetters_29 : decode (zcc mX8_nextLetters) 29 = .ok (.iload_n 1, 1) := by decide +kernel
theorem dX8_nextLetters_30 : decode (zcc mX8_nextLetters) 30 = .ok (.imul, 1) := by decide +kernel
theorem dX8_nextLetters_31 : decode (zcc mX8_nextLetters) 31 = .ok (.iload_n 2, 1) := by decide +kernel
theorem dX8_nextLetters_32 : decode (zcc mX8_nextLetters) 32 = .ok (.iadd, 1) := by decide +kernel
theorem dX8_nextLetters_33 : decode (zcc mX8_nextLetters) 33 = .ok (.iaload, 1) := by decide +kernel
theorem dX8_nextLetters_34 : decode (zcc mX8_nextLetters) 34 = .ok (.iconst 1, 1) := by decide +kernel
theorem dX8_nextLetters_35 : decode (zcc mX8_nextLetters) 35 = .ok (.iadd, 1) := by decide +kernel
theorem dX8_nextLetters_36 : decode (zcc mX8_nextLetters) 36 = .ok (.aload_n 0, 1) := by decide +kernel
theorem dX8_nextLetters_37 : decode (zcc mX8_nextLetters) 37 = .ok (.getfield 7, 3) := by decide +kernel
theorem dX8_nextLetters_40 : decode (zcc mX8_nextLetters) 40 = .ok (.if_icmp .ge 19, 3) := by decide +kernel
theorem dX8_nextLetters_43 : decode (zcc mX8_nextLetters) 43 = .ok (.aload_n 0, 1) := by decide +kernel
theorem dX8_nextLetters_44 : decode (zcc mX8_nextLetters) 44 = .ok (.getfield 69, 3) := by decide +kernel
theorem dX8_nextLetters_47 : decode (zcc mX8_nextLetters) 47 = .ok (.iconst 5, 1) := by decide +kernel
theorem dX8_nextLetters_48 : decode (zcc mX8_nextLetters) 48 = .ok (.iload_n 1, 1) := by decide +kernel
theorem dX8_nextLetters_49 : decode (zcc mX8_nextLetters) 49 = .ok (.imul, 1) := by decide +kernel
theorem dX8_nextLetters_50 : decode (zcc mX8_nextLetters) 50 = .ok (.iload_n 2, 1) := by decide +kernel
theorem dX8_nextLetters_51 : decode (zcc mX8_nextLetters) 51 = .ok (.iadd, 1) := by decide +kernel
theorem dX8_nextLetters_52 : decode (zcc mX8_nextLetters) 52 = .ok (.dup2, 1) := by decide +kernel
theorem dX8_nextLetters_53 : decode (zcc mX8_nextLetters) 53 = .ok (.iaload, 1) := by decide +kernel
theorem dX8_nextLetters_54 : decode (zcc mX8_nextLetters) 54 = .ok (.iconst 1, 1) := by decide +kernel
theorem dX8_nextLetters_55 : decode (zcc mX8_nextLetters) 55 = .ok (.iadd, 1) := by decide +kernel
theorem dX8_nextLetters_56 : decode (zcc mX8_nextLetters) 56 = .ok (.iastore, 1) := by decide +kernel
theorem dX8_nextLetters_57 : decode (zcc mX8_nextLetters) 57 = .ok (.iconst 1, 1) := by decide +kernel
theorem dX8_nextLetters_58 : decode (zcc mX8_nextLetters) 58 = .ok (.ireturn, 1) := by decide +kernel
theorem dX8_nextLetters_59 : decode (zcc mX8_nextLetters) 59 = .ok (.aload_n 0, 1) := by decide +kernel
theorem dX8_nextLetters_60 : decode (zcc mX8_nextLetters) 60 = .ok (.getfield 69, 3) := by decide +kernel
theorem dX8_nextLetters_63 : decode (zcc mX8_nextLetters) 63 = .ok (.iconst 5, 1) := by decide +kernel
theorem dX8_nextLetters_64 : decode (zcc mX8_nextLetters) 64 = .ok (.iload_n 1, 1) := by decide +kernel
theorem dX8_nextLetters_65 : decode (zcc mX8_nextLetters) 65 = .ok (.imul, 1) := by decide +kernel
theorem dX8_nextLetters_66 : decode (zcc mX8_nextLetters) 66 = .ok (.iload_n 2, 1) := by decide +kernel
theorem dX8_nextLetters_67 : decode (zcc mX8_nextLetters) 67 = .ok (.iadd, 1) := by decide +kernel
theorem dX8_nextLetters_68 : decode (zcc mX8_nextLetters) 68 = .ok (.iconst 0, 1) := by decide +kernel
theorem dX8_nextLetters_69 : decode (zcc mX8_nextLetters) 69 = .ok (.iastore, 1) := by decide +kernel
theorem dX8_nextLetters_70 : decode (zcc mX8_nextLetters) 70 = .ok (.iinc 2 (-1), 3) := by decide +kernel
theorem dX8_nextLetters_73 : decode (zcc mX8_nextLetters) 73 = .ok (.goto (-53), 3) := by decide +kernel
theorem dX8_nextLetters_76 : decode (zcc mX8_nextLetters) 76 = .ok (.iinc 1 (-1), 3) := by decide +kernel
theorem dX8_nextLetters_79 : decode (zcc mX8_nextLetters) 79 = .ok (.goto (-72), 3) := by decide +kernel
theorem dX8_nextLetters_82 : decode (zcc mX8_nextLetters) 82 = .ok (.iconst 0, 1) := by decide +kernel
theorem dX8_nextLetters_83 : decode (zcc mX8_nextLetters) 83 = .ok (.ireturn, 1) := by decide +kernel
theorem dX8_nextLengths_0 : decode (zcc mX8_nextLengths) 0 = .ok (.aload_n 0, 1) := by decide +kernel
theorem dX8_nextLengths_1 : decode (zcc mX8_nextLengths) 1 = .ok (.getfield 101, 3) := by decide +kernel
theorem dX8_nextLengths_4 : decode (zcc mX8_nextLengths) 4 = .ok (.iconst 1, 1) := by decide +kernel
theorem dX8_nextLengths_5 : decode (zcc mX8_nextLengths) 5 = .ok (.isub, 1) := by decide +kernel
theorem dX8_nextLengths_6 : decode (zcc mX8_nextLengths) 6 = .ok (.istore_n 1, 1) := by decide +kernel
theorem dX8_nextLengths_7 : decode (zcc mX8_nextLengths) 7 = .ok (.iload_n 1, 1) := by decide +kernel
theorem dX8_nextLengths_8 : decode (zcc mX8_nextLengths) 8 = .ok (.ifCond .lt 43, 3) := by decide +kernel
theorem dX8_nextLengths_11 : decode (zcc mX8_nextLengths) 11 = .ok (.aload_n 0, 1) := by decide +kernel
theorem dX8_nextLengths_12 : decode (zcc mX8_nextLengths) 12 = .ok (.getfield 66, 3) := by decide +kernel
theorem dX8_nextLengths_15 : decode (zcc mX8_nextLengths) 15 = .ok (.iload_n 1, 1) := by decide +kernel
theorem dX8_nextLengths_16 : decode (zcc mX8_nextLengths) 16 = .ok (.iaload, 1) := by decide +kernel
theorem dX8_nextLengths_17 : decode (zcc mX8_nextLengths) 17 = .ok (.aload_n 0, 1) := by decide +kernel
theorem dX8_nextLengths_18 : decode (zcc mX8_nextLengths) 18 = .ok (.getfield 13, 3) := by decide +kernel
theorem dX8_nextLengths_21 : decode (zcc mX8_nextLengths) 21 = .ok (.iload_n 1, 1) := by decide +kernel
theorem dX8_nextLengths_22 : decode (zcc mX8_nextLengths) 22 = .ok (.iaload, 1) := by decide +kernel
theorem dX8_nextLengths_23 : decode (zcc mX8_nextLengths) 23 = .ok (.if_icmp .ge 15, 3) := by decide +kernel
theorem dX8_nextLengths_26 : decode (zcc mX8_nextLengths) 26 = .ok (.aload_n 0, 1) := by decide +kernel
theorem dX8_nextLengths_27 : decode (zcc mX8_nextLengths) 27 = .ok (.getfield 66, 3) := by decide +kernel
theorem dX8_nextLengths_30 : decode (zcc mX8_nextLengths) 30 = .ok (.iload_n 1, 1) := by decide +kernel
theorem dX8_nextLengths_31 : decode (zcc mX8_nextLengths) 31 = .ok (.dup2, 1) := by decide +kernel
theorem dX8_nextLengths_32 : decode (zcc mX8_nextLengths) 32 = .ok (.iaload, 1) := by decide +kernel
theorem dX8_nextLengths_33 : decode (zcc mX8_nextLengths) 33 = .ok (.iconst 1, 1) := by decide +kernel
theorem dX8_nextLengths_34 : decode (zcc mX8_nextLengths) 34 = .ok (.iadd, 1) := by decide +kernel
theorem dX8_nextLengths_35 : decode (zcc mX8_nextLengths) 35 = .ok (.iastore, 1) := by decide +kernel
theorem dX8_nextLengths_36 : decode (zcc mX8_nextLengths) 36 = .ok (.iconst 1, 1) := by decide +kernel
theorem dX8_nextLengths_37 : decode (zcc mX8_nextLengths) 37 = .ok (.ireturn, 1) := by decide +kernel
theorem dX8_nextLengths_38 : decode (zcc mX8_nextLengths) 38 = .ok (.aload_n 0, 1) := by decide +kernel
theorem dX8_nextLengths_39 : decode (zcc mX8_nextLengths) 39 = .ok (.getfield 66, 3) := by decide +kernel
theorem dX8_nextLengths_42 : decode (zcc mX8_nextLengths) 42 = .ok (.iload_n 1, 1) := by decide +kernel
theorem dX8_nextLengths_43 : decode (zcc mX8_nextLengths) 43 = .ok (.iconst 0, 1) := by decide +kernel
theorem dX8_nextLengths_44 : decode (zcc mX8_nextLengths) 44 = .ok (.iastore, 1) := by decide +kernel
theorem dX8_nextLengths_45 : decode (zcc mX8_nextLengths) 45 = .ok (.iinc 1 (-1), 3) := by decide +kernel
theorem dX8_nextLengths_48 : decode (zcc mX8_nextLengths) 48 = .ok (.goto (-41), 3) := by decide +kernel
theorem dX8_nextLengths_51 : decode (zcc mX8_nextLengths) 51 = .ok (.iconst 0, 1) := by decide +kernel
theorem dX8_nextLengths_52 : decode (zcc mX8_nextLengths) 52 = .ok (.ireturn, 1) := by decide +kernel
theorem dX8_next_0 : decode (zcc mX8_next) 0 = .ok (.aload_n 0, 1) := by decide +kernel
theorem dX8_next_1 : decode (zcc mX8_next) 1 = .ok (.invokevirtual 149, 3) := by decide +kernel
theorem dX8_next_4 : decode (zcc mX8_next) 4 = .ok (.ifCond .ne 10, 3) := by decide +kernel
theorem dX8_next_7 : decode (zcc mX8_next) 7 = .ok (.aload_n 0, 1) := by decide +kernel
theorem dX8_next_8 : decode (zcc mX8_next) 8 = .ok (.invokevirtual 152, 3) := by decide +kernel
theorem dX8_next_11 : decode (zcc mX8_next) 11 = .ok (.ifCond .eq 7, 3) := by decide +kernel
theorem dX8_next_14 : decode (zcc mX8_next) 14 = .ok (.iconst 1, 1) := by decide +kernel
theorem dX8_next_15 : decode (zcc mX8_next) 15 = .ok (.goto 4, 3) := by decide +kernel
theorem dX8_next_18 : decode (zcc mX8_next) 18 = .ok (.iconst 0, 1) := by decide +kernel
theorem dX8_next_19 : decode (zcc mX8_next) 19 = .ok (.ireturn, 1) := by decide +kernel
theorem dX8_isModel_0 : decode (zcc mX8_isModel) 0 = .ok (.iconst 0, 1) := by decide +kernel
theorem dX8_isModel_1 : decode (zcc mX8_isModel) 1 = .ok (.istore_n 1, 1) := by decide +kernel
theorem dX8_isModel_2 : decode (zcc mX8_isModel) 2 = .ok (.iload_n 1, 1) := by decide +kernel
theorem dX8_isModel_3 : decode (zcc mX8_isModel) 3 = .ok (.aload_n 0, 1) := by decide +kernel
theorem dX8_isModel_4 : decode (zcc mX8_isModel) 4 = .ok (.getfield 98, 3) := by decide +kernel
theorem dX8_isModel_7 : decode (zcc mX8_isModel) 7 = .ok (.if_icmp .ge 43, 3) := by decide +kernel
theorem dX8_isModel_10 : decode (zcc mX8_isModel) 10 = .ok (.aload_n 0, 1) := by decide +kernel
theorem dX8_isModel_11 : decode (zcc mX8_isModel) 11 = .ok (.getfield 54, 3) := by decide +kernel
theorem dX8_isModel_14 : decode (zcc mX8_isModel) 14 = .ok (.iload_n 1, 1) := by decide +kernel
theorem dX8_isModel_15 : decode (zcc mX8_isModel) 15 = .ok (.baload, 1) := by decide +kernel
theorem dX8_isModel_16 : decode (zcc mX8_isModel) 16 = .ok (.ifCond .ne 28, 3) := by decide +kernel
theorem dX8_isModel_19 : decode (zcc mX8_isModel) 19 = .ok (.aload_n 0, 1) := by decide +kernel
theorem dX8_isModel_20 : decode (zcc mX8_isModel) 20 = .ok (.getfield 81, 3) := by decide +kernel
theorem dX8_isModel_23 : decode (zcc mX8_isModel) 23 = .ok (.iload_n 1, 1) := by decide +kernel
theorem dX8_isModel_24 : decode (zcc mX8_isModel) 24 = .ok (.baload, 1) := by decide +kernel
theorem dX8_isModel_25 : decode (zcc mX8_isModel) 25 = .ok (.ifCond .ne 19, 3) := by decide +kernel
theorem dX8_isModel_28 : decode (zcc mX8_isModel) 28 = .ok (.aload_n 0, 1) := by decide +kernel
theorem dX8_isModel_29 : decode (zcc mX8_isModel) 29 = .ok (.iload_n 1, 1) := by decide +kernel
theorem dX8_isModel_30 : decode (zcc mX8_isModel) 30 = .ok (.invokevirtual 155, 3) := by decide +kernel
theorem dX8_isModel_33 : decode (zcc mX8_isModel) 33 = .ok (.aload_n 0, 1) := by decide +kernel
theorem dX8_isModel_34 : decode (zcc mX8_isModel) 34 = .ok (.getfield 51, 3) := by decide +kernel
theorem dX8_isModel_37 : decode (zcc mX8_isModel) 37 = .ok (.iload_n 1, 1) := by decide +kernel
theorem dX8_isModel_38 : decode (zcc mX8_isModel) 38 = .ok (.baload, 1) := by decide +kernel
theorem dX8_isModel_39 : decode (zcc mX8_isModel) 39 = .ok (.if_icmp .ne 5, 3) := by decide +kernel
theorem dX8_isModel_42 : decode (zcc mX8_isModel) 42 = .ok (.iconst 0, 1) := by decide +kernel
theorem dX8_isModel_43 : decode (zcc mX8_isModel) 43 = .ok (.ireturn, 1) := by decide +kernel
theorem dX8_isModel_44 : decode (zcc mX8_isModel) 44 = .ok (.iinc 1 1, 3) := by decide +kernel
theorem dX8_isModel_47 : decode (zcc mX8_isModel) 47 = .ok (.goto (-45), 3) := by decide +kernel
theorem dX8_isModel_50 : decode (zcc mX8_isModel) 50 = .ok (.iconst 1, 1) := by decide +kernel
theorem dX8_isModel_51 : decode (zcc mX8_isModel) 51 = .ok (.ireturn, 1) := by decide +kernel
theorem dX8_search_0 : decode (zcc mX8_search) 0 = .ok (.iconst 0, 1) := by decide +kernel
theorem dX8_search_1 : decode (zcc mX8_search) 1 = .ok (.istore_n 2, 1) := by decide +kernel
theorem dX8_search_2 : decode (zcc mX8_search) 2 = .ok (.aload_n 0, 1) := by decide +kernel
theorem dX8_search_3 : decode (zcc mX8_search) 3 = .ok (.invokevirtual 158, 3) := by decide +kernel
theorem dX8_search_6 : decode (zcc mX8_search) 6 = .ok (.iconst 1, 1) := by decide +kernel
theorem dX8_search_7 : decode (zcc mX8_search) 7 = .ok (.istore_n 3, 1) := by decide +kernel
theorem dX8_search_8 : decode (zcc mX8_search) 8 = .ok (.iload_n 3, 1) := by decide +kernel
theorem dX8_search_9 : decode (zcc mX8_search) 9 = .ok (.ifCond .eq 30, 3) := by decide +kernel
theorem dX8_search_12 : decode (zcc mX8_search) 12 = .ok (.aload_n 0, 1) := by decide +kernel
theorem dX8_search_13 : decode (zcc mX8_search) 13 = .ok (.invokevirtual 161, 3) := by decide +kernel
theorem dX8_search_16 : decode (zcc mX8_search) 16 = .ok (.ifCond .eq 15, 3) := by decide +kernel
theorem dX8_search_19 : decode (zcc mX8_search) 19 = .ok (.iload_n 2, 1) := by decide +kernel
theorem dX8_search_20 : decode (zcc mX8_search) 20 = .ok (.iload_n 1, 1) := by decide +kernel
theorem dX8_search_21 : decode (zcc mX8_search) 21 = .ok (.if_icmp .ne 7, 3) := by decide +kernel
theorem dX8_search_24 : decode (zcc mX8_search) 24 = .ok (.iload_n 2, 1) := by decide +kernel
theorem dX8_search_25 : decode (zcc mX8_search) 25 = .ok (.iconst 1, 1) := by decide +kernel
theorem dX8_search_26 : decode (zcc mX8_search) 26 = .ok (.iadd, 1) := by decide +kernel
theorem dX8_search_27 : decode (zcc mX8_search) 27 = .ok (.ireturn, 1) := by decide +kernel
theorem dX8_search_28 : decode (zcc mX8_search) 28 = .ok (.iinc 2 1, 3) := by decide +kernel
theorem dX8_search_31 : decode (zcc mX8_search) 31 = .ok (.aload_n 0, 1) := by decide +kernel
theorem dX8_search_32 : decode (zcc mX8_search) 32 = .ok (.invokevirtual 164, 3) := by decide +kernel
theorem dX8_search_35 : decode (zcc mX8_search) 35 = .ok (.istore_n 3, 1) := by decide +kernel
theorem dX8_search_36 : decode (zcc mX8_search) 36 = .ok (.goto (-28), 3) := by decide +kernel
theorem dX8_search_39 : decode (zcc mX8_search) 39 = .ok (.iload_n 2, 1) := by decide +kernel
theorem dX8_search_40 : decode (zcc mX8_search) 40 = .ok (.ireturn, 1) := by decide +kernel
theorem dX8_stayAll_0 : decode (zcc mX8_stayAll) 0 = .ok (.iconst 0, 1) := by decide +kernel
theorem dX8_stayAll_1 : decode (zcc mX8_stayAll) 1 = .ok (.istore_n 1, 1) := by decide +kernel
theorem dX8_stayAll_2 : decode (zcc mX8_stayAll) 2 = .ok (.iload_n 1, 1) := by decide +kernel
theorem dX8_stayAll_3 : decode (zcc mX8_stayAll) 3 = .ok (.bipush 10, 2) := by decide +kernel
theorem dX8_stayAll_5 : decode (zcc mX8_stayAll) 5 = .ok (.if_icmp .ge 16, 3) := by decide +kernel
theorem dX8_stayAll_8 : decode (zcc mX8_stayAll) 8 = .ok (.aload_n 0, 1) := by decide +kernel
theorem dX8_stayAll_9 : decode (zcc mX8_stayAll) 9 = .ok (.getfield 81, 3) := by decide +kernel
theorem dX8_stayAll_12 : decode (zcc mX8_stayAll) 12 = .ok (.iload_n 1, 1) := by decide +kernel
theorem dX8_stayAll_13 : decode (zcc mX8_stayAll) 13 = .ok (.iconst 0, 1) := by decide +kernel
theorem dX8_stayAll_14 : decode (zcc mX8_stayAll) 14 = .ok (.bastore, 1) := by decide +kernel
theorem dX8_stayAll_15 : decode (zcc mX8_stayAll) 15 = .ok (.iinc 1 1, 3) := by decide +kernel
theorem dX8_stayAll_18 : decode (zcc mX8_stayAll) 18 = .ok (.goto (-16), 3) := by decide +kernel
theorem dX8_stayAll_21 : decode (zcc mX8_stayAll) 21 = .ok (.return_, 1) := by decide +kernel
theorem dX8_take_0 : decode (zcc mX8_take) 0 = .ok (.aload_n 0, 1) := by decide +kernel
theorem dX8_take_1 : decode (zcc mX8_take) 1 = .ok (.invokevirtual 167, 3) := by decide +kernel
theorem dX8_take_4 : decode (zcc mX8_take) 4 = .ok (.iload_n 1, 1) := by decide +kernel
theorem dX8_take_5 : decode (zcc mX8_take) 5 = .ok (.ifCond .lt 12, 3) := by decide +kernel
theorem dX8_take_8 : decode (zcc mX8_take) 8 = .ok (.aload_n 0, 1) := by decide +kernel
theorem dX8_take_9 : decode (zcc mX8_take) 9 = .ok (.iload_n 1, 1) := by decide +kernel
theorem dX8_take_10 : decode (zcc mX8_take) 10 = .ok (.invokevirtual 170, 3) := by decide +kernel
theorem dX8_take_13 : decode (zcc mX8_take) 13 = .ok (.iload_n 1, 1) := by decide +kernel
theorem dX8_take_14 : decode (zcc mX8_take) 14 = .ok (.if_icmp .gt 5, 3) := by decide +kernel
theorem dX8_take_17 : decode (zcc mX8_take) 17 = .ok (.iconst 0, 1) := by decide +kernel
theorem dX8_take_18 : decode (zcc mX8_take) 18 = .ok (.ireturn, 1) := by decide +kernel
theorem dX8_take_19 : decode (zcc mX8_take) 19 = .ok (.aload_n 0, 1) := by decide +kernel
theorem dX8_take_20 : decode (zcc mX8_take) 20 = .ok (.iconst 1, 1) := by decide +kernel
theorem dX8_take_21 : decode (zcc mX8_take) 21 = .ok (.putfield 87, 3) := by decide +kernel
theorem dX8_take_24 : decode (zcc mX8_take) 24 = .ok (.iconst 0, 1) := by decide +kernel
theorem dX8_take_25 : decode (zcc mX8_take) 25 = .ok (.istore_n 2, 1) := by decide +kernel
theorem dX8_take_26 : decode (zcc mX8_take) 26 = .ok (.iload_n 2, 1) := by decide +kernel
theorem dX8_take_27 : decode (zcc mX8_take) 27 = .ok (.iconst 4, 1) := by decide +kernel
theorem dX8_take_28 : decode (zcc mX8_take) 28 = .ok (.if_icmp .ge 21, 3) := by decide +kernel
theorem dX8_take_31 : decode (zcc mX8_take) 31 = .ok (.aload_n 0, 1) := by decide +kernel
theorem dX8_take_32 : decode (zcc mX8_take) 32 = .ok (.getfield 57, 3) := by decide +kernel
theorem dX8_take_35 : decode (zcc mX8_take) 35 = .ok (.iload_n 2, 1) := by decide +kernel
theorem dX8_take_36 : decode (zcc mX8_take) 36 = .ok (.aload_n 0, 1) := by decide +kernel
theorem dX8_take_37 : decode (zcc mX8_take) 37 = .ok (.getfield 66, 3) := by decide +kernel
theorem dX8_take_40 : decode (zcc mX8_take) 40 = .ok (.iload_n 2, 1) := by decide +kernel
theorem dX8_take_41 : decode (zcc mX8_take) 41 = .ok (.iaload, 1) := by decide +kernel
theorem dX8_take_42 : decode (zcc mX8_take) 42 = .ok (.iastore, 1) := by decide +kernel
theorem dX8_take_43 : decode (zcc mX8_take) 43 = .ok (.iinc 2 1, 3) := by decide +kernel
theorem dX8_take_46 : decode (zcc mX8_take) 46 = .ok (.goto (-20), 3) := by decide +kernel
theorem dX8_take_49 : decode (zcc mX8_take) 49 = .ok (.iconst 0, 1) := by decide +kernel
theorem dX8_take_50 : decode (zcc mX8_take) 50 = .ok (.istore_n 2, 1) := by decide +kernel
theorem dX8_take_51 : decode (zcc mX8_take) 51 = .ok (.iload_n 2, 1) := by decide +kernel
theorem dX8_take_52 : decode (zcc mX8_take) 52 = .ok (.bipush 20, 2) := by decide +kernel
theorem dX8_take_54 : decode (zcc mX8_take) 54 = .ok (.if_icmp .ge 21, 3) := by decide +kernel
theorem dX8_take_57 : decode (zcc mX8_take) 57 = .ok (.aload_n 0, 1) := by decide +kernel
theorem dX8_take_58 : decode (zcc mX8_take) 58 = .ok (.getfield 60, 3) := by decide +kernel
theorem dX8_take_61 : decode (zcc mX8_take) 61 = .ok (.iload_n 2, 1) := by decide +kernel
theorem dX8_take_62 : decode (zcc mX8_take) 62 = .ok (.aload_n 0, 1) := by decide +kernel
theorem dX8_take_63 : decode (zcc mX8_take) 63 = .ok (.getfield 69, 3) := by decide +kernel
theorem dX8_take_66 : decode (zcc mX8_take) 66 = .ok (.iload_n 2, 1) := by decide +kernel
theorem dX8_take_67 : decode (zcc mX8_take) 67 = .ok (.iaload, 1) := by decide +kernel
theorem dX8_take_68 : decode (zcc mX8_take) 68 = .ok (.iastore, 1) := by decide +kernel
theorem dX8_take_69 : decode (zcc mX8_take) 69 = .ok (.iinc 2 1, 3) := by decide +kernel
theorem dX8_take_72 : decode (zcc mX8_take) 72 = .ok (.goto (-21), 3) := by decide +kernel
theorem dX8_take_75 : decode (zcc mX8_take) 75 = .ok (.iconst 1, 1) := by decide +kernel
theorem dX8_take_76 : decode (zcc mX8_take) 76 = .ok (.ireturn, 1) := by decide +kernel
theorem dX8_solve_0 : decode (zcc mX8_solve) 0 = .ok (.aload_n 0, 1) := by decide +kernel
theorem dX8_solve_1 : decode (zcc mX8_solve) 1 = .ok (.iconst 0, 1) := by decide +kernel
theorem dX8_solve_2 : decode (zcc mX8_solve) 2 = .ok (.invokevirtual 174, 3) := by decide +kernel
theorem dX8_solve_5 : decode (zcc mX8_solve) 5 = .ok (.ifCond .eq 7, 3) := by decide +kernel
theorem dX8_solve_8 : decode (zcc mX8_solve) 8 = .ok (.iconst 1, 1) := by decide +kernel
theorem dX8_solve_9 : decode (zcc mX8_solve) 9 = .ok (.goto 4, 3) := by decide +kernel
theorem dX8_solve_12 : decode (zcc mX8_solve) 12 = .ok (.iconst 0, 1) := by decide +kernel
theorem dX8_solve_13 : decode (zcc mX8_solve) 13 = .ok (.ireturn, 1) := by decide +kernel
theorem dX8_model_0 : decode (zcc mX8_model) 0 = .ok (.aload_n 0, 1) := by decide +kernel
theorem dX8_model_1 : decode (zcc mX8_model) 1 = .ok (.iload_n 1, 1) := by decide +kernel
theorem dX8_model_2 : decode (zcc mX8_model) 2 = .ok (.invokevirtual 174, 3) := by decide +kernel
theorem dX8_model_5 : decode (zcc mX8_model) 5 = .ok (.ifCond .eq 7, 3) := by decide +kernel
theorem dX8_model_8 : decode (zcc mX8_model) 8 = .ok (.iconst 1, 1) := by decide +kernel
theorem dX8_model_9 : decode (zcc mX8_model) 9 = .ok (.goto 4, 3) := by decide +kernel
theorem dX8_model_12 : decode (zcc mX8_model) 12 = .ok (.iconst 0, 1) := by decide +kernel
theorem dX8_model_13 : decode (zcc mX8_model) 13 = .ok (.ireturn, 1) := by decide +kernel
theorem dX8_models_0 : decode (zcc mX8_models) 0 = .ok (.aload_n 0, 1) := by decide +kernel
theorem dX8_models_1 : decode (zcc mX8_models) 1 = .ok (.invokevirtual 167, 3) := by decide +kernel
theorem dX8_models_4 : decode (zcc mX8_models) 4 = .ok (.aload_n 0, 1) := by decide +kernel
theorem dX8_models_5 : decode (zcc mX8_models) 5 = .ok (.iconst (-1), 1) := by decide +kernel
theorem dX8_models_6 : decode (zcc mX8_models) 6 = .ok (.invokevirtual 170, 3) := by decide +kernel
theorem dX8_models_9 : decode (zcc mX8_models) 9 = .ok (.ireturn, 1) := by decide +kernel
theorem dX8_length_0 : decode (zcc mX8_length) 0 = .ok (.iload_n 1, 1) := by decide +kernel
theorem dX8_length_1 : decode (zcc mX8_length) 1 = .ok (.iconst 0, 1) := by decide +kernel
theorem dX8_length_2 : decode (zcc mX8_length) 2 = .ok (.aload_n 0, 1) := by decide +kernel
theorem dX8_length_3 : decode (zcc mX8_length) 3 = .ok (.getfield 101, 3) := by decide +kernel
theorem dX8_length_6 : decode (zcc mX8_length) 6 = .ok (.iconst 1, 1) := by decide +kernel
theorem dX8_length_7 : decode (zcc mX8_length) 7 = .ok (.isub, 1) := by decide +kernel
theorem dX8_length_8 : decode (zcc mX8_length) 8 = .ok (.invokestatic 94, 3) := by decide +kernel
theorem dX8_length_11 : decode (zcc mX8_length) 11 = .ok (.ifCond .ne 8, 3) := by decide +kernel
theorem dX8_length_14 : decode (zcc mX8_length) 14 = .ok (.bipush (-2), 2) := by decide +kernel
theorem dX8_length_16 : decode (zcc mX8_length) 16 = .ok (.goto 21, 3) := by decide +kernel
theorem dX8_length_19 : decode (zcc mX8_length) 19 = .ok (.aload_n 0, 1) := by decide +kernel
theorem dX8_length_20 : decode (zcc mX8_length) 20 = .ok (.getfield 87, 3) := by decide +kernel
theorem dX8_length_23 : decode (zcc mX8_length) 23 = .ok (.ifCond .ne 8, 3) := by decide +kernel
theorem dX8_length_26 : decode (zcc mX8_length) 26 = .ok (.bipush (-4), 2) := by decide +kernel
theorem dX8_length_28 : decode (zcc mX8_length) 28 = .ok (.goto 9, 3) := by decide +kernel
theorem dX8_length_31 : decode (zcc mX8_length) 31 = .ok (.aload_n 0, 1) := by decide +kernel
theorem dX8_length_32 : decode (zcc mX8_length) 32 = .ok (.getfield 57, 3) := by decide +kernel
theorem dX8_length_35 : decode (zcc mX8_length) 35 = .ok (.iload_n 1, 1) := by decide +kernel
theorem dX8_length_36 : decode (zcc mX8_length) 36 = .ok (.iaload, 1) := by decide +kernel
theorem dX8_length_37 : decode (zcc mX8_length) 37 = .ok (.ireturn, 1) := by decide +kernel
theorem dX8_letter_0 : decode (zcc mX8_letter) 0 = .ok (.iload_n 1, 1) := by decide +kernel
theorem dX8_letter_1 : decode (zcc mX8_letter) 1 = .ok (.iconst 0, 1) := by decide +kernel
theorem dX8_letter_2 : decode (zcc mX8_letter) 2 = .ok (.aload_n 0, 1) := by decide +kernel
theorem dX8_letter_3 : decode (zcc mX8_letter) 3 = .ok (.getfield 101, 3) := by decide +kernel
theorem dX8_letter_6 : decode (zcc mX8_letter) 6 = .ok (.iconst 1, 1) := by decide +kernel
theorem dX8_letter_7 : decode (zcc mX8_letter) 7 = .ok (.isub, 1) := by decide +kernel
theorem dX8_letter_8 : decode (zcc mX8_letter) 8 = .ok (.invokestatic 94, 3) := by decide +kernel
theorem dX8_letter_11 : decode (zcc mX8_letter) 11 = .ok (.ifCond .ne 8, 3) := by decide +kernel
theorem dX8_letter_14 : decode (zcc mX8_letter) 14 = .ok (.bipush (-2), 2) := by decide +kernel
theorem dX8_letter_16 : decode (zcc mX8_letter) 16 = .ok (.goto 45, 3) := by decide +kernel
theorem dX8_letter_19 : decode (zcc mX8_letter) 19 = .ok (.aload_n 0, 1) := by decide +kernel
theorem dX8_letter_20 : decode (zcc mX8_letter) 20 = .ok (.getfield 87, 3) := by decide +kernel
theorem dX8_letter_23 : decode (zcc mX8_letter) 23 = .ok (.ifCond .ne 8, 3) := by decide +kernel
theorem dX8_letter_26 : decode (zcc mX8_letter) 26 = .ok (.bipush (-4), 2) := by decide +kernel
theorem dX8_letter_28 : decode (zcc mX8_letter) 28 = .ok (.goto 33, 3) := by decide +kernel
