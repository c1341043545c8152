theorem dX7_solve_2 : decode (zcc mX7_solve) 2 = .ok (.invokevirtual 160, 3) := by decide +kernel
theorem dX7_solve_5 : decode (zcc mX7_solve) 5 = .ok (.ireturn, 1) := by decide +kernel
theorem dX7_model_0 : decode (zcc mX7_model) 0 = .ok (.aload_n 0, 1) := by decide +kernel
theorem dX7_model_1 : decode (zcc mX7_model) 1 = .ok (.iload_n 1, 1) := by decide +kernel
theorem dX7_model_2 : decode (zcc mX7_model) 2 = .ok (.invokevirtual 160, 3) := by decide +kernel
theorem dX7_model_5 : decode (zcc mX7_model) 5 = .ok (.ireturn, 1) := by decide +kernel
theorem dX7_models_0 : decode (zcc mX7_models) 0 = .ok (.aload_n 0, 1) := by decide +kernel
theorem dX7_models_1 : decode (zcc mX7_models) 1 = .ok (.invokevirtual 164, 3) := by decide +kernel
theorem dX7_models_4 : decode (zcc mX7_models) 4 = .ok (.istore_n 1, 1) := by decide +kernel
theorem dX7_models_5 : decode (zcc mX7_models) 5 = .ok (.iconst 0, 1) := by decide +kernel
theorem dX7_models_6 : decode (zcc mX7_models) 6 = .ok (.istore_n 2, 1) := by decide +kernel
theorem dX7_models_7 : decode (zcc mX7_models) 7 = .ok (.iconst 0, 1) := by decide +kernel
theorem dX7_models_8 : decode (zcc mX7_models) 8 = .ok (.istore_n 3, 1) := by decide +kernel
theorem dX7_models_9 : decode (zcc mX7_models) 9 = .ok (.iload_n 3, 1) := by decide +kernel
theorem dX7_models_10 : decode (zcc mX7_models) 10 = .ok (.bipush 125, 2) := by decide +kernel
theorem dX7_models_12 : decode (zcc mX7_models) 12 = .ok (.if_icmp .ge 21, 3) := by decide +kernel
theorem dX7_models_15 : decode (zcc mX7_models) 15 = .ok (.iload_n 2, 1) := by decide +kernel
theorem dX7_models_16 : decode (zcc mX7_models) 16 = .ok (.aload_n 0, 1) := by decide +kernel
theorem dX7_models_17 : decode (zcc mX7_models) 17 = .ok (.iload_n 3, 1) := by decide +kernel
theorem dX7_models_18 : decode (zcc mX7_models) 18 = .ok (.iload_n 1, 1) := by decide +kernel
theorem dX7_models_19 : decode (zcc mX7_models) 19 = .ok (.invokevirtual 168, 3) := by decide +kernel
theorem dX7_models_22 : decode (zcc mX7_models) 22 = .ok (.invokestatic 172, 3) := by decide +kernel
theorem dX7_models_25 : decode (zcc mX7_models) 25 = .ok (.iadd, 1) := by decide +kernel
theorem dX7_models_26 : decode (zcc mX7_models) 26 = .ok (.istore_n 2, 1) := by decide +kernel
theorem dX7_models_27 : decode (zcc mX7_models) 27 = .ok (.iinc 3 1, 3) := by decide +kernel
theorem dX7_models_30 : decode (zcc mX7_models) 30 = .ok (.goto (-21), 3) := by decide +kernel
theorem dX7_models_33 : decode (zcc mX7_models) 33 = .ok (.iload_n 2, 1) := by decide +kernel
theorem dX7_models_34 : decode (zcc mX7_models) 34 = .ok (.ireturn, 1) := by decide +kernel
theorem dX7_length_0 : decode (zcc mX7_length) 0 = .ok (.aload_n 0, 1) := by decide +kernel
theorem dX7_length_1 : decode (zcc mX7_length) 1 = .ok (.getfield 12, 3) := by decide +kernel
theorem dX7_length_4 : decode (zcc mX7_length) 4 = .ok (.iload_n 1, 1) := by decide +kernel
theorem dX7_length_5 : decode (zcc mX7_length) 5 = .ok (.invokevirtual 96, 3) := by decide +kernel
theorem dX7_length_8 : decode (zcc mX7_length) 8 = .ok (.ifCond .ne 6, 3) := by decide +kernel
theorem dX7_length_11 : decode (zcc mX7_length) 11 = .ok (.bipush (-2), 2) := by decide +kernel
theorem dX7_length_13 : decode (zcc mX7_length) 13 = .ok (.ireturn, 1) := by decide +kernel
theorem dX7_length_14 : decode (zcc mX7_length) 14 = .ok (.aload_n 0, 1) := by decide +kernel
theorem dX7_length_15 : decode (zcc mX7_length) 15 = .ok (.getfield 178, 3) := by decide +kernel
theorem dX7_length_18 : decode (zcc mX7_length) 18 = .ok (.ifCond .eq 14, 3) := by decide +kernel
theorem dX7_length_21 : decode (zcc mX7_length) 21 = .ok (.aload_n 0, 1) := by decide +kernel
theorem dX7_length_22 : decode (zcc mX7_length) 22 = .ok (.getfield 25, 3) := by decide +kernel
theorem dX7_length_25 : decode (zcc mX7_length) 25 = .ok (.iload_n 1, 1) := by decide +kernel
theorem dX7_length_26 : decode (zcc mX7_length) 26 = .ok (.invokevirtual 181, 3) := by decide +kernel
theorem dX7_length_29 : decode (zcc mX7_length) 29 = .ok (.goto 5, 3) := by decide +kernel
theorem dX7_length_32 : decode (zcc mX7_length) 32 = .ok (.bipush (-4), 2) := by decide +kernel
theorem dX7_length_34 : decode (zcc mX7_length) 34 = .ok (.ireturn, 1) := by decide +kernel
theorem dX7_letter_0 : decode (zcc mX7_letter) 0 = .ok (.aload_n 0, 1) := by decide +kernel
theorem dX7_letter_1 : decode (zcc mX7_letter) 1 = .ok (.getfield 12, 3) := by decide +kernel
theorem dX7_letter_4 : decode (zcc mX7_letter) 4 = .ok (.iload_n 1, 1) := by decide +kernel
theorem dX7_letter_5 : decode (zcc mX7_letter) 5 = .ok (.invokevirtual 96, 3) := by decide +kernel
theorem dX7_letter_8 : decode (zcc mX7_letter) 8 = .ok (.ifCond .ne 6, 3) := by decide +kernel
theorem dX7_letter_11 : decode (zcc mX7_letter) 11 = .ok (.bipush (-2), 2) := by decide +kernel
theorem dX7_letter_13 : decode (zcc mX7_letter) 13 = .ok (.ireturn, 1) := by decide +kernel
theorem dX7_letter_14 : decode (zcc mX7_letter) 14 = .ok (.aload_n 0, 1) := by decide +kernel
theorem dX7_letter_15 : decode (zcc mX7_letter) 15 = .ok (.getfield 178, 3) := by decide +kernel
theorem dX7_letter_18 : decode (zcc mX7_letter) 18 = .ok (.ifCond .eq 15, 3) := by decide +kernel
theorem dX7_letter_21 : decode (zcc mX7_letter) 21 = .ok (.aload_n 0, 1) := by decide +kernel
theorem dX7_letter_22 : decode (zcc mX7_letter) 22 = .ok (.getfield 25, 3) := by decide +kernel
theorem dX7_letter_25 : decode (zcc mX7_letter) 25 = .ok (.iload_n 1, 1) := by decide +kernel
theorem dX7_letter_26 : decode (zcc mX7_letter) 26 = .ok (.iload_n 2, 1) := by decide +kernel
theorem dX7_letter_27 : decode (zcc mX7_letter) 27 = .ok (.invokevirtual 184, 3) := by decide +kernel
theorem dX7_letter_30 : decode (zcc mX7_letter) 30 = .ok (.goto 5, 3) := by decide +kernel
theorem dX7_letter_33 : decode (zcc mX7_letter) 33 = .ok (.bipush (-4), 2) := by decide +kernel
theorem dX7_letter_35 : decode (zcc mX7_letter) 35 = .ok (.ireturn, 1) := by decide +kernel
theorem dX7_holds_0 : decode (zcc mX7_holds) 0 = .ok (.aload_n 0, 1) := by decide +kernel
theorem dX7_holds_1 : decode (zcc mX7_holds) 1 = .ok (.iload_n 1, 1) := by decide +kernel
theorem dX7_holds_2 : decode (zcc mX7_holds) 2 = .ok (.invokevirtual 150, 3) := by decide +kernel
theorem dX7_holds_5 : decode (zcc mX7_holds) 5 = .ok (.ifCond .ne 6, 3) := by decide +kernel
theorem dX7_holds_8 : decode (zcc mX7_holds) 8 = .ok (.bipush (-2), 2) := by decide +kernel
theorem dX7_holds_10 : decode (zcc mX7_holds) 10 = .ok (.ireturn, 1) := by decide +kernel
theorem dX7_holds_11 : decode (zcc mX7_holds) 11 = .ok (.aload_n 0, 1) := by decide +kernel
theorem dX7_holds_12 : decode (zcc mX7_holds) 12 = .ok (.getfield 178, 3) := by decide +kernel
theorem dX7_holds_15 : decode (zcc mX7_holds) 15 = .ok (.ifCond .eq 26, 3) := by decide +kernel
theorem dX7_holds_18 : decode (zcc mX7_holds) 18 = .ok (.aload_n 0, 1) := by decide +kernel
theorem dX7_holds_19 : decode (zcc mX7_holds) 19 = .ok (.getfield 51, 3) := by decide +kernel
theorem dX7_holds_22 : decode (zcc mX7_holds) 22 = .ok (.aload_n 0, 1) := by decide +kernel
theorem dX7_holds_23 : decode (zcc mX7_holds) 23 = .ok (.getfield 42, 3) := by decide +kernel
theorem dX7_holds_26 : decode (zcc mX7_holds) 26 = .ok (.iload_n 1, 1) := by decide +kernel
theorem dX7_holds_27 : decode (zcc mX7_holds) 27 = .ok (.aaload, 1) := by decide +kernel
theorem dX7_holds_28 : decode (zcc mX7_holds) 28 = .ok (.aload_n 0, 1) := by decide +kernel
theorem dX7_holds_29 : decode (zcc mX7_holds) 29 = .ok (.getfield 25, 3) := by decide +kernel
theorem dX7_holds_32 : decode (zcc mX7_holds) 32 = .ok (.invokevirtual 187, 3) := by decide +kernel
theorem dX7_holds_35 : decode (zcc mX7_holds) 35 = .ok (.invokestatic 131, 3) := by decide +kernel
theorem dX7_holds_38 : decode (zcc mX7_holds) 38 = .ok (.goto 5, 3) := by decide +kernel
theorem dX7_holds_41 : decode (zcc mX7_holds) 41 = .ok (.bipush (-4), 2) := by decide +kernel
theorem dX7_holds_43 : decode (zcc mX7_holds) 43 = .ok (.ireturn, 1) := by decide +kernel
theorem dX7_core_0 : decode (zcc mX7_core) 0 = .ok (.aload_n 0, 1) := by decide +kernel
theorem dX7_core_1 : decode (zcc mX7_core) 1 = .ok (.invokevirtual 164, 3) := by decide +kernel
theorem dX7_core_4 : decode (zcc mX7_core) 4 = .ok (.istore_n 1, 1) := by decide +kernel
theorem dX7_core_5 : decode (zcc mX7_core) 5 = .ok (.aload_n 0, 1) := by decide +kernel
theorem dX7_core_6 : decode (zcc mX7_core) 6 = .ok (.iload_n 1, 1) := by decide +kernel
theorem dX7_core_7 : decode (zcc mX7_core) 7 = .ok (.invokevirtual 191, 3) := by decide +kernel
theorem dX7_core_10 : decode (zcc mX7_core) 10 = .ok (.ifCond .eq 6, 3) := by decide +kernel
theorem dX7_core_13 : decode (zcc mX7_core) 13 = .ok (.bipush (-4), 2) := by decide +kernel
theorem dX7_core_15 : decode (zcc mX7_core) 15 = .ok (.ireturn, 1) := by decide +kernel
theorem dX7_core_16 : decode (zcc mX7_core) 16 = .ok (.aload_n 0, 1) := by decide +kernel
theorem dX7_core_17 : decode (zcc mX7_core) 17 = .ok (.getfield 58, 3) := by decide +kernel
theorem dX7_core_20 : decode (zcc mX7_core) 20 = .ok (.iconst 1, 1) := by decide +kernel
theorem dX7_core_21 : decode (zcc mX7_core) 21 = .ok (.isub, 1) := by decide +kernel
theorem dX7_core_22 : decode (zcc mX7_core) 22 = .ok (.istore_n 2, 1) := by decide +kernel
theorem dX7_core_23 : decode (zcc mX7_core) 23 = .ok (.iload_n 2, 1) := by decide +kernel
theorem dX7_core_24 : decode (zcc mX7_core) 24 = .ok (.ifCond .lt 27, 3) := by decide +kernel
theorem dX7_core_27 : decode (zcc mX7_core) 27 = .ok (.iload_n 1, 1) := by decide +kernel
theorem dX7_core_28 : decode (zcc mX7_core) 28 = .ok (.iconst 1, 1) := by decide +kernel
theorem dX7_core_29 : decode (zcc mX7_core) 29 = .ok (.iload_n 2, 1) := by decide +kernel
theorem dX7_core_30 : decode (zcc mX7_core) 30 = .ok (.ishl, 1) := by decide +kernel
theorem dX7_core_31 : decode (zcc mX7_core) 31 = .ok (.iconst (-1), 1) := by decide +kernel
theorem dX7_core_32 : decode (zcc mX7_core) 32 = .ok (.ixor, 1) := by decide +kernel
theorem dX7_core_33 : decode (zcc mX7_core) 33 = .ok (.iand, 1) := by decide +kernel
theorem dX7_core_34 : decode (zcc mX7_core) 34 = .ok (.istore_n 3, 1) := by decide +kernel
theorem dX7_core_35 : decode (zcc mX7_core) 35 = .ok (.aload_n 0, 1) := by decide +kernel
theorem dX7_core_36 : decode (zcc mX7_core) 36 = .ok (.iload_n 3, 1) := by decide +kernel
theorem dX7_core_37 : decode (zcc mX7_core) 37 = .ok (.invokevirtual 191, 3) := by decide +kernel
theorem dX7_core_40 : decode (zcc mX7_core) 40 = .ok (.ifCond .ne 5, 3) := by decide +kernel
theorem dX7_core_43 : decode (zcc mX7_core) 43 = .ok (.iload_n 3, 1) := by decide +kernel
theorem dX7_core_44 : decode (zcc mX7_core) 44 = .ok (.istore_n 1, 1) := by decide +kernel
theorem dX7_core_45 : decode (zcc mX7_core) 45 = .ok (.iinc 2 (-1), 3) := by decide +kernel
theorem dX7_core_48 : decode (zcc mX7_core) 48 = .ok (.goto (-25), 3) := by decide +kernel
theorem dX7_core_51 : decode (zcc mX7_core) 51 = .ok (.aload_n 0, 1) := by decide +kernel
theorem dX7_core_52 : decode (zcc mX7_core) 52 = .ok (.iload_n 1, 1) := by decide +kernel
theorem dX7_core_53 : decode (zcc mX7_core) 53 = .ok (.putfield 194, 3) := by decide +kernel
theorem dX7_core_56 : decode (zcc mX7_core) 56 = .ok (.aload_n 0, 1) := by decide +kernel
theorem dX7_core_57 : decode (zcc mX7_core) 57 = .ok (.iconst 1, 1) := by decide +kernel
theorem dX7_core_58 : decode (zcc mX7_core) 58 = .ok (.putfield 197, 3) := by decide +kernel
theorem dX7_core_61 : decode (zcc mX7_core) 61 = .ok (.iload_n 1, 1) := by decide +kernel
theorem dX7_core_62 : decode (zcc mX7_core) 62 = .ok (.invokestatic 200, 3) := by decide +kernel
theorem dX7_core_65 : decode (zcc mX7_core) 65 = .ok (.ireturn, 1) := by decide +kernel
theorem dX7_inCore_0 : decode (zcc mX7_inCore) 0 = .ok (.aload_n 0, 1) := by decide +kernel
theorem dX7_inCore_1 : decode (zcc mX7_inCore) 1 = .ok (.iload_n 1, 1) := by decide +kernel
theorem dX7_inCore_2 : decode (zcc mX7_inCore) 2 = .ok (.invokevirtual 150, 3) := by decide +kernel
theorem dX7_inCore_5 : decode (zcc mX7_inCore) 5 = .ok (.ifCond .ne 6, 3) := by decide +kernel
theorem dX7_inCore_8 : decode (zcc mX7_inCore) 8 = .ok (.bipush (-2), 2) := by decide +kernel
theorem dX7_inCore_10 : decode (zcc mX7_inCore) 10 = .ok (.ireturn, 1) := by decide +kernel
theorem dX7_inCore_11 : decode (zcc mX7_inCore) 11 = .ok (.aload_n 0, 1) := by decide +kernel
theorem dX7_inCore_12 : decode (zcc mX7_inCore) 12 = .ok (.getfield 197, 3) := by decide +kernel
theorem dX7_inCore_15 : decode (zcc mX7_inCore) 15 = .ok (.ifCond .eq 17, 3) := by decide +kernel
theorem dX7_inCore_18 : decode (zcc mX7_inCore) 18 = .ok (.aload_n 0, 1) := by decide +kernel
theorem dX7_inCore_19 : decode (zcc mX7_inCore) 19 = .ok (.getfield 194, 3) := by decide +kernel
theorem dX7_inCore_22 : decode (zcc mX7_inCore) 22 = .ok (.iload_n 1, 1) := by decide +kernel
theorem dX7_inCore_23 : decode (zcc mX7_inCore) 23 = .ok (.invokestatic 204, 3) := by decide +kernel
theorem dX7_inCore_26 : decode (zcc mX7_inCore) 26 = .ok (.invokestatic 131, 3) := by decide +kernel
theorem dX7_inCore_29 : decode (zcc mX7_inCore) 29 = .ok (.goto 5, 3) := by decide +kernel
theorem dX7_inCore_32 : decode (zcc mX7_inCore) 32 = .ok (.bipush (-4), 2) := by decide +kernel
theorem dX7_inCore_34 : decode (zcc mX7_inCore) 34 = .ok (.ireturn, 1) := by decide +kernel
theorem dX7_spans_0 : decode (zcc mX7_spans) 0 = .ok (.iconst 0, 1) := by decide +kernel
theorem dX7_spans_1 : decode (zcc mX7_spans) 1 = .ok (.istore_n 1, 1) := by decide +kernel
theorem dX7_spans_2 : decode (zcc mX7_spans) 2 = .ok (.aload_n 0, 1) := by decide +kernel
theorem dX7_spans_3 : decode (zcc mX7_spans) 3 = .ok (.getfield 21, 3) := by decide +kernel
theorem dX7_spans_6 : decode (zcc mX7_spans) 6 = .ok (.invokevirtual 208, 3) := by decide +kernel
theorem dX7_spans_9 : decode (zcc mX7_spans) 9 = .ok (.aload_n 0, 1) := by decide +kernel
theorem dX7_spans_10 : decode (zcc mX7_spans) 10 = .ok (.getfield 12, 3) := by decide +kernel
theorem dX7_spans_13 : decode (zcc mX7_spans) 13 = .ok (.invokevirtual 209, 3) := by decide +kernel
theorem dX7_spans_16 : decode (zcc mX7_spans) 16 = .ok (.istore_n 2, 1) := by decide +kernel
theorem dX7_spans_17 : decode (zcc mX7_spans) 17 = .ok (.iconst 0, 1) := by decide +kernel
theorem dX7_spans_18 : decode (zcc mX7_spans) 18 = .ok (.istore_n 3, 1) := by decide +kernel
theorem dX7_spans_19 : decode (zcc mX7_spans) 19 = .ok (.iload_n 3, 1) := by decide +kernel
theorem dX7_spans_20 : decode (zcc mX7_spans) 20 = .ok (.iload_n 2, 1) := by decide +kernel
theorem dX7_spans_21 : decode (zcc mX7_spans) 21 = .ok (.if_icmp .ge 26, 3) := by decide +kernel
theorem dX7_spans_24 : decode (zcc mX7_spans) 24 = .ok (.aload_n 0, 1) := by decide +kernel
theorem dX7_spans_25 : decode (zcc mX7_spans) 25 = .ok (.invokevirtual 212, 3) := by decide +kernel
theorem dX7_spans_28 : decode (zcc mX7_spans) 28 = .ok (.ifCond .eq 6, 3) := by decide +kernel
theorem dX7_spans_31 : decode (zcc mX7_spans) 31 = .ok (.iinc 1 1, 3) := by decide +kernel
theorem dX7_spans_34 : decode (zcc mX7_spans) 34 = .ok (.aload_n 0, 1) := by decide +kernel
theorem dX7_spans_35 : decode (zcc mX7_spans) 35 = .ok (.getfield 21, 3) := by decide +kernel
theorem dX7_spans_38 : decode (zcc mX7_spans) 38 = .ok (.invokevirtual 216, 3) := by decide +kernel
theorem dX7_spans_41 : decode (zcc mX7_spans) 41 = .ok (.iinc 3 1, 3) := by decide +kernel
theorem dX7_spans_44 : decode (zcc mX7_spans) 44 = .ok (.goto (-25), 3) := by decide +kernel
theorem dX7_spans_47 : decode (zcc mX7_spans) 47 = .ok (.iload_n 1, 1) := by decide +kernel
theorem dX7_spans_48 : decode (zcc mX7_spans) 48 = .ok (.ireturn, 1) := by decide +kernel
theorem dX7_meet_0 : decode (zcc mX7_meet) 0 = .ok (.aload_n 0, 1) := by decide +kernel
theorem dX7_meet_1 : decode (zcc mX7_meet) 1 = .ok (.iload_n 1, 1) := by decide +kernel
theorem dX7_meet_2 : decode (zcc mX7_meet) 2 = .ok (.invokevirtual 111, 3) := by decide +kernel
theorem dX7_meet_5 : decode (zcc mX7_meet) 5 = .ok (.ifCond .eq 11, 3) := by decide +kernel
theorem dX7_meet_8 : decode (zcc mX7_meet) 8 = .ok (.aload_n 0, 1) := by decide +kernel
theorem dX7_meet_9 : decode (zcc mX7_meet) 9 = .ok (.iload_n 2, 1) := by decide +kernel
theorem dX7_meet_10 : decode (zcc mX7_meet) 10 = .ok (.invokevirtual 111, 3) := by decide +kernel
theorem dX7_meet_13 : decode (zcc mX7_meet) 13 = .ok (.ifCond .ne 6, 3) := by decide +kernel
theorem dX7_meet_16 : decode (zcc mX7_meet) 16 = .ok (.bipush (-2), 2) := by decide +kernel
theorem dX7_meet_18 : decode (zcc mX7_meet) 18 = .ok (.ireturn, 1) := by decide +kernel
theorem dX7_meet_19 : decode (zcc mX7_meet) 19 = .ok (.aload_n 0, 1) := by decide +kernel
theorem dX7_meet_20 : decode (zcc mX7_meet) 20 = .ok (.getfield 36, 3) := by decide +kernel
theorem dX7_meet_23 : decode (zcc mX7_meet) 23 = .ok (.iload_n 1, 1) := by decide +kernel
theorem dX7_meet_24 : decode (zcc mX7_meet) 24 = .ok (.aaload, 1) := by decide +kernel
theorem dX7_meet_25 : decode (zcc mX7_meet) 25 = .ok (.aload_n 0, 1) := by decide +kernel
theorem dX7_meet_26 : decode (zcc mX7_meet) 26 = .ok (.getfield 36, 3) := by decide +kernel
theorem dX7_meet_29 : decode (zcc mX7_meet) 29 = .ok (.iload_n 2, 1) := by decide +kernel
theorem dX7_meet_30 : decode (zcc mX7_meet) 30 = .ok (.aaload, 1) := by decide +kernel
theorem dX7_meet_31 : decode (zcc mX7_meet) 31 = .ok (.aload_n 0, 1) := by decide +kernel
theorem dX7_meet_32 : decode (zcc mX7_meet) 32 = .ok (.getfield 12, 3) := by decide +kernel
theorem dX7_meet_35 : decode (zcc mX7_meet) 35 = .ok (.getfield 219, 3) := by decide +kernel
theorem dX7_meet_38 : decode (zcc mX7_meet) 38 = .ok (.invokevirtual 222, 3) := by decide +kernel
theorem dX7_meet_41 : decode (zcc mX7_meet) 41 = .ok (.ireturn, 1) := by decide +kernel
theorem dX7_told_0 : decode (zcc mX7_told) 0 = .ok (.iload_n 1, 1) := by decide +kernel
theorem dX7_told_1 : decode (zcc mX7_told) 1 = .ok (.tableswitch 90 0 6 #[43, 51, 59, 64, 69, 74, 82], 43) := by decide +kernel
theorem dX7_told_44 : decode (zcc mX7_told) 44 = .ok (.aload_n 0, 1) := by decide +kernel
theorem dX7_told_45 : decode (zcc mX7_told) 45 = .ok (.getfield 12, 3) := by decide +kernel
theorem dX7_told_48 : decode (zcc mX7_told) 48 = .ok (.getfield 219, 3) := by decide +kernel
theorem dX7_told_51 : decode (zcc mX7_told) 51 = .ok (.ireturn, 1) := by decide +kernel
theorem dX7_told_52 : decode (zcc mX7_told) 52 = .ok (.aload_n 0, 1) := by decide +kernel
theorem dX7_told_53 : decode (zcc mX7_told) 53 = .ok (.getfield 12, 3) := by decide +kernel
theorem dX7_told_56 : decode (zcc mX7_told) 56 = .ok (.getfield 85, 3) := by decide +kernel
theorem dX7_told_59 : decode (zcc mX7_told) 59 = .ok (.ireturn, 1) := by decide +kernel
theorem dX7_told_60 : decode (zcc mX7_told) 60 = .ok (.aload_n 0, 1) := by decide +kernel
theorem dX7_told_61 : decode (zcc mX7_told) 61 = .ok (.getfield 66, 3) := by decide +kernel
theorem dX7_told_64 : decode (zcc mX7_told) 64 = .ok (.ireturn, 1) := by decide +kernel
theorem dX7_told_65 : decode (zcc mX7_told) 65 = .ok (.aload_n 0, 1) := by decide +kernel
theorem dX7_told_66 : decode (zcc mX7_told) 66 = .ok (.getfield 69, 3) := by decide +kernel
theorem dX7_told_69 : decode (zcc mX7_told) 69 = .ok (.ireturn, 1) := by decide +kernel
theorem dX7_told_70 : decode (zcc mX7_told) 70 = .ok (.aload_n 0, 1) := by decide +kernel
theorem dX7_told_71 : decode (zcc mX7_told) 71 = .ok (.getfield 58, 3) := by decide +kernel
theorem dX7_told_74 : decode (zcc mX7_told) 74 = .ok (.ireturn, 1) := by decide +kernel
theorem dX7_told_75 : decode (zcc mX7_told) 75 = .ok (.aload_n 0, 1) := by decide +kernel
theorem dX7_told_76 : decode (zcc mX7_told) 76 = .ok (.getfield 12, 3) := by decide +kernel
theorem dX7_told_79 : decode (zcc mX7_told) 79 = .ok (.getfield 226, 3) := by decide +kernel
theorem dX7_told_82 : decode (zcc mX7_told) 82 = .ok (.ireturn, 1) := by decide +kernel
theorem dX7_told_83 : decode (zcc mX7_told) 83 = .ok (.aload_n 0, 1) := by decide +kernel
theorem dX7_told_84 : decode (zcc mX7_told) 84 = .ok (.getfield 178, 3) := by decide +kernel
theorem dX7_told_87 : decode (zcc mX7_told) 87 = .ok (.invokestatic 131, 3) := by decide +kernel
theorem dX7_told_90 : decode (zcc mX7_told) 90 = .ok (.ireturn, 1) := by decide +kernel
theorem dX7_told_91 : decode (zcc mX7_told) 91 = .ok (.bipush (-3), 2) := by decide +kernel
theorem dX7_told_93 : decode (zcc mX7_told) 93 = .ok (.ireturn, 1) := by decide +kernel
theorem dX7_asNumber_0 : decode (zcc mX7_asNumber) 0 = .ok (.iload_n 0, 1) := by decide +kernel
theorem dX7_asNumber_1 : decode (zcc mX7_asNumber) 1 = .ok (.ifCond .eq 7, 3) := by decide +kernel
theorem dX7_asNumber_4 : decode (zcc mX7_asNumber) 4 = .ok (.iconst 1, 1) := by decide +kernel
theorem dX7_asNumber_5 : decode (zcc mX7_asNumber) 5 = .ok (.goto 4, 3) := by decide +kernel
theorem dX7_asNumber_8 : decode (zcc mX7_asNumber) 8 = .ok (.iconst 0, 1) := by decide +kernel
theorem dX7_asNumber_9 : decode (zcc mX7_asNumber) 9 = .ok (.ireturn, 1) := by decide +kernel
theorem dX7_isIn_0 : decode (zcc mX7_isIn) 0 = .ok (.iload_n 0, 1) := by decide +kernel
theorem dX7_isIn_1 : decode (zcc mX7_isIn) 1 = .ok (.iload_n 1, 1) := by decide +kernel
theorem dX7_isIn_2 : decode (zcc mX7_isIn) 2 = .ok (.ishr, 1) := by decide +kernel
theorem dX7_isIn_3 : decode (zcc mX7_isIn) 3 = .ok (.iconst 1, 1) := by decide +kernel
theorem dX7_isIn_4 : decode (zcc mX7_isIn) 4 = .ok (.iand, 1) := by decide +kernel
theorem dX7_isIn_5 : decode (zcc mX7_isIn) 5 = .ok (.ifCond .eq 7, 3) := by decide +kernel
theorem dX7_isIn_8 : decode (zcc mX7_isIn) 8 = .ok (.iconst 1, 1) := by decide +kernel
theorem dX7_isIn_9 : decode (zcc mX7_isIn) 9 = .ok (.goto 4, 3) := by decide +kernel
theorem dX7_isIn_12 : decode (zcc mX7_isIn) 12 = .ok (.iconst 0, 1) := by decide +kernel
theorem dX7_isIn_13 : decode (zcc mX7_isIn) 13 = .ok (.ireturn, 1) := by decide +kernel
theorem dX7_isTerm_0 : decode (zcc mX7_isTerm) 0 = .ok (.iload_n 1, 1) := by decide +kernel
theorem dX7_isTerm_1 : decode (zcc mX7_isTerm) 1 = .ok (.ifCond .lt 15, 3) := by decide +kernel
theorem dX7_isTerm_4 : decode (zcc mX7_isTerm) 4 = .ok (.iload_n 1, 1) := by decide +kernel
theorem dX7_isTerm_5 : decode (zcc mX7_isTerm) 5 = .ok (.aload_n 0, 1) := by decide +kernel
theorem dX7_isTerm_6 : decode (zcc mX7_isTerm) 6 = .ok (.getfield 66, 3) := by decide +kernel
theorem dX7_isTerm_9 : decode (zcc mX7_isTerm) 9 = .ok (.if_icmp .ge 7, 3) := by decide +kernel
theorem dX7_isTerm_12 : decode (zcc mX7_isTerm) 12 = .ok (.iconst 1, 1) := by decide +kernel
theorem dX7_isTerm_13 : decode (zcc mX7_isTerm) 13 = .ok (.goto 4, 3) := by decide +kernel
theorem dX7_isTerm_16 : decode (zcc mX7_isTerm) 16 = .ok (.iconst 0, 1) := by decide +kernel
theorem dX7_isTerm_17 : decode (zcc mX7_isTerm) 17 = .ok (.ireturn, 1) := by decide +kernel
theorem dX7_isMachine_0 : decode (zcc mX7_isMachine) 0 = .ok (.iload_n 1, 1) := by decide +kernel
theorem dX7_isMachine_1 : decode (zcc mX7_isMachine) 1 = .ok (.ifCond .lt 15, 3) := by decide +kernel
theorem dX7_isMachine_4 : decode (zcc mX7_isMachine) 4 = .ok (.iload_n 1, 1) := by decide +kernel
theorem dX7_isMachine_5 : decode (zcc mX7_isMachine) 5 = .ok (.aload_n 0, 1) := by decide +kernel
theorem dX7_isMachine_6 : decode (zcc mX7_isMachine) 6 = .ok (.getfield 69, 3) := by decide +kernel
theorem dX7_isMachine_9 : decode (zcc mX7_isMachine) 9 = .ok (.if_icmp .ge 7, 3) := by decide +kernel
theorem dX7_isMachine_12 : decode (zcc mX7_isMachine) 12 = .ok (.iconst 1, 1) := by decide +kernel
theorem dX7_isMachine_13 : decode (zcc mX7_isMachine) 13 = .ok (.goto 4, 3) := by decide +kernel
theorem dX7_isMachine_16 : decode (zcc mX7_isMachine) 16 = .ok (.iconst 0, 1) := by decide +kernel
theorem dX7_isMachine_17 : decode (zcc mX7_isMachine) 17 = .ok (.ireturn, 1) := by decide +kernel
theorem dX7_isFormula_0 : decode (zcc mX7_isFormula) 0 = .ok (.iload_n 1, 1) := by decide +kernel
theorem dX7_isFormula_1 : decode (zcc mX7_isFormula) 1 = .ok (.ifCond .lt 15, 3) := by decide +kernel
theorem dX7_isFormula_4 : decode (zcc mX7_isFormula) 4 = .ok (.iload_n 1, 1) := by decide +kernel
theorem dX7_isFormula_5 : decode (zcc mX7_isFormula) 5 = .ok (.aload_n 0, 1) := by decide +kernel
theorem dX7_isFormula_6 : decode (zcc mX7_isFormula) 6 = .ok (.getfield 58, 3) := by decide +kernel
theorem dX7_isFormula_9 : decode (zcc mX7_isFormula) 9 = .ok (.if_icmp .ge 7, 3) := by decide +kernel
theorem dX7_isFormula_12 : decode (zcc mX7_isFormula) 12 = .ok (.iconst 1, 1) := by decide +kernel
theorem dX7_isFormula_13 : decode (zcc mX7_isFormula) 13 = .ok (.goto 4, 3) := by decide +kernel
theorem dX7_isFormula_16 : decode (zcc mX7_isFormula) 16 = .ok (.iconst 0, 1) := by decide +kernel
theorem dX7_isFormula_17 : decode (zcc mX7_isFormula) 17 = .ok (.ireturn, 1) := by decide +kernel
theorem dX7_areOthersKnown_0 : decode (zcc mX7_areOthersKnown) 0 = .ok (.iload_n 1, 1) := by decide +kernel
theorem dX7_areOthersKnown_1 : decode (zcc mX7_areOthersKnown) 1 = .ok (.tableswitch 97 1 6 #[39, 58, 97, 97, 64, 66], 39) := by decide +kernel
theorem dX7_areOthersKnown_40 : decode (zcc mX7_areOthersKnown) 40 = .ok (.iload_n 2, 1) := by decide +kernel
theorem dX7_areOthersKnown_41 : decode (zcc mX7_areOthersKnown) 41 = .ok (.iconst (-1), 1) := by decide +kernel
theorem dX7_areOthersKnown_42 : decode (zcc mX7_areOthersKnown) 42 = .ok (.if_icmp .eq 11, 3) := by decide +kernel
theorem dX7_areOthersKnown_45 : decode (zcc mX7_areOthersKnown) 45 = .ok (.aload_n 0, 1) := by decide +kernel
theorem dX7_areOthersKnown_46 : decode (zcc mX7_areOthersKnown) 46 = .ok (.iload_n 2, 1) := by decide +kernel
theorem dX7_areOthersKnown_47 : decode (zcc mX7_areOthersKnown) 47 = .ok (.invokevirtual 90, 3) := by decide +kernel
theorem dX7_areOthersKnown_50 : decode (zcc mX7_areOthersKnown) 50 = .ok (.ifCond .eq 7, 3) := by decide +kernel
theorem dX7_areOthersKnown_53 : decode (zcc mX7_areOthersKnown) 53 = .ok (.iconst 1, 1) := by decide +kernel
theorem dX7_areOthersKnown_54 : decode (zcc mX7_areOthersKnown) 54 = .ok (.goto 4, 3) := by decide +kernel
theorem dX7_areOthersKnown_57 : decode (zcc mX7_areOthersKnown) 57 = .ok (.iconst 0, 1) := by decide +kernel
theorem dX7_areOthersKnown_58 : decode (zcc mX7_areOthersKnown) 58 = .ok (.ireturn, 1) := by decide +kernel
theorem dX7_areOthersKnown_59 : decode (zcc mX7_areOthersKnown) 59 = .ok (.aload_n 0, 1) := by decide +kernel
theorem dX7_areOthersKnown_60 : decode (zcc mX7_areOthersKnown) 60 = .ok (.iload_n 2, 1) := by decide +kernel
theorem dX7_areOthersKnown_61 : decode (zcc mX7_areOthersKnown) 61 = .ok (.invokevirtual 111, 3) := by decide +kernel
theorem dX7_areOthersKnown_64 : decode (zcc mX7_areOthersKnown) 64 = .ok (.ireturn, 1) := by decide +kernel
theorem dX7_areOthersKnown_65 : decode (zcc mX7_areOthersKnown) 65 = .ok (.iconst 1, 1) := by decide +kernel
theorem dX7_areOthersKnown_66 : decode (zcc mX7_areOthersKnown) 66 = .ok (.ireturn, 1) := by decide +kernel
theorem dX7_areOthersKnown_67 : decode (zcc mX7_areOthersKnown) 67 = .ok (.aload_n 0, 1) := by decide +kernel
theorem dX7_areOthersKnown_68 : decode (zcc mX7_areOthersKnown) 68 = .ok (.iload_n 2, 1) := by decide +kernel
theorem dX7_areOthersKnown_69 : decode (zcc mX7_areOthersKnown) 69 = .ok (.invokevirtual 90, 3) := by decide +kernel
theorem dX7_areOthersKnown_72 : decode (zcc mX7_areOthersKnown) 72 = .ok (.ifCond .eq 24, 3) := by decide +kernel
theorem dX7_areOthersKnown_75 : decode (zcc mX7_areOthersKnown) 75 = .ok (.aload_n 0, 1) := by decide +kernel
theorem dX7_areOthersKnown_76 : decode (zcc mX7_areOthersKnown) 76 = .ok (.iload_n 3, 1) := by decide +kernel
theorem dX7_areOthersKnown_77 : decode (zcc mX7_areOthersKnown) 77 = .ok (.invokevirtual 90, 3) := by decide +kernel
theorem dX7_areOthersKnown_80 : decode (zcc mX7_areOthersKnown) 80 = .ok (.ifCond .eq 16, 3) := by decide +kernel
theorem dX7_areOthersKnown_83 : decode (zcc mX7_areOthersKnown) 83 = .ok (.aload_n 0, 1) := by decide +kernel
theorem dX7_areOthersKnown_84 : decode (zcc mX7_areOthersKnown) 84 = .ok (.iload 4, 2) := by decide +kernel
theorem dX7_areOthersKnown_86 : decode (zcc mX7_areOthersKnown) 86 = .ok (.invokevirtual 90, 3) := by decide +kernel
theorem dX7_areOthersKnown_89 : decode (zcc mX7_areOthersKnown) 89 = .ok (.ifCond .eq 7, 3) := by decide +kernel
theorem dX7_areOthersKnown_92 : decode (zcc mX7_areOthersKnown) 92 = .ok (.iconst 1, 1) := by decide +kernel
theorem dX7_areOthersKnown_93 : decode (zcc mX7_areOthersKnown) 93 = .ok (.goto 4, 3) := by decide +kernel
theorem dX7_areOthersKnown_96 : decode (zcc mX7_areOthersKnown) 96 = .ok (.iconst 0, 1) := by decide +kernel
theorem dX7_areOthersKnown_97 : decode (zcc mX7_areOthersKnown) 97 = .ok (.ireturn, 1) := by decide +kernel
theorem dX7_areOthersKnown_98 : decode (zcc mX7_areOthersKnown) 98 = .ok (.aload_n 0, 1) := by decide +kernel
theorem dX7_areOthersKnown_99 : decode (zcc mX7_areOthersKnown) 99 = .ok (.iload_n 2, 1) := by decide +kernel
theorem dX7_areOthersKnown_100 : decode (zcc mX7_areOthersKnown) 100 = .ok (.invokevirtual 90, 3) := by decide +kernel
theorem dX7_areOthersKnown_103 : decode (zcc mX7_areOthersKnown) 103 = .ok (.ireturn, 1) := by decide +kernel
theorem dX7_areNumbersInside_0 : decode (zcc mX7_areNumbersInside) 0 = .ok (.iload_n 0, 1) := by decide +kernel
theorem dX7_areNumbersInside_1 : decode (zcc mX7_areNumbersInside) 1 = .ok (.lookupswitch 71 #[(1, 27), (5, 45)], 27) := by decide +kernel
theorem dX7_areNumbersInside_28 : decode (zcc mX7_areNumbersInside) 28 = .ok (.iload_n 2, 1) := by decide +kernel
theorem dX7_areNumbersInside_29 : decode (zcc mX7_areNumbersInside) 29 = .ok (.bipush (-40), 2) := by decide +kernel
theorem dX7_areNumbersInside_31 : decode (zcc mX7_areNumbersInside) 31 = .ok (.if_icmp .lt 13, 3) := by decide +kernel
theorem dX7_areNumbersInside_34 : decode (zcc mX7_areNumbersInside) 34 = .ok (.iload_n 2, 1) := by decide +kernel
theorem dX7_areNumbersInside_35 : decode (zcc mX7_areNumbersInside) 35 = .ok (.bipush 40, 2) := by decide +kernel
theorem dX7_areNumbersInside_37 : decode (zcc mX7_areNumbersInside) 37 = .ok (.if_icmp .gt 7, 3) := by decide +kernel
theorem dX7_areNumbersInside_40 : decode (zcc mX7_areNumbersInside) 40 = .ok (.iconst 1, 1) := by decide +kernel
theorem dX7_areNumbersInside_41 : decode (zcc mX7_areNumbersInside) 41 = .ok (.goto 4, 3) := by decide +kernel
theorem dX7_areNumbersInside_44 : decode (zcc mX7_areNumbersInside) 44 = .ok (.iconst 0, 1) := by decide +kernel
theorem dX7_areNumbersInside_45 : decode (zcc mX7_areNumbersInside) 45 = .ok (.ireturn, 1) := by decide +kernel
theorem dX7_areNumbersInside_46 : decode (zcc mX7_areNumbersInside) 46 = .ok (.iload_n 1, 1) := by decide +kernel
theorem dX7_areNumbersInside_47 : decode (zcc mX7_areNumbersInside) 47 = .ok (.iconst 2, 1) := by decide +kernel
theorem dX7_areNumbersInside_48 : decode (zcc mX7_areNumbersInside) 48 = .ok (.if_icmp .lt 22, 3) := by decide +kernel
theorem dX7_areNumbersInside_51 : decode (zcc mX7_areNumbersInside) 51 = .ok (.iload_n 1, 1) := by decide +kernel
theorem dX7_areNumbersInside_52 : decode (zcc mX7_areNumbersInside) 52 = .ok (.bipush 16, 2) := by decide +kernel
theorem dX7_areNumbersInside_54 : decode (zcc mX7_areNumbersInside) 54 = .ok (.if_icmp .gt 16, 3) := by decide +kernel
theorem dX7_areNumbersInside_57 : decode (zcc mX7_areNumbersInside) 57 = .ok (.iload_n 2, 1) := by decide +kernel
theorem dX7_areNumbersInside_58 : decode (zcc mX7_areNumbersInside) 58 = .ok (.ifCond .lt 12, 3) := by decide +kernel
theorem dX7_areNumbersInside_61 : decode (zcc mX7_areNumbersInside) 61 = .ok (.iload_n 2, 1) := by decide +kernel
theorem dX7_areNumbersInside_62 : decode (zcc mX7_areNumbersInside) 62 = .ok (.iload_n 1, 1) := by decide +kernel
theorem dX7_areNumbersInside_63 : decode (zcc mX7_areNumbersInside) 63 = .ok (.if_icmp .ge 7, 3) := by decide +kernel
theorem dX7_areNumbersInside_66 : decode (zcc mX7_areNumbersInside) 66 = .ok (.iconst 1, 1) := by decide +kernel
theorem dX7_areNumbersInside_67 : decode (zcc mX7_areNumbersInside) 67 = .ok (.goto 4, 3) := by decide +kernel
theorem dX7_areNumbersInside_70 : decode (zcc mX7_areNumbersInside) 70 = .ok (.iconst 0, 1) := by decide +kernel
theorem dX7_areNumbersInside_71 : decode (zcc mX7_areNumbersInside) 71 = .ok (.ireturn, 1) := by decide +kernel
theorem dX7_areNumbersInside_72 : decode (zcc mX7_areNumbersInside) 72 = .ok (.iconst 1, 1) := by decide +kernel
theorem dX7_areNumbersInside_73 : decode (zcc mX7_areNumbersInside) 73 = .ok (.ireturn, 1) := by decide +kernel
theorem dX7_dropFindings_0 : decode (zcc mX7_dropFindings) 0 = .ok (.aload_n 0, 1) := by decide +kernel
theorem dX7_dropFindings_1 : decode (zcc mX7_dropFindings) 1 = .ok (.iconst 0, 1) := by decide +kernel
theorem dX7_dropFindings_2 : decode (zcc mX7_dropFindings) 2 = .ok (.putfield 178, 3) := by decide +kernel
theorem dX7_dropFindings_5 : decode (zcc mX7_dropFindings) 5 = .ok (.aload_n 0, 1) := by decide +kernel
theorem dX7_dropFindings_6 : decode (zcc mX7_dropFindings) 6 = .ok (.iconst 0, 1) := by decide +kernel
theorem dX7_dropFindings_7 : decode (zcc mX7_dropFindings) 7 = .ok (.putfield 197, 3) := by decide +kernel
theorem dX7_dropFindings_10 : decode (zcc mX7_dropFindings) 10 = .ok (.return_, 1) := by decide +kernel
theorem dX7_dropFindingsOfMachine_0 : decode (zcc mX7_dropFindingsOfMachine) 0 = .ok (.iconst 0, 1) := by decide +kernel
theorem dX7_dropFindingsOfMachine_1 : decode (zcc mX7_dropFindingsOfMachine) 1 = .ok (.istore_n 2, 1) := by decide +kernel
theorem dX7_dropFindingsOfMachine_2 : decode (zcc mX7_dropFindingsOfMachine) 2 = .ok (.iload_n 2, 1) := by decide +kernel
theorem dX7_dropFindingsOfMachine_3 : decode (zcc mX7_dropFindingsOfMachine) 3 = .ok (.aload_n 0, 1) := by decide +kernel
theorem dX7_dropFindingsOfMachine_4 : decode (zcc mX7_dropFindingsOfMachine) 4 = .ok (.getfield 58, 3) := by decide +kernel
theorem dX7_dropFindingsOfMachine_7 : decode (zcc mX7_dropFindingsOfMachine) 7 = .ok (.if_icmp .ge 31, 3) := by decide +kernel
theorem dX7_dropFindingsOfMachine_10 : decode (zcc mX7_dropFindingsOfMachine) 10 = .ok (.aload_n 0, 1) := by decide +kernel
theorem dX7_dropFindingsOfMachine_11 : decode (zcc mX7_dropFindingsOfMachine) 11 = .ok (.getfield 42, 3) := by decide +kernel
theorem dX7_dropFindingsOfMachine_14 : decode (zcc mX7_dropFindingsOfMachine) 14 = .ok (.iload_n 2, 1) := by decide +kernel
theorem dX7_dropFindingsOfMachine_15 : decode (zcc mX7_dropFindingsOfMachine) 15 = .ok (.aaload, 1) := by decide +kernel
theorem dX7_dropFindingsOfMachine_16 : decode (zcc mX7_dropFindingsOfMachine) 16 = .ok (.iload_n 1, 1) := by decide +kernel
theorem dX7_dropFindingsOfMachine_17 : decode (zcc mX7_dropFindingsOfMachine) 17 = .ok (.invokevirtual 227, 3) := by decide +kernel
theorem dX7_dropFindingsOfMachine_20 : decode (zcc mX7_dropFindingsOfMachine) 20 = .ok (.ifCond .eq 12, 3) := by decide +kernel
theorem dX7_dropFindingsOfMachine_23 : decode (zcc mX7_dropFindingsOfMachine) 23 = .ok (.aload_n 0, 1) := by decide +kernel
theorem dX7_dropFindingsOfMachine_24 : decode (zcc mX7_dropFindingsOfMachine) 24 = .ok (.getfield 42, 3) := by decide +kernel
theorem dX7_dropFindingsOfMachine_27 : decode (zcc mX7_dropFindingsOfMachine) 27 = .ok (.iload_n 2, 1) := by decide +kernel
theorem dX7_dropFindingsOfMachine_28 : decode (zcc mX7_dropFindingsOfMachine) 28 = .ok (.aaload, 1) := by decide +kernel
theorem dX7_dropFindingsOfMachine_29 : decode (zcc mX7_dropFindingsOfMachine) 29 = .ok (.invokevirtual 104, 3) := by decide +kernel
theorem dX7_dropFindingsOfMachine_32 : decode (zcc mX7_dropFindingsOfMachine) 32 = .ok (.iinc 2 1, 3) := by decide +kernel
theorem dX7_dropFindingsOfMachine_35 : decode (zcc mX7_dropFindingsOfMachine) 35 = .ok (.goto (-33), 3) := by decide +kernel
theorem dX7_dropFindingsOfMachine_38 : decode (zcc mX7_dropFindingsOfMachine) 38 = .ok (.aload_n 0, 1) := by decide +kernel
theorem dX7_dropFindingsOfMachine_39 : decode (zcc mX7_dropFindingsOfMachine) 39 = .ok (.invokevirtual 75, 3) := by decide +kernel
theorem dX7_dropFindingsOfMachine_42 : decode (zcc mX7_dropFindingsOfMachine) 42 = .ok (.return_, 1) := by decide +kernel
theorem dX7_dropWays_0 : decode (zcc mX7_dropWays) 0 = .ok (.aload_n 0, 1) := by decide +kernel
theorem dX7_dropWays_1 : decode (zcc mX7_dropWays) 1 = .ok (.getfield 21, 3) := by decide +kernel
theorem dX7_dropWays_4 : decode (zcc mX7_dropWays) 4 = .ok (.invokevirtual 208, 3) := by decide +kernel
theorem dX7_dropWays_7 : decode (zcc mX7_dropWays) 7 = .ok (.aload_n 0, 1) := by decide +kernel
theorem dX7_dropWays_8 : decode (zcc mX7_dropWays) 8 = .ok (.getfield 25, 3) := by decide +kernel
theorem dX7_dropWays_11 : decode (zcc mX7_dropWays) 11 = .ok (.invokevirtual 208, 3) := by decide +kernel
theorem dX7_dropWays_14 : decode (zcc mX7_dropWays) 14 = .ok (.iconst 0, 1) := by decide +kernel
theorem dX7_dropWays_15 : decode (zcc mX7_dropWays) 15 = .ok (.istore_n 1, 1) := by decide +kernel
theorem dX7_dropWays_16 : decode (zcc mX7_dropWays) 16 = .ok (.iload_n 1, 1) := by decide +kernel
theorem dX7_dropWays_17 : decode (zcc mX7_dropWays) 17 = .ok (.aload_n 0, 1) := by decide +kernel
theorem dX7_dropWays_18 : decode (zcc mX7_dropWays) 18 = .ok (.getfield 58, 3) := by decide +kernel
theorem dX7_dropWays_21 : decode (zcc mX7_dropWays) 21 = .ok (.if_icmp .ge 18, 3) := by decide +kernel
theorem dX7_dropWays_24 : decode (zcc mX7_dropWays) 24 = .ok (.aload_n 0, 1) := by decide +kernel
theorem dX7_dropWays_25 : decode (zcc mX7_dropWays) 25 = .ok (.getfield 42, 3) := by decide +kernel
theorem dX7_dropWays_28 : decode (zcc mX7_dropWays) 28 = .ok (.iload_n 1, 1) := by decide +kernel
theorem dX7_dropWays_29 : decode (zcc mX7_dropWays) 29 = .ok (.aaload, 1) := by decide +kernel
theorem dX7_dropWays_30 : decode (zcc mX7_dropWays) 30 = .ok (.invokevirtual 104, 3) := by decide +kernel
theorem dX7_dropWays_33 : decode (zcc mX7_dropWays) 33 = .ok (.iinc 1 1, 3) := by decide +kernel
theorem dX7_dropWays_36 : decode (zcc mX7_dropWays) 36 = .ok (.goto (-20), 3) := by decide +kernel
theorem dX7_dropWays_39 : decode (zcc mX7_dropWays) 39 = .ok (.return_, 1) := by decide +kernel
theorem dX7_takeInHand_0 : decode (zcc mX7_takeInHand) 0 = .ok (.aload_n 0, 1) := by decide +kernel
theorem dX7_takeInHand_1 : decode (zcc mX7_takeInHand) 1 = .ok (.invokevirtual 164, 3) := by decide +kernel
theorem dX7_takeInHand_4 : decode (zcc mX7_takeInHand) 4 = .ok (.istore_n 2, 1) := by decide +kernel
theorem dX7_takeInHand_5 : decode (zcc mX7_takeInHand) 5 = .ok (.iload_n 1, 1) := by decide +kernel
theorem dX7_takeInHand_6 : decode (zcc mX7_takeInHand) 6 = .ok (.istore_n 3, 1) := by decide +kernel
theorem dX7_takeInHand_7 : decode (zcc mX7_takeInHand) 7 = .ok (.iconst 0, 1) := by decide +kernel
theorem dX7_takeInHand_8 : decode (zcc mX7_takeInHand) 8 = .ok (.istore 4, 2) := by decide +kernel
theorem dX7_takeInHand_10 : decode (zcc mX7_takeInHand) 10 = .ok (.iload 4, 2) := by decide +kernel
theorem dX7_takeInHand_12 : decode (zcc mX7_takeInHand) 12 = .ok (.bipush 125, 2) := by decide +kernel
theorem dX7_takeInHand_14 : decode (zcc mX7_takeInHand) 14 = .ok (.if_icmp .ge 66, 3) := by decide +kernel
theorem dX7_takeInHand_17 : decode (zcc mX7_takeInHand) 17 = .ok (.iload_n 3, 1) := by decide +kernel
theorem dX7_takeInHand_18 : decode (zcc mX7_takeInHand) 18 = .ok (.ifCond .lt 62, 3) := by decide +kernel
theorem dX7_takeInHand_21 : decode (zcc mX7_takeInHand) 21 = .ok (.aload_n 0, 1) := by decide +kernel
theorem dX7_takeInHand_22 : decode (zcc mX7_takeInHand) 22 = .ok (.iload 4, 2) := by decide +kernel
theorem dX7_takeInHand_24 : decode (zcc mX7_takeInHand) 24 = .ok (.iload_n 2, 1) := by decide +kernel
theorem dX7_takeInHand_25 : decode (zcc mX7_takeInHand) 25 = .ok (.invokevirtual 168, 3) := by decide +kernel
theorem dX7_takeInHand_28 : decode (zcc mX7_takeInHand) 28 = .ok (.lstore 5, 2) := by decide +kernel
theorem dX7_takeInHand_30 : decode (zcc mX7_takeInHand) 30 = .ok (.lload 5, 2) := by decide +kernel
theorem dX7_takeInHand_32 : decode (zcc mX7_takeInHand) 32 = .ok (.invokestatic 172, 3) := by decide +kernel
theorem dX7_takeInHand_35 : decode (zcc mX7_takeInHand) 35 = .ok (.istore 7, 2) := by decide +kernel
theorem dX7_takeInHand_37 : decode (zcc mX7_takeInHand) 37 = .ok (.iload_n 3, 1) := by decide +kernel
theorem dX7_takeInHand_38 : decode (zcc mX7_takeInHand) 38 = .ok (.iload 7, 2) := by decide +kernel
theorem dX7_takeInHand_40 : decode (zcc mX7_takeInHand) 40 = .ok (.if_icmp .ge 29, 3) := by decide +kernel
theorem dX7_takeInHand_43 : decode (zcc mX7_takeInHand) 43 = .ok (.aload_n 0, 1) := by decide +kernel
theorem dX7_takeInHand_44 : decode (zcc mX7_takeInHand) 44 = .ok (.getfield 25, 3) := by decide +kernel
theorem dX7_takeInHand_47 : decode (zcc mX7_takeInHand) 47 = .ok (.iload 4, 2) := by decide +kernel
theorem dX7_takeInHand_49 : decode (zcc mX7_takeInHand) 49 = .ok (.bipush 64, 2) := by decide +kernel
theorem dX7_takeInHand_51 : decode (zcc mX7_takeInHand) 51 = .ok (.imul, 1) := by decide +kernel
theorem dX7_takeInHand_52 : decode (zcc mX7_takeInHand) 52 = .ok (.lload 5, 2) := by decide +kernel
theorem dX7_takeInHand_54 : decode (zcc mX7_takeInHand) 54 = .ok (.iload_n 3, 1) := by decide +kernel
theorem dX7_takeInHand_55 : decode (zcc mX7_takeInHand) 55 = .ok (.invokestatic 230, 3) := by decide +kernel
theorem dX7_takeInHand_58 : decode (zcc mX7_takeInHand) 58 = .ok (.iadd, 1) := by decide +kernel
theorem dX7_takeInHand_59 : decode (zcc mX7_takeInHand) 59 = .ok (.invokevirtual 234, 3) := by decide +kernel
theorem dX7_takeInHand_62 : decode (zcc mX7_takeInHand) 62 = .ok (.aload_n 0, 1) := by decide +kernel
theorem dX7_takeInHand_63 : decode (zcc mX7_takeInHand) 63 = .ok (.iconst 1, 1) := by decide +kernel
theorem dX7_takeInHand_64 : decode (zcc mX7_takeInHand) 64 = .ok (.putfield 178, 3) := by decide +kernel
theorem dX7_takeInHand_67 : decode (zcc mX7_takeInHand) 67 = .ok (.iconst 1, 1) := by decide +kernel
theorem dX7_takeInHand_68 : decode (zcc mX7_takeInHand) 68 = .ok (.ireturn, 1) := by decide +kernel
theorem dX7_takeInHand_69 : decode (zcc mX7_takeInHand) 69 = .ok (.iload_n 3, 1) := by decide +kernel
theorem dX7_takeInHand_70 : decode (zcc mX7_takeInHand) 70 = .ok (.iload 7, 2) := by decide +kernel
theorem dX7_takeInHand_72 : decode (zcc mX7_takeInHand) 72 = .ok (.isub, 1) := by decide +kernel
theorem dX7_takeInHand_73 : decode (zcc mX7_takeInHand) 73 = .ok (.istore_n 3, 1) := by decide +kernel
theorem dX7_takeInHand_74 : decode (zcc mX7_takeInHand) 74 = .ok (.iinc 4 1, 3) := by decide +kernel
theorem dX7_takeInHand_77 : decode (zcc mX7_takeInHand) 77 = .ok (.goto (-67), 3) := by decide +kernel
theorem dX7_takeInHand_80 : decode (zcc mX7_takeInHand) 80 = .ok (.iconst 0, 1) := by decide +kernel
theorem dX7_takeInHand_81 : decode (zcc mX7_takeInHand) 81 = .ok (.ireturn, 1) := by decide +kernel
theorem dX7_countingFormulas_0 : decode (zcc mX7_countingFormulas) 0 = .ok (.iconst 0, 1) := by decide +kernel
theorem dX7_countingFormulas_1 : decode (zcc mX7_countingFormulas) 1 = .ok (.istore_n 1, 1) := by decide +kernel
theorem dX7_countingFormulas_2 : decode (zcc mX7_countingFormulas) 2 = .ok (.iconst 0, 1) := by decide +kernel
theorem dX7_countingFormulas_3 : decode (zcc mX7_countingFormulas) 3 = .ok (.istore_n 2, 1) := by decide +kernel
theorem dX7_countingFormulas_4 : decode (zcc mX7_countingFormulas) 4 = .ok (.iload_n 2, 1) := by decide +kernel
theorem dX7_countingFormulas_5 : decode (zcc mX7_countingFormulas) 5 = .ok (.aload_n 0, 1) := by decide +kernel
theorem dX7_countingFormulas_6 : decode (zcc mX7_countingFormulas) 6 = .ok (.getfield 58, 3) := by decide +kernel
theorem dX7_countingFormulas_9 : decode (zcc mX7_countingFormulas) 9 = .ok (.if_icmp .ge 27, 3) := by decide +kernel
theorem dX7_countingFormulas_12 : decode (zcc mX7_countingFormulas) 12 = .ok (.aload_n 0, 1) := by decide +kernel
theorem dX7_countingFormulas_13 : decode (zcc mX7_countingFormulas) 13 = .ok (.getfield 42, 3) := by decide +kernel
theorem dX7_countingFormulas_16 : decode (zcc mX7_countingFormulas) 16 = .ok (.iload_n 2, 1) := by decide +kernel
theorem dX7_countingFormulas_17 : decode (zcc mX7_countingFormulas) 17 = .ok (.aaload, 1) := by decide +kernel
theorem dX7_countingFormulas_18 : decode (zcc mX7_countingFormulas) 18 = .ok (.getfield 157, 3) := by decide +kernel
theorem dX7_countingFormulas_21 : decode (zcc mX7_countingFormulas) 21 = .ok (.ifCond .ne 9, 3) := by decide +kernel
theorem dX7_countingFormulas_24 : decode (zcc mX7_countingFormulas) 24 = .ok (.iload_n 1, 1) := by decide +kernel
theorem dX7_countingFormulas_25 : decode (zcc mX7_countingFormulas) 25 = .ok (.iconst 1, 1) := by decide +kernel
theorem dX7_countingFormulas_26 : decode (zcc mX7_countingFormulas) 26 = .ok (.iload_n 2, 1) := by decide +kernel
theorem dX7_countingFormulas_27 : decode (zcc mX7_countingFormulas) 27 = .ok (.ishl, 1) := by decide +kernel
theorem dX7_countingFormulas_28 : decode (zcc mX7_countingFormulas) 28 = .ok (.ior, 1) := by decide +kernel
theorem dX7_countingFormulas_29 : decode (zcc mX7_countingFormulas) 29 = .ok (.istore_n 1, 1) := by decide +kernel
