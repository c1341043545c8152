set_option maxRecDepth 100000 in
set_option maxHeartbeats 8000000 in
theorem i_Model (g : Nat → zE) (hk : g 86 = .inr (8, [.int 0, .int 0, .null, .int 0, .int 0, .null, .null, .int 0, .null, .null, .null, .int 0, .null, .null, .null, .null, .null, .null, .null, .int 0, .null, .null, .int 0, .null, .null, .null, .null, .null, .null, .int 0, .null, .null])) : zC yX8_init mX8_init 1 23 533 [.ref 86] 86 g (fun v N2 g2 => v = none ∧ N2 = 109 ∧ (∀ j, 86 ≤ j → j ≤ 109 → g2 j = cE j) ∧ ∀ j, j < 86 → g2 j = g j) := by
  have n0 : (86 : Nat) ≠ 87 := by decide
  have n1 : (86 : Nat) ≠ 88 := by decide
  have n2 : (86 : Nat) ≠ 89 := by decide
  have n3 : (86 : Nat) ≠ 90 := by decide
  have n4 : (86 : Nat) ≠ 91 := by decide
  have n5 : (86 : Nat) ≠ 92 := by decide
  have n6 : (86 : Nat) ≠ 93 := by decide
  have n7 : (86 : Nat) ≠ 94 := by decide
  have n8 : (86 : Nat) ≠ 95 := by decide
  have n9 : (86 : Nat) ≠ 96 := by decide
  have n10 : (86 : Nat) ≠ 97 := by decide
  have n11 : (86 : Nat) ≠ 98 := by decide
  have n12 : (86 : Nat) ≠ 99 := by decide
  have n13 : (86 : Nat) ≠ 100 := by decide
  have n14 : (86 : Nat) ≠ 101 := by decide
  have n15 : (86 : Nat) ≠ 102 := by decide
  have n16 : (86 : Nat) ≠ 103 := by decide
  have n17 : (86 : Nat) ≠ 104 := by decide
  have n18 : (86 : Nat) ≠ 105 := by decide
  have n19 : (86 : Nat) ≠ 106 := by decide
  have n20 : (86 : Nat) ≠ 107 := by decide
  have n21 : (86 : Nat) ≠ 108 := by decide
  have n22 : (86 : Nat) ≠ 109 := by decide
  refine zC_of (lv := [some (.ref 86)]) (by decide +kernel) rfl (fun _ => rfl) rfl (Nat.le_of_ble_eq_true rfl) ?_
  refine q_aload_n dX8_init_0 rfl ?_
  refine q_objInit dX8_init_1 ml_X8_1 (by omega) (Nat.le_of_ble_eq_true rfl) ?_
  refine q_aload_n dX8_init_4 rfl ?_
  refine q_iconst (v := 2) dX8_init_5 rfl ?_
  refine q_puti 0 dX8_init_6 (hk) (by omega) (by omega) rfl (by decide) fl_X8_7 rfl (tyX8_ok 0 (by decide)) (Nat.le_of_ble_eq_true rfl) ?_
  dsimp only [List.set]
  refine q_aload_n dX8_init_9 rfl ?_
  refine q_iconst (v := 4) dX8_init_10 rfl ?_
  refine q_newa (t := 0) (n := 4) (a0 := (4, .inl (fun _ => 0))) dX8_init_11 ac_int rfl (fun _ => rfl) (fun _ _ => rfl) (fun _ => rfl) (fun _ _ => rfl) (by decide) rfl (by decide) (by omega) (by omega) ?_
  refine q_putr 2 dX8_init_13 ((vu_n n0).trans (vu_e)) (by omega) (by omega) rfl (by decide) fl_X8_13 rfl rfl rfl (tyX8_ok 2 (by decide)) (fun _ => rfl) (fun _ => rfl) (Nat.le_of_ble_eq_true rfl) ?_
  dsimp only [List.set]
  refine q_aload_n dX8_init_16 rfl ?_
  refine q_iconst (v := 1) dX8_init_17 rfl ?_
  refine q_puti 3 dX8_init_18 (vu_e) (by omega) (by omega) rfl (by decide) fl_X8_17 rfl (tyX8_ok 3 (by decide)) (Nat.le_of_ble_eq_true rfl) ?_
  dsimp only [List.set]
  refine q_aload_n dX8_init_21 rfl ?_
  refine q_bipush (v := 12) dX8_init_22 rfl ?_
  refine q_newa (t := 0) (n := 12) (a0 := (12, .inl (fun _ => 0))) dX8_init_24 ac_int rfl (fun _ => rfl) (fun _ _ => rfl) (fun _ => rfl) (fun _ _ => rfl) (by decide) rfl (by decide) (by omega) (by omega) ?_
  refine q_putr 5 dX8_init_26 ((vu_n n1).trans (vu_e)) (by omega) (by omega) rfl (by decide) fl_X8_20 rfl rfl rfl (tyX8_ok 5 (by decide)) (fun _ => rfl) (fun _ => rfl) (Nat.le_of_ble_eq_true rfl) ?_
  dsimp only [List.set]
  refine q_aload_n dX8_init_29 rfl ?_
  refine q_bipush (v := 72) dX8_init_30 rfl ?_
  refine q_newa (t := 0) (n := 72) (a0 := (72, .inl (fun _ => 0))) dX8_init_32 ac_int rfl (fun _ => rfl) (fun _ _ => rfl) (fun _ => rfl) (fun _ _ => rfl) (by decide) rfl (by decide) (by omega) (by omega) ?_
  refine q_putr 6 dX8_init_34 ((vu_n n2).trans (vu_e)) (by omega) (by omega) rfl (by decide) fl_X8_23 rfl rfl rfl (tyX8_ok 6 (by decide)) (fun _ => rfl) (fun _ => rfl) (Nat.le_of_ble_eq_true rfl) ?_
  dsimp only [List.set]
  refine q_aload_n dX8_init_37 rfl ?_
  refine q_iconst (v := 3) dX8_init_38 rfl ?_
  refine q_newa (t := 0) (n := 3) (a0 := (3, .inl (fun _ => 0))) dX8_init_39 ac_int rfl (fun _ => rfl) (fun _ _ => rfl) (fun _ => rfl) (fun _ _ => rfl) (by decide) rfl (by decide) (by omega) (by omega) ?_
  refine q_putr 8 dX8_init_41 ((vu_n n3).trans (vu_e)) (by omega) (by omega) rfl (by decide) fl_X8_26 rfl rfl rfl (tyX8_ok 8 (by decide)) (fun _ => rfl) (fun _ => rfl) (Nat.le_of_ble_eq_true rfl) ?_
  dsimp only [List.set]
  refine q_aload_n dX8_init_44 rfl ?_
  refine q_bipush (v := 54) dX8_init_45 rfl ?_
  refine q_newa (t := 0) (n := 54) (a0 := (54, .inl (fun _ => 0))) dX8_init_47 ac_int rfl (fun _ => rfl) (fun _ _ => rfl) (fun _ => rfl) (fun _ _ => rfl) (by decide) rfl (by decide) (by omega) (by omega) ?_
  refine q_putr 9 dX8_init_49 ((vu_n n4).trans (vu_e)) (by omega) (by omega) rfl (by decide) fl_X8_29 rfl rfl rfl (tyX8_ok 9 (by decide)) (fun _ => rfl) (fun _ => rfl) (Nat.le_of_ble_eq_true rfl) ?_
  dsimp only [List.set]
  refine q_aload_n dX8_init_52 rfl ?_
  refine q_bipush (v := 18) dX8_init_53 rfl ?_
  refine q_newa (t := 2) (n := 18) (a0 := (18, .inl (fun _ => 0))) dX8_init_55 ac_boolean rfl (fun _ => rfl) (fun _ _ => rfl) (fun _ => rfl) (fun _ _ => rfl) (by decide) rfl (by decide) (by omega) (by omega) ?_
  refine q_putr 10 dX8_init_57 ((vu_n n5).trans (vu_e)) (by omega) (by omega) rfl (by decide) fl_X8_32 rfl rfl rfl (tyX8_ok 10 (by decide)) (fun _ => rfl) (fun _ => rfl) (Nat.le_of_ble_eq_true rfl) ?_
  dsimp only [List.set]
  refine q_aload_n dX8_init_60 rfl ?_
  refine q_bipush (v := 10) dX8_init_61 rfl ?_
  refine q_newa (t := 0) (n := 10) (a0 := (10, .inl (fun _ => 0))) dX8_init_63 ac_int rfl (fun _ => rfl) (fun _ _ => rfl) (fun _ => rfl) (fun _ _ => rfl) (by decide) rfl (by decide) (by omega) (by omega) ?_
  refine q_putr 12 dX8_init_65 ((vu_n n6).trans (vu_e)) (by omega) (by omega) rfl (by decide) fl_X8_36 rfl rfl rfl (tyX8_ok 12 (by decide)) (fun _ => rfl) (fun _ => rfl) (Nat.le_of_ble_eq_true rfl) ?_
  dsimp only [List.set]
  refine q_aload_n dX8_init_68 rfl ?_
  refine q_bipush (v := 10) dX8_init_69 rfl ?_
  refine q_newa (t := 0) (n := 10) (a0 := (10, .inl (fun _ => 0))) dX8_init_71 ac_int rfl (fun _ => rfl) (fun _ _ => rfl) (fun _ => rfl) (fun _ _ => rfl) (by decide) rfl (by decide) (by omega) (by omega) ?_
  refine q_putr 13 dX8_init_73 ((vu_n n7).trans (vu_e)) (by omega) (by omega) rfl (by decide) fl_X8_39 rfl rfl rfl (tyX8_ok 13 (by decide)) (fun _ => rfl) (fun _ => rfl) (Nat.le_of_ble_eq_true rfl) ?_
  dsimp only [List.set]
  refine q_aload_n dX8_init_76 rfl ?_
  refine q_bipush (v := 10) dX8_init_77 rfl ?_
  refine q_newa (t := 0) (n := 10) (a0 := (10, .inl (fun _ => 0))) dX8_init_79 ac_int rfl (fun _ => rfl) (fun _ _ => rfl) (fun _ => rfl) (fun _ _ => rfl) (by decide) rfl (by decide) (by omega) (by omega) ?_
  refine q_putr 14 dX8_init_81 ((vu_n n8).trans (vu_e)) (by omega) (by omega) rfl (by decide) fl_X8_42 rfl rfl rfl (tyX8_ok 14 (by decide)) (fun _ => rfl) (fun _ => rfl) (Nat.le_of_ble_eq_true rfl) ?_
  dsimp only [List.set]
  refine q_aload_n dX8_init_84 rfl ?_
  refine q_bipush (v := 10) dX8_init_85 rfl ?_
  refine q_newa (t := 0) (n := 10) (a0 := (10, .inl (fun _ => 0))) dX8_init_87 ac_int rfl (fun _ => rfl) (fun _ _ => rfl) (fun _ => rfl) (fun _ _ => rfl) (by decide) rfl (by decide) (by omega) (by omega) ?_
  refine q_putr 15 dX8_init_89 ((vu_n n9).trans (vu_e)) (by omega) (by omega) rfl (by decide) fl_X8_45 rfl rfl rfl (tyX8_ok 15 (by decide)) (fun _ => rfl) (fun _ => rfl) (Nat.le_of_ble_eq_true rfl) ?_
  dsimp only [List.set]
  refine q_aload_n dX8_init_92 rfl ?_
  refine q_bipush (v := 10) dX8_init_93 rfl ?_
  refine q_newa (t := 0) (n := 10) (a0 := (10, .inl (fun _ => 0))) dX8_init_95 ac_int rfl (fun _ => rfl) (fun _ _ => rfl) (fun _ => rfl) (fun _ _ => rfl) (by decide) rfl (by decide) (by omega) (by omega) ?_
  refine q_putr 16 dX8_init_97 ((vu_n n10).trans (vu_e)) (by omega) (by omega) rfl (by decide) fl_X8_48 rfl rfl rfl (tyX8_ok 16 (by decide)) (fun _ => rfl) (fun _ => rfl) (Nat.le_of_ble_eq_true rfl) ?_
  dsimp only [List.set]
  refine q_aload_n dX8_init_100 rfl ?_
  refine q_bipush (v := 10) dX8_init_101 rfl ?_
  refine q_newa (t := 2) (n := 10) (a0 := (10, .inl (fun _ => 0))) dX8_init_103 ac_boolean rfl (fun _ => rfl) (fun _ _ => rfl) (fun _ => rfl) (fun _ _ => rfl) (by decide) rfl (by decide) (by omega) (by omega) ?_
  refine q_putr 17 dX8_init_105 ((vu_n n11).trans (vu_e)) (by omega) (by omega) rfl (by decide) fl_X8_51 rfl rfl rfl (tyX8_ok 17 (by decide)) (fun _ => rfl) (fun _ => rfl) (Nat.le_of_ble_eq_true rfl) ?_
  dsimp only [List.set]
  refine q_aload_n dX8_init_108 rfl ?_
  refine q_bipush (v := 10) dX8_init_109 rfl ?_
  refine q_newa (t := 2) (n := 10) (a0 := (10, .inl (fun _ => 0))) dX8_init_111 ac_boolean rfl (fun _ => rfl) (fun _ _ => rfl) (fun _ => rfl) (fun _ _ => rfl) (by decide) rfl (by decide) (by omega) (by omega) ?_
  refine q_putr 18 dX8_init_113 ((vu_n n12).trans (vu_e)) (by omega) (by omega) rfl (by decide) fl_X8_54 rfl rfl rfl (tyX8_ok 18 (by decide)) (fun _ => rfl) (fun _ => rfl) (Nat.le_of_ble_eq_true rfl) ?_
  dsimp only [List.set]
  refine q_aload_n dX8_init_116 rfl ?_
  refine q_iconst (v := 4) dX8_init_117 rfl ?_
  refine q_newa (t := 0) (n := 4) (a0 := (4, .inl (fun _ => 0))) dX8_init_118 ac_int rfl (fun _ => rfl) (fun _ _ => rfl) (fun _ => rfl) (fun _ _ => rfl) (by decide) rfl (by decide) (by omega) (by omega) ?_
  refine q_putr 20 dX8_init_120 ((vu_n n13).trans (vu_e)) (by omega) (by omega) rfl (by decide) fl_X8_57 rfl rfl rfl (tyX8_ok 20 (by decide)) (fun _ => rfl) (fun _ => rfl) (Nat.le_of_ble_eq_true rfl) ?_
  dsimp only [List.set]
  refine q_aload_n dX8_init_123 rfl ?_
  refine q_bipush (v := 20) dX8_init_124 rfl ?_
  refine q_newa (t := 0) (n := 20) (a0 := (20, .inl (fun _ => 0))) dX8_init_126 ac_int rfl (fun _ => rfl) (fun _ _ => rfl) (fun _ => rfl) (fun _ _ => rfl) (by decide) rfl (by decide) (by omega) (by omega) ?_
  refine q_putr 21 dX8_init_128 ((vu_n n14).trans (vu_e)) (by omega) (by omega) rfl (by decide) fl_X8_60 rfl rfl rfl (tyX8_ok 21 (by decide)) (fun _ => rfl) (fun _ => rfl) (Nat.le_of_ble_eq_true rfl) ?_
  dsimp only [List.set]
  refine q_aload_n dX8_init_131 rfl ?_
  refine q_bipush (v := 10) dX8_init_132 rfl ?_
  refine q_newa (t := 2) (n := 10) (a0 := (10, .inl (fun _ => 0))) dX8_init_134 ac_boolean rfl (fun _ => rfl) (fun _ _ => rfl) (fun _ => rfl) (fun _ _ => rfl) (by decide) rfl (by decide) (by omega) (by omega) ?_
  refine q_putr 23 dX8_init_136 ((vu_n n15).trans (vu_e)) (by omega) (by omega) rfl (by decide) fl_X8_63 rfl rfl rfl (tyX8_ok 23 (by decide)) (fun _ => rfl) (fun _ => rfl) (Nat.le_of_ble_eq_true rfl) ?_
  dsimp only [List.set]
  refine q_aload_n dX8_init_139 rfl ?_
  refine q_iconst (v := 4) dX8_init_140 rfl ?_
  refine q_newa (t := 0) (n := 4) (a0 := (4, .inl (fun _ => 0))) dX8_init_141 ac_int rfl (fun _ => rfl) (fun _ _ => rfl) (fun _ => rfl) (fun _ _ => rfl) (by decide) rfl (by decide) (by omega) (by omega) ?_
  refine q_putr 24 dX8_init_143 ((vu_n n16).trans (vu_e)) (by omega) (by omega) rfl (by decide) fl_X8_66 rfl rfl rfl (tyX8_ok 24 (by decide)) (fun _ => rfl) (fun _ => rfl) (Nat.le_of_ble_eq_true rfl) ?_
  dsimp only [List.set]
  refine q_aload_n dX8_init_146 rfl ?_
  refine q_bipush (v := 20) dX8_init_147 rfl ?_
  refine q_newa (t := 0) (n := 20) (a0 := (20, .inl (fun _ => 0))) dX8_init_149 ac_int rfl (fun _ => rfl) (fun _ _ => rfl) (fun _ => rfl) (fun _ _ => rfl) (by decide) rfl (by decide) (by omega) (by omega) ?_
  refine q_putr 25 dX8_init_151 ((vu_n n17).trans (vu_e)) (by omega) (by omega) rfl (by decide) fl_X8_69 rfl rfl rfl (tyX8_ok 25 (by decide)) (fun _ => rfl) (fun _ => rfl) (Nat.le_of_ble_eq_true rfl) ?_
  dsimp only [List.set]
  refine q_aload_n dX8_init_154 rfl ?_
  refine q_sipush (v := 128) dX8_init_155 rfl ?_
  refine q_newa (t := 0) (n := 128) (a0 := (128, .inl (fun _ => 0))) dX8_init_158 ac_int rfl (fun _ => rfl) (fun _ _ => rfl) (fun _ => rfl) (fun _ _ => rfl) (by decide) rfl (by decide) (by omega) (by omega) ?_
  refine q_putr 26 dX8_init_160 ((vu_n n18).trans (vu_e)) (by omega) (by omega) rfl (by decide) fl_X8_72 rfl rfl rfl (tyX8_ok 26 (by decide)) (fun _ => rfl) (fun _ => rfl) (Nat.le_of_ble_eq_true rfl) ?_
  dsimp only [List.set]
  refine q_aload_n dX8_init_163 rfl ?_
  refine q_iconst (v := 4) dX8_init_164 rfl ?_
  refine q_newa (t := 0) (n := 4) (a0 := (4, .inl (fun _ => 0))) dX8_init_165 ac_int rfl (fun _ => rfl) (fun _ _ => rfl) (fun _ => rfl) (fun _ _ => rfl) (by decide) rfl (by decide) (by omega) (by omega) ?_
  refine q_putr 27 dX8_init_167 ((vu_n n19).trans (vu_e)) (by omega) (by omega) rfl (by decide) fl_X8_75 rfl rfl rfl (tyX8_ok 27 (by decide)) (fun _ => rfl) (fun _ => rfl) (Nat.le_of_ble_eq_true rfl) ?_
  dsimp only [List.set]
  refine q_aload_n dX8_init_170 rfl ?_
  refine q_bipush (v := 64) dX8_init_171 rfl ?_
  refine q_newa (t := 0) (n := 64) (a0 := (64, .inl (fun _ => 0))) dX8_init_173 ac_int rfl (fun _ => rfl) (fun _ _ => rfl) (fun _ => rfl) (fun _ _ => rfl) (by decide) rfl (by decide) (by omega) (by omega) ?_
  refine q_putr 28 dX8_init_175 ((vu_n n20).trans (vu_e)) (by omega) (by omega) rfl (by decide) fl_X8_78 rfl rfl rfl (tyX8_ok 28 (by decide)) (fun _ => rfl) (fun _ => rfl) (Nat.le_of_ble_eq_true rfl) ?_
  dsimp only [List.set]
  refine q_aload_n dX8_init_178 rfl ?_
  refine q_bipush (v := 10) dX8_init_179 rfl ?_
  refine q_newa (t := 2) (n := 10) (a0 := (10, .inl (fun _ => 0))) dX8_init_181 ac_boolean rfl (fun _ => rfl) (fun _ _ => rfl) (fun _ => rfl) (fun _ _ => rfl) (by decide) rfl (by decide) (by omega) (by omega) ?_
  refine q_putr 30 dX8_init_183 ((vu_n n21).trans (vu_e)) (by omega) (by omega) rfl (by decide) fl_X8_81 rfl rfl rfl (tyX8_ok 30 (by decide)) (fun _ => rfl) (fun _ => rfl) (Nat.le_of_ble_eq_true rfl) ?_
  dsimp only [List.set]
  refine q_aload_n dX8_init_186 rfl ?_
  refine q_bipush (v := 36) dX8_init_187 rfl ?_
  refine q_newa (t := 0) (n := 36) (a0 := (36, .inl (fun _ => 0))) dX8_init_189 ac_int rfl (fun _ => rfl) (fun _ _ => rfl) (fun _ => rfl) (fun _ _ => rfl) (by decide) rfl (by decide) (by omega) (by omega) ?_
  refine q_putr 31 dX8_init_191 ((vu_n n22).trans (vu_e)) (by omega) (by omega) rfl (by decide) fl_X8_84 rfl rfl rfl (tyX8_ok 31 (by decide)) (fun _ => rfl) (fun _ => rfl) (Nat.le_of_ble_eq_true rfl) ?_
  dsimp only [List.set]
  refine q_ret (v := none) ⟨rfl, rfl, fun j a b => ?_, fun j a => ?_⟩ ⟨dX8_init_194, rfl⟩ (Nat.le_refl _) (Nat.le_refl _)
  · rcases (show j = 86 ∨ j = 87 ∨ j = 88 ∨ j = 89 ∨ j = 90 ∨ j = 91 ∨ j = 92 ∨ j = 93 ∨ j = 94 ∨ j = 95 ∨ j = 96 ∨ j = 97 ∨ j = 98 ∨ j = 99 ∨ j = 100 ∨ j = 101 ∨ j = 102 ∨ j = 103 ∨ j = 104 ∨ j = 105 ∨ j = 106 ∨ j = 107 ∨ j = 108 ∨ j = 109 by omega) with rfl | rfl | rfl | rfl | rfl | rfl | rfl | rfl | rfl | rfl | rfl | rfl | rfl | rfl | rfl | rfl | rfl | rfl | rfl | rfl | rfl | rfl | rfl | rfl <;> rfl
  · simp only [va_up]
    repeat (rw [if_neg (by omega)])
