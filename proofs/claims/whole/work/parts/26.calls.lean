/-! call sites, by the tables -/
theorem pfI : parseFieldDescriptor "I" = some .int := by decide +kernel
theorem pfZ : parseFieldDescriptor "Z" = some .boolean := by decide +kernel
theorem pd_yX7_init : yX7_init.cls ≠ "java/lang/invoke/MethodHandle" ∧ yX7_init.cls ≠ "java/lang/invoke/VarHandle" ∧ (parseMethodDescriptor yX7_init.desc).map (fun d => d.parameters.length) = some 0 := ⟨by decide +kernel, by decide +kernel, by decide +kernel⟩
theorem pn_yX7_init : plainName yX7_init.cls = true := by decide +kernel
theorem kI_L_9 : zLI RL 9 yX7_init mX7_init 0 := ⟨⟨ml_L_9, in_RX7, co_yX7_init, pd_yX7_init, Nat.le_of_ble_eq_true rfl⟩, im_yX7_init, rfl, rfl⟩
theorem pd_yX6_init : yX6_init.cls ≠ "java/lang/invoke/MethodHandle" ∧ yX6_init.cls ≠ "java/lang/invoke/VarHandle" ∧ (parseMethodDescriptor yX6_init.desc).map (fun d => d.parameters.length) = some 1 := ⟨by decide +kernel, by decide +kernel, by decide +kernel⟩
theorem pn_yX6_init : plainName yX6_init.cls = true := by decide +kernel
theorem kI_X7_18 : zLI RX7 18 yX6_init mX6_init 1 := ⟨⟨ml_X7_18, in_RX6, co_yX6_init, pd_yX6_init, Nat.le_of_ble_eq_true rfl⟩, im_yX6_init, rfl, rfl⟩
theorem pd_yX1_init : yX1_init.cls ≠ "java/lang/invoke/MethodHandle" ∧ yX1_init.cls ≠ "java/lang/invoke/VarHandle" ∧ (parseMethodDescriptor yX1_init.desc).map (fun d => d.parameters.length) = some 2 := ⟨by decide +kernel, by decide +kernel, by decide +kernel⟩
theorem pn_yX1_init : plainName yX1_init.cls = true := by decide +kernel
theorem kI_X7_48 : zLI RX7 48 yX1_init mX1_init 2 := ⟨⟨ml_X7_48, in_RX1, co_yX1_init, pd_yX1_init, Nat.le_of_ble_eq_true rfl⟩, im_yX1_init, rfl, rfl⟩
theorem pd_yX8_init : yX8_init.cls ≠ "java/lang/invoke/MethodHandle" ∧ yX8_init.cls ≠ "java/lang/invoke/VarHandle" ∧ (parseMethodDescriptor yX8_init.desc).map (fun d => d.parameters.length) = some 0 := ⟨by decide +kernel, by decide +kernel, by decide +kernel⟩
theorem pn_yX8_init : plainName yX8_init.cls = true := by decide +kernel
theorem kI_L_12 : zLI RL 12 yX8_init mX8_init 0 := ⟨⟨ml_L_12, in_RX8, co_yX8_init, pd_yX8_init, Nat.le_of_ble_eq_true rfl⟩, im_yX8_init, rfl, rfl⟩
theorem pd_yX7_clear : yX7_clear.cls ≠ "java/lang/invoke/MethodHandle" ∧ yX7_clear.cls ≠ "java/lang/invoke/VarHandle" ∧ (parseMethodDescriptor yX7_clear.desc).map (fun d => d.parameters.length) = some 1 := ⟨by decide +kernel, by decide +kernel, by decide +kernel⟩
theorem pn_yX7_clear : plainName yX7_clear.cls = true := by decide +kernel
theorem kV_L_13 : zLV RL 13 yX7_clear mX7_clear 1 := ⟨⟨ml_L_13, in_RX7, co_yX7_clear, pd_yX7_clear, Nat.le_of_ble_eq_true rfl⟩, im_yX7_clear, se_yX7_clear⟩
theorem pd_yX4_restart : yX4_restart.cls ≠ "java/lang/invoke/MethodHandle" ∧ yX4_restart.cls ≠ "java/lang/invoke/VarHandle" ∧ (parseMethodDescriptor yX4_restart.desc).map (fun d => d.parameters.length) = some 1 := ⟨by decide +kernel, by decide +kernel, by decide +kernel⟩
theorem pn_yX4_restart : plainName yX4_restart.cls = true := by decide +kernel
theorem kV_X7_62 : zLV RX7 62 yX4_restart mX4_restart 1 := ⟨⟨ml_X7_62, in_RX4, co_yX4_restart, pd_yX4_restart, Nat.le_of_ble_eq_true rfl⟩, im_yX4_restart, se_yX4_restart⟩
theorem pd_yX7_dropWays : yX7_dropWays.cls ≠ "java/lang/invoke/MethodHandle" ∧ yX7_dropWays.cls ≠ "java/lang/invoke/VarHandle" ∧ (parseMethodDescriptor yX7_dropWays.desc).map (fun d => d.parameters.length) = some 0 := ⟨by decide +kernel, by decide +kernel, by decide +kernel⟩
theorem pn_yX7_dropWays : plainName yX7_dropWays.cls = true := by decide +kernel
theorem kV_X7_72 : zLV RX7 72 yX7_dropWays mX7_dropWays 0 := ⟨⟨ml_X7_72, in_RX7, co_yX7_dropWays, pd_yX7_dropWays, Nat.le_of_ble_eq_true rfl⟩, im_yX7_dropWays, se_yX7_dropWays⟩
theorem pd_yX6_restart : yX6_restart.cls ≠ "java/lang/invoke/MethodHandle" ∧ yX6_restart.cls ≠ "java/lang/invoke/VarHandle" ∧ (parseMethodDescriptor yX6_restart.desc).map (fun d => d.parameters.length) = some 0 := ⟨by decide +kernel, by decide +kernel, by decide +kernel⟩
theorem pn_yX6_restart : plainName yX6_restart.cls = true := by decide +kernel
theorem kV_X7_208 : zLV RX7 208 yX6_restart mX6_restart 0 := ⟨⟨ml_X7_208, in_RX6, co_yX6_restart, pd_yX6_restart, Nat.le_of_ble_eq_true rfl⟩, im_yX6_restart, se_yX6_restart⟩
theorem pd_yJ7_fill_53178 : yJ7_fill_53178.cls ≠ "java/lang/invoke/MethodHandle" ∧ yJ7_fill_53178.cls ≠ "java/lang/invoke/VarHandle" ∧ (parseMethodDescriptor yJ7_fill_53178.desc).map (fun d => d.parameters.length) = some 2 := ⟨by decide +kernel, by decide +kernel, by decide +kernel⟩
theorem pn_yJ7_fill_53178 : plainName yJ7_fill_53178.cls = true := by decide +kernel
theorem kS_X6_29 : zLS RX6 29 yJ7_fill_53178 mJ7_fill_53178 2 := ⟨⟨ml_X6_29, in_RJ7, co_yJ7_fill_53178, pd_yJ7_fill_53178, Nat.le_of_ble_eq_true rfl⟩, st_yJ7_fill_53178⟩
theorem pd_yX6_layOut : yX6_layOut.cls ≠ "java/lang/invoke/MethodHandle" ∧ yX6_layOut.cls ≠ "java/lang/invoke/VarHandle" ∧ (parseMethodDescriptor yX6_layOut.desc).map (fun d => d.parameters.length) = some 0 := ⟨by decide +kernel, by decide +kernel, by decide +kernel⟩
theorem pn_yX6_layOut : plainName yX6_layOut.cls = true := by decide +kernel
theorem kV_X6_38 : zLV RX6 38 yX6_layOut mX6_layOut 0 := ⟨⟨ml_X6_38, in_RX6, co_yX6_layOut, pd_yX6_layOut, Nat.le_of_ble_eq_true rfl⟩, im_yX6_layOut, se_yX6_layOut⟩
theorem pd_yX0_forget : yX0_forget.cls ≠ "java/lang/invoke/MethodHandle" ∧ yX0_forget.cls ≠ "java/lang/invoke/VarHandle" ∧ (parseMethodDescriptor yX0_forget.desc).map (fun d => d.parameters.length) = some 0 := ⟨by decide +kernel, by decide +kernel, by decide +kernel⟩
theorem pn_yX0_forget : plainName yX0_forget.cls = true := by decide +kernel
theorem kV_X7_104 : zLV RX7 104 yX0_forget mX0_forget 0 := ⟨⟨ml_X7_104, in_RX0, co_yX0_forget, pd_yX0_forget, Nat.le_of_ble_eq_true rfl⟩, im_yX0_forget, se_yX0_forget⟩
theorem pd_yJ7_fill_d0a16 : yJ7_fill_d0a16.cls ≠ "java/lang/invoke/MethodHandle" ∧ yJ7_fill_d0a16.cls ≠ "java/lang/invoke/VarHandle" ∧ (parseMethodDescriptor yJ7_fill_d0a16.desc).map (fun d => d.parameters.length) = some 2 := ⟨by decide +kernel, by decide +kernel, by decide +kernel⟩
theorem pn_yJ7_fill_d0a16 : plainName yJ7_fill_d0a16.cls = true := by decide +kernel
theorem kS_X0_44 : zLS RX0 44 yJ7_fill_d0a16 mJ7_fill_d0a16 2 := ⟨⟨ml_X0_44, in_RJ7, co_yJ7_fill_d0a16, pd_yJ7_fill_d0a16, Nat.le_of_ble_eq_true rfl⟩, st_yJ7_fill_d0a16⟩
theorem pd_yX7_dropFindings : yX7_dropFindings.cls ≠ "java/lang/invoke/MethodHandle" ∧ yX7_dropFindings.cls ≠ "java/lang/invoke/VarHandle" ∧ (parseMethodDescriptor yX7_dropFindings.desc).map (fun d => d.parameters.length) = some 0 := ⟨by decide +kernel, by decide +kernel, by decide +kernel⟩
theorem pn_yX7_dropFindings : plainName yX7_dropFindings.cls = true := by decide +kernel
theorem kV_X7_75 : zLV RX7 75 yX7_dropFindings mX7_dropFindings 0 := ⟨⟨ml_X7_75, in_RX7, co_yX7_dropFindings, pd_yX7_dropFindings, Nat.le_of_ble_eq_true rfl⟩, im_yX7_dropFindings, se_yX7_dropFindings⟩
theorem pd_yX8_clear : yX8_clear.cls ≠ "java/lang/invoke/MethodHandle" ∧ yX8_clear.cls ≠ "java/lang/invoke/VarHandle" ∧ (parseMethodDescriptor yX8_clear.desc).map (fun d => d.parameters.length) = some 1 := ⟨by decide +kernel, by decide +kernel, by decide +kernel⟩
theorem pn_yX8_clear : plainName yX8_clear.cls = true := by decide +kernel
theorem kV_L_17 : zLV RL 17 yX8_clear mX8_clear 1 := ⟨⟨ml_L_17, in_RX8, co_yX8_clear, pd_yX8_clear, Nat.le_of_ble_eq_true rfl⟩, im_yX8_clear, se_yX8_clear⟩
theorem pd_yX8_in : yX8_in.cls ≠ "java/lang/invoke/MethodHandle" ∧ yX8_in.cls ≠ "java/lang/invoke/VarHandle" ∧ (parseMethodDescriptor yX8_in.desc).map (fun d => d.parameters.length) = some 3 := ⟨by decide +kernel, by decide +kernel, by decide +kernel⟩
theorem pn_yX8_in : plainName yX8_in.cls = true := by decide +kernel
theorem kS_X8_94 : zLS RX8 94 yX8_in mX8_in 3 := ⟨⟨ml_X8_94, in_RX8, co_yX8_in, pd_yX8_in, Nat.le_of_ble_eq_true rfl⟩, st_yX8_in⟩
theorem pd_yX8_changed : yX8_changed.cls ≠ "java/lang/invoke/MethodHandle" ∧ yX8_changed.cls ≠ "java/lang/invoke/VarHandle" ∧ (parseMethodDescriptor yX8_changed.desc).map (fun d => d.parameters.length) = some 0 := ⟨by decide +kernel, by decide +kernel, by decide +kernel⟩
theorem pn_yX8_changed : plainName yX8_changed.cls = true := by decide +kernel
theorem kV_X8_110 : zLV RX8 110 yX8_changed mX8_changed 0 := ⟨⟨ml_X8_110, in_RX8, co_yX8_changed, pd_yX8_changed, Nat.le_of_ble_eq_true rfl⟩, im_yX8_changed, se_yX8_changed⟩
theorem pd_yX7_text : yX7_text.cls ≠ "java/lang/invoke/MethodHandle" ∧ yX7_text.cls ≠ "java/lang/invoke/VarHandle" ∧ (parseMethodDescriptor yX7_text.desc).map (fun d => d.parameters.length) = some 1 := ⟨by decide +kernel, by decide +kernel, by decide +kernel⟩
theorem pn_yX7_text : plainName yX7_text.cls = true := by decide +kernel
theorem kV_L_18 : zLV RL 18 yX7_text mX7_text 1 := ⟨⟨ml_L_18, in_RX7, co_yX7_text, pd_yX7_text, Nat.le_of_ble_eq_true rfl⟩, im_yX7_text, se_yX7_text⟩
theorem pd_yX4_hasRoomFor : yX4_hasRoomFor.cls ≠ "java/lang/invoke/MethodHandle" ∧ yX4_hasRoomFor.cls ≠ "java/lang/invoke/VarHandle" ∧ (parseMethodDescriptor yX4_hasRoomFor.desc).map (fun d => d.parameters.length) = some 1 := ⟨by decide +kernel, by decide +kernel, by decide +kernel⟩
theorem pn_yX4_hasRoomFor : plainName yX4_hasRoomFor.cls = true := by decide +kernel
theorem kV_X7_78 : zLV RX7 78 yX4_hasRoomFor mX4_hasRoomFor 1 := ⟨⟨ml_X7_78, in_RX4, co_yX4_hasRoomFor, pd_yX4_hasRoomFor, Nat.le_of_ble_eq_true rfl⟩, im_yX4_hasRoomFor, se_yX4_hasRoomFor⟩
theorem pd_yX4_rowsUpTo : yX4_rowsUpTo.cls ≠ "java/lang/invoke/MethodHandle" ∧ yX4_rowsUpTo.cls ≠ "java/lang/invoke/VarHandle" ∧ (parseMethodDescriptor yX4_rowsUpTo.desc).map (fun d => d.parameters.length) = some 1 := ⟨by decide +kernel, by decide +kernel, by decide +kernel⟩
theorem pn_yX4_rowsUpTo : plainName yX4_rowsUpTo.cls = true := by decide +kernel
theorem kV_X4_25 : zLV RX4 25 yX4_rowsUpTo mX4_rowsUpTo 1 := ⟨⟨ml_X4_25, in_RX4, co_yX4_rowsUpTo, pd_yX4_rowsUpTo, Nat.le_of_ble_eq_true rfl⟩, im_yX4_rowsUpTo, se_yX4_rowsUpTo⟩
theorem pd_yX4_add : yX4_add.cls ≠ "java/lang/invoke/MethodHandle" ∧ yX4_add.cls ≠ "java/lang/invoke/VarHandle" ∧ (parseMethodDescriptor yX4_add.desc).map (fun d => d.parameters.length) = some 1 := ⟨by decide +kernel, by decide +kernel, by decide +kernel⟩
theorem pn_yX4_add : plainName yX4_add.cls = true := by decide +kernel
theorem kV_X7_82 : zLV RX7 82 yX4_add mX4_add 1 := ⟨⟨ml_X7_82, in_RX4, co_yX4_add, pd_yX4_add, Nat.le_of_ble_eq_true rfl⟩, im_yX4_add, se_yX4_add⟩
theorem pd_yX8_text : yX8_text.cls ≠ "java/lang/invoke/MethodHandle" ∧ yX8_text.cls ≠ "java/lang/invoke/VarHandle" ∧ (parseMethodDescriptor yX8_text.desc).map (fun d => d.parameters.length) = some 1 := ⟨by decide +kernel, by decide +kernel, by decide +kernel⟩
theorem pn_yX8_text : plainName yX8_text.cls = true := by decide +kernel
theorem kV_L_21 : zLV RL 21 yX8_text mX8_text 1 := ⟨⟨ml_L_21, in_RX8, co_yX8_text, pd_yX8_text, Nat.le_of_ble_eq_true rfl⟩, im_yX8_text, se_yX8_text⟩
theorem pd_yX7_term : yX7_term.cls ≠ "java/lang/invoke/MethodHandle" ∧ yX7_term.cls ≠ "java/lang/invoke/VarHandle" ∧ (parseMethodDescriptor yX7_term.desc).map (fun d => d.parameters.length) = some 0 := ⟨by decide +kernel, by decide +kernel, by decide +kernel⟩
theorem pn_yX7_term : plainName yX7_term.cls = true := by decide +kernel
theorem kV_L_22 : zLV RL 22 yX7_term mX7_term 0 := ⟨⟨ml_L_22, in_RX7, co_yX7_term, pd_yX7_term, Nat.le_of_ble_eq_true rfl⟩, im_yX7_term, se_yX7_term⟩
theorem pd_yX5_restart : yX5_restart.cls ≠ "java/lang/invoke/MethodHandle" ∧ yX5_restart.cls ≠ "java/lang/invoke/VarHandle" ∧ (parseMethodDescriptor yX5_restart.desc).map (fun d => d.parameters.length) = some 0 := ⟨by decide +kernel, by decide +kernel, by decide +kernel⟩
theorem pn_yX5_restart : plainName yX5_restart.cls = true := by decide +kernel
theorem kV_X7_88 : zLV RX7 88 yX5_restart mX5_restart 0 := ⟨⟨ml_X7_88, in_RX5, co_yX5_restart, pd_yX5_restart, Nat.le_of_ble_eq_true rfl⟩, im_yX5_restart, se_yX5_restart⟩
theorem pd_yX8_term : yX8_term.cls ≠ "java/lang/invoke/MethodHandle" ∧ yX8_term.cls ≠ "java/lang/invoke/VarHandle" ∧ (parseMethodDescriptor yX8_term.desc).map (fun d => d.parameters.length) = some 0 := ⟨by decide +kernel, by decide +kernel, by decide +kernel⟩
theorem pn_yX8_term : plainName yX8_term.cls = true := by decide +kernel
theorem kV_L_26 : zLV RL 26 yX8_term mX8_term 0 := ⟨⟨ml_L_26, in_RX8, co_yX8_term, pd_yX8_term, Nat.le_of_ble_eq_true rfl⟩, im_yX8_term, se_yX8_term⟩
theorem pd_yX7_part : yX7_part.cls ≠ "java/lang/invoke/MethodHandle" ∧ yX7_part.cls ≠ "java/lang/invoke/VarHandle" ∧ (parseMethodDescriptor yX7_part.desc).map (fun d => d.parameters.length) = some 2 := ⟨by decide +kernel, by decide +kernel, by decide +kernel⟩
theorem pn_yX7_part : plainName yX7_part.cls = true := by decide +kernel
theorem kV_L_27 : zLV RL 27 yX7_part mX7_part 2 := ⟨⟨ml_L_27, in_RX7, co_yX7_part, pd_yX7_part, Nat.le_of_ble_eq_true rfl⟩, im_yX7_part, se_yX7_part⟩
theorem pd_yX7_isTerm : yX7_isTerm.cls ≠ "java/lang/invoke/MethodHandle" ∧ yX7_isTerm.cls ≠ "java/lang/invoke/VarHandle" ∧ (parseMethodDescriptor yX7_isTerm.desc).map (fun d => d.parameters.length) = some 1 := ⟨by decide +kernel, by decide +kernel, by decide +kernel⟩
theorem pn_yX7_isTerm : plainName yX7_isTerm.cls = true := by decide +kernel
theorem kV_X7_90 : zLV RX7 90 yX7_isTerm mX7_isTerm 1 := ⟨⟨ml_X7_90, in_RX7, co_yX7_isTerm, pd_yX7_isTerm, Nat.le_of_ble_eq_true rfl⟩, im_yX7_isTerm, se_yX7_isTerm⟩
theorem pd_yX4_isLetter : yX4_isLetter.cls ≠ "java/lang/invoke/MethodHandle" ∧ yX4_isLetter.cls ≠ "java/lang/invoke/VarHandle" ∧ (parseMethodDescriptor yX4_isLetter.desc).map (fun d => d.parameters.length) = some 1 := ⟨by decide +kernel, by decide +kernel, by decide +kernel⟩
theorem pn_yX4_isLetter : plainName yX4_isLetter.cls = true := by decide +kernel
theorem kV_X7_93 : zLV RX7 93 yX4_isLetter mX4_isLetter 1 := ⟨⟨ml_X7_93, in_RX4, co_yX4_isLetter, pd_yX4_isLetter, Nat.le_of_ble_eq_true rfl⟩, im_yX4_isLetter, se_yX4_isLetter⟩
theorem pd_yX4_isText : yX4_isText.cls ≠ "java/lang/invoke/MethodHandle" ∧ yX4_isText.cls ≠ "java/lang/invoke/VarHandle" ∧ (parseMethodDescriptor yX4_isText.desc).map (fun d => d.parameters.length) = some 1 := ⟨by decide +kernel, by decide +kernel, by decide +kernel⟩
theorem pn_yX4_isText : plainName yX4_isText.cls = true := by decide +kernel
theorem kV_X7_96 : zLV RX7 96 yX4_isText mX4_isText 1 := ⟨⟨ml_X7_96, in_RX4, co_yX4_isText, pd_yX4_isText, Nat.le_of_ble_eq_true rfl⟩, im_yX4_isText, se_yX4_isText⟩
theorem pd_yX5_add : yX5_add.cls ≠ "java/lang/invoke/MethodHandle" ∧ yX5_add.cls ≠ "java/lang/invoke/VarHandle" ∧ (parseMethodDescriptor yX5_add.desc).map (fun d => d.parameters.length) = some 1 := ⟨by decide +kernel, by decide +kernel, by decide +kernel⟩
theorem pn_yX5_add : plainName yX5_add.cls = true := by decide +kernel
theorem kV_X7_99 : zLV RX7 99 yX5_add mX5_add 1 := ⟨⟨ml_X7_99, in_RX5, co_yX5_add, pd_yX5_add, Nat.le_of_ble_eq_true rfl⟩, im_yX5_add, se_yX5_add⟩
theorem pd_yX0_isAboutTerm : yX0_isAboutTerm.cls ≠ "java/lang/invoke/MethodHandle" ∧ yX0_isAboutTerm.cls ≠ "java/lang/invoke/VarHandle" ∧ (parseMethodDescriptor yX0_isAboutTerm.desc).map (fun d => d.parameters.length) = some 1 := ⟨by decide +kernel, by decide +kernel, by decide +kernel⟩
theorem pn_yX0_isAboutTerm : plainName yX0_isAboutTerm.cls = true := by decide +kernel
theorem kV_X7_101 : zLV RX7 101 yX0_isAboutTerm mX0_isAboutTerm 1 := ⟨⟨ml_X7_101, in_RX0, co_yX0_isAboutTerm, pd_yX0_isAboutTerm, Nat.le_of_ble_eq_true rfl⟩, im_yX0_isAboutTerm, se_yX0_isAboutTerm⟩
theorem pd_yX0_hasSecondTerm : yX0_hasSecondTerm.cls ≠ "java/lang/invoke/MethodHandle" ∧ yX0_hasSecondTerm.cls ≠ "java/lang/invoke/VarHandle" ∧ (parseMethodDescriptor yX0_hasSecondTerm.desc).map (fun d => d.parameters.length) = some 0 := ⟨by decide +kernel, by decide +kernel, by decide +kernel⟩
theorem pn_yX0_hasSecondTerm : plainName yX0_hasSecondTerm.cls = true := by decide +kernel
theorem kV_X0_56 : zLV RX0 56 yX0_hasSecondTerm mX0_hasSecondTerm 0 := ⟨⟨ml_X0_56, in_RX0, co_yX0_hasSecondTerm, pd_yX0_hasSecondTerm, Nat.le_of_ble_eq_true rfl⟩, im_yX0_hasSecondTerm, se_yX0_hasSecondTerm⟩
theorem pd_yX8_part : yX8_part.cls ≠ "java/lang/invoke/MethodHandle" ∧ yX8_part.cls ≠ "java/lang/invoke/VarHandle" ∧ (parseMethodDescriptor yX8_part.desc).map (fun d => d.parameters.length) = some 2 := ⟨by decide +kernel, by decide +kernel, by decide +kernel⟩
theorem pn_yX8_part : plainName yX8_part.cls = true := by decide +kernel
theorem kV_L_31 : zLV RL 31 yX8_part mX8_part 2 := ⟨⟨ml_L_31, in_RX8, co_yX8_part, pd_yX8_part, Nat.le_of_ble_eq_true rfl⟩, im_yX8_part, se_yX8_part⟩
theorem pd_yX7_machine : yX7_machine.cls ≠ "java/lang/invoke/MethodHandle" ∧ yX7_machine.cls ≠ "java/lang/invoke/VarHandle" ∧ (parseMethodDescriptor yX7_machine.desc).map (fun d => d.parameters.length) = some 1 := ⟨by decide +kernel, by decide +kernel, by decide +kernel⟩
theorem pn_yX7_machine : plainName yX7_machine.cls = true := by decide +kernel
theorem kV_L_32 : zLV RL 32 yX7_machine mX7_machine 1 := ⟨⟨ml_L_32, in_RX7, co_yX7_machine, pd_yX7_machine, Nat.le_of_ble_eq_true rfl⟩, im_yX7_machine, se_yX7_machine⟩
theorem pd_yX2_restart : yX2_restart.cls ≠ "java/lang/invoke/MethodHandle" ∧ yX2_restart.cls ≠ "java/lang/invoke/VarHandle" ∧ (parseMethodDescriptor yX2_restart.desc).map (fun d => d.parameters.length) = some 1 := ⟨by decide +kernel, by decide +kernel, by decide +kernel⟩
theorem pn_yX2_restart : plainName yX2_restart.cls = true := by decide +kernel
theorem kV_X7_110 : zLV RX7 110 yX2_restart mX2_restart 1 := ⟨⟨ml_X7_110, in_RX2, co_yX2_restart, pd_yX2_restart, Nat.le_of_ble_eq_true rfl⟩, im_yX2_restart, se_yX2_restart⟩
theorem kS_X2_22 : zLS RX2 22 yJ7_fill_53178 mJ7_fill_53178 2 := ⟨⟨ml_X2_22, in_RJ7, co_yJ7_fill_53178, pd_yJ7_fill_53178, Nat.le_of_ble_eq_true rfl⟩, st_yJ7_fill_53178⟩
theorem pd_yX8_machine : yX8_machine.cls ≠ "java/lang/invoke/MethodHandle" ∧ yX8_machine.cls ≠ "java/lang/invoke/VarHandle" ∧ (parseMethodDescriptor yX8_machine.desc).map (fun d => d.parameters.length) = some 1 := ⟨by decide +kernel, by decide +kernel, by decide +kernel⟩
theorem pn_yX8_machine : plainName yX8_machine.cls = true := by decide +kernel
theorem kV_L_35 : zLV RL 35 yX8_machine mX8_machine 1 := ⟨⟨ml_L_35, in_RX8, co_yX8_machine, pd_yX8_machine, Nat.le_of_ble_eq_true rfl⟩, im_yX8_machine, se_yX8_machine⟩
theorem pd_yX7_step : yX7_step.cls ≠ "java/lang/invoke/MethodHandle" ∧ yX7_step.cls ≠ "java/lang/invoke/VarHandle" ∧ (parseMethodDescriptor yX7_step.desc).map (fun d => d.parameters.length) = some 4 := ⟨by decide +kernel, by decide +kernel, by decide +kernel⟩
theorem pn_yX7_step : plainName yX7_step.cls = true := by decide +kernel
theorem kV_L_36 : zLV RL 36 yX7_step mX7_step 4 := ⟨⟨ml_L_36, in_RX7, co_yX7_step, pd_yX7_step, Nat.le_of_ble_eq_true rfl⟩, im_yX7_step, se_yX7_step⟩
theorem pd_yX7_isMachine : yX7_isMachine.cls ≠ "java/lang/invoke/MethodHandle" ∧ yX7_isMachine.cls ≠ "java/lang/invoke/VarHandle" ∧ (parseMethodDescriptor yX7_isMachine.desc).map (fun d => d.parameters.length) = some 1 := ⟨by decide +kernel, by decide +kernel, by decide +kernel⟩
theorem pn_yX7_isMachine : plainName yX7_isMachine.cls = true := by decide +kernel
theorem kV_X7_111 : zLV RX7 111 yX7_isMachine mX7_isMachine 1 := ⟨⟨ml_X7_111, in_RX7, co_yX7_isMachine, pd_yX7_isMachine, Nat.le_of_ble_eq_true rfl⟩, im_yX7_isMachine, se_yX7_isMachine⟩
theorem pd_yX2_isState : yX2_isState.cls ≠ "java/lang/invoke/MethodHandle" ∧ yX2_isState.cls ≠ "java/lang/invoke/VarHandle" ∧ (parseMethodDescriptor yX2_isState.desc).map (fun d => d.parameters.length) = some 1 := ⟨by decide +kernel, by decide +kernel, by decide +kernel⟩
theorem pn_yX2_isState : plainName yX2_isState.cls = true := by decide +kernel
theorem kV_X7_114 : zLV RX7 114 yX2_isState mX2_isState 1 := ⟨⟨ml_X7_114, in_RX2, co_yX2_isState, pd_yX2_isState, Nat.le_of_ble_eq_true rfl⟩, im_yX2_isState, se_yX2_isState⟩
theorem pd_yX2_next : yX2_next.cls ≠ "java/lang/invoke/MethodHandle" ∧ yX2_next.cls ≠ "java/lang/invoke/VarHandle" ∧ (parseMethodDescriptor yX2_next.desc).map (fun d => d.parameters.length) = some 2 := ⟨by decide +kernel, by decide +kernel, by decide +kernel⟩
theorem pn_yX2_next : plainName yX2_next.cls = true := by decide +kernel
theorem kV_X7_117 : zLV RX7 117 yX2_next mX2_next 2 := ⟨⟨ml_X7_117, in_RX2, co_yX2_next, pd_yX2_next, Nat.le_of_ble_eq_true rfl⟩, im_yX2_next, se_yX2_next⟩
theorem pd_yX2_lead : yX2_lead.cls ≠ "java/lang/invoke/MethodHandle" ∧ yX2_lead.cls ≠ "java/lang/invoke/VarHandle" ∧ (parseMethodDescriptor yX2_lead.desc).map (fun d => d.parameters.length) = some 3 := ⟨by decide +kernel, by decide +kernel, by decide +kernel⟩
theorem pn_yX2_lead : plainName yX2_lead.cls = true := by decide +kernel
theorem kV_X7_121 : zLV RX7 121 yX2_lead mX2_lead 3 := ⟨⟨ml_X7_121, in_RX2, co_yX2_lead, pd_yX2_lead, Nat.le_of_ble_eq_true rfl⟩, im_yX2_lead, se_yX2_lead⟩
theorem pd_yX7_dropFindingsOfMachine : yX7_dropFindingsOfMachine.cls ≠ "java/lang/invoke/MethodHandle" ∧ yX7_dropFindingsOfMachine.cls ≠ "java/lang/invoke/VarHandle" ∧ (parseMethodDescriptor yX7_dropFindingsOfMachine.desc).map (fun d => d.parameters.length) = some 1 := ⟨by decide +kernel, by decide +kernel, by decide +kernel⟩
theorem pn_yX7_dropFindingsOfMachine : plainName yX7_dropFindingsOfMachine.cls = true := by decide +kernel
theorem kV_X7_125 : zLV RX7 125 yX7_dropFindingsOfMachine mX7_dropFindingsOfMachine 1 := ⟨⟨ml_X7_125, in_RX7, co_yX7_dropFindingsOfMachine, pd_yX7_dropFindingsOfMachine, Nat.le_of_ble_eq_true rfl⟩, im_yX7_dropFindingsOfMachine, se_yX7_dropFindingsOfMachine⟩
theorem pd_yX0_isAboutMachine : yX0_isAboutMachine.cls ≠ "java/lang/invoke/MethodHandle" ∧ yX0_isAboutMachine.cls ≠ "java/lang/invoke/VarHandle" ∧ (parseMethodDescriptor yX0_isAboutMachine.desc).map (fun d => d.parameters.length) = some 1 := ⟨by decide +kernel, by decide +kernel, by decide +kernel⟩
theorem pn_yX0_isAboutMachine : plainName yX0_isAboutMachine.cls = true := by decide +kernel
theorem kV_X7_227 : zLV RX7 227 yX0_isAboutMachine mX0_isAboutMachine 1 := ⟨⟨ml_X7_227, in_RX0, co_yX0_isAboutMachine, pd_yX0_isAboutMachine, Nat.le_of_ble_eq_true rfl⟩, im_yX0_isAboutMachine, se_yX0_isAboutMachine⟩
theorem pd_yX8_step : yX8_step.cls ≠ "java/lang/invoke/MethodHandle" ∧ yX8_step.cls ≠ "java/lang/invoke/VarHandle" ∧ (parseMethodDescriptor yX8_step.desc).map (fun d => d.parameters.length) = some 4 := ⟨by decide +kernel, by decide +kernel, by decide +kernel⟩
theorem pn_yX8_step : plainName yX8_step.cls = true := by decide +kernel
theorem kV_L_40 : zLV RL 40 yX8_step mX8_step 4 := ⟨⟨ml_L_40, in_RX8, co_yX8_step, pd_yX8_step, Nat.le_of_ble_eq_true rfl⟩, im_yX8_step, se_yX8_step⟩
theorem pd_yX7_good : yX7_good.cls ≠ "java/lang/invoke/MethodHandle" ∧ yX7_good.cls ≠ "java/lang/invoke/VarHandle" ∧ (parseMethodDescriptor yX7_good.desc).map (fun d => d.parameters.length) = some 3 := ⟨by decide +kernel, by decide +kernel, by decide +kernel⟩
theorem pn_yX7_good : plainName yX7_good.cls = true := by decide +kernel
theorem kV_L_41 : zLV RL 41 yX7_good mX7_good 3 := ⟨⟨ml_L_41, in_RX7, co_yX7_good, pd_yX7_good, Nat.le_of_ble_eq_true rfl⟩, im_yX7_good, se_yX7_good⟩
theorem pd_yX2_isGood : yX2_isGood.cls ≠ "java/lang/invoke/MethodHandle" ∧ yX2_isGood.cls ≠ "java/lang/invoke/VarHandle" ∧ (parseMethodDescriptor yX2_isGood.desc).map (fun d => d.parameters.length) = some 1 := ⟨by decide +kernel, by decide +kernel, by decide +kernel⟩
theorem pn_yX2_isGood : plainName yX2_isGood.cls = true := by decide +kernel
theorem kV_X7_128 : zLV RX7 128 yX2_isGood mX2_isGood 1 := ⟨⟨ml_X7_128, in_RX2, co_yX2_isGood, pd_yX2_isGood, Nat.le_of_ble_eq_true rfl⟩, im_yX2_isGood, se_yX2_isGood⟩
theorem pd_yX7_asNumber : yX7_asNumber.cls ≠ "java/lang/invoke/MethodHandle" ∧ yX7_asNumber.cls ≠ "java/lang/invoke/VarHandle" ∧ (parseMethodDescriptor yX7_asNumber.desc).map (fun d => d.parameters.length) = some 1 := ⟨by decide +kernel, by decide +kernel, by decide +kernel⟩
theorem pn_yX7_asNumber : plainName yX7_asNumber.cls = true := by decide +kernel
theorem kS_X7_131 : zLS RX7 131 yX7_asNumber mX7_asNumber 1 := ⟨⟨ml_X7_131, in_RX7, co_yX7_asNumber, pd_yX7_asNumber, Nat.le_of_ble_eq_true rfl⟩, st_yX7_asNumber⟩
theorem pd_yX2_setGood : yX2_setGood.cls ≠ "java/lang/invoke/MethodHandle" ∧ yX2_setGood.cls ≠ "java/lang/invoke/VarHandle" ∧ (parseMethodDescriptor yX2_setGood.desc).map (fun d => d.parameters.length) = some 2 := ⟨by decide +kernel, by decide +kernel, by decide +kernel⟩
theorem pn_yX2_setGood : plainName yX2_setGood.cls = true := by decide +kernel
theorem kV_X7_135 : zLV RX7 135 yX2_setGood mX2_setGood 2 := ⟨⟨ml_X7_135, in_RX2, co_yX2_setGood, pd_yX2_setGood, Nat.le_of_ble_eq_true rfl⟩, im_yX2_setGood, se_yX2_setGood⟩
theorem pd_yX8_good : yX8_good.cls ≠ "java/lang/invoke/MethodHandle" ∧ yX8_good.cls ≠ "java/lang/invoke/VarHandle" ∧ (parseMethodDescriptor yX8_good.desc).map (fun d => d.parameters.length) = some 3 := ⟨by decide +kernel, by decide +kernel, by decide +kernel⟩
theorem pn_yX8_good : plainName yX8_good.cls = true := by decide +kernel
theorem kV_L_45 : zLV RL 45 yX8_good mX8_good 3 := ⟨⟨ml_L_45, in_RX8, co_yX8_good, pd_yX8_good, Nat.le_of_ble_eq_true rfl⟩, im_yX8_good, se_yX8_good⟩
theorem pd_yX7_formula : yX7_formula.cls ≠ "java/lang/invoke/MethodHandle" ∧ yX7_formula.cls ≠ "java/lang/invoke/VarHandle" ∧ (parseMethodDescriptor yX7_formula.desc).map (fun d => d.parameters.length) = some 5 := ⟨by decide +kernel, by decide +kernel, by decide +kernel⟩
theorem pn_yX7_formula : plainName yX7_formula.cls = true := by decide +kernel
theorem kV_L_46 : zLV RL 46 yX7_formula mX7_formula 5 := ⟨⟨ml_L_46, in_RX7, co_yX7_formula, pd_yX7_formula, Nat.le_of_ble_eq_true rfl⟩, im_yX7_formula, se_yX7_formula⟩
theorem pd_yX7_areOthersKnown : yX7_areOthersKnown.cls ≠ "java/lang/invoke/MethodHandle" ∧ yX7_areOthersKnown.cls ≠ "java/lang/invoke/VarHandle" ∧ (parseMethodDescriptor yX7_areOthersKnown.desc).map (fun d => d.parameters.length) = some 4 := ⟨by decide +kernel, by decide +kernel, by decide +kernel⟩
theorem pn_yX7_areOthersKnown : plainName yX7_areOthersKnown.cls = true := by decide +kernel
theorem kV_X7_139 : zLV RX7 139 yX7_areOthersKnown mX7_areOthersKnown 4 := ⟨⟨ml_X7_139, in_RX7, co_yX7_areOthersKnown, pd_yX7_areOthersKnown, Nat.le_of_ble_eq_true rfl⟩, im_yX7_areOthersKnown, se_yX7_areOthersKnown⟩
theorem pd_yX7_areNumbersInside : yX7_areNumbersInside.cls ≠ "java/lang/invoke/MethodHandle" ∧ yX7_areNumbersInside.cls ≠ "java/lang/invoke/VarHandle" ∧ (parseMethodDescriptor yX7_areNumbersInside.desc).map (fun d => d.parameters.length) = some 3 := ⟨by decide +kernel, by decide +kernel, by decide +kernel⟩
theorem pn_yX7_areNumbersInside : plainName yX7_areNumbersInside.cls = true := by decide +kernel
theorem kS_X7_143 : zLS RX7 143 yX7_areNumbersInside mX7_areNumbersInside 3 := ⟨⟨ml_X7_143, in_RX7, co_yX7_areNumbersInside, pd_yX7_areNumbersInside, Nat.le_of_ble_eq_true rfl⟩, st_yX7_areNumbersInside⟩
theorem pd_yX0_restart : yX0_restart.cls ≠ "java/lang/invoke/MethodHandle" ∧ yX0_restart.cls ≠ "java/lang/invoke/VarHandle" ∧ (parseMethodDescriptor yX0_restart.desc).map (fun d => d.parameters.length) = some 5 := ⟨by decide +kernel, by decide +kernel, by decide +kernel⟩
theorem pn_yX0_restart : plainName yX0_restart.cls = true := by decide +kernel
theorem kV_X7_147 : zLV RX7 147 yX0_restart mX0_restart 5 := ⟨⟨ml_X7_147, in_RX0, co_yX0_restart, pd_yX0_restart, Nat.le_of_ble_eq_true rfl⟩, im_yX0_restart, se_yX0_restart⟩
theorem kV_X0_41 : zLV RX0 41 yX0_forget mX0_forget 0 := ⟨⟨ml_X0_41, in_RX0, co_yX0_forget, pd_yX0_forget, Nat.le_of_ble_eq_true rfl⟩, im_yX0_forget, se_yX0_forget⟩
theorem pd_yX8_formula : yX8_formula.cls ≠ "java/lang/invoke/MethodHandle" ∧ yX8_formula.cls ≠ "java/lang/invoke/VarHandle" ∧ (parseMethodDescriptor yX8_formula.desc).map (fun d => d.parameters.length) = some 5 := ⟨by decide +kernel, by decide +kernel, by decide +kernel⟩
theorem pn_yX8_formula : plainName yX8_formula.cls = true := by decide +kernel
theorem kV_L_50 : zLV RL 50 yX8_formula mX8_formula 5 := ⟨⟨ml_L_50, in_RX8, co_yX8_formula, pd_yX8_formula, Nat.le_of_ble_eq_true rfl⟩, im_yX8_formula, se_yX8_formula⟩
theorem pd_yX8_isTerm : yX8_isTerm.cls ≠ "java/lang/invoke/MethodHandle" ∧ yX8_isTerm.cls ≠ "java/lang/invoke/VarHandle" ∧ (parseMethodDescriptor yX8_isTerm.desc).map (fun d => d.parameters.length) = some 1 := ⟨by decide +kernel, by decide +kernel, by decide +kernel⟩
theorem pn_yX8_isTerm : plainName yX8_isTerm.cls = true := by decide +kernel
theorem kV_X8_113 : zLV RX8 113 yX8_isTerm mX8_isTerm 1 := ⟨⟨ml_X8_113, in_RX8, co_yX8_isTerm, pd_yX8_isTerm, Nat.le_of_ble_eq_true rfl⟩, im_yX8_isTerm, se_yX8_isTerm⟩
theorem pd_yX7_deny : yX7_deny.cls ≠ "java/lang/invoke/MethodHandle" ∧ yX7_deny.cls ≠ "java/lang/invoke/VarHandle" ∧ (parseMethodDescriptor yX7_deny.desc).map (fun d => d.parameters.length) = some 2 := ⟨by decide +kernel, by decide +kernel, by decide +kernel⟩
theorem pn_yX7_deny : plainName yX7_deny.cls = true := by decide +kernel
theorem kV_L_51 : zLV RL 51 yX7_deny mX7_deny 2 := ⟨⟨ml_L_51, in_RX7, co_yX7_deny, pd_yX7_deny, Nat.le_of_ble_eq_true rfl⟩, im_yX7_deny, se_yX7_deny⟩
theorem pd_yX7_isFormula : yX7_isFormula.cls ≠ "java/lang/invoke/MethodHandle" ∧ yX7_isFormula.cls ≠ "java/lang/invoke/VarHandle" ∧ (parseMethodDescriptor yX7_isFormula.desc).map (fun d => d.parameters.length) = some 1 := ⟨by decide +kernel, by decide +kernel, by decide +kernel⟩
theorem pn_yX7_isFormula : plainName yX7_isFormula.cls = true := by decide +kernel
theorem kV_X7_150 : zLV RX7 150 yX7_isFormula mX7_isFormula 1 := ⟨⟨ml_X7_150, in_RX7, co_yX7_isFormula, pd_yX7_isFormula, Nat.le_of_ble_eq_true rfl⟩, im_yX7_isFormula, se_yX7_isFormula⟩
theorem pd_yX8_deny : yX8_deny.cls ≠ "java/lang/invoke/MethodHandle" ∧ yX8_deny.cls ≠ "java/lang/invoke/VarHandle" ∧ (parseMethodDescriptor yX8_deny.desc).map (fun d => d.parameters.length) = some 2 := ⟨by decide +kernel, by decide +kernel, by decide +kernel⟩
theorem pn_yX8_deny : plainName yX8_deny.cls = true := by decide +kernel
theorem kV_L_55 : zLV RL 55 yX8_deny mX8_deny 2 := ⟨⟨ml_L_55, in_RX8, co_yX8_deny, pd_yX8_deny, Nat.le_of_ble_eq_true rfl⟩, im_yX8_deny, se_yX8_deny⟩
theorem pd_yX7_leave : yX7_leave.cls ≠ "java/lang/invoke/MethodHandle" ∧ yX7_leave.cls ≠ "java/lang/invoke/VarHandle" ∧ (parseMethodDescriptor yX7_leave.desc).map (fun d => d.parameters.length) = some 2 := ⟨by decide +kernel, by decide +kernel, by decide +kernel⟩
theorem pn_yX7_leave : plainName yX7_leave.cls = true := by decide +kernel
theorem kV_L_56 : zLV RL 56 yX7_leave mX7_leave 2 := ⟨⟨ml_L_56, in_RX7, co_yX7_leave, pd_yX7_leave, Nat.le_of_ble_eq_true rfl⟩, im_yX7_leave, se_yX7_leave⟩
theorem pd_yX8_leave : yX8_leave.cls ≠ "java/lang/invoke/MethodHandle" ∧ yX8_leave.cls ≠ "java/lang/invoke/VarHandle" ∧ (parseMethodDescriptor yX8_leave.desc).map (fun d => d.parameters.length) = some 2 := ⟨by decide +kernel, by decide +kernel, by decide +kernel⟩
theorem pn_yX8_leave : plainName yX8_leave.cls = true := by decide +kernel
theorem kV_L_59 : zLV RL 59 yX8_leave mX8_leave 2 := ⟨⟨ml_L_59, in_RX8, co_yX8_leave, pd_yX8_leave, Nat.le_of_ble_eq_true rfl⟩, im_yX8_leave, se_yX8_leave⟩
theorem pd_yX7_solve : yX7_solve.cls ≠ "java/lang/invoke/MethodHandle" ∧ yX7_solve.cls ≠ "java/lang/invoke/VarHandle" ∧ (parseMethodDescriptor yX7_solve.desc).map (fun d => d.parameters.length) = some 0 := ⟨by decide +kernel, by decide +kernel, by decide +kernel⟩
theorem pn_yX7_solve : plainName yX7_solve.cls = true := by decide +kernel
theorem kV_L_60 : zLV RL 60 yX7_solve mX7_solve 0 := ⟨⟨ml_L_60, in_RX7, co_yX7_solve, pd_yX7_solve, Nat.le_of_ble_eq_true rfl⟩, im_yX7_solve, se_yX7_solve⟩
theorem pd_yX7_takeInHand : yX7_takeInHand.cls ≠ "java/lang/invoke/MethodHandle" ∧ yX7_takeInHand.cls ≠ "java/lang/invoke/VarHandle" ∧ (parseMethodDescriptor yX7_takeInHand.desc).map (fun d => d.parameters.length) = some 1 := ⟨by decide +kernel, by decide +kernel, by decide +kernel⟩
theorem pn_yX7_takeInHand : plainName yX7_takeInHand.cls = true := by decide +kernel
theorem kV_X7_160 : zLV RX7 160 yX7_takeInHand mX7_takeInHand 1 := ⟨⟨ml_X7_160, in_RX7, co_yX7_takeInHand, pd_yX7_takeInHand, Nat.le_of_ble_eq_true rfl⟩, im_yX7_takeInHand, se_yX7_takeInHand⟩
theorem pd_yX7_countingFormulas : yX7_countingFormulas.cls ≠ "java/lang/invoke/MethodHandle" ∧ yX7_countingFormulas.cls ≠ "java/lang/invoke/VarHandle" ∧ (parseMethodDescriptor yX7_countingFormulas.desc).map (fun d => d.parameters.length) = some 0 := ⟨by decide +kernel, by decide +kernel, by decide +kernel⟩
theorem pn_yX7_countingFormulas : plainName yX7_countingFormulas.cls = true := by decide +kernel
theorem kV_X7_164 : zLV RX7 164 yX7_countingFormulas mX7_countingFormulas 0 := ⟨⟨ml_X7_164, in_RX7, co_yX7_countingFormulas, pd_yX7_countingFormulas, Nat.le_of_ble_eq_true rfl⟩, im_yX7_countingFormulas, se_yX7_countingFormulas⟩
theorem pd_yX7_modelsIn : yX7_modelsIn.cls ≠ "java/lang/invoke/MethodHandle" ∧ yX7_modelsIn.cls ≠ "java/lang/invoke/VarHandle" ∧ (parseMethodDescriptor yX7_modelsIn.desc).map (fun d => d.parameters.length) = some 2 := ⟨by decide +kernel, by decide +kernel, by decide +kernel⟩
theorem pn_yX7_modelsIn : plainName yX7_modelsIn.cls = true := by decide +kernel
theorem kV_X7_168 : zLV RX7 168 yX7_modelsIn mX7_modelsIn 2 := ⟨⟨ml_X7_168, in_RX7, co_yX7_modelsIn, pd_yX7_modelsIn, Nat.le_of_ble_eq_true rfl⟩, im_yX7_modelsIn, se_yX7_modelsIn⟩
theorem pd_yX7_waysIn : yX7_waysIn.cls ≠ "java/lang/invoke/MethodHandle" ∧ yX7_waysIn.cls ≠ "java/lang/invoke/VarHandle" ∧ (parseMethodDescriptor yX7_waysIn.desc).map (fun d => d.parameters.length) = some 1 := ⟨by decide +kernel, by decide +kernel, by decide +kernel⟩
theorem pn_yX7_waysIn : plainName yX7_waysIn.cls = true := by decide +kernel
theorem kV_X7_239 : zLV RX7 239 yX7_waysIn mX7_waysIn 1 := ⟨⟨ml_X7_239, in_RX7, co_yX7_waysIn, pd_yX7_waysIn, Nat.le_of_ble_eq_true rfl⟩, im_yX7_waysIn, se_yX7_waysIn⟩
theorem pd_yX7_isIn : yX7_isIn.cls ≠ "java/lang/invoke/MethodHandle" ∧ yX7_isIn.cls ≠ "java/lang/invoke/VarHandle" ∧ (parseMethodDescriptor yX7_isIn.desc).map (fun d => d.parameters.length) = some 2 := ⟨by decide +kernel, by decide +kernel, by decide +kernel⟩
theorem pn_yX7_isIn : plainName yX7_isIn.cls = true := by decide +kernel
theorem kS_X7_204 : zLS RX7 204 yX7_isIn mX7_isIn 2 := ⟨⟨ml_X7_204, in_RX7, co_yX7_isIn, pd_yX7_isIn, Nat.le_of_ble_eq_true rfl⟩, st_yX7_isIn⟩
theorem pd_yX0_ruledOut : yX0_ruledOut.cls ≠ "java/lang/invoke/MethodHandle" ∧ yX0_ruledOut.cls ≠ "java/lang/invoke/VarHandle" ∧ (parseMethodDescriptor yX0_ruledOut.desc).map (fun d => d.parameters.length) = some 1 := ⟨by decide +kernel, by decide +kernel, by decide +kernel⟩
theorem pn_yX0_ruledOut : plainName yX0_ruledOut.cls = true := by decide +kernel
theorem kV_X7_243 : zLV RX7 243 yX0_ruledOut mX0_ruledOut 1 := ⟨⟨ml_X7_243, in_RX0, co_yX0_ruledOut, pd_yX0_ruledOut, Nat.le_of_ble_eq_true rfl⟩, im_yX0_ruledOut, se_yX0_ruledOut⟩
theorem pd_yX0_notJudged : yX0_notJudged.cls ≠ "java/lang/invoke/MethodHandle" ∧ yX0_notJudged.cls ≠ "java/lang/invoke/VarHandle" ∧ (parseMethodDescriptor yX0_notJudged.desc).map (fun d => d.parameters.length) = some 1 := ⟨by decide +kernel, by decide +kernel, by decide +kernel⟩
theorem pn_yX0_notJudged : plainName yX0_notJudged.cls = true := by decide +kernel
theorem kV_X7_246 : zLV RX7 246 yX0_notJudged mX0_notJudged 1 := ⟨⟨ml_X7_246, in_RX0, co_yX0_notJudged, pd_yX0_notJudged, Nat.le_of_ble_eq_true rfl⟩, im_yX0_notJudged, se_yX0_notJudged⟩
theorem pd_yX7_isModel : yX7_isModel.cls ≠ "java/lang/invoke/MethodHandle" ∧ yX7_isModel.cls ≠ "java/lang/invoke/VarHandle" ∧ (parseMethodDescriptor yX7_isModel.desc).map (fun d => d.parameters.length) = some 2 := ⟨by decide +kernel, by decide +kernel, by decide +kernel⟩
theorem pn_yX7_isModel : plainName yX7_isModel.cls = true := by decide +kernel
theorem kV_X7_249 : zLV RX7 249 yX7_isModel mX7_isModel 2 := ⟨⟨ml_X7_249, in_RX7, co_yX7_isModel, pd_yX7_isModel, Nat.le_of_ble_eq_true rfl⟩, im_yX7_isModel, se_yX7_isModel⟩
theorem pd_yX0_isJudged : yX0_isJudged.cls ≠ "java/lang/invoke/MethodHandle" ∧ yX0_isJudged.cls ≠ "java/lang/invoke/VarHandle" ∧ (parseMethodDescriptor yX0_isJudged.desc).map (fun d => d.parameters.length) = some 1 := ⟨by decide +kernel, by decide +kernel, by decide +kernel⟩
theorem pn_yX0_isJudged : plainName yX0_isJudged.cls = true := by decide +kernel
theorem kV_X7_252 : zLV RX7 252 yX0_isJudged mX0_isJudged 1 := ⟨⟨ml_X7_252, in_RX0, co_yX0_isJudged, pd_yX0_isJudged, Nat.le_of_ble_eq_true rfl⟩, im_yX0_isJudged, se_yX0_isJudged⟩
theorem pd_yX0_isBit : yX0_isBit.cls ≠ "java/lang/invoke/MethodHandle" ∧ yX0_isBit.cls ≠ "java/lang/invoke/VarHandle" ∧ (parseMethodDescriptor yX0_isBit.desc).map (fun d => d.parameters.length) = some 2 := ⟨by decide +kernel, by decide +kernel, by decide +kernel⟩
theorem pn_yX0_isBit : plainName yX0_isBit.cls = true := by decide +kernel
theorem kS_X0_50 : zLS RX0 50 yX0_isBit mX0_isBit 2 := ⟨⟨ml_X0_50, in_RX0, co_yX0_isBit, pd_yX0_isBit, Nat.le_of_ble_eq_true rfl⟩, st_yX0_isBit⟩
theorem pd_yX6_goTo : yX6_goTo.cls ≠ "java/lang/invoke/MethodHandle" ∧ yX6_goTo.cls ≠ "java/lang/invoke/VarHandle" ∧ (parseMethodDescriptor yX6_goTo.desc).map (fun d => d.parameters.length) = some 1 := ⟨by decide +kernel, by decide +kernel, by decide +kernel⟩
theorem pn_yX6_goTo : plainName yX6_goTo.cls = true := by decide +kernel
theorem kV_X7_234 : zLV RX7 234 yX6_goTo mX6_goTo 1 := ⟨⟨ml_X7_234, in_RX6, co_yX6_goTo, pd_yX6_goTo, Nat.le_of_ble_eq_true rfl⟩, im_yX6_goTo, se_yX6_goTo⟩
theorem kV_X6_55 : zLV RX6 55 yX6_restart mX6_restart 0 := ⟨⟨ml_X6_55, in_RX6, co_yX6_restart, pd_yX6_restart, Nat.le_of_ble_eq_true rfl⟩, im_yX6_restart, se_yX6_restart⟩
theorem pd_yX4_lengthWays : yX4_lengthWays.cls ≠ "java/lang/invoke/MethodHandle" ∧ yX4_lengthWays.cls ≠ "java/lang/invoke/VarHandle" ∧ (parseMethodDescriptor yX4_lengthWays.desc).map (fun d => d.parameters.length) = some 0 := ⟨by decide +kernel, by decide +kernel, by decide +kernel⟩
theorem pn_yX4_lengthWays : plainName yX4_lengthWays.cls = true := by decide +kernel
theorem kV_X6_58 : zLV RX6 58 yX4_lengthWays mX4_lengthWays 0 := ⟨⟨ml_X6_58, in_RX4, co_yX4_lengthWays, pd_yX4_lengthWays, Nat.le_of_ble_eq_true rfl⟩, im_yX4_lengthWays, se_yX4_lengthWays⟩
theorem pd_yX6_goToNextLengths : yX6_goToNextLengths.cls ≠ "java/lang/invoke/MethodHandle" ∧ yX6_goToNextLengths.cls ≠ "java/lang/invoke/VarHandle" ∧ (parseMethodDescriptor yX6_goToNextLengths.desc).map (fun d => d.parameters.length) = some 0 := ⟨by decide +kernel, by decide +kernel, by decide +kernel⟩
theorem pn_yX6_goToNextLengths : plainName yX6_goToNextLengths.cls = true := by decide +kernel
theorem kV_X6_62 : zLV RX6 62 yX6_goToNextLengths mX6_goToNextLengths 0 := ⟨⟨ml_X6_62, in_RX6, co_yX6_goToNextLengths, pd_yX6_goToNextLengths, Nat.le_of_ble_eq_true rfl⟩, im_yX6_goToNextLengths, se_yX6_goToNextLengths⟩
theorem pd_yX1_isSo : yX1_isSo.cls ≠ "java/lang/invoke/MethodHandle" ∧ yX1_isSo.cls ≠ "java/lang/invoke/VarHandle" ∧ (parseMethodDescriptor yX1_isSo.desc).map (fun d => d.parameters.length) = some 2 := ⟨by decide +kernel, by decide +kernel, by decide +kernel⟩
theorem pn_yX1_isSo : plainName yX1_isSo.cls = true := by decide +kernel
theorem kV_X7_187 : zLV RX7 187 yX1_isSo mX1_isSo 2 := ⟨⟨ml_X7_187, in_RX1, co_yX1_isSo, pd_yX1_isSo, Nat.le_of_ble_eq_true rfl⟩, im_yX1_isSo, se_yX1_isSo⟩
theorem pd_yX1_isLonger : yX1_isLonger.cls ≠ "java/lang/invoke/MethodHandle" ∧ yX1_isLonger.cls ≠ "java/lang/invoke/VarHandle" ∧ (parseMethodDescriptor yX1_isLonger.desc).map (fun d => d.parameters.length) = some 2 := ⟨by decide +kernel, by decide +kernel, by decide +kernel⟩
theorem pn_yX1_isLonger : plainName yX1_isLonger.cls = true := by decide +kernel
theorem kV_X1_68 : zLV RX1 68 yX1_isLonger mX1_isLonger 2 := ⟨⟨ml_X1_68, in_RX1, co_yX1_isLonger, pd_yX1_isLonger, Nat.le_of_ble_eq_true rfl⟩, im_yX1_isLonger, se_yX1_isLonger⟩
theorem pd_yX1_termAt : yX1_termAt.cls ≠ "java/lang/invoke/MethodHandle" ∧ yX1_termAt.cls ≠ "java/lang/invoke/VarHandle" ∧ (parseMethodDescriptor yX1_termAt.desc).map (fun d => d.parameters.length) = some 1 := ⟨by decide +kernel, by decide +kernel, by decide +kernel⟩
theorem pn_yX1_termAt : plainName yX1_termAt.cls = true := by decide +kernel
theorem kV_X1_47 : zLV RX1 47 yX1_termAt mX1_termAt 1 := ⟨⟨ml_X1_47, in_RX1, co_yX1_termAt, pd_yX1_termAt, Nat.le_of_ble_eq_true rfl⟩, im_yX1_termAt, se_yX1_termAt⟩
theorem pd_yX5_lengthWith : yX5_lengthWith.cls ≠ "java/lang/invoke/MethodHandle" ∧ yX5_lengthWith.cls ≠ "java/lang/invoke/VarHandle" ∧ (parseMethodDescriptor yX5_lengthWith.desc).map (fun d => d.parameters.length) = some 1 := ⟨by decide +kernel, by decide +kernel, by decide +kernel⟩
theorem pn_yX5_lengthWith : plainName yX5_lengthWith.cls = true := by decide +kernel
theorem kV_X1_51 : zLV RX1 51 yX5_lengthWith mX5_lengthWith 1 := ⟨⟨ml_X1_51, in_RX5, co_yX5_lengthWith, pd_yX5_lengthWith, Nat.le_of_ble_eq_true rfl⟩, im_yX5_lengthWith, se_yX5_lengthWith⟩
theorem pd_yX1_isOneLength : yX1_isOneLength.cls ≠ "java/lang/invoke/MethodHandle" ∧ yX1_isOneLength.cls ≠ "java/lang/invoke/VarHandle" ∧ (parseMethodDescriptor yX1_isOneLength.desc).map (fun d => d.parameters.length) = some 2 := ⟨by decide +kernel, by decide +kernel, by decide +kernel⟩
theorem pn_yX1_isOneLength : plainName yX1_isOneLength.cls = true := by decide +kernel
theorem kV_X1_72 : zLV RX1 72 yX1_isOneLength mX1_isOneLength 2 := ⟨⟨ml_X1_72, in_RX1, co_yX1_isOneLength, pd_yX1_isOneLength, Nat.le_of_ble_eq_true rfl⟩, im_yX1_isOneLength, se_yX1_isOneLength⟩
theorem pd_yX3_write : yX3_write.cls ≠ "java/lang/invoke/MethodHandle" ∧ yX3_write.cls ≠ "java/lang/invoke/VarHandle" ∧ (parseMethodDescriptor yX3_write.desc).map (fun d => d.parameters.length) = some 2 := ⟨by decide +kernel, by decide +kernel, by decide +kernel⟩
theorem pn_yX3_write : plainName yX3_write.cls = true := by decide +kernel
theorem kV_X1_75 : zLV RX1 75 yX3_write mX3_write 2 := ⟨⟨ml_X1_75, in_RX3, co_yX3_write, pd_yX3_write, Nat.le_of_ble_eq_true rfl⟩, im_yX3_write, se_yX3_write⟩
theorem pd_yX3_addLetter : yX3_addLetter.cls ≠ "java/lang/invoke/MethodHandle" ∧ yX3_addLetter.cls ≠ "java/lang/invoke/VarHandle" ∧ (parseMethodDescriptor yX3_addLetter.desc).map (fun d => d.parameters.length) = some 1 := ⟨by decide +kernel, by decide +kernel, by decide +kernel⟩
theorem pn_yX3_addLetter : plainName yX3_addLetter.cls = true := by decide +kernel
theorem kV_X3_25 : zLV RX3 25 yX3_addLetter mX3_addLetter 1 := ⟨⟨ml_X3_25, in_RX3, co_yX3_addLetter, pd_yX3_addLetter, Nat.le_of_ble_eq_true rfl⟩, im_yX3_addLetter, se_yX3_addLetter⟩
theorem pd_yX3_addRow : yX3_addRow.cls ≠ "java/lang/invoke/MethodHandle" ∧ yX3_addRow.cls ≠ "java/lang/invoke/VarHandle" ∧ (parseMethodDescriptor yX3_addRow.desc).map (fun d => d.parameters.length) = some 3 := ⟨by decide +kernel, by decide +kernel, by decide +kernel⟩
theorem pn_yX3_addRow : plainName yX3_addRow.cls = true := by decide +kernel
theorem kV_X3_40 : zLV RX3 40 yX3_addRow mX3_addRow 3 := ⟨⟨ml_X3_40, in_RX3, co_yX3_addRow, pd_yX3_addRow, Nat.le_of_ble_eq_true rfl⟩, im_yX3_addRow, se_yX3_addRow⟩
theorem kV_X1_79 : zLV RX1 79 yX0_hasSecondTerm mX0_hasSecondTerm 0 := ⟨⟨ml_X1_79, in_RX0, co_yX0_hasSecondTerm, pd_yX0_hasSecondTerm, Nat.le_of_ble_eq_true rfl⟩, im_yX0_hasSecondTerm, se_yX0_hasSecondTerm⟩
theorem pd_yX3_isSame : yX3_isSame.cls ≠ "java/lang/invoke/MethodHandle" ∧ yX3_isSame.cls ≠ "java/lang/invoke/VarHandle" ∧ (parseMethodDescriptor yX3_isSame.desc).map (fun d => d.parameters.length) = some 1 := ⟨by decide +kernel, by decide +kernel, by decide +kernel⟩
theorem pn_yX3_isSame : plainName yX3_isSame.cls = true := by decide +kernel
theorem kV_X1_83 : zLV RX1 83 yX3_isSame mX3_isSame 1 := ⟨⟨ml_X1_83, in_RX3, co_yX3_isSame, pd_yX3_isSame, Nat.le_of_ble_eq_true rfl⟩, im_yX3_isSame, se_yX3_isSame⟩
theorem pd_yX3_agrees : yX3_agrees.cls ≠ "java/lang/invoke/MethodHandle" ∧ yX3_agrees.cls ≠ "java/lang/invoke/VarHandle" ∧ (parseMethodDescriptor yX3_agrees.desc).map (fun d => d.parameters.length) = some 4 := ⟨by decide +kernel, by decide +kernel, by decide +kernel⟩
theorem pn_yX3_agrees : plainName yX3_agrees.cls = true := by decide +kernel
theorem kV_X3_44 : zLV RX3 44 yX3_agrees mX3_agrees 4 := ⟨⟨ml_X3_44, in_RX3, co_yX3_agrees, pd_yX3_agrees, Nat.le_of_ble_eq_true rfl⟩, im_yX3_agrees, se_yX3_agrees⟩
theorem pd_yX1_machineAt : yX1_machineAt.cls ≠ "java/lang/invoke/MethodHandle" ∧ yX1_machineAt.cls ≠ "java/lang/invoke/VarHandle" ∧ (parseMethodDescriptor yX1_machineAt.desc).map (fun d => d.parameters.length) = some 1 := ⟨by decide +kernel, by decide +kernel, by decide +kernel⟩
theorem pn_yX1_machineAt : plainName yX1_machineAt.cls = true := by decide +kernel
theorem kV_X1_87 : zLV RX1 87 yX1_machineAt mX1_machineAt 1 := ⟨⟨ml_X1_87, in_RX1, co_yX1_machineAt, pd_yX1_machineAt, Nat.le_of_ble_eq_true rfl⟩, im_yX1_machineAt, se_yX1_machineAt⟩
theorem pd_yX2_takes : yX2_takes.cls ≠ "java/lang/invoke/MethodHandle" ∧ yX2_takes.cls ≠ "java/lang/invoke/VarHandle" ∧ (parseMethodDescriptor yX2_takes.desc).map (fun d => d.parameters.length) = some 1 := ⟨by decide +kernel, by decide +kernel, by decide +kernel⟩
theorem pn_yX2_takes : plainName yX2_takes.cls = true := by decide +kernel
theorem kV_X1_91 : zLV RX1 91 yX2_takes mX2_takes 1 := ⟨⟨ml_X1_91, in_RX2, co_yX2_takes, pd_yX2_takes, Nat.le_of_ble_eq_true rfl⟩, im_yX2_takes, se_yX2_takes⟩
theorem kV_X2_36 : zLV RX2 36 yX2_next mX2_next 2 := ⟨⟨ml_X2_36, in_RX2, co_yX2_next, pd_yX2_next, Nat.le_of_ble_eq_true rfl⟩, im_yX2_next, se_yX2_next⟩
theorem kV_X2_40 : zLV RX2 40 yX2_isGood mX2_isGood 1 := ⟨⟨ml_X2_40, in_RX2, co_yX2_isGood, pd_yX2_isGood, Nat.le_of_ble_eq_true rfl⟩, im_yX2_isGood, se_yX2_isGood⟩
theorem pd_yX3_isBefore : yX3_isBefore.cls ≠ "java/lang/invoke/MethodHandle" ∧ yX3_isBefore.cls ≠ "java/lang/invoke/VarHandle" ∧ (parseMethodDescriptor yX3_isBefore.desc).map (fun d => d.parameters.length) = some 1 := ⟨by decide +kernel, by decide +kernel, by decide +kernel⟩
theorem pn_yX3_isBefore : plainName yX3_isBefore.cls = true := by decide +kernel
theorem kV_X1_96 : zLV RX1 96 yX3_isBefore mX3_isBefore 1 := ⟨⟨ml_X1_96, in_RX3, co_yX3_isBefore, pd_yX3_isBefore, Nat.le_of_ble_eq_true rfl⟩, im_yX3_isBefore, se_yX3_isBefore⟩
theorem pd_yX3_placeOf : yX3_placeOf.cls ≠ "java/lang/invoke/MethodHandle" ∧ yX3_placeOf.cls ≠ "java/lang/invoke/VarHandle" ∧ (parseMethodDescriptor yX3_placeOf.desc).map (fun d => d.parameters.length) = some 1 := ⟨by decide +kernel, by decide +kernel, by decide +kernel⟩
theorem pn_yX3_placeOf : plainName yX3_placeOf.cls = true := by decide +kernel
theorem kV_X1_99 : zLV RX1 99 yX3_placeOf mX3_placeOf 1 := ⟨⟨ml_X1_99, in_RX3, co_yX3_placeOf, pd_yX3_placeOf, Nat.le_of_ble_eq_true rfl⟩, im_yX3_placeOf, se_yX3_placeOf⟩
theorem pd_yX3_hasSum : yX3_hasSum.cls ≠ "java/lang/invoke/MethodHandle" ∧ yX3_hasSum.cls ≠ "java/lang/invoke/VarHandle" ∧ (parseMethodDescriptor yX3_hasSum.desc).map (fun d => d.parameters.length) = some 2 := ⟨by decide +kernel, by decide +kernel, by decide +kernel⟩
theorem pn_yX3_hasSum : plainName yX3_hasSum.cls = true := by decide +kernel
theorem kV_X1_103 : zLV RX1 103 yX3_hasSum mX3_hasSum 2 := ⟨⟨ml_X1_103, in_RX3, co_yX3_hasSum, pd_yX3_hasSum, Nat.le_of_ble_eq_true rfl⟩, im_yX3_hasSum, se_yX3_hasSum⟩
theorem pd_yJ9_floorMod_7cf53 : yJ9_floorMod_7cf53.cls ≠ "java/lang/invoke/MethodHandle" ∧ yJ9_floorMod_7cf53.cls ≠ "java/lang/invoke/VarHandle" ∧ (parseMethodDescriptor yJ9_floorMod_7cf53.desc).map (fun d => d.parameters.length) = some 2 := ⟨by decide +kernel, by decide +kernel, by decide +kernel⟩
theorem pn_yJ9_floorMod_7cf53 : plainFor yJ9_floorMod_7cf53 = true := by decide +kernel
theorem kS_X3_48 : zLS RX3 48 yJ9_floorMod_7cf53 mJ9_floorMod_7cf53 2 := ⟨⟨ml_X3_48, in_RJ9, co_yJ9_floorMod_7cf53, pd_yJ9_floorMod_7cf53, Nat.le_of_ble_eq_true rfl⟩, st_yJ9_floorMod_7cf53⟩
theorem pd_yX3_isReplaced : yX3_isReplaced.cls ≠ "java/lang/invoke/MethodHandle" ∧ yX3_isReplaced.cls ≠ "java/lang/invoke/VarHandle" ∧ (parseMethodDescriptor yX3_isReplaced.desc).map (fun d => d.parameters.length) = some 4 := ⟨by decide +kernel, by decide +kernel, by decide +kernel⟩
theorem pn_yX3_isReplaced : plainName yX3_isReplaced.cls = true := by decide +kernel
theorem kV_X1_112 : zLV RX1 112 yX3_isReplaced mX3_isReplaced 4 := ⟨⟨ml_X1_112, in_RX3, co_yX3_isReplaced, pd_yX3_isReplaced, Nat.le_of_ble_eq_true rfl⟩, im_yX3_isReplaced, se_yX3_isReplaced⟩
theorem pd_yX0_keep : yX0_keep.cls ≠ "java/lang/invoke/MethodHandle" ∧ yX0_keep.cls ≠ "java/lang/invoke/VarHandle" ∧ (parseMethodDescriptor yX0_keep.desc).map (fun d => d.parameters.length) = some 2 := ⟨by decide +kernel, by decide +kernel, by decide +kernel⟩
theorem pn_yX0_keep : plainName yX0_keep.cls = true := by decide +kernel
theorem kV_X7_255 : zLV RX7 255 yX0_keep mX0_keep 2 := ⟨⟨ml_X7_255, in_RX0, co_yX0_keep, pd_yX0_keep, Nat.le_of_ble_eq_true rfl⟩, im_yX0_keep, se_yX0_keep⟩
theorem pd_yX0_isSoIn : yX0_isSoIn.cls ≠ "java/lang/invoke/MethodHandle" ∧ yX0_isSoIn.cls ≠ "java/lang/invoke/VarHandle" ∧ (parseMethodDescriptor yX0_isSoIn.desc).map (fun d => d.parameters.length) = some 1 := ⟨by decide +kernel, by decide +kernel, by decide +kernel⟩
theorem pn_yX0_isSoIn : plainName yX0_isSoIn.cls = true := by decide +kernel
theorem kV_X7_258 : zLV RX7 258 yX0_isSoIn mX0_isSoIn 1 := ⟨⟨ml_X7_258, in_RX0, co_yX0_isSoIn, pd_yX0_isSoIn, Nat.le_of_ble_eq_true rfl⟩, im_yX0_isSoIn, se_yX0_isSoIn⟩
theorem pd_yJ13_bitCount_95d88 : yJ13_bitCount_95d88.cls ≠ "java/lang/invoke/MethodHandle" ∧ yJ13_bitCount_95d88.cls ≠ "java/lang/invoke/VarHandle" ∧ (parseMethodDescriptor yJ13_bitCount_95d88.desc).map (fun d => d.parameters.length) = some 1 := ⟨by decide +kernel, by decide +kernel, by decide +kernel⟩
theorem pn_yJ13_bitCount_95d88 : plainName yJ13_bitCount_95d88.cls = true := by decide +kernel
theorem kS_X7_172 : zLS RX7 172 yJ13_bitCount_95d88 mJ13_bitCount_95d88 1 := ⟨⟨ml_X7_172, in_RJ13, co_yJ13_bitCount_95d88, pd_yJ13_bitCount_95d88, Nat.le_of_ble_eq_true rfl⟩, st_yJ13_bitCount_95d88⟩
theorem pd_yX7_placeOfBit : yX7_placeOfBit.cls ≠ "java/lang/invoke/MethodHandle" ∧ yX7_placeOfBit.cls ≠ "java/lang/invoke/VarHandle" ∧ (parseMethodDescriptor yX7_placeOfBit.desc).map (fun d => d.parameters.length) = some 2 := ⟨by decide +kernel, by decide +kernel, by decide +kernel⟩
theorem pn_yX7_placeOfBit : plainName yX7_placeOfBit.cls = true := by decide +kernel
theorem kS_X7_230 : zLS RX7 230 yX7_placeOfBit mX7_placeOfBit 2 := ⟨⟨ml_X7_230, in_RX7, co_yX7_placeOfBit, pd_yX7_placeOfBit, Nat.le_of_ble_eq_true rfl⟩, st_yX7_placeOfBit⟩
theorem pd_yX8_solve : yX8_solve.cls ≠ "java/lang/invoke/MethodHandle" ∧ yX8_solve.cls ≠ "java/lang/invoke/VarHandle" ∧ (parseMethodDescriptor yX8_solve.desc).map (fun d => d.parameters.length) = some 0 := ⟨by decide +kernel, by decide +kernel, by decide +kernel⟩
theorem pn_yX8_solve : plainName yX8_solve.cls = true := by decide +kernel
theorem kV_L_63 : zLV RL 63 yX8_solve mX8_solve 0 := ⟨⟨ml_L_63, in_RX8, co_yX8_solve, pd_yX8_solve, Nat.le_of_ble_eq_true rfl⟩, im_yX8_solve, se_yX8_solve⟩
theorem pd_yX8_take : yX8_take.cls ≠ "java/lang/invoke/MethodHandle" ∧ yX8_take.cls ≠ "java/lang/invoke/VarHandle" ∧ (parseMethodDescriptor yX8_take.desc).map (fun d => d.parameters.length) = some 1 := ⟨by decide +kernel, by decide +kernel, by decide +kernel⟩
theorem pn_yX8_take : plainName yX8_take.cls = true := by decide +kernel
theorem kV_X8_174 : zLV RX8 174 yX8_take mX8_take 1 := ⟨⟨ml_X8_174, in_RX8, co_yX8_take, pd_yX8_take, Nat.le_of_ble_eq_true rfl⟩, im_yX8_take, se_yX8_take⟩
theorem pd_yX8_stayAll : yX8_stayAll.cls ≠ "java/lang/invoke/MethodHandle" ∧ yX8_stayAll.cls ≠ "java/lang/invoke/VarHandle" ∧ (parseMethodDescriptor yX8_stayAll.desc).map (fun d => d.parameters.length) = some 0 := ⟨by decide +kernel, by decide +kernel, by decide +kernel⟩
theorem pn_yX8_stayAll : plainName yX8_stayAll.cls = true := by decide +kernel
theorem kV_X8_167 : zLV RX8 167 yX8_stayAll mX8_stayAll 0 := ⟨⟨ml_X8_167, in_RX8, co_yX8_stayAll, pd_yX8_stayAll, Nat.le_of_ble_eq_true rfl⟩, im_yX8_stayAll, se_yX8_stayAll⟩
theorem pd_yX8_search : yX8_search.cls ≠ "java/lang/invoke/MethodHandle" ∧ yX8_search.cls ≠ "java/lang/invoke/VarHandle" ∧ (parseMethodDescriptor yX8_search.desc).map (fun d => d.parameters.length) = some 1 := ⟨by decide +kernel, by decide +kernel, by decide +kernel⟩
theorem pn_yX8_search : plainName yX8_search.cls = true := by decide +kernel
theorem kV_X8_170 : zLV RX8 170 yX8_search mX8_search 1 := ⟨⟨ml_X8_170, in_RX8, co_yX8_search, pd_yX8_search, Nat.le_of_ble_eq_true rfl⟩, im_yX8_search, se_yX8_search⟩
theorem pd_yX8_first : yX8_first.cls ≠ "java/lang/invoke/MethodHandle" ∧ yX8_first.cls ≠ "java/lang/invoke/VarHandle" ∧ (parseMethodDescriptor yX8_first.desc).map (fun d => d.parameters.length) = some 0 := ⟨by decide +kernel, by decide +kernel, by decide +kernel⟩
theorem pn_yX8_first : plainName yX8_first.cls = true := by decide +kernel
theorem kV_X8_158 : zLV RX8 158 yX8_first mX8_first 0 := ⟨⟨ml_X8_158, in_RX8, co_yX8_first, pd_yX8_first, Nat.le_of_ble_eq_true rfl⟩, im_yX8_first, se_yX8_first⟩
theorem pd_yX8_isModel : yX8_isModel.cls ≠ "java/lang/invoke/MethodHandle" ∧ yX8_isModel.cls ≠ "java/lang/invoke/VarHandle" ∧ (parseMethodDescriptor yX8_isModel.desc).map (fun d => d.parameters.length) = some 0 := ⟨by decide +kernel, by decide +kernel, by decide +kernel⟩
theorem pn_yX8_isModel : plainName yX8_isModel.cls = true := by decide +kernel
theorem kV_X8_161 : zLV RX8 161 yX8_isModel mX8_isModel 0 := ⟨⟨ml_X8_161, in_RX8, co_yX8_isModel, pd_yX8_isModel, Nat.le_of_ble_eq_true rfl⟩, im_yX8_isModel, se_yX8_isModel⟩
theorem pd_yX8_is : yX8_is.cls ≠ "java/lang/invoke/MethodHandle" ∧ yX8_is.cls ≠ "java/lang/invoke/VarHandle" ∧ (parseMethodDescriptor yX8_is.desc).map (fun d => d.parameters.length) = some 1 := ⟨by decide +kernel, by decide +kernel, by decide +kernel⟩
theorem pn_yX8_is : plainName yX8_is.cls = true := by decide +kernel
theorem kV_X8_155 : zLV RX8 155 yX8_is mX8_is 1 := ⟨⟨ml_X8_155, in_RX8, co_yX8_is, pd_yX8_is, Nat.le_of_ble_eq_true rfl⟩, im_yX8_is, se_yX8_is⟩
theorem pd_yX8_spell : yX8_spell.cls ≠ "java/lang/invoke/MethodHandle" ∧ yX8_spell.cls ≠ "java/lang/invoke/VarHandle" ∧ (parseMethodDescriptor yX8_spell.desc).map (fun d => d.parameters.length) = some 2 := ⟨by decide +kernel, by decide +kernel, by decide +kernel⟩
theorem pn_yX8_spell : plainName yX8_spell.cls = true := by decide +kernel
theorem kV_X8_128 : zLV RX8 128 yX8_spell mX8_spell 2 := ⟨⟨ml_X8_128, in_RX8, co_yX8_spell, pd_yX8_spell, Nat.le_of_ble_eq_true rfl⟩, im_yX8_spell, se_yX8_spell⟩
theorem pd_yX8_isSame : yX8_isSame.cls ≠ "java/lang/invoke/MethodHandle" ∧ yX8_isSame.cls ≠ "java/lang/invoke/VarHandle" ∧ (parseMethodDescriptor yX8_isSame.desc).map (fun d => d.parameters.length) = some 0 := ⟨by decide +kernel, by decide +kernel, by decide +kernel⟩
theorem pn_yX8_isSame : plainName yX8_isSame.cls = true := by decide +kernel
theorem kV_X8_132 : zLV RX8 132 yX8_isSame mX8_isSame 0 := ⟨⟨ml_X8_132, in_RX8, co_yX8_isSame, pd_yX8_isSame, Nat.le_of_ble_eq_true rfl⟩, im_yX8_isSame, se_yX8_isSame⟩
theorem pd_yX8_isTaken : yX8_isTaken.cls ≠ "java/lang/invoke/MethodHandle" ∧ yX8_isTaken.cls ≠ "java/lang/invoke/VarHandle" ∧ (parseMethodDescriptor yX8_isTaken.desc).map (fun d => d.parameters.length) = some 2 := ⟨by decide +kernel, by decide +kernel, by decide +kernel⟩
theorem pn_yX8_isTaken : plainName yX8_isTaken.cls = true := by decide +kernel
theorem kV_X8_136 : zLV RX8 136 yX8_isTaken mX8_isTaken 2 := ⟨⟨ml_X8_136, in_RX8, co_yX8_isTaken, pd_yX8_isTaken, Nat.le_of_ble_eq_true rfl⟩, im_yX8_isTaken, se_yX8_isTaken⟩
theorem pd_yX8_isBefore : yX8_isBefore.cls ≠ "java/lang/invoke/MethodHandle" ∧ yX8_isBefore.cls ≠ "java/lang/invoke/VarHandle" ∧ (parseMethodDescriptor yX8_isBefore.desc).map (fun d => d.parameters.length) = some 0 := ⟨by decide +kernel, by decide +kernel, by decide +kernel⟩
theorem pn_yX8_isBefore : plainName yX8_isBefore.cls = true := by decide +kernel
theorem kV_X8_140 : zLV RX8 140 yX8_isBefore mX8_isBefore 0 := ⟨⟨ml_X8_140, in_RX8, co_yX8_isBefore, pd_yX8_isBefore, Nat.le_of_ble_eq_true rfl⟩, im_yX8_isBefore, se_yX8_isBefore⟩
theorem pd_yX8_found : yX8_found.cls ≠ "java/lang/invoke/MethodHandle" ∧ yX8_found.cls ≠ "java/lang/invoke/VarHandle" ∧ (parseMethodDescriptor yX8_found.desc).map (fun d => d.parameters.length) = some 2 := ⟨by decide +kernel, by decide +kernel, by decide +kernel⟩
theorem pn_yX8_found : plainName yX8_found.cls = true := by decide +kernel
theorem kV_X8_120 : zLV RX8 120 yX8_found mX8_found 2 := ⟨⟨ml_X8_120, in_RX8, co_yX8_found, pd_yX8_found, Nat.le_of_ble_eq_true rfl⟩, im_yX8_found, se_yX8_found⟩
theorem pd_yX8_isSum : yX8_isSum.cls ≠ "java/lang/invoke/MethodHandle" ∧ yX8_isSum.cls ≠ "java/lang/invoke/VarHandle" ∧ (parseMethodDescriptor yX8_isSum.desc).map (fun d => d.parameters.length) = some 2 := ⟨by decide +kernel, by decide +kernel, by decide +kernel⟩
theorem pn_yX8_isSum : plainName yX8_isSum.cls = true := by decide +kernel
theorem kV_X8_143 : zLV RX8 143 yX8_isSum mX8_isSum 2 := ⟨⟨ml_X8_143, in_RX8, co_yX8_isSum, pd_yX8_isSum, Nat.le_of_ble_eq_true rfl⟩, im_yX8_isSum, se_yX8_isSum⟩
theorem pd_yX8_isReplaced : yX8_isReplaced.cls ≠ "java/lang/invoke/MethodHandle" ∧ yX8_isReplaced.cls ≠ "java/lang/invoke/VarHandle" ∧ (parseMethodDescriptor yX8_isReplaced.desc).map (fun d => d.parameters.length) = some 0 := ⟨by decide +kernel, by decide +kernel, by decide +kernel⟩
theorem pn_yX8_isReplaced : plainName yX8_isReplaced.cls = true := by decide +kernel
theorem kV_X8_146 : zLV RX8 146 yX8_isReplaced mX8_isReplaced 0 := ⟨⟨ml_X8_146, in_RX8, co_yX8_isReplaced, pd_yX8_isReplaced, Nat.le_of_ble_eq_true rfl⟩, im_yX8_isReplaced, se_yX8_isReplaced⟩
theorem pd_yX8_make : yX8_make.cls ≠ "java/lang/invoke/MethodHandle" ∧ yX8_make.cls ≠ "java/lang/invoke/VarHandle" ∧ (parseMethodDescriptor yX8_make.desc).map (fun d => d.parameters.length) = some 3 := ⟨by decide +kernel, by decide +kernel, by decide +kernel⟩
theorem pn_yX8_make : plainName yX8_make.cls = true := by decide +kernel
theorem kV_X8_124 : zLV RX8 124 yX8_make mX8_make 3 := ⟨⟨ml_X8_124, in_RX8, co_yX8_make, pd_yX8_make, Nat.le_of_ble_eq_true rfl⟩, im_yX8_make, se_yX8_make⟩
theorem pd_yX8_next : yX8_next.cls ≠ "java/lang/invoke/MethodHandle" ∧ yX8_next.cls ≠ "java/lang/invoke/VarHandle" ∧ (parseMethodDescriptor yX8_next.desc).map (fun d => d.parameters.length) = some 0 := ⟨by decide +kernel, by decide +kernel, by decide +kernel⟩
theorem pn_yX8_next : plainName yX8_next.cls = true := by decide +kernel
theorem kV_X8_164 : zLV RX8 164 yX8_next mX8_next 0 := ⟨⟨ml_X8_164, in_RX8, co_yX8_next, pd_yX8_next, Nat.le_of_ble_eq_true rfl⟩, im_yX8_next, se_yX8_next⟩
theorem pd_yX8_nextLetters : yX8_nextLetters.cls ≠ "java/lang/invoke/MethodHandle" ∧ yX8_nextLetters.cls ≠ "java/lang/invoke/VarHandle" ∧ (parseMethodDescriptor yX8_nextLetters.desc).map (fun d => d.parameters.length) = some 0 := ⟨by decide +kernel, by decide +kernel, by decide +kernel⟩
theorem pn_yX8_nextLetters : plainName yX8_nextLetters.cls = true := by decide +kernel
theorem kV_X8_149 : zLV RX8 149 yX8_nextLetters mX8_nextLetters 0 := ⟨⟨ml_X8_149, in_RX8, co_yX8_nextLetters, pd_yX8_nextLetters, Nat.le_of_ble_eq_true rfl⟩, im_yX8_nextLetters, se_yX8_nextLetters⟩
theorem pd_yX8_nextLengths : yX8_nextLengths.cls ≠ "java/lang/invoke/MethodHandle" ∧ yX8_nextLengths.cls ≠ "java/lang/invoke/VarHandle" ∧ (parseMethodDescriptor yX8_nextLengths.desc).map (fun d => d.parameters.length) = some 0 := ⟨by decide +kernel, by decide +kernel, by decide +kernel⟩
theorem pn_yX8_nextLengths : plainName yX8_nextLengths.cls = true := by decide +kernel
theorem kV_X8_152 : zLV RX8 152 yX8_nextLengths mX8_nextLengths 0 := ⟨⟨ml_X8_152, in_RX8, co_yX8_nextLengths, pd_yX8_nextLengths, Nat.le_of_ble_eq_true rfl⟩, im_yX8_nextLengths, se_yX8_nextLengths⟩
theorem pd_yX7_model : yX7_model.cls ≠ "java/lang/invoke/MethodHandle" ∧ yX7_model.cls ≠ "java/lang/invoke/VarHandle" ∧ (parseMethodDescriptor yX7_model.desc).map (fun d => d.parameters.length) = some 1 := ⟨by decide +kernel, by decide +kernel, by decide +kernel⟩
theorem pn_yX7_model : plainName yX7_model.cls = true := by decide +kernel
theorem kV_L_64 : zLV RL 64 yX7_model mX7_model 1 := ⟨⟨ml_L_64, in_RX7, co_yX7_model, pd_yX7_model, Nat.le_of_ble_eq_true rfl⟩, im_yX7_model, se_yX7_model⟩
theorem pd_yX8_model : yX8_model.cls ≠ "java/lang/invoke/MethodHandle" ∧ yX8_model.cls ≠ "java/lang/invoke/VarHandle" ∧ (parseMethodDescriptor yX8_model.desc).map (fun d => d.parameters.length) = some 1 := ⟨by decide +kernel, by decide +kernel, by decide +kernel⟩
theorem pn_yX8_model : plainName yX8_model.cls = true := by decide +kernel
theorem kV_L_67 : zLV RL 67 yX8_model mX8_model 1 := ⟨⟨ml_L_67, in_RX8, co_yX8_model, pd_yX8_model, Nat.le_of_ble_eq_true rfl⟩, im_yX8_model, se_yX8_model⟩
theorem pd_yX7_models : yX7_models.cls ≠ "java/lang/invoke/MethodHandle" ∧ yX7_models.cls ≠ "java/lang/invoke/VarHandle" ∧ (parseMethodDescriptor yX7_models.desc).map (fun d => d.parameters.length) = some 0 := ⟨by decide +kernel, by decide +kernel, by decide +kernel⟩
theorem pn_yX7_models : plainName yX7_models.cls = true := by decide +kernel
theorem kV_L_68 : zLV RL 68 yX7_models mX7_models 0 := ⟨⟨ml_L_68, in_RX7, co_yX7_models, pd_yX7_models, Nat.le_of_ble_eq_true rfl⟩, im_yX7_models, se_yX7_models⟩
theorem pd_yX8_models : yX8_models.cls ≠ "java/lang/invoke/MethodHandle" ∧ yX8_models.cls ≠ "java/lang/invoke/VarHandle" ∧ (parseMethodDescriptor yX8_models.desc).map (fun d => d.parameters.length) = some 0 := ⟨by decide +kernel, by decide +kernel, by decide +kernel⟩
theorem pn_yX8_models : plainName yX8_models.cls = true := by decide +kernel
theorem kV_L_71 : zLV RL 71 yX8_models mX8_models 0 := ⟨⟨ml_L_71, in_RX8, co_yX8_models, pd_yX8_models, Nat.le_of_ble_eq_true rfl⟩, im_yX8_models, se_yX8_models⟩
theorem pd_yX7_length : yX7_length.cls ≠ "java/lang/invoke/MethodHandle" ∧ yX7_length.cls ≠ "java/lang/invoke/VarHandle" ∧ (parseMethodDescriptor yX7_length.desc).map (fun d => d.parameters.length) = some 1 := ⟨by decide +kernel, by decide +kernel, by decide +kernel⟩
theorem pn_yX7_length : plainName yX7_length.cls = true := by decide +kernel
theorem kV_L_72 : zLV RL 72 yX7_length mX7_length 1 := ⟨⟨ml_L_72, in_RX7, co_yX7_length, pd_yX7_length, Nat.le_of_ble_eq_true rfl⟩, im_yX7_length, se_yX7_length⟩
theorem pd_yX6_lengthOf : yX6_lengthOf.cls ≠ "java/lang/invoke/MethodHandle" ∧ yX6_lengthOf.cls ≠ "java/lang/invoke/VarHandle" ∧ (parseMethodDescriptor yX6_lengthOf.desc).map (fun d => d.parameters.length) = some 1 := ⟨by decide +kernel, by decide +kernel, by decide +kernel⟩
theorem pn_yX6_lengthOf : plainName yX6_lengthOf.cls = true := by decide +kernel
theorem kV_X7_181 : zLV RX7 181 yX6_lengthOf mX6_lengthOf 1 := ⟨⟨ml_X7_181, in_RX6, co_yX6_lengthOf, pd_yX6_lengthOf, Nat.le_of_ble_eq_true rfl⟩, im_yX6_lengthOf, se_yX6_lengthOf⟩
theorem kV_X6_65 : zLV RX6 65 yX4_isText mX4_isText 1 := ⟨⟨ml_X6_65, in_RX4, co_yX4_isText, pd_yX4_isText, Nat.le_of_ble_eq_true rfl⟩, im_yX4_isText, se_yX4_isText⟩
theorem pd_yX8_length : yX8_length.cls ≠ "java/lang/invoke/MethodHandle" ∧ yX8_length.cls ≠ "java/lang/invoke/VarHandle" ∧ (parseMethodDescriptor yX8_length.desc).map (fun d => d.parameters.length) = some 1 := ⟨by decide +kernel, by decide +kernel, by decide +kernel⟩
theorem pn_yX8_length : plainName yX8_length.cls = true := by decide +kernel
theorem kV_L_75 : zLV RL 75 yX8_length mX8_length 1 := ⟨⟨ml_L_75, in_RX8, co_yX8_length, pd_yX8_length, Nat.le_of_ble_eq_true rfl⟩, im_yX8_length, se_yX8_length⟩
theorem pd_yX7_letter : yX7_letter.cls ≠ "java/lang/invoke/MethodHandle" ∧ yX7_letter.cls ≠ "java/lang/invoke/VarHandle" ∧ (parseMethodDescriptor yX7_letter.desc).map (fun d => d.parameters.length) = some 2 := ⟨by decide +kernel, by decide +kernel, by decide +kernel⟩
theorem pn_yX7_letter : plainName yX7_letter.cls = true := by decide +kernel
theorem kV_L_76 : zLV RL 76 yX7_letter mX7_letter 2 := ⟨⟨ml_L_76, in_RX7, co_yX7_letter, pd_yX7_letter, Nat.le_of_ble_eq_true rfl⟩, im_yX7_letter, se_yX7_letter⟩
theorem pd_yX6_letterOf : yX6_letterOf.cls ≠ "java/lang/invoke/MethodHandle" ∧ yX6_letterOf.cls ≠ "java/lang/invoke/VarHandle" ∧ (parseMethodDescriptor yX6_letterOf.desc).map (fun d => d.parameters.length) = some 2 := ⟨by decide +kernel, by decide +kernel, by decide +kernel⟩
theorem pn_yX6_letterOf : plainName yX6_letterOf.cls = true := by decide +kernel
theorem kV_X7_184 : zLV RX7 184 yX6_letterOf mX6_letterOf 2 := ⟨⟨ml_X7_184, in_RX6, co_yX6_letterOf, pd_yX6_letterOf, Nat.le_of_ble_eq_true rfl⟩, im_yX6_letterOf, se_yX6_letterOf⟩
theorem kV_X6_69 : zLV RX6 69 yX6_lengthOf mX6_lengthOf 1 := ⟨⟨ml_X6_69, in_RX6, co_yX6_lengthOf, pd_yX6_lengthOf, Nat.le_of_ble_eq_true rfl⟩, im_yX6_lengthOf, se_yX6_lengthOf⟩
theorem pd_yX8_letter : yX8_letter.cls ≠ "java/lang/invoke/MethodHandle" ∧ yX8_letter.cls ≠ "java/lang/invoke/VarHandle" ∧ (parseMethodDescriptor yX8_letter.desc).map (fun d => d.parameters.length) = some 2 := ⟨by decide +kernel, by decide +kernel, by decide +kernel⟩
theorem pn_yX8_letter : plainName yX8_letter.cls = true := by decide +kernel
theorem kV_L_79 : zLV RL 79 yX8_letter mX8_letter 2 := ⟨⟨ml_L_79, in_RX8, co_yX8_letter, pd_yX8_letter, Nat.le_of_ble_eq_true rfl⟩, im_yX8_letter, se_yX8_letter⟩
theorem pd_yX7_holds : yX7_holds.cls ≠ "java/lang/invoke/MethodHandle" ∧ yX7_holds.cls ≠ "java/lang/invoke/VarHandle" ∧ (parseMethodDescriptor yX7_holds.desc).map (fun d => d.parameters.length) = some 1 := ⟨by decide +kernel, by decide +kernel, by decide +kernel⟩
theorem pn_yX7_holds : plainName yX7_holds.cls = true := by decide +kernel
theorem kV_L_80 : zLV RL 80 yX7_holds mX7_holds 1 := ⟨⟨ml_L_80, in_RX7, co_yX7_holds, pd_yX7_holds, Nat.le_of_ble_eq_true rfl⟩, im_yX7_holds, se_yX7_holds⟩
theorem pd_yX8_holds : yX8_holds.cls ≠ "java/lang/invoke/MethodHandle" ∧ yX8_holds.cls ≠ "java/lang/invoke/VarHandle" ∧ (parseMethodDescriptor yX8_holds.desc).map (fun d => d.parameters.length) = some 1 := ⟨by decide +kernel, by decide +kernel, by decide +kernel⟩
theorem pn_yX8_holds : plainName yX8_holds.cls = true := by decide +kernel
theorem kV_L_83 : zLV RL 83 yX8_holds mX8_holds 1 := ⟨⟨ml_L_83, in_RX8, co_yX8_holds, pd_yX8_holds, Nat.le_of_ble_eq_true rfl⟩, im_yX8_holds, se_yX8_holds⟩
theorem pd_yX7_core : yX7_core.cls ≠ "java/lang/invoke/MethodHandle" ∧ yX7_core.cls ≠ "java/lang/invoke/VarHandle" ∧ (parseMethodDescriptor yX7_core.desc).map (fun d => d.parameters.length) = some 0 := ⟨by decide +kernel, by decide +kernel, by decide +kernel⟩
theorem pn_yX7_core : plainName yX7_core.cls = true := by decide +kernel
theorem kV_L_84 : zLV RL 84 yX7_core mX7_core 0 := ⟨⟨ml_L_84, in_RX7, co_yX7_core, pd_yX7_core, Nat.le_of_ble_eq_true rfl⟩, im_yX7_core, se_yX7_core⟩
theorem pd_yX7_hasModel : yX7_hasModel.cls ≠ "java/lang/invoke/MethodHandle" ∧ yX7_hasModel.cls ≠ "java/lang/invoke/VarHandle" ∧ (parseMethodDescriptor yX7_hasModel.desc).map (fun d => d.parameters.length) = some 1 := ⟨by decide +kernel, by decide +kernel, by decide +kernel⟩
theorem pn_yX7_hasModel : plainName yX7_hasModel.cls = true := by decide +kernel
theorem kV_X7_191 : zLV RX7 191 yX7_hasModel mX7_hasModel 1 := ⟨⟨ml_X7_191, in_RX7, co_yX7_hasModel, pd_yX7_hasModel, Nat.le_of_ble_eq_true rfl⟩, im_yX7_hasModel, se_yX7_hasModel⟩
theorem pd_yJ6_bitCount_0f7a4 : yJ6_bitCount_0f7a4.cls ≠ "java/lang/invoke/MethodHandle" ∧ yJ6_bitCount_0f7a4.cls ≠ "java/lang/invoke/VarHandle" ∧ (parseMethodDescriptor yJ6_bitCount_0f7a4.desc).map (fun d => d.parameters.length) = some 1 := ⟨by decide +kernel, by decide +kernel, by decide +kernel⟩
theorem pn_yJ6_bitCount_0f7a4 : plainName yJ6_bitCount_0f7a4.cls = true := by decide +kernel
theorem kS_X7_200 : zLS RX7 200 yJ6_bitCount_0f7a4 mJ6_bitCount_0f7a4 1 := ⟨⟨ml_X7_200, in_RJ6, co_yJ6_bitCount_0f7a4, pd_yJ6_bitCount_0f7a4, Nat.le_of_ble_eq_true rfl⟩, st_yJ6_bitCount_0f7a4⟩
theorem pd_yX8_core : yX8_core.cls ≠ "java/lang/invoke/MethodHandle" ∧ yX8_core.cls ≠ "java/lang/invoke/VarHandle" ∧ (parseMethodDescriptor yX8_core.desc).map (fun d => d.parameters.length) = some 0 := ⟨by decide +kernel, by decide +kernel, by decide +kernel⟩
theorem pn_yX8_core : plainName yX8_core.cls = true := by decide +kernel
theorem kV_L_87 : zLV RL 87 yX8_core mX8_core 0 := ⟨⟨ml_L_87, in_RX8, co_yX8_core, pd_yX8_core, Nat.le_of_ble_eq_true rfl⟩, im_yX8_core, se_yX8_core⟩
theorem pd_yX7_inCore : yX7_inCore.cls ≠ "java/lang/invoke/MethodHandle" ∧ yX7_inCore.cls ≠ "java/lang/invoke/VarHandle" ∧ (parseMethodDescriptor yX7_inCore.desc).map (fun d => d.parameters.length) = some 1 := ⟨by decide +kernel, by decide +kernel, by decide +kernel⟩
theorem pn_yX7_inCore : plainName yX7_inCore.cls = true := by decide +kernel
theorem kV_L_88 : zLV RL 88 yX7_inCore mX7_inCore 1 := ⟨⟨ml_L_88, in_RX7, co_yX7_inCore, pd_yX7_inCore, Nat.le_of_ble_eq_true rfl⟩, im_yX7_inCore, se_yX7_inCore⟩
theorem pd_yX8_inCore : yX8_inCore.cls ≠ "java/lang/invoke/MethodHandle" ∧ yX8_inCore.cls ≠ "java/lang/invoke/VarHandle" ∧ (parseMethodDescriptor yX8_inCore.desc).map (fun d => d.parameters.length) = some 1 := ⟨by decide +kernel, by decide +kernel, by decide +kernel⟩
theorem pn_yX8_inCore : plainName yX8_inCore.cls = true := by decide +kernel
theorem kV_L_91 : zLV RL 91 yX8_inCore mX8_inCore 1 := ⟨⟨ml_L_91, in_RX8, co_yX8_inCore, pd_yX8_inCore, Nat.le_of_ble_eq_true rfl⟩, im_yX8_inCore, se_yX8_inCore⟩
theorem pd_yX7_spans : yX7_spans.cls ≠ "java/lang/invoke/MethodHandle" ∧ yX7_spans.cls ≠ "java/lang/invoke/VarHandle" ∧ (parseMethodDescriptor yX7_spans.desc).map (fun d => d.parameters.length) = some 0 := ⟨by decide +kernel, by decide +kernel, by decide +kernel⟩
theorem pn_yX7_spans : plainName yX7_spans.cls = true := by decide +kernel
theorem kV_L_92 : zLV RL 92 yX7_spans mX7_spans 0 := ⟨⟨ml_L_92, in_RX7, co_yX7_spans, pd_yX7_spans, Nat.le_of_ble_eq_true rfl⟩, im_yX7_spans, se_yX7_spans⟩
theorem kV_X7_209 : zLV RX7 209 yX4_lengthWays mX4_lengthWays 0 := ⟨⟨ml_X7_209, in_RX4, co_yX4_lengthWays, pd_yX4_lengthWays, Nat.le_of_ble_eq_true rfl⟩, im_yX4_lengthWays, se_yX4_lengthWays⟩
theorem pd_yX7_areLengthsFit : yX7_areLengthsFit.cls ≠ "java/lang/invoke/MethodHandle" ∧ yX7_areLengthsFit.cls ≠ "java/lang/invoke/VarHandle" ∧ (parseMethodDescriptor yX7_areLengthsFit.desc).map (fun d => d.parameters.length) = some 0 := ⟨by decide +kernel, by decide +kernel, by decide +kernel⟩
theorem pn_yX7_areLengthsFit : plainName yX7_areLengthsFit.cls = true := by decide +kernel
theorem kV_X7_212 : zLV RX7 212 yX7_areLengthsFit mX7_areLengthsFit 0 := ⟨⟨ml_X7_212, in_RX7, co_yX7_areLengthsFit, pd_yX7_areLengthsFit, Nat.le_of_ble_eq_true rfl⟩, im_yX7_areLengthsFit, se_yX7_areLengthsFit⟩
theorem pd_yX7_isLengthFit : yX7_isLengthFit.cls ≠ "java/lang/invoke/MethodHandle" ∧ yX7_isLengthFit.cls ≠ "java/lang/invoke/VarHandle" ∧ (parseMethodDescriptor yX7_isLengthFit.desc).map (fun d => d.parameters.length) = some 1 := ⟨by decide +kernel, by decide +kernel, by decide +kernel⟩
theorem pn_yX7_isLengthFit : plainName yX7_isLengthFit.cls = true := by decide +kernel
theorem kV_X7_261 : zLV RX7 261 yX7_isLengthFit mX7_isLengthFit 1 := ⟨⟨ml_X7_261, in_RX7, co_yX7_isLengthFit, pd_yX7_isLengthFit, Nat.le_of_ble_eq_true rfl⟩, im_yX7_isLengthFit, se_yX7_isLengthFit⟩
theorem kV_X7_272 : zLV RX7 272 yX1_isLonger mX1_isLonger 2 := ⟨⟨ml_X7_272, in_RX1, co_yX1_isLonger, pd_yX1_isLonger, Nat.le_of_ble_eq_true rfl⟩, im_yX1_isLonger, se_yX1_isLonger⟩
theorem kV_X7_276 : zLV RX7 276 yX1_isOneLength mX1_isOneLength 2 := ⟨⟨ml_X7_276, in_RX1, co_yX1_isOneLength, pd_yX1_isOneLength, Nat.le_of_ble_eq_true rfl⟩, im_yX1_isOneLength, se_yX1_isOneLength⟩
theorem kV_X7_216 : zLV RX7 216 yX6_goToNextLengths mX6_goToNextLengths 0 := ⟨⟨ml_X7_216, in_RX6, co_yX6_goToNextLengths, pd_yX6_goToNextLengths, Nat.le_of_ble_eq_true rfl⟩, im_yX6_goToNextLengths, se_yX6_goToNextLengths⟩
theorem pd_yX8_spans : yX8_spans.cls ≠ "java/lang/invoke/MethodHandle" ∧ yX8_spans.cls ≠ "java/lang/invoke/VarHandle" ∧ (parseMethodDescriptor yX8_spans.desc).map (fun d => d.parameters.length) = some 0 := ⟨by decide +kernel, by decide +kernel, by decide +kernel⟩
theorem pn_yX8_spans : plainName yX8_spans.cls = true := by decide +kernel
theorem kV_L_95 : zLV RL 95 yX8_spans mX8_spans 0 := ⟨⟨ml_L_95, in_RX8, co_yX8_spans, pd_yX8_spans, Nat.le_of_ble_eq_true rfl⟩, im_yX8_spans, se_yX8_spans⟩
theorem pd_yX8_lengthOf : yX8_lengthOf.cls ≠ "java/lang/invoke/MethodHandle" ∧ yX8_lengthOf.cls ≠ "java/lang/invoke/VarHandle" ∧ (parseMethodDescriptor yX8_lengthOf.desc).map (fun d => d.parameters.length) = some 1 := ⟨by decide +kernel, by decide +kernel, by decide +kernel⟩
theorem pn_yX8_lengthOf : plainName yX8_lengthOf.cls = true := by decide +kernel
theorem kV_X8_177 : zLV RX8 177 yX8_lengthOf mX8_lengthOf 1 := ⟨⟨ml_X8_177, in_RX8, co_yX8_lengthOf, pd_yX8_lengthOf, Nat.le_of_ble_eq_true rfl⟩, im_yX8_lengthOf, se_yX8_lengthOf⟩
theorem pd_yX7_meet : yX7_meet.cls ≠ "java/lang/invoke/MethodHandle" ∧ yX7_meet.cls ≠ "java/lang/invoke/VarHandle" ∧ (parseMethodDescriptor yX7_meet.desc).map (fun d => d.parameters.length) = some 2 := ⟨by decide +kernel, by decide +kernel, by decide +kernel⟩
theorem pn_yX7_meet : plainName yX7_meet.cls = true := by decide +kernel
theorem kV_L_96 : zLV RL 96 yX7_meet mX7_meet 2 := ⟨⟨ml_L_96, in_RX7, co_yX7_meet, pd_yX7_meet, Nat.le_of_ble_eq_true rfl⟩, im_yX7_meet, se_yX7_meet⟩
theorem pd_yX2_shortestWith : yX2_shortestWith.cls ≠ "java/lang/invoke/MethodHandle" ∧ yX2_shortestWith.cls ≠ "java/lang/invoke/VarHandle" ∧ (parseMethodDescriptor yX2_shortestWith.desc).map (fun d => d.parameters.length) = some 2 := ⟨by decide +kernel, by decide +kernel, by decide +kernel⟩
theorem pn_yX2_shortestWith : plainName yX2_shortestWith.cls = true := by decide +kernel
theorem kV_X7_222 : zLV RX7 222 yX2_shortestWith mX2_shortestWith 2 := ⟨⟨ml_X7_222, in_RX2, co_yX2_shortestWith, pd_yX2_shortestWith, Nat.le_of_ble_eq_true rfl⟩, im_yX2_shortestWith, se_yX2_shortestWith⟩
theorem pd_yX8_meet : yX8_meet.cls ≠ "java/lang/invoke/MethodHandle" ∧ yX8_meet.cls ≠ "java/lang/invoke/VarHandle" ∧ (parseMethodDescriptor yX8_meet.desc).map (fun d => d.parameters.length) = some 2 := ⟨by decide +kernel, by decide +kernel, by decide +kernel⟩
theorem pn_yX8_meet : plainName yX8_meet.cls = true := by decide +kernel
theorem kV_L_99 : zLV RL 99 yX8_meet mX8_meet 2 := ⟨⟨ml_L_99, in_RX8, co_yX8_meet, pd_yX8_meet, Nat.le_of_ble_eq_true rfl⟩, im_yX8_meet, se_yX8_meet⟩
theorem pd_yX7_told : yX7_told.cls ≠ "java/lang/invoke/MethodHandle" ∧ yX7_told.cls ≠ "java/lang/invoke/VarHandle" ∧ (parseMethodDescriptor yX7_told.desc).map (fun d => d.parameters.length) = some 1 := ⟨by decide +kernel, by decide +kernel, by decide +kernel⟩
theorem pn_yX7_told : plainName yX7_told.cls = true := by decide +kernel
theorem kV_L_100 : zLV RL 100 yX7_told mX7_told 1 := ⟨⟨ml_L_100, in_RX7, co_yX7_told, pd_yX7_told, Nat.le_of_ble_eq_true rfl⟩, im_yX7_told, se_yX7_told⟩
theorem pd_yX8_told : yX8_told.cls ≠ "java/lang/invoke/MethodHandle" ∧ yX8_told.cls ≠ "java/lang/invoke/VarHandle" ∧ (parseMethodDescriptor yX8_told.desc).map (fun d => d.parameters.length) = some 1 := ⟨by decide +kernel, by decide +kernel, by decide +kernel⟩
theorem pn_yX8_told : plainName yX8_told.cls = true := by decide +kernel
theorem kV_L_103 : zLV RL 103 yX8_told mX8_told 1 := ⟨⟨ml_L_103, in_RX8, co_yX8_told, pd_yX8_told, Nat.le_of_ble_eq_true rfl⟩, im_yX8_told, se_yX8_told⟩
theorem pd_yX4_init : yX4_init.cls ≠ "java/lang/invoke/MethodHandle" ∧ yX4_init.cls ≠ "java/lang/invoke/VarHandle" ∧ (parseMethodDescriptor yX4_init.desc).map (fun d => d.parameters.length) = some 0 := ⟨by decide +kernel, by decide +kernel, by decide +kernel⟩
theorem pn_yX4_init : plainName yX4_init.cls = true := by decide +kernel
theorem kN_X7_11 : zLN RX7 11 yX4_init mX4_init 0 := ⟨⟨List.mem_of_getElem? (i := 0) rfl, in_RX4, co_yX4_init, pd_yX4_init, Nat.le_of_ble_eq_true rfl⟩, im_yX4_init, rfl, rfl⟩
theorem pd_yX5_init : yX5_init.cls ≠ "java/lang/invoke/MethodHandle" ∧ yX5_init.cls ≠ "java/lang/invoke/VarHandle" ∧ (parseMethodDescriptor yX5_init.desc).map (fun d => d.parameters.length) = some 0 := ⟨by decide +kernel, by decide +kernel, by decide +kernel⟩
theorem pn_yX5_init : plainName yX5_init.cls = true := by decide +kernel
theorem kN_X7_55 : zLN RX7 55 yX5_init mX5_init 0 := ⟨⟨List.mem_of_getElem? (i := 1) rfl, in_RX5, co_yX5_init, pd_yX5_init, Nat.le_of_ble_eq_true rfl⟩, im_yX5_init, rfl, rfl⟩
theorem pd_yX2_init : yX2_init.cls ≠ "java/lang/invoke/MethodHandle" ∧ yX2_init.cls ≠ "java/lang/invoke/VarHandle" ∧ (parseMethodDescriptor yX2_init.desc).map (fun d => d.parameters.length) = some 0 := ⟨by decide +kernel, by decide +kernel, by decide +kernel⟩
theorem pn_yX2_init : plainName yX2_init.cls = true := by decide +kernel
theorem kN_X7_56 : zLN RX7 56 yX2_init mX2_init 0 := ⟨⟨List.mem_of_getElem? (i := 2) rfl, in_RX2, co_yX2_init, pd_yX2_init, Nat.le_of_ble_eq_true rfl⟩, im_yX2_init, rfl, rfl⟩
theorem pd_yX0_init : yX0_init.cls ≠ "java/lang/invoke/MethodHandle" ∧ yX0_init.cls ≠ "java/lang/invoke/VarHandle" ∧ (parseMethodDescriptor yX0_init.desc).map (fun d => d.parameters.length) = some 0 := ⟨by decide +kernel, by decide +kernel, by decide +kernel⟩
theorem pn_yX0_init : plainName yX0_init.cls = true := by decide +kernel
theorem kN_X7_57 : zLN RX7 57 yX0_init mX0_init 0 := ⟨⟨List.mem_of_getElem? (i := 3) rfl, in_RX0, co_yX0_init, pd_yX0_init, Nat.le_of_ble_eq_true rfl⟩, im_yX0_init, rfl, rfl⟩
theorem kN_X1_11 : zLN RX1 11 yX5_init mX5_init 0 := ⟨⟨List.mem_of_getElem? (i := 4) rfl, in_RX5, co_yX5_init, pd_yX5_init, Nat.le_of_ble_eq_true rfl⟩, im_yX5_init, rfl, rfl⟩
theorem pd_yX3_init : yX3_init.cls ≠ "java/lang/invoke/MethodHandle" ∧ yX3_init.cls ≠ "java/lang/invoke/VarHandle" ∧ (parseMethodDescriptor yX3_init.desc).map (fun d => d.parameters.length) = some 0 := ⟨by decide +kernel, by decide +kernel, by decide +kernel⟩
theorem pn_yX3_init : plainName yX3_init.cls = true := by decide +kernel
theorem kN_X1_20 : zLN RX1 20 yX3_init mX3_init 0 := ⟨⟨List.mem_of_getElem? (i := 5) rfl, in_RX3, co_yX3_init, pd_yX3_init, Nat.le_of_ble_eq_true rfl⟩, im_yX3_init, rfl, rfl⟩
theorem s_istore_n {M : zM} {d : Nat} {sc : zS} {mc ms : Nat} {Q : zQ} {cells slots N : Nat} {g : Nat → zE} {pc : Nat} {lv : List (Option Value)} {st : List Value} {kk : Fin 4} {x : Int32} (i : Nat) (hd : decode (zcc M) pc = .ok (.istore_n kk, 1)) (hi : (kk : Nat) = i) (hn : i < znl M) (ho : zok lv i = true) (k : Wq M d sc mc ms Q cells slots N g (pc + 1) (lv.set i (some (.int x))) st) : Wq M d sc mc ms Q cells slots N g pc lv (.int x :: st) := by
  subst hi
  exact q_istore_n hd hn ho k
theorem s_lstore_n {M : zM} {d : Nat} {sc : zS} {mc ms : Nat} {Q : zQ} {cells slots N : Nat} {g : Nat → zE} {pc : Nat} {lv : List (Option Value)} {st : List Value} {kk : Fin 4} {x : Int64} (i : Nat) (hd : decode (zcc M) pc = .ok (.lstore_n kk, 1)) (hi : (kk : Nat) = i) (hn : i + 1 < znl M) (ho : zok lv i = true) (k : Wq M d sc mc ms Q cells slots N g (pc + 1) ((lv.set i (some (.long x))).set (i + 1) none) st) : Wq M d sc mc ms Q cells slots N g pc lv (.long x :: st) := by
  subst hi
  exact q_lstore_n hd hn ho k
theorem s_astore_n {M : zM} {d : Nat} {sc : zS} {mc ms : Nat} {Q : zQ} {cells slots N : Nat} {g : Nat → zE} {pc : Nat} {lv : List (Option Value)} {st : List Value} {kk : Fin 4} {x : Nat} (i : Nat) (hd : decode (zcc M) pc = .ok (.astore_n kk, 1)) (hi : (kk : Nat) = i) (hn : i < znl M) (ho : zok lv i = true) (k : Wq M d sc mc ms Q cells slots N g (pc + 1) (lv.set i (some (.ref x))) st) : Wq M d sc mc ms Q cells slots N g pc lv (.ref x :: st) := by
  subst hi
  exact q_astore_n hd hn ho k
theorem Met.ofWF {l : Launch} {y : MethodName} {ws ws' : List Cond} {rm : Room} {Pc : Array Value → State → Prop} {Qc : Array Value → State → Outcome → State → Prop} {mc ms : Nat} {free : Addr → Prop} {cc : ByteArray} {maxL : Nat} {ret : Option FieldType}
    (hy : plainFor y = true) (hw : ws = Cond.code y cc maxL ret :: ws')
    (body : ∀ p e s m args below meth c s₁, BodyLoose p l y (headSpec ws rm) cc maxL ret e s m args below meth c s₁ → c.maxLocals = maxL → Pc args s →
      W p l e (headSpec ws rm).room s m args below meth c s.heap [] 0 0 (MQ below Qc args s mc ms free) (entryFrame m args maxL)) : Met l y ws rm Pc Qc mc ms free := by
  refine MetFree.of_bodySF (code := cc) (maxLocals := maxL) (ret := ret) hy ?_ ?_
  · intro args s m h hn
    obtain ⟨meth, c, h1, h2, h3, h4, h5, h6, -, -⟩ := Cond.code_spec hn (atoms_spec (ws := ws) h _ (by rw [hw]; exact List.mem_cons_self))
    exact ⟨meth, c, h1, h2, h3, h4, h5, h6⟩
  · intro p e s m args below meth c s₁ B hml hP _
    have hh0 : s₁.heap = s.heap := by rw [B.state]; rfl
    obtain ⟨t, a1, o, b1, b2, b3⟩ := body p e s m args below meth c s₁ B hml hP s₁ hh0 (Stand.of_body B)
    exact ⟨t, o, a1, b1, b2, ⟨b3.1, b3.2⟩⟩
theorem zC_ofF {y : MethodName} {M : zM} {d mc ms : Nat} {args : List Value} {N : Nat} {g : Nat → zE} {Q : zQ} {lv : List (Option Value)} (hy : plainFor y = true) (ho : zown M = y.cls) (hi : zini M = true → y.name = "<init>") (hlv : zent (znl M) args = lv) (hlen : (zargs args).length ≤ znl M)
    (h : Wq M d none mc ms Q 0 0 N g 0 lv []) : zC y M d mc ms args N g Q := by
  intro l D cA b base
  refine Met.ofWF (cc := zcc M) (maxL := znl M) (ret := zret M) hy rfl ?_
  intro p e s m args' below meth c s₁ B hml hv
  obtain ⟨rfl, hR, hK, hN⟩ := hv
  have hts := atoms_spec (ws := Cond.code y (zcc M) (znl M) (zret M) :: TB) B.pre
  have hown : s.vm.findClass (zown M) = some m.cls := by rw [ho]; exact findClass_of_methodNamed B.named
  have hname := (name_of_methodNamed B.named B.method).1
  rw [lg_entry_eq]
  subst hlv
  refine h l p e _ s m _ below meth c D cA b base _ ⟨B.exec, B.bytes, hml, B.returns, B.notSynchronized, hown, fun w hw => hts w (List.mem_cons_of_mem _ hw), fun h1 => hname.trans (hi h1), ⟨Nat.le_refl _, Nat.le_refl _, Nat.le_refl _, Nat.le_refl _⟩, hK, hN, ?_, ?_, ?_⟩ s.heap [] _ hR va_S.rf (zent_zL hlen)
  · rw [hR.1]; exact Nat.le_add_right _ _
  · intro L xs h2; cases h2
  · intro v N' g' H locs ls pc hq hR' hS' hret
    exact zC_end B.exec B.bytes B.returns B.notSynchronized hq hR' hS' hret
