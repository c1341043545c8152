def ibc (x : Int32) : Int32 :=
  let a := x - ((x.toUInt32 >>> ((1 : Int32).toUInt32 &&& Int32.toUInt32 31)).toInt32 &&& 1431655765)
  let b := (a &&& 858993459) + ((a.toUInt32 >>> ((2 : Int32).toUInt32 &&& Int32.toUInt32 31)).toInt32 &&& 858993459)
  let c := (b + (b.toUInt32 >>> ((4 : Int32).toUInt32 &&& Int32.toUInt32 31)).toInt32) &&& 252645135
  let d := c + (c.toUInt32 >>> ((8 : Int32).toUInt32 &&& Int32.toUInt32 31)).toInt32
  let e := d + (d.toUInt32 >>> ((16 : Int32).toUInt32 &&& Int32.toUInt32 31)).toInt32
  e &&& 63
theorem ibc_ok : ∀ m, m < 1024 → ibc (nI m) = nI (bs m 10) := by decide +kernel
set_option maxRecDepth 100000 in
set_option maxHeartbeats 4000000 in
theorem c_bitCountI (sg : zI) (ta : zJ) (m : Nat) (hm : m < 1024) : zP yJ6_bitCount_0f7a4 mJ6_bitCount_0f7a4 0 [.int (nI m)] sg ta (pI (nI (bs m 10)) sg ta) := by
  rw [← ibc_ok m hm]
  refine zP_of (lv := [some (.int (nI m))]) (by decide +kernel) rfl (fun h => by cases h) rfl (Nat.le_of_ble_eq_true rfl) ?_
  refine q_iload_n dJ6_bitCount_0f7a4_0 rfl ?_
  refine q_iload_n dJ6_bitCount_0f7a4_1 rfl ?_
  refine q_iconst (v := 1) dJ6_bitCount_0f7a4_2 rfl ?_
  refine q_iushr dJ6_bitCount_0f7a4_3 ?_
  refine q_ldcw dJ6_bitCount_0f7a4_4 cn_J6_265 ?_
  refine q_iand dJ6_bitCount_0f7a4_7 ?_
  refine q_isub dJ6_bitCount_0f7a4_8 ?_
  refine s_istore_n 0 dJ6_bitCount_0f7a4_9 rfl (Nat.le_of_ble_eq_true rfl) rfl ?_
  dsimp only [List.set]
  refine q_iload_n dJ6_bitCount_0f7a4_10 rfl ?_
  refine q_ldcw dJ6_bitCount_0f7a4_11 cn_J6_266 ?_
  refine q_iand dJ6_bitCount_0f7a4_14 ?_
  refine q_iload_n dJ6_bitCount_0f7a4_15 rfl ?_
  refine q_iconst (v := 2) dJ6_bitCount_0f7a4_16 rfl ?_
  refine q_iushr dJ6_bitCount_0f7a4_17 ?_
  refine q_ldcw dJ6_bitCount_0f7a4_18 cn_J6_266 ?_
  refine q_iand dJ6_bitCount_0f7a4_21 ?_
  refine q_iadd dJ6_bitCount_0f7a4_22 ?_
  refine s_istore_n 0 dJ6_bitCount_0f7a4_23 rfl (Nat.le_of_ble_eq_true rfl) rfl ?_
  dsimp only [List.set]
  refine q_iload_n dJ6_bitCount_0f7a4_24 rfl ?_
  refine q_iload_n dJ6_bitCount_0f7a4_25 rfl ?_
  refine q_iconst (v := 4) dJ6_bitCount_0f7a4_26 rfl ?_
  refine q_iushr dJ6_bitCount_0f7a4_27 ?_
  refine q_iadd dJ6_bitCount_0f7a4_28 ?_
  refine q_ldcw dJ6_bitCount_0f7a4_29 cn_J6_267 ?_
  refine q_iand dJ6_bitCount_0f7a4_32 ?_
  refine s_istore_n 0 dJ6_bitCount_0f7a4_33 rfl (Nat.le_of_ble_eq_true rfl) rfl ?_
  dsimp only [List.set]
  refine q_iload_n dJ6_bitCount_0f7a4_34 rfl ?_
  refine q_iload_n dJ6_bitCount_0f7a4_35 rfl ?_
  refine q_bipush (v := 8) dJ6_bitCount_0f7a4_36 rfl ?_
  refine q_iushr dJ6_bitCount_0f7a4_38 ?_
  refine q_iadd dJ6_bitCount_0f7a4_39 ?_
  refine s_istore_n 0 dJ6_bitCount_0f7a4_40 rfl (Nat.le_of_ble_eq_true rfl) rfl ?_
  dsimp only [List.set]
  refine q_iload_n dJ6_bitCount_0f7a4_41 rfl ?_
  refine q_iload_n dJ6_bitCount_0f7a4_42 rfl ?_
  refine q_bipush (v := 16) dJ6_bitCount_0f7a4_43 rfl ?_
  refine q_iushr dJ6_bitCount_0f7a4_45 ?_
  refine q_iadd dJ6_bitCount_0f7a4_46 ?_
  refine s_istore_n 0 dJ6_bitCount_0f7a4_47 rfl (Nat.le_of_ble_eq_true rfl) rfl ?_
  dsimp only [List.set]
  refine q_iload_n dJ6_bitCount_0f7a4_48 rfl ?_
  refine q_bipush (v := 63) dJ6_bitCount_0f7a4_49 rfl ?_
  refine q_iand dJ6_bitCount_0f7a4_51 ?_
  exact z_iret dJ6_bitCount_0f7a4_52 rfl ⟨rfl, rfl, rfl⟩
/-! TextSolver's own helpers -/
set_option maxRecDepth 100000 in
set_option maxHeartbeats 4000000 in
theorem c_asNumber (sg : zI) (ta : zJ) (x : Int32) : zP yX7_asNumber mX7_asNumber 0 [.int x] sg ta (pI (bC (¬ x = 0)) sg ta) := by
  refine zP_of (lv := [some (.int x)]) (by decide +kernel) rfl (fun h => by cases h) rfl (Nat.le_of_ble_eq_true rfl) ?_
  refine q_iload_n dX7_asNumber_0 rfl ?_
  refine q_if_eq 8 dX7_asNumber_1 (by decide) (fun h => ?_) (fun h => ?_)
  · refine q_iconst (v := 0) dX7_asNumber_8 rfl ?_
    exact z_iret dX7_asNumber_9 rfl ⟨by rw [bC_f (fun q => q h)], rfl, rfl⟩
  · refine q_iconst (v := 1) dX7_asNumber_4 rfl ?_
    refine q_goto 9 dX7_asNumber_5 (by decide) ?_
    exact z_iret dX7_asNumber_9 rfl ⟨by rw [bC_t h], rfl, rfl⟩
/-- bit f of a mask -/
def inM (m : Int32) (f : Int32) : Prop := ¬ ((m >>> (f &&& 31)) &&& 1) = 0
set_option maxRecDepth 100000 in
set_option maxHeartbeats 4000000 in
theorem c_isIn (sg : zI) (ta : zJ) (x y : Int32) : zP yX7_isIn mX7_isIn 0 [.int x, .int y] sg ta (pI (bC (inM x y)) sg ta) := by
  refine zP_of (lv := [some (.int x), some (.int y)]) (by decide +kernel) rfl (fun h => by cases h) rfl (Nat.le_of_ble_eq_true rfl) ?_
  refine q_iload_n dX7_isIn_0 rfl ?_
  refine q_iload_n dX7_isIn_1 rfl ?_
  refine q_ishr dX7_isIn_2 ?_
  refine q_iconst (v := 1) dX7_isIn_3 rfl ?_
  refine q_iand dX7_isIn_4 ?_
  refine q_if_eq 12 dX7_isIn_5 (by decide) (fun h => ?_) (fun h => ?_)
  · refine q_iconst (v := 0) dX7_isIn_12 rfl ?_
    exact z_zret dX7_isIn_13 rfl (Or.inl rfl) ⟨by rw [bC_f (p := inM x y) (fun q => q h)], rfl, rfl⟩
  · refine q_iconst (v := 1) dX7_isIn_8 rfl ?_
    refine q_goto 13 dX7_isIn_9 (by decide) ?_
    exact z_zret dX7_isIn_13 rfl (Or.inr rfl) ⟨by rw [bC_t (p := inM x y) h], rfl, rfl⟩
set_option maxRecDepth 100000 in
set_option maxHeartbeats 4000000 in
theorem c_isTerm (sg : zI) (ta : zJ) (x : Int32) : zP yX7_isTerm mX7_isTerm 0 [.ref (nm 0 0), .int x] sg ta (pI (bC (0 ≤ x ∧ x < sg 0 0 7)) sg ta) := by
  refine zP_of (lv := [some (.ref (nm 0 0)), some (.int x)]) (by decide +kernel) rfl (fun h => by cases h) rfl (Nat.le_of_ble_eq_true rfl) ?_
  refine q_iload_n dX7_isTerm_0 rfl ?_
  refine q_if_lt 16 dX7_isTerm_1 (by decide) (fun h => ?_) (fun h => ?_)
  · refine q_iconst (v := 0) dX7_isTerm_16 rfl ?_
    exact z_zret dX7_isTerm_17 rfl (Or.inl rfl) ⟨by rw [bC_f (fun q => absurd h (Int32.not_lt.mpr q.1))], rfl, rfl⟩
  · refine q_iload_n dX7_isTerm_4 rfl ?_
    refine q_aload_n dX7_isTerm_5 rfl ?_
    refine z_get 7 dX7_isTerm_6 (by first | assumption | decide) (sh_0 _ _ _) rfl (by decide) fl_X7_66 rfl ?_
    refine q_icmp_ge 16 dX7_isTerm_9 (by decide) (fun h2 => ?_) (fun h2 => ?_)
    · refine q_iconst (v := 0) dX7_isTerm_16 rfl ?_
      exact z_zret dX7_isTerm_17 rfl (Or.inl rfl) ⟨by rw [bC_f (fun q => absurd q.2 (Int32.not_lt.mpr h2))], rfl, rfl⟩
    · refine q_iconst (v := 1) dX7_isTerm_12 rfl ?_
      refine q_goto 17 dX7_isTerm_13 (by decide) ?_
      exact z_zret dX7_isTerm_17 rfl (Or.inr rfl) ⟨by rw [bC_t ⟨Int32.not_lt.mp h, Int32.not_le.mp h2⟩], rfl, rfl⟩
set_option maxRecDepth 100000 in
set_option maxHeartbeats 4000000 in
theorem c_isMachine (sg : zI) (ta : zJ) (x : Int32) : zP yX7_isMachine mX7_isMachine 0 [.ref (nm 0 0), .int x] sg ta (pI (bC (0 ≤ x ∧ x < sg 0 0 8)) sg ta) := by
  refine zP_of (lv := [some (.ref (nm 0 0)), some (.int x)]) (by decide +kernel) rfl (fun h => by cases h) rfl (Nat.le_of_ble_eq_true rfl) ?_
  refine q_iload_n dX7_isMachine_0 rfl ?_
  refine q_if_lt 16 dX7_isMachine_1 (by decide) (fun h => ?_) (fun h => ?_)
  · refine q_iconst (v := 0) dX7_isMachine_16 rfl ?_
    exact z_zret dX7_isMachine_17 rfl (Or.inl rfl) ⟨by rw [bC_f (fun q => absurd h (Int32.not_lt.mpr q.1))], rfl, rfl⟩
  · refine q_iload_n dX7_isMachine_4 rfl ?_
    refine q_aload_n dX7_isMachine_5 rfl ?_
    refine z_get 8 dX7_isMachine_6 (by first | assumption | decide) (sh_0 _ _ _) rfl (by decide) fl_X7_69 rfl ?_
    refine q_icmp_ge 16 dX7_isMachine_9 (by decide) (fun h2 => ?_) (fun h2 => ?_)
    · refine q_iconst (v := 0) dX7_isMachine_16 rfl ?_
      exact z_zret dX7_isMachine_17 rfl (Or.inl rfl) ⟨by rw [bC_f (fun q => absurd q.2 (Int32.not_lt.mpr h2))], rfl, rfl⟩
    · refine q_iconst (v := 1) dX7_isMachine_12 rfl ?_
      refine q_goto 17 dX7_isMachine_13 (by decide) ?_
      exact z_zret dX7_isMachine_17 rfl (Or.inr rfl) ⟨by rw [bC_t ⟨Int32.not_lt.mp h, Int32.not_le.mp h2⟩], rfl, rfl⟩
set_option maxRecDepth 100000 in
set_option maxHeartbeats 4000000 in
theorem c_isFormula (sg : zI) (ta : zJ) (x : Int32) : zP yX7_isFormula mX7_isFormula 0 [.ref (nm 0 0), .int x] sg ta (pI (bC (0 ≤ x ∧ x < sg 0 0 9)) sg ta) := by
  refine zP_of (lv := [some (.ref (nm 0 0)), some (.int x)]) (by decide +kernel) rfl (fun h => by cases h) rfl (Nat.le_of_ble_eq_true rfl) ?_
  refine q_iload_n dX7_isFormula_0 rfl ?_
  refine q_if_lt 16 dX7_isFormula_1 (by decide) (fun h => ?_) (fun h => ?_)
  · refine q_iconst (v := 0) dX7_isFormula_16 rfl ?_
    exact z_zret dX7_isFormula_17 rfl (Or.inl rfl) ⟨by rw [bC_f (fun q => absurd h (Int32.not_lt.mpr q.1))], rfl, rfl⟩
  · refine q_iload_n dX7_isFormula_4 rfl ?_
    refine q_aload_n dX7_isFormula_5 rfl ?_
    refine z_get 9 dX7_isFormula_6 (by first | assumption | decide) (sh_0 _ _ _) rfl (by decide) fl_X7_58 rfl ?_
    refine q_icmp_ge 16 dX7_isFormula_9 (by decide) (fun h2 => ?_) (fun h2 => ?_)
    · refine q_iconst (v := 0) dX7_isFormula_16 rfl ?_
      exact z_zret dX7_isFormula_17 rfl (Or.inl rfl) ⟨by rw [bC_f (fun q => absurd q.2 (Int32.not_lt.mpr h2))], rfl, rfl⟩
    · refine q_iconst (v := 1) dX7_isFormula_12 rfl ?_
      refine q_goto 17 dX7_isFormula_13 (by decide) ?_
      exact z_zret dX7_isFormula_17 rfl (Or.inr rfl) ⟨by rw [bC_t ⟨Int32.not_lt.mp h, Int32.not_le.mp h2⟩], rfl, rfl⟩
set_option maxRecDepth 100000 in
set_option maxHeartbeats 4000000 in
theorem c_dropFindings (sg : zI) (ta : zJ) : zP yX7_dropFindings mX7_dropFindings 0 [.ref (nm 0 0)] sg ta (pV (up3 (up3 sg 0 0 10 0) 0 0 11 0) ta) := by
  refine zP_of (lv := [some (.ref (nm 0 0))]) (by decide +kernel) rfl (fun h => by cases h) rfl (Nat.le_of_ble_eq_true rfl) ?_
  refine q_aload_n dX7_dropFindings_0 rfl ?_
  refine q_iconst (v := 0) dX7_dropFindings_1 rfl ?_
  refine z_putz 10 dX7_dropFindings_2 (by first | assumption | decide) (sh_0 _ _ _) rfl (by decide) fl_X7_178 rfl pfZ (Nat.le_of_ble_eq_true rfl) (by first | exact Or.inl rfl | exact Or.inr rfl | assumption) rfl ?_
  refine q_aload_n dX7_dropFindings_5 rfl ?_
  refine q_iconst (v := 0) dX7_dropFindings_6 rfl ?_
  refine z_putz 11 dX7_dropFindings_7 (by first | assumption | decide) (sh_0 _ _ _) rfl (by decide) fl_X7_197 rfl pfZ (Nat.le_of_ble_eq_true rfl) (by first | exact Or.inl rfl | exact Or.inr rfl | assumption) rfl ?_
  exact z_vret dX7_dropFindings_10 rfl ⟨rfl, rfl, rfl⟩
/-- the numbers of a formula of its kind are inside -/
def numOk (k b c : Int32) : Prop := (k = 1 → -40 ≤ c ∧ c ≤ 40) ∧ (k = 5 → 2 ≤ b ∧ b ≤ 16 ∧ 0 ≤ c ∧ c < b)
set_option maxRecDepth 100000 in
set_option maxHeartbeats 4000000 in
theorem c_areNumbersInside (sg : zI) (ta : zJ) (kd : Nat) (b c : Int32) (hk : kd ≤ 6) : zP yX7_areNumbersInside mX7_areNumbersInside 0 [.int (nI kd), .int b, .int c] sg ta (pI (bC (numOk (nI kd) b c)) sg ta) := by
  refine zP_of (lv := [some (.int (nI kd)), some (.int b), some (.int c)]) (by decide +kernel) rfl (fun h => by cases h) rfl (Nat.le_of_ble_eq_true rfl) ?_
  refine q_iload_n dX7_areNumbersInside_0 rfl ?_
  rcases (show kd = 1 ∨ kd = 5 ∨ (kd ≠ 1 ∧ kd ≠ 5) by omega) with rfl | rfl | ⟨h1, h5⟩
  · refine q_lookup 28 dX7_areNumbersInside_1 (by decide) (off := 27) (by decide) (by decide) ?_
    have hn : numOk (nI 1) b c ↔ -40 ≤ c ∧ c ≤ 40 := ⟨fun q => q.1 rfl, fun q => ⟨fun _ => q, fun e => absurd e (by decide)⟩⟩
    rw [bC_iff hn]
    refine q_iload_n dX7_areNumbersInside_28 rfl ?_
    refine q_bipush (v := (-40)) dX7_areNumbersInside_29 rfl ?_
    refine q_icmp_lt 44 dX7_areNumbersInside_31 (by decide) (fun h => ?_) (fun h => ?_)
    · refine q_iconst (v := 0) dX7_areNumbersInside_44 rfl ?_
      exact z_zret dX7_areNumbersInside_45 rfl (Or.inl rfl) ⟨by rw [bC_f (fun q => absurd q.1 (Int32.not_le.mpr h))], rfl, rfl⟩
    · refine q_iload_n dX7_areNumbersInside_34 rfl ?_
      refine q_bipush (v := 40) dX7_areNumbersInside_35 rfl ?_
      refine q_icmp_gt 44 dX7_areNumbersInside_37 (by decide) (fun h2 => ?_) (fun h2 => ?_)
      · refine q_iconst (v := 0) dX7_areNumbersInside_44 rfl ?_
        exact z_zret dX7_areNumbersInside_45 rfl (Or.inl rfl) ⟨by rw [bC_f (fun q => absurd q.2 (Int32.not_le.mpr h2))], rfl, rfl⟩
      · refine q_iconst (v := 1) dX7_areNumbersInside_40 rfl ?_
        refine q_goto 45 dX7_areNumbersInside_41 (by decide) ?_
        exact z_zret dX7_areNumbersInside_45 rfl (Or.inr rfl) ⟨by rw [bC_t ⟨Int32.not_lt.mp h, Int32.not_lt.mp h2⟩], rfl, rfl⟩
  · refine q_lookup 46 dX7_areNumbersInside_1 (by decide) (off := 45) (by decide) (by decide) ?_
    have hn : numOk (nI 5) b c ↔ 2 ≤ b ∧ b ≤ 16 ∧ 0 ≤ c ∧ c < b := ⟨fun q => q.2 rfl, fun q => ⟨fun e => absurd e (by decide), fun _ => q⟩⟩
    rw [bC_iff hn]
    refine q_iload_n dX7_areNumbersInside_46 rfl ?_
    refine q_iconst (v := 2) dX7_areNumbersInside_47 rfl ?_
    refine q_icmp_lt 70 dX7_areNumbersInside_48 (by decide) (fun h => ?_) (fun h => ?_)
    · refine q_iconst (v := 0) dX7_areNumbersInside_70 rfl ?_
      exact z_zret dX7_areNumbersInside_71 rfl (Or.inl rfl) ⟨by rw [bC_f (fun q => absurd q.1 (Int32.not_le.mpr h))], rfl, rfl⟩
    · refine q_iload_n dX7_areNumbersInside_51 rfl ?_
      refine q_bipush (v := 16) dX7_areNumbersInside_52 rfl ?_
      refine q_icmp_gt 70 dX7_areNumbersInside_54 (by decide) (fun h2 => ?_) (fun h2 => ?_)
      · refine q_iconst (v := 0) dX7_areNumbersInside_70 rfl ?_
        exact z_zret dX7_areNumbersInside_71 rfl (Or.inl rfl) ⟨by rw [bC_f (fun q => absurd q.2.1 (Int32.not_le.mpr h2))], rfl, rfl⟩
      · refine q_iload_n dX7_areNumbersInside_57 rfl ?_
        refine q_if_lt 70 dX7_areNumbersInside_58 (by decide) (fun h3 => ?_) (fun h3 => ?_)
        · refine q_iconst (v := 0) dX7_areNumbersInside_70 rfl ?_
          exact z_zret dX7_areNumbersInside_71 rfl (Or.inl rfl) ⟨by rw [bC_f (fun q => absurd q.2.2.1 (Int32.not_le.mpr h3))], rfl, rfl⟩
        · refine q_iload_n dX7_areNumbersInside_61 rfl ?_
          refine q_iload_n dX7_areNumbersInside_62 rfl ?_
          refine q_icmp_ge 70 dX7_areNumbersInside_63 (by decide) (fun h4 => ?_) (fun h4 => ?_)
          · refine q_iconst (v := 0) dX7_areNumbersInside_70 rfl ?_
            exact z_zret dX7_areNumbersInside_71 rfl (Or.inl rfl) ⟨by rw [bC_f (fun q => absurd q.2.2.2 (Int32.not_lt.mpr h4))], rfl, rfl⟩
          · refine q_iconst (v := 1) dX7_areNumbersInside_66 rfl ?_
            refine q_goto 71 dX7_areNumbersInside_67 (by decide) ?_
            exact z_zret dX7_areNumbersInside_71 rfl (Or.inr rfl) ⟨by rw [bC_t ⟨Int32.not_lt.mp h, Int32.not_lt.mp h2, Int32.not_lt.mp h3, Int32.not_le.mp h4⟩], rfl, rfl⟩
  · have e : (nI kd).toInt = (kd : Int) := nI_toInt (by omega)
    refine q_lookup 72 dX7_areNumbersInside_1 (by decide) (off := 71) ?_ (by decide) ?_
    · rw [e]
      rcases (show kd = 0 ∨ kd = 2 ∨ kd = 3 ∨ kd = 4 ∨ kd = 6 by omega) with rfl | rfl | rfl | rfl | rfl <;> decide
    · refine q_iconst (v := 1) dX7_areNumbersInside_72 rfl ?_
      refine z_zret dX7_areNumbersInside_73 rfl (Or.inr rfl) ⟨?_, rfl, rfl⟩
      rw [bC_t ⟨fun q => absurd ((nI_eq (b := 1) (by omega) (by omega)).mp q) h1, fun q => absurd ((nI_eq (b := 5) (by omega) (by omega)).mp q) h5⟩]
/-- the others that a formula is about are known; nt terms, nm machines -/
def othOk (nt nmc : Int32) (k b c d : Int32) : Prop := (k = 1 → b = -1 ∨ (0 ≤ b ∧ b < nt)) ∧ (k = 2 → 0 ≤ b ∧ b < nmc) ∧ (k = 0 ∨ k = 3 ∨ k = 4 ∨ k = 6 → 0 ≤ b ∧ b < nt) ∧ (k = 6 → (0 ≤ c ∧ c < nt) ∧ 0 ≤ d ∧ d < nt)
set_option maxRecDepth 100000 in
set_option maxHeartbeats 4000000 in
theorem c_areOthersKnown (sg : zI) (ta : zJ) (kd : Nat) (b c d : Int32) (hk : kd ≤ 6) : zP yX7_areOthersKnown mX7_areOthersKnown 1 [.ref (nm 0 0), .int (nI kd), .int b, .int c, .int d] sg ta (pI (bC (othOk (sg 0 0 7) (sg 0 0 8) (nI kd) b c d)) sg ta) := by
  refine zP_of (lv := [some (.ref (nm 0 0)), some (.int (nI kd)), some (.int b), some (.int c), some (.int d)]) (by decide +kernel) rfl (fun h => by cases h) rfl (Nat.le_of_ble_eq_true rfl) ?_
  refine q_iload_n dX7_areOthersKnown_0 rfl ?_
  have dn : ∀ x : Int32, x ≠ nI kd → ¬ nI kd = x := fun x h q => h q.symm
  rcases (show kd = 1 ∨ kd = 2 ∨ kd = 5 ∨ kd = 6 ∨ kd = 0 ∨ kd = 3 ∨ kd = 4 by omega) with rfl | rfl | rfl | rfl | rfl | rfl | rfl
  · refine q_tableIn 40 dX7_areOthersKnown_1 (by decide) (by decide) rfl (by decide) ?_
    have hn : othOk (sg 0 0 7) (sg 0 0 8) (nI 1) b c d ↔ (b = -1 ∨ (0 ≤ b ∧ b < sg 0 0 7)) := ⟨fun q => q.1 rfl, fun q => ⟨fun _ => q, fun e => absurd e (by decide), fun e => absurd e (by decide), fun e => absurd e (by decide)⟩⟩
    rw [bC_iff hn]
    refine q_iload_n dX7_areOthersKnown_40 rfl ?_
    refine q_iconst (v := (-1)) dX7_areOthersKnown_41 rfl ?_
    refine q_icmp_eq 53 dX7_areOthersKnown_42 (by decide) (fun h => ?_) (fun h => ?_)
    · refine q_iconst (v := 1) dX7_areOthersKnown_53 rfl ?_
      refine q_goto 58 dX7_areOthersKnown_54 (by decide) ?_
      exact z_zret dX7_areOthersKnown_58 rfl (Or.inr rfl) ⟨by rw [bC_t (Or.inl h)], rfl, rfl⟩
    · refine q_aload_n dX7_areOthersKnown_45 rfl ?_
      refine q_iload_n dX7_areOthersKnown_46 rfl ?_
      refine z_callV (c_isTerm sg ta b) kV_X7_90 dX7_areOthersKnown_47 (by first | assumption | decide) (sh_0 _ _ _) rfl rfl rfl (by omega) (Nat.le_of_ble_eq_true rfl) (Nat.le_refl _) (Nat.le_refl _) rfl (fun v s2 ta2 h => ?_)
      obtain ⟨rfl, rfl, rfl⟩ := h
      dsimp only [Option.toList, List.cons_append, List.nil_append]
      refine q_if_eq 57 dX7_areOthersKnown_50 (by decide) (fun h2 => ?_) (fun h2 => ?_)
      · refine q_iconst (v := 0) dX7_areOthersKnown_57 rfl ?_
        exact z_zret dX7_areOthersKnown_58 rfl (Or.inl rfl) ⟨by rw [bC_f (fun q => q.elim h (bC_z.mp h2))], rfl, rfl⟩
      · refine q_iconst (v := 1) dX7_areOthersKnown_53 rfl ?_
        refine q_goto 58 dX7_areOthersKnown_54 (by decide) ?_
        exact z_zret dX7_areOthersKnown_58 rfl (Or.inr rfl) ⟨by rw [bC_t (Or.inr (bC_nz.mp h2))], rfl, rfl⟩
  · refine q_tableIn 59 dX7_areOthersKnown_1 (by decide) (by decide) rfl (by decide) ?_
    have hn : othOk (sg 0 0 7) (sg 0 0 8) (nI 2) b c d ↔ (0 ≤ b ∧ b < sg 0 0 8) := ⟨fun q => q.2.1 rfl, fun q => ⟨fun e => absurd e (by decide), fun _ => q, fun e => absurd e (by decide), fun e => absurd e (by decide)⟩⟩
    rw [bC_iff hn]
    refine q_aload_n dX7_areOthersKnown_59 rfl ?_
    refine q_iload_n dX7_areOthersKnown_60 rfl ?_
    refine z_callV (c_isMachine sg ta b) kV_X7_111 dX7_areOthersKnown_61 (by first | assumption | decide) (sh_0 _ _ _) rfl rfl rfl (by omega) (Nat.le_of_ble_eq_true rfl) (Nat.le_refl _) (Nat.le_refl _) rfl (fun v s2 ta2 h => ?_)
    obtain ⟨rfl, rfl, rfl⟩ := h
    dsimp only [Option.toList, List.cons_append, List.nil_append]
    exact z_zret dX7_areOthersKnown_64 rfl (bC_01 _) ⟨rfl, rfl, rfl⟩
  · refine q_tableIn 65 dX7_areOthersKnown_1 (by decide) (by decide) rfl (by decide) ?_
    refine q_iconst (v := 1) dX7_areOthersKnown_65 rfl ?_
    exact z_zret dX7_areOthersKnown_66 rfl (Or.inr rfl) ⟨by rw [bC_t ⟨fun e => absurd e (by decide), fun e => absurd e (by decide), fun e => absurd e (by decide), fun e => absurd e (by decide)⟩], rfl, rfl⟩
  · refine q_tableIn 67 dX7_areOthersKnown_1 (by decide) (by decide) rfl (by decide) ?_
    have hn : othOk (sg 0 0 7) (sg 0 0 8) (nI 6) b c d ↔ ((0 ≤ b ∧ b < sg 0 0 7) ∧ (0 ≤ c ∧ c < sg 0 0 7) ∧ 0 ≤ d ∧ d < sg 0 0 7) := ⟨fun q => ⟨q.2.2.1 (Or.inr (Or.inr (Or.inr rfl))), q.2.2.2 rfl⟩, fun q => ⟨fun e => absurd e (by decide), fun e => absurd e (by decide), fun _ => q.1, fun _ => q.2⟩⟩
    rw [bC_iff hn]
    refine q_aload_n dX7_areOthersKnown_67 rfl ?_
    refine q_iload_n dX7_areOthersKnown_68 rfl ?_
    refine z_callV (c_isTerm sg ta b) kV_X7_90 dX7_areOthersKnown_69 (by first | assumption | decide) (sh_0 _ _ _) rfl rfl rfl (by omega) (Nat.le_of_ble_eq_true rfl) (Nat.le_refl _) (Nat.le_refl _) rfl (fun v s2 ta2 h => ?_)
    obtain ⟨rfl, rfl, rfl⟩ := h
    dsimp only [Option.toList, List.cons_append, List.nil_append]
    refine q_if_eq 96 dX7_areOthersKnown_72 (by decide) (fun h2 => ?_) (fun h2 => ?_)
    · refine q_iconst (v := 0) dX7_areOthersKnown_96 rfl ?_
      exact z_zret dX7_areOthersKnown_97 rfl (Or.inl rfl) ⟨by rw [bC_f (fun q => bC_z.mp h2 q.1)], rfl, rfl⟩
    · refine q_aload_n dX7_areOthersKnown_75 rfl ?_
      refine q_iload_n dX7_areOthersKnown_76 rfl ?_
      refine z_callV (c_isTerm s2 ta2 c) kV_X7_90 dX7_areOthersKnown_77 (by first | assumption | decide) (sh_0 _ _ _) rfl rfl rfl (by omega) (Nat.le_of_ble_eq_true rfl) (Nat.le_refl _) (Nat.le_refl _) rfl (fun v s3 ta3 h => ?_)
      obtain ⟨rfl, rfl, rfl⟩ := h
      dsimp only [Option.toList, List.cons_append, List.nil_append]
      refine q_if_eq 96 dX7_areOthersKnown_80 (by decide) (fun h3 => ?_) (fun h3 => ?_)
      · refine q_iconst (v := 0) dX7_areOthersKnown_96 rfl ?_
        exact z_zret dX7_areOthersKnown_97 rfl (Or.inl rfl) ⟨by rw [bC_f (fun q => bC_z.mp h3 q.2.1)], rfl, rfl⟩
      · refine q_aload_n dX7_areOthersKnown_83 rfl ?_
        refine q_iload dX7_areOthersKnown_84 rfl ?_
        refine z_callV (c_isTerm s3 ta3 d) kV_X7_90 dX7_areOthersKnown_86 (by first | assumption | decide) (sh_0 _ _ _) rfl rfl rfl (by omega) (Nat.le_of_ble_eq_true rfl) (Nat.le_refl _) (Nat.le_refl _) rfl (fun v s4 ta4 h => ?_)
        obtain ⟨rfl, rfl, rfl⟩ := h
        dsimp only [Option.toList, List.cons_append, List.nil_append]
        refine q_if_eq 96 dX7_areOthersKnown_89 (by decide) (fun h4 => ?_) (fun h4 => ?_)
        · refine q_iconst (v := 0) dX7_areOthersKnown_96 rfl ?_
          exact z_zret dX7_areOthersKnown_97 rfl (Or.inl rfl) ⟨by rw [bC_f (fun q => bC_z.mp h4 q.2.2)], rfl, rfl⟩
        · refine q_iconst (v := 1) dX7_areOthersKnown_92 rfl ?_
          refine q_goto 97 dX7_areOthersKnown_93 (by decide) ?_
          exact z_zret dX7_areOthersKnown_97 rfl (Or.inr rfl) ⟨by rw [bC_t ⟨bC_nz.mp h2, bC_nz.mp h3, bC_nz.mp h4⟩], rfl, rfl⟩
  · refine q_tableOut 98 dX7_areOthersKnown_1 (by decide) (by decide) ?_
    have hn : othOk (sg 0 0 7) (sg 0 0 8) (nI 0) b c d ↔ (0 ≤ b ∧ b < sg 0 0 7) := ⟨fun q => q.2.2.1 (Or.inl rfl), fun q => ⟨fun e => absurd e (by decide), fun e => absurd e (by decide), fun _ => q, fun e => absurd e (by decide)⟩⟩
    rw [bC_iff hn]
    refine q_aload_n dX7_areOthersKnown_98 rfl ?_
    refine q_iload_n dX7_areOthersKnown_99 rfl ?_
    refine z_callV (c_isTerm sg ta b) kV_X7_90 dX7_areOthersKnown_100 (by first | assumption | decide) (sh_0 _ _ _) rfl rfl rfl (by omega) (Nat.le_of_ble_eq_true rfl) (Nat.le_refl _) (Nat.le_refl _) rfl (fun v s2 ta2 h => ?_)
    obtain ⟨rfl, rfl, rfl⟩ := h
    dsimp only [Option.toList, List.cons_append, List.nil_append]
    exact z_zret dX7_areOthersKnown_103 rfl (bC_01 _) ⟨rfl, rfl, rfl⟩
  · refine q_tableIn 98 dX7_areOthersKnown_1 (by decide) (by decide) rfl (by decide) ?_
    have hn : othOk (sg 0 0 7) (sg 0 0 8) (nI 3) b c d ↔ (0 ≤ b ∧ b < sg 0 0 7) := ⟨fun q => q.2.2.1 (Or.inr (Or.inl rfl)), fun q => ⟨fun e => absurd e (by decide), fun e => absurd e (by decide), fun _ => q, fun e => absurd e (by decide)⟩⟩
    rw [bC_iff hn]
    refine q_aload_n dX7_areOthersKnown_98 rfl ?_
    refine q_iload_n dX7_areOthersKnown_99 rfl ?_
    refine z_callV (c_isTerm sg ta b) kV_X7_90 dX7_areOthersKnown_100 (by first | assumption | decide) (sh_0 _ _ _) rfl rfl rfl (by omega) (Nat.le_of_ble_eq_true rfl) (Nat.le_refl _) (Nat.le_refl _) rfl (fun v s2 ta2 h => ?_)
    obtain ⟨rfl, rfl, rfl⟩ := h
    dsimp only [Option.toList, List.cons_append, List.nil_append]
    exact z_zret dX7_areOthersKnown_103 rfl (bC_01 _) ⟨rfl, rfl, rfl⟩
  · refine q_tableIn 98 dX7_areOthersKnown_1 (by decide) (by decide) rfl (by decide) ?_
    have hn : othOk (sg 0 0 7) (sg 0 0 8) (nI 4) b c d ↔ (0 ≤ b ∧ b < sg 0 0 7) := ⟨fun q => q.2.2.1 (Or.inr (Or.inr (Or.inl rfl))), fun q => ⟨fun e => absurd e (by decide), fun e => absurd e (by decide), fun _ => q, fun e => absurd e (by decide)⟩⟩
    rw [bC_iff hn]
    refine q_aload_n dX7_areOthersKnown_98 rfl ?_
    refine q_iload_n dX7_areOthersKnown_99 rfl ?_
    refine z_callV (c_isTerm sg ta b) kV_X7_90 dX7_areOthersKnown_100 (by first | assumption | decide) (sh_0 _ _ _) rfl rfl rfl (by omega) (Nat.le_of_ble_eq_true rfl) (Nat.le_refl _) (Nat.le_refl _) rfl (fun v s2 ta2 h => ?_)
    obtain ⟨rfl, rfl, rfl⟩ := h
    dsimp only [Option.toList, List.cons_append, List.nil_append]
    exact z_zret dX7_areOthersKnown_103 rfl (bC_01 _) ⟨rfl, rfl, rfl⟩
