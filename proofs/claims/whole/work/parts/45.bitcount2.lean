set_option maxRecDepth 100000 in
set_option maxHeartbeats 4000000 in
theorem c_bitCountL (sg : zI) (ta : zJ) (x : Int64) : zP yJ13_bitCount_95d88 mJ13_bitCount_95d88 0 [.long x] sg ta (pI (nI (pcL x)) sg ta) := by
  obtain ⟨n, hn, rfl⟩ := wb_of x
  have s1 : ∀ m, m < 2 ^ 64 → ((lN m).toUInt64 >>> ((1 : Int32).toInt64.toUInt64 &&& Int64.toUInt64 63)).toInt64 = lN (m / 2) := fun m hm => wb_shr (k := 1) hm (by omega)
  have s2 : ∀ m, m < 2 ^ 64 → ((lN m).toUInt64 >>> ((2 : Int32).toInt64.toUInt64 &&& Int64.toUInt64 63)).toInt64 = lN (m / 4) := fun m hm => wb_shr (k := 2) hm (by omega)
  have s4 : ∀ m, m < 2 ^ 64 → ((lN m).toUInt64 >>> ((4 : Int32).toInt64.toUInt64 &&& Int64.toUInt64 63)).toInt64 = lN (m / 16) := fun m hm => wb_shr (k := 4) hm (by omega)
  have s8 : ∀ m, m < 2 ^ 64 → ((lN m).toUInt64 >>> ((8 : Int32).toInt64.toUInt64 &&& Int64.toUInt64 63)).toInt64 = lN (m / 256) := fun m hm => wb_shr (k := 8) hm (by omega)
  have s16 : ∀ m, m < 2 ^ 64 → ((lN m).toUInt64 >>> ((16 : Int32).toInt64.toUInt64 &&& Int64.toUInt64 63)).toInt64 = lN (m / 65536) := fun m hm => wb_shr (k := 16) hm (by omega)
  have s32 : ∀ m, m < 2 ^ 64 → ((lN m).toUInt64 >>> ((32 : Int32).toInt64.toUInt64 &&& Int64.toUInt64 63)).toInt64 = lN (m / 4294967296) := fun m hm => wb_shr (k := 32) hm (by omega)
  have c1 : (6148914691236517205 : Int64) = lN (pM 85 8) := by rw [pM85]; rfl
  have c2 : (3689348814741910323 : Int64) = lN (pM 51 8) := by rw [pM51]; rfl
  have c3 : (1085102592571150095 : Int64) = lN (pM 15 8) := by rw [pM15]; rfl
  have m1 : pM 85 8 < 2 ^ 64 := by rw [pM85]; omega
  have m2 : pM 51 8 < 2 ^ 63 := by rw [pM51]; omega
  have m3 : pM 15 8 < 2 ^ 64 := by rw [pM15]; omega
  have b1 : t1 8 n < 2 ^ 64 := Nat.lt_of_le_of_lt (Nat.sub_le _ _) hn
  have b2 : t2 8 (t1 8 n) < 2 ^ 64 := by
    have a := Nat.and_lt_two_pow (t1 8 n) (n := 62) (y := pM 51 8) (by rw [pM51]; omega)
    have b := Nat.and_lt_two_pow (t1 8 n / 4) (n := 62) (y := pM 51 8) (by rw [pM51]; omega)
    unfold t2; omega
  obtain ⟨c, c1', c2', c3', hc, hcb, g1, f1, g2', f2, g3, f4⟩ := pc_fin hn
  have ht := t321 8 n (by rw [show (256 : Nat) ^ 8 = 2 ^ 64 from rfl]; exact hn)
  refine zP_of (lv := [some (.long (lN n)), none]) (by decide +kernel) rfl (fun h => by cases h) rfl (Nat.le_of_ble_eq_true rfl) ?_
  refine q_lload_n dJ13_bitCount_95d88_0 rfl ?_
  refine q_lload_n dJ13_bitCount_95d88_1 rfl ?_
  refine q_iconst (v := 1) dJ13_bitCount_95d88_2 rfl ?_
  refine q_lushr dJ13_bitCount_95d88_3 ?_
  refine q_ldc2 dJ13_bitCount_95d88_4 cn_J13_314 ?_
  refine q_land dJ13_bitCount_95d88_7 ?_
  refine q_lsub dJ13_bitCount_95d88_8 ?_
  rw [s1 n hn, c1, wb_and (by omega) m1, lN_sub (and_le_half n _), show n - (n / 2 &&& pM 85 8) = t1 8 n from rfl]
  refine s_lstore_n 0 dJ13_bitCount_95d88_9 rfl (Nat.le_of_ble_eq_true rfl) rfl ?_
  dsimp only [List.set]
  refine q_lload_n dJ13_bitCount_95d88_10 rfl ?_
  refine q_ldc2 dJ13_bitCount_95d88_11 cn_J13_316 ?_
  refine q_land dJ13_bitCount_95d88_14 ?_
  rw [c2, wb_and b1 (by omega)]
  refine q_lload_n dJ13_bitCount_95d88_15 rfl ?_
  refine q_iconst (v := 2) dJ13_bitCount_95d88_16 rfl ?_
  refine q_lushr dJ13_bitCount_95d88_17 ?_
  refine q_ldc2 dJ13_bitCount_95d88_18 cn_J13_316 ?_
  refine q_land dJ13_bitCount_95d88_21 ?_
  rw [s2 _ b1, c2, wb_and (by exact Nat.lt_of_le_of_lt (Nat.div_le_self _ _) b1) (by omega)]
  refine q_ladd dJ13_bitCount_95d88_22 ?_
  rw [lN_add, show (t1 8 n &&& pM 51 8) + (t1 8 n / 4 &&& pM 51 8) = t2 8 (t1 8 n) from rfl]
  refine s_lstore_n 0 dJ13_bitCount_95d88_23 rfl (Nat.le_of_ble_eq_true rfl) rfl ?_
  dsimp only [List.set]
  refine q_lload_n dJ13_bitCount_95d88_24 rfl ?_
  refine q_lload_n dJ13_bitCount_95d88_25 rfl ?_
  refine q_iconst (v := 4) dJ13_bitCount_95d88_26 rfl ?_
  refine q_lushr dJ13_bitCount_95d88_27 ?_
  refine q_ladd dJ13_bitCount_95d88_28 ?_
  refine q_ldc2 dJ13_bitCount_95d88_29 cn_J13_318 ?_
  refine q_land dJ13_bitCount_95d88_32 ?_
  have b3 : t2 8 (t1 8 n) + t2 8 (t1 8 n) / 16 < 2 ^ 64 := by
    have a := Nat.and_lt_two_pow (t1 8 n) (n := 62) (y := pM 51 8) (by rw [pM51]; omega)
    have b := Nat.and_lt_two_pow (t1 8 n / 4) (n := 62) (y := pM 51 8) (by rw [pM51]; omega)
    have : t2 8 (t1 8 n) < 2 ^ 63 := by unfold t2; omega
    omega
  rw [s4 _ b2, lN_add, c3, wb_and b3 m3]
  have e4 : lN (t2 8 (t1 8 n) + t2 8 (t1 8 n) / 16 &&& pM 15 8) = lN c := by rw [hc, ← ht]; rfl
  rw [e4]
  refine s_lstore_n 0 dJ13_bitCount_95d88_33 rfl (Nat.le_of_ble_eq_true rfl) rfl ?_
  dsimp only [List.set]
  refine q_lload_n dJ13_bitCount_95d88_34 rfl ?_
  refine q_lload_n dJ13_bitCount_95d88_35 rfl ?_
  refine q_bipush (v := 8) dJ13_bitCount_95d88_36 rfl ?_
  refine q_lushr dJ13_bitCount_95d88_38 ?_
  refine q_ladd dJ13_bitCount_95d88_39 ?_
  rw [s8 _ hcb, lN_add, g1]
  refine s_lstore_n 0 dJ13_bitCount_95d88_40 rfl (Nat.le_of_ble_eq_true rfl) rfl ?_
  dsimp only [List.set]
  refine q_lload_n dJ13_bitCount_95d88_41 rfl ?_
  refine q_lload_n dJ13_bitCount_95d88_42 rfl ?_
  refine q_bipush (v := 16) dJ13_bitCount_95d88_43 rfl ?_
  refine q_lushr dJ13_bitCount_95d88_45 ?_
  refine q_ladd dJ13_bitCount_95d88_46 ?_
  rw [s16 _ f1, lN_add, g2']
  refine s_lstore_n 0 dJ13_bitCount_95d88_47 rfl (Nat.le_of_ble_eq_true rfl) rfl ?_
  dsimp only [List.set]
  refine q_lload_n dJ13_bitCount_95d88_48 rfl ?_
  refine q_lload_n dJ13_bitCount_95d88_49 rfl ?_
  refine q_bipush (v := 32) dJ13_bitCount_95d88_50 rfl ?_
  refine q_lushr dJ13_bitCount_95d88_52 ?_
  refine q_ladd dJ13_bitCount_95d88_53 ?_
  rw [s32 _ f2, lN_add, g3]
  refine s_lstore_n 0 dJ13_bitCount_95d88_54 rfl (Nat.le_of_ble_eq_true rfl) rfl ?_
  dsimp only [List.set]
  refine q_lload_n dJ13_bitCount_95d88_55 rfl ?_
  refine q_l2i dJ13_bitCount_95d88_56 ?_
  refine q_bipush (v := 127) dJ13_bitCount_95d88_57 rfl ?_
  refine q_iand dJ13_bitCount_95d88_59 ?_
  refine z_iret dJ13_bitCount_95d88_60 rfl ⟨?_, rfl, rfl⟩
  have e7 : (nI c3').toBitVec.toNat % 2 ^ 7 = bs n 64 := by
    show (BitVec.ofNat 32 c3').toNat % 2 ^ 7 = _
    rw [BitVec.toNat_ofNat, ← f4]
    omega
  rw [lN_i, pk_and _ 7 (by decide), e7]
  unfold pcL
  rw [wb_tn hn]
