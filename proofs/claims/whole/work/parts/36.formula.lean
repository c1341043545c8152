theorem ts_nf {x : Bool} (h : ¬ x = false) : x = true := by cases x <;> first | rfl | exact absurd rfl h
theorem ts_nt {x : Bool} (h : ¬ x = true) : x = false := by cases x <;> first | rfl | exact absurd rfl h
theorem ts_bit {w : Int64} {s : UInt64} {j : Nat} (hj : j < 64) (hs : s.toNat = j) : ((w.toUInt64 >>> s).toInt64 &&& 1) = 0 ↔ w.toBitVec.getLsbD j = false := by
  have e : (w.toUInt64 >>> s).toInt64.toBitVec = w.toBitVec >>> j := by
    apply BitVec.eq_of_toNat_eq
    show (w.toUInt64 >>> s).toNat = _
    rw [UInt64.toNat_shiftRight, hs, Nat.mod_eq_of_lt hj, BitVec.toNat_ushiftRight]
    rfl
  rw [← Int64.toBitVec_inj, Int64.toBitVec_and, e]
  show w.toBitVec >>> j &&& 1#64 = 0#64 ↔ _
  constructor
  · intro h
    have t := congrArg (fun x => x.getLsbD 0) h
    simpa using t
  · intro h
    apply BitVec.eq_of_getLsbD_eq
    intro i hi
    cases i with
    | zero => simp [h]
    | succ i => simp
theorem wb_tb (n : Nat) : (lN n).toBitVec = BitVec.ofNat 64 n := rfl
theorem wb_inj {a b : Int64} (h : a.toBitVec = b.toBitVec) : a = b := Int64.toBitVec_inj.mp h
theorem wb_tn {n : Nat} (h : n < 2 ^ 64) : (lN n).toBitVec.toNat = n := by rw [wb_tb, BitVec.toNat_ofNat, Nat.mod_eq_of_lt h]
theorem wb_of (x : Int64) : ∃ n, n < 2 ^ 64 ∧ x = lN n := ⟨x.toBitVec.toNat, x.toBitVec.isLt, wb_inj (by rw [wb_tb]; simp)⟩
theorem wb_of32 (x : Int32) : ∃ n, n < 2 ^ 32 ∧ x = nI n := ⟨x.toBitVec.toNat, x.toBitVec.isLt, Int32.toBitVec_inj.mp (by show _ = BitVec.ofNat 32 _; simp)⟩
theorem wb_c : ∀ k, k < 64 → ((nI k).toInt64 &&& 63) = lN k := by decide +kernel
theorem wb_cu : ∀ k, k < 64 → ((nI k).toInt64.toUInt64 &&& Int64.toUInt64 63) = UInt64.ofNat k := by decide +kernel
theorem wb_sm : ∀ k, k < 64 → (BitVec.ofNat 64 k).smod 64 = BitVec.ofNat 64 k := by decide +kernel
theorem u_tn {n : Nat} (h : n < 2 ^ 64) : (UInt64.ofNat n).toNat = n := Nat.mod_eq_of_lt h
/-- bit j of a long -/
def lb (x : Int64) (j : Nat) : Bool := x.toBitVec.getLsbD j
theorem lb_ext {x y : Int64} (h : ∀ j, j < 64 → lb x j = lb y j) : x = y := by
  apply Int64.toBitVec_inj.mp
  exact BitVec.eq_of_getLsbD_eq (fun i hi => h i hi)
theorem lb_or (x y : Int64) (j : Nat) : lb (x ||| y) j = (lb x j || lb y j) := by
  unfold lb; rw [Int64.toBitVec_or, BitVec.getLsbD_or]
theorem lb_and (x y : Int64) (j : Nat) : lb (x &&& y) j = (lb x j && lb y j) := by
  unfold lb; rw [Int64.toBitVec_and, BitVec.getLsbD_and]
theorem lb_m1 {j : Nat} (h : j < 64) : lb (-1) j = true := by
  have : (-1 : Int64).toBitVec = BitVec.allOnes 64 := by decide
  unfold lb; rw [this, BitVec.getLsbD_allOnes]; simpa using h
theorem lb_not (x : Int64) {j : Nat} (h : j < 64) : lb (x ^^^ (-1)) j = !lb x j := by
  have h1 := lb_m1 h
  unfold lb at *
  rw [Int64.toBitVec_xor, BitVec.getLsbD_xor, h1]
  simp
theorem lb_0 (j : Nat) : lb 0 j = false := by
  unfold lb
  show (0#64).getLsbD j = false
  simp
theorem lb_big {x : Int64} {j : Nat} (h : 64 ≤ j) : lb x j = false := BitVec.getLsbD_of_ge _ _ h
theorem lb_zero {x : Int64} : x = 0 ↔ ∀ j, j < 64 → lb x j = false := by
  constructor
  · rintro rfl j _; exact lb_0 j
  · intro h; exact lb_ext (fun j hj => by rw [h j hj, lb_0])
theorem lb_shl (x : Int64) {k : Nat} (hk : k < 64) {j : Nat} (hj : j < 64) : lb (x <<< ((nI k).toInt64 &&& 63)) j = (decide (k ≤ j) && lb x (j - k)) := by
  unfold lb
  rw [wb_c k hk, Int64.toBitVec_shiftLeft]
  rw [wb_tb, wb_sm k hk]
  show (x.toBitVec <<< (BitVec.ofNat 64 k).toNat).getLsbD j = _
  rw [BitVec.toNat_ofNat, Nat.mod_eq_of_lt (by omega), BitVec.getLsbD_shiftLeft]
  by_cases h : j < k
  · simp [h, Nat.not_le.mpr h]
  · have h2 : k ≤ j := by omega
    simp [h, h2, hj]
theorem lb_1 (j : Nat) : lb 1 j = decide (j = 0) := by
  unfold lb
  show (1#64).getLsbD j = _
  rw [BitVec.getLsbD_one]
  simp
theorem lb_one_shl {k : Nat} (hk : k < 64) {j : Nat} (hj : j < 64) : lb (1 <<< ((nI k).toInt64 &&& 63)) j = decide (j = k) := by
  rw [lb_shl 1 hk hj, lb_1]
  by_cases h : j = k
  · subst h; simp
  · by_cases h2 : k ≤ j
    · have : ¬ j - k = 0 := by omega
      simp [h, this]
    · simp [h, h2]
theorem lb_ushr (x : Int64) {k : Nat} (hk : k < 64) (j : Nat) : lb ((x.toUInt64 >>> ((nI k).toInt64.toUInt64 &&& Int64.toUInt64 63)).toInt64) j = lb x (k + j) := by
  have e : ((x.toUInt64 >>> ((nI k).toInt64.toUInt64 &&& Int64.toUInt64 63)).toInt64).toBitVec = x.toBitVec >>> k := by
    rw [wb_cu k hk]
    apply BitVec.eq_of_toNat_eq
    show (x.toUInt64 >>> UInt64.ofNat k).toNat = _
    rw [UInt64.toNat_shiftRight, u_tn (by omega), Nat.mod_eq_of_lt hk, BitVec.toNat_ushiftRight]
    rfl
  unfold lb
  rw [e, BitVec.getLsbD_ushiftRight]
theorem lb_and1 (x : Int64) : (x &&& 1) = 0 ↔ lb x 0 = false := by
  rw [lb_zero]
  constructor
  · intro h
    have := h 0 (by omega)
    rw [lb_and, lb_1] at this
    simpa using this
  · intro h j _
    rw [lb_and, lb_1]
    by_cases hj : j = 0
    · subst hj; simp [h]
    · simp [hj]
/-- bit k, tested as javac does -/
theorem lb_test (x : Int64) {k : Nat} (hk : k < 64) : ((x.toUInt64 >>> ((nI k).toInt64.toUInt64 &&& Int64.toUInt64 63)).toInt64 &&& 1) = 0 ↔ lb x k = false := by
  rw [lb_and1, lb_ushr x hk, Nat.add_zero]
theorem lcmp0 (x y : Int64) : lg_cmp x y = 0 ↔ x = y := by
  unfold lg_cmp
  by_cases h1 : x > y
  · rw [if_pos h1]
    constructor
    · intro h; exact absurd h (by decide)
    · intro h; subst h; exact (Int64.lt_irrefl h1).elim
  · rw [if_neg h1]
    by_cases h2 : x = y
    · rw [if_pos h2]; exact ⟨fun _ => h2, fun _ => rfl⟩
    · rw [if_neg h2]; exact ⟨fun h => absurd h (by decide), fun h => absurd h h2⟩
/-! Formula -/
def zer (n : Nat) (r : Nat → Int64) : Nat → Int64 := fun j => if j < n then 0 else r j
set_option maxRecDepth 100000 in
set_option maxHeartbeats 4000000 in
theorem c_Formula_forget (sg : zI) (ta : zJ) (f : Nat) (hf : f < cnt 17) : zP yX0_forget mX0_forget 1 [.ref (nm 17 f)] sg ta (pV sg (upRl (upRl ta 18 f (zer 125 (ta 18 f))) 19 f (zer 125 (ta 19 f)))) := by
  have hf2 := cnt18 hf
  have hf3 := cnt19 hf
  refine zP_of (lv := [some (.ref (nm 17 f))]) (by decide +kernel) rfl (fun h => by cases h) rfl (Nat.le_of_ble_eq_true rfl) ?_
  refine q_aload_n dX0_forget_0 rfl ?_
  refine z_get 0 dX0_forget_1 (by first | assumption | decide) (sh_17 _ _ _) rfl (by decide) fl_X0_9 rfl ?_
  refine q_lconst (v := 0) dX0_forget_4 rfl ?_
  refine z_callS (c_fillL sg ta 18 f 125 0 hf2 (fun _ _ => rfl) (by omega)) kS_X0_44 dX0_forget_5 rfl (by omega) (Nat.le_of_ble_eq_true rfl) (Nat.le_refl _) (Nat.le_refl _) rfl (fun v sg2 ta2 h => ?_)
  obtain ⟨rfl, rfl, rfl⟩ := h
  dsimp only [Option.toList, List.cons_append, List.nil_append]
  refine q_aload_n dX0_forget_8 rfl ?_
  refine z_get 1 dX0_forget_9 (by first | assumption | decide) (sh_17 _ _ _) rfl (by decide) fl_X0_15 rfl ?_
  refine q_lconst (v := 0) dX0_forget_12 rfl ?_
  refine z_callS (c_fillL sg2 _ 19 f 125 0 hf3 (fun _ _ => rfl) (by omega)) kS_X0_44 dX0_forget_13 rfl (by omega) (Nat.le_of_ble_eq_true rfl) (Nat.le_refl _) (Nat.le_refl _) rfl (fun v sg3 ta3 h => ?_)
  obtain ⟨rfl, rfl, rfl⟩ := h
  dsimp only [Option.toList, List.cons_append, List.nil_append]
  refine z_vret dX0_forget_16 rfl ⟨rfl, rfl, ?_⟩
  congr 1
set_option maxRecDepth 100000 in
set_option maxHeartbeats 4000000 in
theorem c_Formula_restart (sg : zI) (ta : zJ) (f : Nat) (k a b c d : Int32) (hf : f < cnt 17) : zP yX0_restart mX0_restart 2 [.ref (nm 17 f), .int k, .int a, .int b, .int c, .int d] sg ta (pV (up3 (up3 (up3 (up3 (up3 (up3 (up3 sg 17 f 2 k) 17 f 3 a) 17 f 4 b) 17 f 5 c) 17 f 6 d) 17 f 7 0) 17 f 8 0) (upRl (upRl ta 18 f (zer 125 (ta 18 f))) 19 f (zer 125 (ta 19 f)))) := by
  refine zP_of (lv := [some (.ref (nm 17 f)), some (.int k), some (.int a), some (.int b), some (.int c), some (.int d)]) (by decide +kernel) rfl (fun h => by cases h) rfl (Nat.le_of_ble_eq_true rfl) ?_
  refine q_aload_n dX0_restart_0 rfl ?_
  refine q_iload_n dX0_restart_1 rfl ?_
  refine z_puti 2 dX0_restart_2 (by first | assumption | decide) (sh_17 _ _ _) rfl (by decide) fl_X0_18 rfl pfI (Nat.le_of_ble_eq_true rfl) rfl ?_
  refine q_aload_n dX0_restart_5 rfl ?_
  refine q_iload_n dX0_restart_6 rfl ?_
  refine z_puti 3 dX0_restart_7 (by first | assumption | decide) (sh_17 _ _ _) rfl (by decide) fl_X0_22 rfl pfI (Nat.le_of_ble_eq_true rfl) rfl ?_
  refine q_aload_n dX0_restart_10 rfl ?_
  refine q_iload_n dX0_restart_11 rfl ?_
  refine z_puti 4 dX0_restart_12 (by first | assumption | decide) (sh_17 _ _ _) rfl (by decide) fl_X0_25 rfl pfI (Nat.le_of_ble_eq_true rfl) rfl ?_
  refine q_aload_n dX0_restart_15 rfl ?_
  refine q_iload dX0_restart_16 rfl ?_
  refine z_puti 5 dX0_restart_18 (by first | assumption | decide) (sh_17 _ _ _) rfl (by decide) fl_X0_28 rfl pfI (Nat.le_of_ble_eq_true rfl) rfl ?_
  refine q_aload_n dX0_restart_21 rfl ?_
  refine q_iload dX0_restart_22 rfl ?_
  refine z_puti 6 dX0_restart_24 (by first | assumption | decide) (sh_17 _ _ _) rfl (by decide) fl_X0_31 rfl pfI (Nat.le_of_ble_eq_true rfl) rfl ?_
  refine q_aload_n dX0_restart_27 rfl ?_
  refine q_iconst (v := 0) dX0_restart_28 rfl ?_
  refine z_putz 7 dX0_restart_29 (by first | assumption | decide) (sh_17 _ _ _) rfl (by decide) fl_X0_34 rfl pfZ (Nat.le_of_ble_eq_true rfl) (by first | exact Or.inl rfl | exact Or.inr rfl | assumption) rfl ?_
  refine q_aload_n dX0_restart_32 rfl ?_
  refine q_iconst (v := 0) dX0_restart_33 rfl ?_
  refine z_putz 8 dX0_restart_34 (by first | assumption | decide) (sh_17 _ _ _) rfl (by decide) fl_X0_38 rfl pfZ (Nat.le_of_ble_eq_true rfl) (by first | exact Or.inl rfl | exact Or.inr rfl | assumption) rfl ?_
  refine q_aload_n dX0_restart_37 rfl ?_
  refine z_callV (c_Formula_forget _ ta f hf) kV_X0_41 dX0_restart_38 (by first | assumption | decide) (sh_17 _ _ _) rfl rfl rfl (by omega) (Nat.le_of_ble_eq_true rfl) (Nat.le_refl _) (Nat.le_refl _) rfl (fun v sg2 ta2 h => ?_)
  obtain ⟨rfl, rfl, rfl⟩ := h
  dsimp only [Option.toList, List.cons_append, List.nil_append]
  exact z_vret dX0_restart_41 rfl ⟨rfl, rfl, rfl⟩
set_option maxRecDepth 100000 in
set_option maxHeartbeats 4000000 in
theorem c_Formula_isBit (sg : zI) (ta : zJ) (K f w : Nat) (hf : f < cnt K) (he : ∀ r q, shp K f r q = .inl (1, 125, .inr (.inl q))) (hw : w < 8000) : zP yX0_isBit mX0_isBit 0 [.ref (nm K f), .int (nI w)] sg ta (pI (bC (lb (ta K f (w / 64)) (w % 64) = true)) sg ta) := by
  have e1 : nI w / 64 = nI (w / 64) := pk_div (d := 64) (by omega) (by omega) (by omega)
  have e2 : nI w - nI w / 64 * 64 = nI (w % 64) := pk_rem (d := 64) (by omega) (by omega) (by omega)
  have h6 : w % 64 < 64 := Nat.mod_lt _ (by omega)
  refine zP_of (lv := [some (.ref (nm K f)), some (.int (nI w)), none]) (by decide +kernel) rfl (fun h => by cases h) rfl (Nat.le_of_ble_eq_true rfl) ?_
  refine q_iload_n dX0_isBit_0 rfl ?_
  refine q_bipush (v := 64) dX0_isBit_1 rfl ?_
  refine q_idiv dX0_isBit_3 (by decide) ?_
  refine s_istore_n 2 dX0_isBit_4 rfl (Nat.le_of_ble_eq_true rfl) rfl ?_
  dsimp only [List.set]
  refine q_iload_n dX0_isBit_5 rfl ?_
  rw [e1]
  refine q_if_lt 34 dX0_isBit_6 (by decide) (fun h => ?_) (fun h => ?_)
  · exact absurd h (nI_pos (by omega))
  · refine q_iload_n dX0_isBit_9 rfl ?_
    refine q_aload_n dX0_isBit_10 rfl ?_
    refine z_alen dX0_isBit_11 hf (he _ _) (fun _ => rfl) rfl ?_
    refine q_icmp_ge 34 dX0_isBit_12 (by decide) (fun h2 => ?_) (fun h2 => ?_)
    · exact absurd ((nI_leI (a := 125) (by omega) (by omega)).mp h2) (by omega)
    · refine q_aload_n dX0_isBit_15 rfl ?_
      refine q_iload_n dX0_isBit_16 rfl ?_
      refine z_lald dX0_isBit_17 hf (he _ _) (vp_in_nI (by omega) (by omega)) ?_
      rw [nI_clamp (by omega)]
      refine q_iload_n dX0_isBit_18 rfl ?_
      refine q_bipush (v := 64) dX0_isBit_19 rfl ?_
      refine q_irem dX0_isBit_21 (by decide) ?_
      rw [e2]
      refine q_lushr dX0_isBit_22 ?_
      refine q_lconst (v := 1) dX0_isBit_23 rfl ?_
      refine q_land dX0_isBit_24 ?_
      refine q_lconst (v := 0) dX0_isBit_25 rfl ?_
      refine q_lcmp dX0_isBit_26 ?_
      refine q_if_eq 34 dX0_isBit_27 (by decide) (fun h3 => ?_) (fun h3 => ?_)
      · rw [lcmp0, lb_test _ h6] at h3
        refine q_iconst (v := 0) dX0_isBit_34 rfl ?_
        exact z_zret dX0_isBit_35 rfl (Or.inl rfl) ⟨by rw [bC_f (by rw [h3]; decide)], rfl, rfl⟩
      · rw [lcmp0, lb_test _ h6] at h3
        refine q_iconst (v := 1) dX0_isBit_30 rfl ?_
        refine q_goto 35 dX0_isBit_31 (by decide) ?_
        exact z_zret dX0_isBit_35 rfl (Or.inr rfl) ⟨by rw [bC_t (by simpa using h3)], rfl, rfl⟩
set_option maxRecDepth 100000 in
set_option maxHeartbeats 4000000 in
theorem c_Formula_isJudged (sg : zI) (ta : zJ) (f w : Nat) (hf : f < cnt 17) (hw : w < 8000) : zP yX0_isJudged mX0_isJudged 1 [.ref (nm 17 f), .int (nI w)] sg ta (pI (bC (lb (ta 18 f (w / 64)) (w % 64) = true)) sg ta) := by
  refine zP_of (lv := [some (.ref (nm 17 f)), some (.int (nI w))]) (by decide +kernel) rfl (fun h => by cases h) rfl (Nat.le_of_ble_eq_true rfl) ?_
  refine q_aload_n dX0_isJudged_0 rfl ?_
  refine z_get 0 dX0_isJudged_1 (by first | assumption | decide) (sh_17 _ _ _) rfl (by decide) fl_X0_9 rfl ?_
  refine q_iload_n dX0_isJudged_4 rfl ?_
  refine z_callS (c_Formula_isBit sg ta 18 f w (cnt18 hf) (fun _ _ => rfl) hw) kS_X0_50 dX0_isJudged_5 rfl (by omega) (Nat.le_of_ble_eq_true rfl) (Nat.le_refl _) (Nat.le_refl _) rfl (fun v sg2 ta2 h => ?_)
  obtain ⟨rfl, rfl, rfl⟩ := h
  dsimp only [Option.toList, List.cons_append, List.nil_append]
  exact z_zret dX0_isJudged_8 rfl (bC_01 _) ⟨rfl, rfl, rfl⟩
set_option maxRecDepth 100000 in
set_option maxHeartbeats 4000000 in
theorem c_Formula_isSoIn (sg : zI) (ta : zJ) (f w : Nat) (hf : f < cnt 17) (hw : w < 8000) : zP yX0_isSoIn mX0_isSoIn 1 [.ref (nm 17 f), .int (nI w)] sg ta (pI (bC (lb (ta 19 f (w / 64)) (w % 64) = true)) sg ta) := by
  refine zP_of (lv := [some (.ref (nm 17 f)), some (.int (nI w))]) (by decide +kernel) rfl (fun h => by cases h) rfl (Nat.le_of_ble_eq_true rfl) ?_
  refine q_aload_n dX0_isSoIn_0 rfl ?_
  refine z_get 1 dX0_isSoIn_1 (by first | assumption | decide) (sh_17 _ _ _) rfl (by decide) fl_X0_15 rfl ?_
  refine q_iload_n dX0_isSoIn_4 rfl ?_
  refine z_callS (c_Formula_isBit sg ta 19 f w (cnt19 hf) (fun _ _ => rfl) hw) kS_X0_50 dX0_isSoIn_5 rfl (by omega) (Nat.le_of_ble_eq_true rfl) (Nat.le_refl _) (Nat.le_refl _) rfl (fun v sg2 ta2 h => ?_)
  obtain ⟨rfl, rfl, rfl⟩ := h
  dsimp only [Option.toList, List.cons_append, List.nil_append]
  exact z_zret dX0_isSoIn_8 rfl (bC_01 _) ⟨rfl, rfl, rfl⟩
/-- bit k of a word is set if b -/
noncomputable def setb (x : Int64) (k : Nat) (b : Prop) : Int64 := x ||| ((@ite Int64 b (Classical.propDecidable b) 1 0) <<< ((nI k).toInt64 &&& 63))
theorem lb_setb (x : Int64) {k : Nat} (hk : k < 64) (b : Prop) {j : Nat} (hj : j < 64) : lb (setb x k b) j = true ↔ lb x j = true ∨ (j = k ∧ b) := by
  unfold setb
  by_cases hb : b
  · rw [if_pos hb, lb_or, lb_one_shl hk hj]
    simp [hb]
  · rw [if_neg hb, lb_or, lb_shl 0 hk hj, lb_0]
    simp [hb]
set_option maxRecDepth 100000 in
set_option maxHeartbeats 4000000 in
theorem c_Formula_keep (sg : zI) (ta : zJ) (f w : Nat) (x : Int32) (hf : f < cnt 17) (hw : w < 8000) : zP yX0_keep mX0_keep 0 [.ref (nm 17 f), .int (nI w), .int x] sg ta (pV sg (up3l (up3l ta 18 f (w / 64) (setb (ta 18 f (w / 64)) (w % 64) True)) 19 f (w / 64) (setb (ta 19 f (w / 64)) (w % 64) (¬ x = 0)))) := by
  have hf2 := cnt18 hf
  have hf3 := cnt19 hf
  have e1 : nI w / 64 = nI (w / 64) := pk_div (d := 64) (by omega) (by omega) (by omega)
  have e2 : nI w - nI w / 64 * 64 = nI (w % 64) := pk_rem (d := 64) (by omega) (by omega) (by omega)
  have hin : vp_in (nI (w / 64)) 125 := vp_in_nI (by omega) (by omega)
  refine zP_of (lv := [some (.ref (nm 17 f)), some (.int (nI w)), some (.int x), none]) (by decide +kernel) rfl (fun h => by cases h) rfl (Nat.le_of_ble_eq_true rfl) ?_
  refine q_iload_n dX0_keep_0 rfl ?_
  refine q_bipush (v := 64) dX0_keep_1 rfl ?_
  refine q_idiv dX0_keep_3 (by decide) ?_
  refine s_istore_n 3 dX0_keep_4 rfl (Nat.le_of_ble_eq_true rfl) rfl ?_
  dsimp only [List.set]
  refine q_iload_n dX0_keep_5 rfl ?_
  rw [e1]
  refine q_if_lt 53 dX0_keep_6 (by decide) (fun h => ?_) (fun h => ?_)
  · exact absurd h (nI_pos (by omega))
  · refine q_iload_n dX0_keep_9 rfl ?_
    refine q_bipush (v := 125) dX0_keep_10 rfl ?_
    refine q_icmp_ge 53 dX0_keep_12 (by decide) (fun h2 => ?_) (fun h2 => ?_)
    · exact absurd ((nI_leI (a := 125) (by omega) (by omega)).mp h2) (by omega)
    · refine q_aload_n dX0_keep_15 rfl ?_
      refine z_get 0 dX0_keep_16 (by first | assumption | decide) (sh_17 _ _ _) rfl (by decide) fl_X0_9 rfl ?_
      refine q_iload_n dX0_keep_19 rfl ?_
      refine q_dup2 dX0_keep_20 rfl rfl ?_
      refine z_lald dX0_keep_21 (by first | assumption | decide) rfl (by assumption) ?_
      refine q_lconst (v := 1) dX0_keep_22 rfl ?_
      refine q_iload_n dX0_keep_23 rfl ?_
      refine q_bipush (v := 64) dX0_keep_24 rfl ?_
      refine q_irem dX0_keep_26 (by decide) ?_
      rw [e2]
      refine q_lshl dX0_keep_27 ?_
      refine q_lor dX0_keep_28 ?_
      refine z_last dX0_keep_29 (by first | assumption | decide) (fun _ _ => rfl) (by assumption) ?_
      refine q_aload_n dX0_keep_30 rfl ?_
      refine z_get 1 dX0_keep_31 (by first | assumption | decide) (sh_17 _ _ _) rfl (by decide) fl_X0_15 rfl ?_
      refine q_iload_n dX0_keep_34 rfl ?_
      refine q_dup2 dX0_keep_35 rfl rfl ?_
      refine z_lald dX0_keep_36 (by first | assumption | decide) rfl (by assumption) ?_
      rw [nI_clamp (by omega)]
      refine q_iload_n dX0_keep_37 rfl ?_
      have e4 : up3l ta 18 f (w / 64) (ta 18 f (w / 64) ||| 1 <<< ((nI (w % 64)).toInt64 &&& 63)) 19 f (w / 64) = ta 19 f (w / 64) := by rw [up3l_off (by omega)]
      rw [e4]
      have e5 : setb (ta 18 f (w / 64)) (w % 64) True = (ta 18 f (w / 64) ||| 1 <<< ((nI (w % 64)).toInt64 &&& 63)) := by unfold setb; rw [if_pos trivial]
      refine q_if_eq 45 dX0_keep_38 (by decide) (fun h3 => ?_) (fun h3 => ?_)
      · refine q_lconst (v := 0) dX0_keep_45 rfl ?_
        refine q_iload_n dX0_keep_46 rfl ?_
        refine q_bipush (v := 64) dX0_keep_47 rfl ?_
        refine q_irem dX0_keep_49 (by decide) ?_
        rw [e2]
        refine q_lshl dX0_keep_50 ?_
        refine q_lor dX0_keep_51 ?_
        refine z_last dX0_keep_52 (by first | assumption | decide) (fun _ _ => rfl) (by assumption) ?_
        rw [nI_clamp (by omega)]
        exact z_vret dX0_keep_53 rfl ⟨rfl, rfl, by unfold setb; rw [if_pos trivial, if_neg (fun q => q h3)]⟩
      · refine q_lconst (v := 1) dX0_keep_41 rfl ?_
        refine q_goto 46 dX0_keep_42 (by decide) ?_
        refine q_iload_n dX0_keep_46 rfl ?_
        refine q_bipush (v := 64) dX0_keep_47 rfl ?_
        refine q_irem dX0_keep_49 (by decide) ?_
        rw [e2]
        refine q_lshl dX0_keep_50 ?_
        refine q_lor dX0_keep_51 ?_
        refine z_last dX0_keep_52 (by first | assumption | decide) (fun _ _ => rfl) (by assumption) ?_
        rw [nI_clamp (by omega)]
        exact z_vret dX0_keep_53 rfl ⟨rfl, rfl, by unfold setb; rw [if_pos trivial, if_pos h3]⟩
set_option maxRecDepth 100000 in
set_option maxHeartbeats 4000000 in
theorem c_Formula_ruledOut (sg : zI) (ta : zJ) (f w : Nat) (hf : f < cnt 17) (hw : w < 125) : zP yX0_ruledOut mX0_ruledOut 0 [.ref (nm 17 f), .int (nI w)] sg ta (fun v s t => s = sg ∧ t = ta ∧ ∃ x, v = some (.long x) ∧ ∀ j, j < 64 → (lb x j = true ↔ lb (ta 18 f w) j = true ∧ (lb (ta 19 f w) j = true ↔ ¬ sg 17 f 7 = 0))) := by
  have hf2 := cnt18 hf
  have hf3 := cnt19 hf
  have hin : vp_in (nI w) 125 := vp_in_nI (by omega) (by omega)
  refine zP_of (lv := [some (.ref (nm 17 f)), some (.int (nI w))]) (by decide +kernel) rfl (fun h => by cases h) rfl (Nat.le_of_ble_eq_true rfl) ?_
  refine q_iload_n dX0_ruledOut_0 rfl ?_
  refine q_if_lt 10 dX0_ruledOut_1 (by decide) (fun h => ?_) (fun h => ?_)
  · exact absurd h (nI_pos (by omega))
  · refine q_iload_n dX0_ruledOut_4 rfl ?_
    refine q_bipush (v := 125) dX0_ruledOut_5 rfl ?_
    refine q_icmp_lt 12 dX0_ruledOut_7 (by decide) (fun h2 => ?_) (fun h2 => ?_)
    · refine q_aload_n dX0_ruledOut_12 rfl ?_
      refine z_get 0 dX0_ruledOut_13 (by first | assumption | decide) (sh_17 _ _ _) rfl (by decide) fl_X0_9 rfl ?_
      refine q_iload_n dX0_ruledOut_16 rfl ?_
      refine z_lald dX0_ruledOut_17 (by first | assumption | decide) rfl (by assumption) ?_
      refine q_aload_n dX0_ruledOut_18 rfl ?_
      refine z_get 7 dX0_ruledOut_19 (by first | assumption | decide) (sh_17 _ _ _) rfl (by decide) fl_X0_34 rfl ?_
      rw [nI_clamp (by omega)]
      refine q_if_eq 34 dX0_ruledOut_22 (by decide) (fun h3 => ?_) (fun h3 => ?_)
      · refine q_aload_n dX0_ruledOut_34 rfl ?_
        refine z_get 1 dX0_ruledOut_35 (by first | assumption | decide) (sh_17 _ _ _) rfl (by decide) fl_X0_15 rfl ?_
        refine q_iload_n dX0_ruledOut_38 rfl ?_
        refine z_lald dX0_ruledOut_39 (by first | assumption | decide) rfl (by assumption) ?_
        refine q_ldc2 dX0_ruledOut_40 cn_X0_54 ?_
        refine q_lxor dX0_ruledOut_43 ?_
        refine q_land dX0_ruledOut_44 ?_
        rw [nI_clamp (by omega)]
        refine z_lret dX0_ruledOut_45 rfl ⟨rfl, rfl, _, rfl, fun j hj => ?_⟩
        rw [lb_and, lb_not _ hj]
        cases lb (ta 18 f w) j <;> cases lb (ta 19 f w) j <;> simp [h3]
      · refine q_aload_n dX0_ruledOut_25 rfl ?_
        refine z_get 1 dX0_ruledOut_26 (by first | assumption | decide) (sh_17 _ _ _) rfl (by decide) fl_X0_15 rfl ?_
        refine q_iload_n dX0_ruledOut_29 rfl ?_
        refine z_lald dX0_ruledOut_30 (by first | assumption | decide) rfl (by assumption) ?_
        refine q_goto 44 dX0_ruledOut_31 (by decide) ?_
        refine q_land dX0_ruledOut_44 ?_
        rw [nI_clamp (by omega)]
        refine z_lret dX0_ruledOut_45 rfl ⟨rfl, rfl, _, rfl, fun j hj => ?_⟩
        rw [lb_and]
        cases lb (ta 18 f w) j <;> cases lb (ta 19 f w) j <;> simp [h3]
    · exact absurd (nI_lt (b := 125) (by omega) (by omega)) h2
set_option maxRecDepth 100000 in
set_option maxHeartbeats 4000000 in
theorem c_Formula_notJudged (sg : zI) (ta : zJ) (f w : Nat) (hf : f < cnt 17) (hw : w < 125) : zP yX0_notJudged mX0_notJudged 0 [.ref (nm 17 f), .int (nI w)] sg ta (fun v s t => s = sg ∧ t = ta ∧ ∃ x, v = some (.long x) ∧ ∀ j, j < 64 → lb x j = !lb (ta 18 f w) j) := by
  have hf2 := cnt18 hf
  have hin : vp_in (nI w) 125 := vp_in_nI (by omega) (by omega)
  refine zP_of (lv := [some (.ref (nm 17 f)), some (.int (nI w))]) (by decide +kernel) rfl (fun h => by cases h) rfl (Nat.le_of_ble_eq_true rfl) ?_
  refine q_iload_n dX0_notJudged_0 rfl ?_
  refine q_if_lt 10 dX0_notJudged_1 (by decide) (fun h => ?_) (fun h => ?_)
  · exact absurd h (nI_pos (by omega))
  · refine q_iload_n dX0_notJudged_4 rfl ?_
    refine q_bipush (v := 125) dX0_notJudged_5 rfl ?_
    refine q_icmp_lt 14 dX0_notJudged_7 (by decide) (fun h2 => ?_) (fun h2 => ?_)
    · refine q_aload_n dX0_notJudged_14 rfl ?_
      refine z_get 0 dX0_notJudged_15 (by first | assumption | decide) (sh_17 _ _ _) rfl (by decide) fl_X0_9 rfl ?_
      refine q_iload_n dX0_notJudged_18 rfl ?_
      refine z_lald dX0_notJudged_19 (by first | assumption | decide) rfl (by assumption) ?_
      refine q_ldc2 dX0_notJudged_20 cn_X0_54 ?_
      refine q_lxor dX0_notJudged_23 ?_
      rw [nI_clamp (by omega)]
      exact z_lret dX0_notJudged_24 rfl ⟨rfl, rfl, _, rfl, fun j hj => lb_not _ hj⟩
    · exact absurd (nI_lt (b := 125) (by omega) (by omega)) h2
set_option maxRecDepth 100000 in
set_option maxHeartbeats 4000000 in
theorem c_Formula_hasSecondTerm (sg : zI) (ta : zJ) (f : Nat) (hf : f < cnt 17) : zP yX0_hasSecondTerm mX0_hasSecondTerm 0 [.ref (nm 17 f)] sg ta (pI (bC (¬ sg 17 f 2 = 2 ∧ ¬ sg 17 f 2 = 5)) sg ta) := by
  refine zP_of (lv := [some (.ref (nm 17 f))]) (by decide +kernel) rfl (fun h => by cases h) rfl (Nat.le_of_ble_eq_true rfl) ?_
  refine q_aload_n dX0_hasSecondTerm_0 rfl ?_
  refine z_get 2 dX0_hasSecondTerm_1 (by first | assumption | decide) (sh_17 _ _ _) rfl (by decide) fl_X0_18 rfl ?_
  refine q_iconst (v := 2) dX0_hasSecondTerm_4 rfl ?_
  refine q_icmp_eq 20 dX0_hasSecondTerm_5 (by decide) (fun h => ?_) (fun h => ?_)
  · refine q_iconst (v := 0) dX0_hasSecondTerm_20 rfl ?_
    exact z_zret dX0_hasSecondTerm_21 rfl (Or.inl rfl) ⟨by rw [bC_f (fun q => q.1 h)], rfl, rfl⟩
  · refine q_aload_n dX0_hasSecondTerm_8 rfl ?_
    refine z_get 2 dX0_hasSecondTerm_9 (by first | assumption | decide) (sh_17 _ _ _) rfl (by decide) fl_X0_18 rfl ?_
    refine q_iconst (v := 5) dX0_hasSecondTerm_12 rfl ?_
    refine q_icmp_eq 20 dX0_hasSecondTerm_13 (by decide) (fun h2 => ?_) (fun h2 => ?_)
    · refine q_iconst (v := 0) dX0_hasSecondTerm_20 rfl ?_
      exact z_zret dX0_hasSecondTerm_21 rfl (Or.inl rfl) ⟨by rw [bC_f (fun q => q.2 h2)], rfl, rfl⟩
    · refine q_iconst (v := 1) dX0_hasSecondTerm_16 rfl ?_
      refine q_goto 21 dX0_hasSecondTerm_17 (by decide) ?_
      exact z_zret dX0_hasSecondTerm_21 rfl (Or.inr rfl) ⟨by rw [bC_t ⟨h, h2⟩], rfl, rfl⟩
set_option maxRecDepth 100000 in
set_option maxHeartbeats 4000000 in
theorem c_Formula_isAboutMachine (sg : zI) (ta : zJ) (f : Nat) (x : Int32) (hf : f < cnt 17) : zP yX0_isAboutMachine mX0_isAboutMachine 0 [.ref (nm 17 f), .int x] sg ta (pI (bC (sg 17 f 2 = 2 ∧ sg 17 f 4 = x)) sg ta) := by
  refine zP_of (lv := [some (.ref (nm 17 f)), some (.int x)]) (by decide +kernel) rfl (fun h => by cases h) rfl (Nat.le_of_ble_eq_true rfl) ?_
  refine q_aload_n dX0_isAboutMachine_0 rfl ?_
  refine z_get 2 dX0_isAboutMachine_1 (by first | assumption | decide) (sh_17 _ _ _) rfl (by decide) fl_X0_18 rfl ?_
  refine q_iconst (v := 2) dX0_isAboutMachine_4 rfl ?_
  refine q_icmp_ne 20 dX0_isAboutMachine_5 (by decide) (fun h => ?_) (fun h => ?_)
  · refine q_iconst (v := 0) dX0_isAboutMachine_20 rfl ?_
    exact z_zret dX0_isAboutMachine_21 rfl (Or.inl rfl) ⟨by rw [bC_f (fun q => h q.1)], rfl, rfl⟩
  · refine q_aload_n dX0_isAboutMachine_8 rfl ?_
    refine z_get 4 dX0_isAboutMachine_9 (by first | assumption | decide) (sh_17 _ _ _) rfl (by decide) fl_X0_25 rfl ?_
    refine q_iload_n dX0_isAboutMachine_12 rfl ?_
    refine q_icmp_ne 20 dX0_isAboutMachine_13 (by decide) (fun h2 => ?_) (fun h2 => ?_)
    · refine q_iconst (v := 0) dX0_isAboutMachine_20 rfl ?_
      exact z_zret dX0_isAboutMachine_21 rfl (Or.inl rfl) ⟨by rw [bC_f (fun q => h2 q.2)], rfl, rfl⟩
    · refine q_iconst (v := 1) dX0_isAboutMachine_16 rfl ?_
      refine q_goto 21 dX0_isAboutMachine_17 (by decide) ?_
      exact z_zret dX0_isAboutMachine_21 rfl (Or.inr rfl) ⟨by rw [bC_t ⟨h, h2⟩], rfl, rfl⟩
def abT (sg : zI) (f : Nat) (x : Int32) : Prop := sg 17 f 3 = x ∨ ((¬ sg 17 f 2 = 2 ∧ ¬ sg 17 f 2 = 5) ∧ sg 17 f 4 = x) ∨ (sg 17 f 2 = 6 ∧ (sg 17 f 5 = x ∨ sg 17 f 6 = x))
set_option maxRecDepth 100000 in
set_option maxHeartbeats 4000000 in
theorem c_Formula_isAboutTerm (sg : zI) (ta : zJ) (f : Nat) (x : Int32) (hf : f < cnt 17) : zP yX0_isAboutTerm mX0_isAboutTerm 1 [.ref (nm 17 f), .int x] sg ta (pI (bC (abT sg f x)) sg ta) := by
  have yes : abT sg f x → Zq mX0_isAboutTerm 1 (pI (bC (abT sg f x)) sg ta) sg ta 48 [some (.ref (nm 17 f)), some (.int x)] [] := by
    intro q
    refine q_iconst (v := 1) dX0_isAboutTerm_48 rfl ?_
    refine q_goto 53 dX0_isAboutTerm_49 (by decide) ?_
    exact z_zret dX0_isAboutTerm_53 rfl (Or.inr rfl) ⟨by rw [bC_t q], rfl, rfl⟩
  have no : ¬ abT sg f x → Zq mX0_isAboutTerm 1 (pI (bC (abT sg f x)) sg ta) sg ta 52 [some (.ref (nm 17 f)), some (.int x)] [] := by
    intro q
    refine q_iconst (v := 0) dX0_isAboutTerm_52 rfl ?_
    exact z_zret dX0_isAboutTerm_53 rfl (Or.inl rfl) ⟨by rw [bC_f q], rfl, rfl⟩
  have third : ¬ sg 17 f 3 = x → ¬ ((¬ sg 17 f 2 = 2 ∧ ¬ sg 17 f 2 = 5) ∧ sg 17 f 4 = x) → Zq mX0_isAboutTerm 1 (pI (bC (abT sg f x)) sg ta) sg ta 23 [some (.ref (nm 17 f)), some (.int x)] [] := by
    intro n1 n2
    refine q_aload_n dX0_isAboutTerm_23 rfl ?_
    refine z_get 2 dX0_isAboutTerm_24 (by first | assumption | decide) (sh_17 _ _ _) rfl (by decide) fl_X0_18 rfl ?_
    refine q_bipush (v := 6) dX0_isAboutTerm_27 rfl ?_
    refine q_icmp_ne 52 dX0_isAboutTerm_29 (by decide) (fun h => ?_) (fun h => ?_)
    · exact no (fun q => q.elim n1 (fun q => q.elim n2 (fun q => h q.1)))
    · refine q_aload_n dX0_isAboutTerm_32 rfl ?_
      refine z_get 5 dX0_isAboutTerm_33 (by first | assumption | decide) (sh_17 _ _ _) rfl (by decide) fl_X0_28 rfl ?_
      refine q_iload_n dX0_isAboutTerm_36 rfl ?_
      refine q_icmp_eq 48 dX0_isAboutTerm_37 (by decide) (fun h2 => ?_) (fun h2 => ?_)
      · exact yes (Or.inr (Or.inr ⟨h, Or.inl h2⟩))
      · refine q_aload_n dX0_isAboutTerm_40 rfl ?_
        refine z_get 6 dX0_isAboutTerm_41 (by first | assumption | decide) (sh_17 _ _ _) rfl (by decide) fl_X0_31 rfl ?_
        refine q_iload_n dX0_isAboutTerm_44 rfl ?_
        refine q_icmp_ne 52 dX0_isAboutTerm_45 (by decide) (fun h3 => ?_) (fun h3 => ?_)
        · exact no (fun q => q.elim n1 (fun q => q.elim n2 (fun q => q.2.elim h2 h3)))
        · exact yes (Or.inr (Or.inr ⟨h, Or.inr h3⟩))
  refine zP_of (lv := [some (.ref (nm 17 f)), some (.int x)]) (by decide +kernel) rfl (fun h => by cases h) rfl (Nat.le_of_ble_eq_true rfl) ?_
  refine q_aload_n dX0_isAboutTerm_0 rfl ?_
  refine z_get 3 dX0_isAboutTerm_1 (by first | assumption | decide) (sh_17 _ _ _) rfl (by decide) fl_X0_22 rfl ?_
  refine q_iload_n dX0_isAboutTerm_4 rfl ?_
  refine q_icmp_eq 48 dX0_isAboutTerm_5 (by decide) (fun h => ?_) (fun h => ?_)
  · exact yes (Or.inl h)
  · refine q_aload_n dX0_isAboutTerm_8 rfl ?_
    refine z_callV (c_Formula_hasSecondTerm sg ta f hf) kV_X0_56 dX0_isAboutTerm_9 (by first | assumption | decide) (sh_17 _ _ _) rfl rfl rfl (by omega) (Nat.le_of_ble_eq_true rfl) (Nat.le_refl _) (Nat.le_refl _) rfl (fun v sg2 ta2 h => ?_)
    obtain ⟨rfl, rfl, rfl⟩ := h
    dsimp only [Option.toList, List.cons_append, List.nil_append]
    refine q_if_eq 23 dX0_isAboutTerm_12 (by decide) (fun h2 => ?_) (fun h2 => ?_)
    · exact third h (fun q => bC_z.mp h2 q.1)
    · refine q_aload_n dX0_isAboutTerm_15 rfl ?_
      refine z_get 4 dX0_isAboutTerm_16 (by first | assumption | decide) (sh_17 _ _ _) rfl (by decide) fl_X0_25 rfl ?_
      refine q_iload_n dX0_isAboutTerm_19 rfl ?_
      refine q_icmp_eq 48 dX0_isAboutTerm_20 (by decide) (fun h3 => ?_) (fun h3 => ?_)
      · exact yes (Or.inr (Or.inl ⟨bC_nz.mp h2, h3⟩))
      · exact third h (fun q => h3 q.2)
