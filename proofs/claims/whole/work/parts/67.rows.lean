/-! THE REFERENCE: rows are compared -/
theorem lrem_iff {h c : Int32} {b : Nat} (hb : 2 ≤ b) (hb2 : b ≤ 16) : (h.toInt64 - c.toInt64) - (h.toInt64 - c.toInt64) / (nI b).toInt64 * (nI b).toInt64 = 0 ↔ sumOk h (nI b) c := by
  have eb : ((nI b).toInt64).toInt = (b : Int) := by rw [Int32.toInt_toInt64, nI_toInt (by omega)]
  have eb' : (nI b).toInt = (b : Int) := nI_toInt (by omega)
  have hlo := Int32.le_toInt h
  have hhi := Int32.toInt_lt h
  have clo := Int32.le_toInt c
  have chi := Int32.toInt_lt c
  have hbp : (0 : Int) < b := by omega
  have ev : (h.toInt64 - c.toInt64).toInt = h.toInt - c.toInt := by
    rw [Int64.toInt_sub, Int32.toInt_toInt64, Int32.toInt_toInt64]
    apply Int.bmod_eq_of_le <;> omega
  generalize h.toInt64 - c.toInt64 = v at ev
  have er : (v - v / (nI b).toInt64 * (nI b).toInt64).toInt = v.toInt.tmod b := by
    have e1 : (v / (nI b).toInt64).toInt = v.toInt.tdiv b := by
      rw [Int64.toInt_div_of_ne_right _ _ (by intro q; have := congrArg Int64.toInt q; rw [eb] at this; have : (-1 : Int64).toInt = -1 := rfl; omega), eb]
    have e2 : v.toInt.tmod b = v.toInt - v.toInt.tdiv b * b := by
      have := Int.tmod_add_mul_tdiv v.toInt b
      have h3 : (b : Int) * v.toInt.tdiv b = v.toInt.tdiv b * b := Int.mul_comm _ _
      omega
    have hb1 := Int.tmod_lt_of_pos v.toInt hbp
    have hb0 : -(b : Int) < v.toInt.tmod b := by
      have := tmod_bounds (a := v.toInt) hbp
      omega
    rw [Int64.toInt_sub, Int64.toInt_mul, e1, eb]
    rw [show (v.toInt - (v.toInt.tdiv ↑b * ↑b).bmod (2 ^ 64)).bmod (2 ^ 64) = (v.toInt - v.toInt.tdiv ↑b * ↑b).bmod (2 ^ 64) by rw [Int.sub_bmod_bmod], ← e2]
    apply Int.bmod_eq_of_le <;> omega
  unfold sumOk
  rw [eb', ← ev, ← Int64.toInt_inj, er]
  constructor
  · intro q
    exact Int.emod_eq_zero_of_dvd (Int.dvd_of_tmod_eq_zero q)
  · intro q
    exact Int.tmod_eq_zero_of_dvd (Int.dvd_of_emod_eq_zero q)
set_option maxRecDepth 100000 in
set_option maxHeartbeats 4000000 in
theorem j_isSum (sg : zI) (ta : zJ) (l : List Int32) (p : Nat) (y : Int32) (h0 : MRow sg 0 l) (hp : 2 ≤ p) (hp2 : p ≤ 16) : zP yX8_isSum mX8_isSum 0 [.ref (nm 20 0), .int (nI p), .int y] sg ta (pI (bC (sumOk (sumL l) (nI p) y)) sg ta) := by
  obtain ⟨m0, m1, m2⟩ := h0
  refine zP_of (lv := [some (.ref (nm 20 0)), some (.int (nI p)), some (.int y), none, none, none]) (by decide +kernel) rfl (fun h => by cases h) rfl (Nat.le_of_ble_eq_true rfl) ?_
  have loop : ∀ (k j : Nat), j + k = l.length → Zq mX8_isSum 0 (pI (bC (sumOk (sumL l) (nI p) y)) sg ta) sg ta 5 [some (.ref (nm 20 0)), some (.int (nI p)), some (.int y), some (.int (sumR (fn l) j)), some (.int (nI j)), none] [] := by
    intro k
    induction k with
    | zero =>
      intro j hj
      have : j = l.length := by omega
      subst this
      refine q_iload dX8_isSum_5 rfl ?_
      refine q_aload_n dX8_isSum_7 rfl ?_
      refine z_get 27 dX8_isSum_8 (by first | assumption | decide) (sh_20 _ _ _) rfl (by decide) fl_X8_75 rfl ?_
      refine q_iconst (v := 0) dX8_isSum_11 rfl ?_
      refine z_iald dX8_isSum_12 (by first | assumption | decide) rfl (vp_in_nI (n := 0) (by omega) (by omega)) ?_
      rw [show sg 40 0 (Int32.toNatClampNeg 0) = nI l.length from m0]
      refine q_icmp_ge 37 dX8_isSum_13 (by decide) (fun g => ?_) (fun g => ?_)
      · refine q_iload_n dX8_isSum_37 rfl ?_
        refine q_i2l dX8_isSum_38 ?_
        refine q_iload_n dX8_isSum_39 rfl ?_
        refine q_i2l dX8_isSum_40 ?_
        refine q_lsub dX8_isSum_41 ?_
        refine q_lstore dX8_isSum_42 (Nat.le_of_ble_eq_true rfl) rfl ?_
        dsimp only [List.set]
        refine q_lload dX8_isSum_44 rfl ?_
        refine q_iload_n dX8_isSum_46 rfl ?_
        refine q_i2l dX8_isSum_47 ?_
        refine q_lrem dX8_isSum_48 (by rw [← Int64.toInt_inj, Int32.toInt_toInt64, nI_toInt (by omega)]; show ¬ (p : Int) = 0; omega) ?_
        refine q_lconst (v := 0) dX8_isSum_49 rfl ?_
        refine q_lcmp dX8_isSum_50 ?_
        refine q_if_ne 58 dX8_isSum_51 (by decide) (fun g2 => ?_) (fun g2 => ?_)
        · refine q_iconst (v := 0) dX8_isSum_58 rfl ?_
          refine z_zret dX8_isSum_59 rfl (Or.inl rfl) ⟨?_, rfl, rfl⟩
          rw [bC_f]
          intro q
          exact g2 ((lcmp0 _ _).mpr ((lrem_iff hp hp2).mpr q))
        · refine q_iconst (v := 1) dX8_isSum_54 rfl ?_
          refine q_goto 59 dX8_isSum_55 (by decide) ?_
          refine z_zret dX8_isSum_59 rfl (Or.inr rfl) ⟨?_, rfl, rfl⟩
          rw [bC_t]
          exact (lrem_iff hp hp2).mp ((lcmp0 _ _).mp g2)
      · exact absurd (nI_le (by omega) (by omega)) g
    | succ k ih =>
      intro j hj
      refine q_iload dX8_isSum_5 rfl ?_
      refine q_aload_n dX8_isSum_7 rfl ?_
      refine z_get 27 dX8_isSum_8 (by first | assumption | decide) (sh_20 _ _ _) rfl (by decide) fl_X8_75 rfl ?_
      refine q_iconst (v := 0) dX8_isSum_11 rfl ?_
      refine z_iald dX8_isSum_12 (by first | assumption | decide) rfl (vp_in_nI (n := 0) (by omega) (by omega)) ?_
      rw [show sg 40 0 (Int32.toNatClampNeg 0) = nI l.length from m0]
      refine q_icmp_ge 37 dX8_isSum_13 (by decide) (fun g => ?_) (fun g => ?_)
      · exact absurd g (nI_ge (by omega) (by omega))
      · refine q_bipush (v := 31) dX8_isSum_16 rfl ?_
        refine q_iload_n dX8_isSum_18 rfl ?_
        refine q_imul dX8_isSum_19 ?_
        refine q_aload_n dX8_isSum_20 rfl ?_
        refine z_get 26 dX8_isSum_21 (by first | assumption | decide) (sh_20 _ _ _) rfl (by decide) fl_X8_72 rfl ?_
        refine q_iload dX8_isSum_24 rfl ?_
        refine z_iald dX8_isSum_26 (by first | assumption | decide) rfl (vp_in_nI (n := j) (by omega) (by omega)) ?_
        rw [nI_clamp (by omega), show sg 39 0 j = fn l j by rw [m2 j (by omega)]; congr 1; omega]
        refine q_iadd dX8_isSum_27 ?_
        refine q_iconst (v := 1) dX8_isSum_28 rfl ?_
        refine q_iadd dX8_isSum_29 ?_
        refine s_istore_n 3 dX8_isSum_30 rfl (Nat.le_of_ble_eq_true rfl) rfl ?_
        dsimp only [List.set]
        refine q_iinc dX8_isSum_31 rfl (Nat.le_of_ble_eq_true rfl) rfl ?_
        dsimp only [List.set]
        refine q_goto 5 dX8_isSum_34 (by decide) ?_
        rw [nI_inc]
        exact ih (j + 1) (by omega)
  refine q_iconst (v := 0) dX8_isSum_0 rfl ?_
  refine s_istore_n 3 dX8_isSum_1 rfl (Nat.le_of_ble_eq_true rfl) rfl ?_
  dsimp only [List.set]
  refine q_iconst (v := 0) dX8_isSum_2 rfl ?_
  refine q_istore dX8_isSum_3 (Nat.le_of_ble_eq_true rfl) rfl ?_
  dsimp only [List.set]
  exact loop l.length 0 (by omega)
set_option maxRecDepth 100000 in
set_option maxHeartbeats 4000000 in
theorem j_isSame (sg : zI) (ta : zJ) (a b : List Int32) (h0 : MRow sg 0 a) (h1 : MRow sg 1 b) : zP yX8_isSame mX8_isSame 0 [.ref (nm 20 0)] sg ta (pI (bC (a = b)) sg ta) := by
  obtain ⟨a0, a1, a2⟩ := h0
  obtain ⟨b0, b1, b2⟩ := h1
  refine zP_of (lv := [some (.ref (nm 20 0)), none, none]) (by decide +kernel) rfl (fun h => by cases h) rfl (Nat.le_of_ble_eq_true rfl) ?_
  have loop : ∀ (k j : Nat) (F : Int32), j + k = a.length → F = bC (a.length = b.length ∧ ∀ q, q < j → fn a q = fn b q) → Zq mX8_isSame 0 (pI (bC (a = b)) sg ta) sg ta 23 [some (.ref (nm 20 0)), some (.int F), some (.int (nI j))] [] := by
    intro k
    induction k with
    | zero =>
      intro j F hj hF
      subst hF
      have : j = a.length := by omega
      subst this
      refine q_iload_n dX8_isSame_23 rfl ?_
      refine q_aload_n dX8_isSame_24 rfl ?_
      refine z_get 27 dX8_isSame_25 (by first | assumption | decide) (sh_20 _ _ _) rfl (by decide) fl_X8_75 rfl ?_
      refine q_iconst (v := 0) dX8_isSame_28 rfl ?_
      refine z_iald dX8_isSame_29 (by first | assumption | decide) rfl (vp_in_nI (n := 0) (by omega) (by omega)) ?_
      rw [show sg 40 0 (Int32.toNatClampNeg 0) = nI a.length from a0]
      refine q_icmp_ge 67 dX8_isSame_30 (by decide) (fun g => ?_) (fun g => ?_)
      · refine q_iload_n dX8_isSame_67 rfl ?_
        refine z_zret dX8_isSame_68 rfl (bC_01 _) ⟨?_, rfl, rfl⟩
        rw [bC_iff (q := a = b) ⟨fun q => fn_ext q.1 q.2, fun q => by subst q; exact ⟨rfl, fun _ _ => rfl⟩⟩]
      · exact absurd (nI_le (by omega) (by omega)) g
    | succ k ih =>
      intro j F hj hF
      subst hF
      refine q_iload_n dX8_isSame_23 rfl ?_
      refine q_aload_n dX8_isSame_24 rfl ?_
      refine z_get 27 dX8_isSame_25 (by first | assumption | decide) (sh_20 _ _ _) rfl (by decide) fl_X8_75 rfl ?_
      refine q_iconst (v := 0) dX8_isSame_28 rfl ?_
      refine z_iald dX8_isSame_29 (by first | assumption | decide) rfl (vp_in_nI (n := 0) (by omega) (by omega)) ?_
      rw [show sg 40 0 (Int32.toNatClampNeg 0) = nI a.length from a0]
      refine q_icmp_ge 67 dX8_isSame_30 (by decide) (fun g => ?_) (fun g => ?_)
      · exact absurd g (nI_ge (by omega) (by omega))
      · refine q_iload_n dX8_isSame_33 rfl ?_
        refine q_if_eq 67 dX8_isSame_34 (by decide) (fun g2 => ?_) (fun g2 => ?_)
        · have hn := bC_z.mp g2
          refine q_iload_n dX8_isSame_67 rfl ?_
          refine z_zret dX8_isSame_68 rfl (bC_01 _) ⟨?_, rfl, rfl⟩
          rw [bC_f hn, bC_f (fun q => hn (by subst q; exact ⟨rfl, fun _ _ => rfl⟩))]
        · obtain ⟨hl, hq⟩ := bC_nz.mp g2
          refine q_aload_n dX8_isSame_37 rfl ?_
          refine z_get 26 dX8_isSame_38 (by first | assumption | decide) (sh_20 _ _ _) rfl (by decide) fl_X8_72 rfl ?_
          refine q_iload_n dX8_isSame_41 rfl ?_
          refine z_iald dX8_isSame_42 (by first | assumption | decide) rfl (vp_in_nI (n := j) (by omega) (by omega)) ?_
          refine q_aload_n dX8_isSame_43 rfl ?_
          refine z_get 26 dX8_isSame_44 (by first | assumption | decide) (sh_20 _ _ _) rfl (by decide) fl_X8_72 rfl ?_
          refine q_bipush (v := 32) dX8_isSame_47 rfl ?_
          refine q_iload_n dX8_isSame_49 rfl ?_
          refine q_iadd dX8_isSame_50 ?_
          rw [nI_clamp (by omega), show sg 39 0 j = fn a j by rw [a2 j (by omega)]; congr 1; omega, show (32 : Int32) + nI j = nI (32 + j) from nI_add 32 j]
          refine z_iald dX8_isSame_51 (by first | assumption | decide) rfl (vp_in_nI (n := 32 + j) (by omega) (by omega)) ?_
          rw [nI_clamp (by omega), show sg 39 0 (32 + j) = fn b j by rw [b2 j (by omega)]]
          refine q_icmp_ne 59 dX8_isSame_52 (by decide) (fun g3 => ?_) (fun g3 => ?_)
          · refine q_iconst (v := 0) dX8_isSame_59 rfl ?_
            refine s_istore_n 1 dX8_isSame_60 rfl (Nat.le_of_ble_eq_true rfl) rfl ?_
            dsimp only [List.set]
            refine q_iinc dX8_isSame_61 rfl (Nat.le_of_ble_eq_true rfl) rfl ?_
            dsimp only [List.set]
            refine q_goto 23 dX8_isSame_64 (by decide) ?_
            rw [nI_inc]
            exact ih (j + 1) _ (by omega) (bC_f (fun q => g3 (q.2 j (by omega)))).symm
          · refine q_iconst (v := 1) dX8_isSame_55 rfl ?_
            refine q_goto 60 dX8_isSame_56 (by decide) ?_
            refine s_istore_n 1 dX8_isSame_60 rfl (Nat.le_of_ble_eq_true rfl) rfl ?_
            dsimp only [List.set]
            refine q_iinc dX8_isSame_61 rfl (Nat.le_of_ble_eq_true rfl) rfl ?_
            dsimp only [List.set]
            refine q_goto 23 dX8_isSame_64 (by decide) ?_
            rw [nI_inc]
            refine ih (j + 1) _ (by omega) (bC_t ⟨hl, fun q hq2 => ?_⟩).symm
            by_cases e : q = j
            · subst e; exact g3
            · exact hq q (by omega)
  refine q_aload_n dX8_isSame_0 rfl ?_
  refine z_get 27 dX8_isSame_1 (by first | assumption | decide) (sh_20 _ _ _) rfl (by decide) fl_X8_75 rfl ?_
  refine q_iconst (v := 0) dX8_isSame_4 rfl ?_
  refine z_iald dX8_isSame_5 (by first | assumption | decide) rfl (vp_in_nI (n := 0) (by omega) (by omega)) ?_
  refine q_aload_n dX8_isSame_6 rfl ?_
  refine z_get 27 dX8_isSame_7 (by first | assumption | decide) (sh_20 _ _ _) rfl (by decide) fl_X8_75 rfl ?_
  refine q_iconst (v := 1) dX8_isSame_10 rfl ?_
  refine z_iald dX8_isSame_11 (by first | assumption | decide) rfl (vp_in_nI (n := 1) (by omega) (by omega)) ?_
  rw [show sg 40 0 (Int32.toNatClampNeg 0) = nI a.length from a0, show sg 40 0 (Int32.toNatClampNeg 1) = nI b.length from b0]
  refine q_icmp_ne 19 dX8_isSame_12 (by decide) (fun g => ?_) (fun g => ?_)
  · refine q_iconst (v := 0) dX8_isSame_19 rfl ?_
    refine s_istore_n 1 dX8_isSame_20 rfl (Nat.le_of_ble_eq_true rfl) rfl ?_
    dsimp only [List.set]
    refine q_iconst (v := 0) dX8_isSame_21 rfl ?_
    refine s_istore_n 2 dX8_isSame_22 rfl (Nat.le_of_ble_eq_true rfl) rfl ?_
    dsimp only [List.set]
    exact loop a.length 0 _ (by omega) (bC_f (fun q => g (by rw [q.1]))).symm
  · refine q_iconst (v := 1) dX8_isSame_15 rfl ?_
    refine q_goto 20 dX8_isSame_16 (by decide) ?_
    refine s_istore_n 1 dX8_isSame_20 rfl (Nat.le_of_ble_eq_true rfl) rfl ?_
    dsimp only [List.set]
    refine q_iconst (v := 0) dX8_isSame_21 rfl ?_
    refine s_istore_n 2 dX8_isSame_22 rfl (Nat.le_of_ble_eq_true rfl) rfl ?_
    dsimp only [List.set]
    exact loop a.length 0 _ (by omega) (bC_t ⟨(nI_eq (by omega) (by omega)).mp g, fun q hq => absurd hq (by omega)⟩).symm
set_option maxRecDepth 100000 in
set_option maxHeartbeats 4000000 in
theorem j_isBefore (sg : zI) (ta : zJ) (a b : List Int32) (h0 : MRow sg 0 a) (h1 : MRow sg 1 b) : zP yX8_isBefore mX8_isBefore 0 [.ref (nm 20 0)] sg ta (pI (bC (befL a b)) sg ta) := by
  obtain ⟨a0, a1, a2⟩ := h0
  obtain ⟨b0, b1, b2⟩ := h1
  refine zP_of (lv := [some (.ref (nm 20 0)), none]) (by decide +kernel) rfl (fun h => by cases h) rfl (Nat.le_of_ble_eq_true rfl) ?_
  have ea : ∀ j, j < a.length → sg 39 0 j = fn a j := fun j hj => by rw [a2 j hj]; congr 1; omega
  have eb : ∀ j, j < b.length → sg 39 0 (32 + j) = fn b j := fun j hj => by rw [b2 j hj]
  have ez : sg 40 0 (Int32.toNatClampNeg 0) = nI a.length := a0
  have e1 : sg 40 0 (Int32.toNatClampNeg 1) = nI b.length := b0
  have fin : ∀ j, j ≤ a.length → j ≤ b.length → (∀ q, q < j → fn a q = fn b q) → (j < a.length → j < b.length → ¬ fn a j = fn b j) → Zq mX8_isBefore 0 (pI (bC (befL a b)) sg ta) sg ta 46 [some (.ref (nm 20 0)), some (.int (nI j))] [] := by
    intro j ja jb he hne
    have key : befL a b ↔ (j < b.length ∧ (j = a.length ∨ (j < a.length ∧ fn a j < fn b j))) := by
      unfold befL befR
      constructor
      · rintro ⟨i, h1, h2, h3, h4⟩
        rcases Nat.lt_trichotomy i j with g | g | g
        · rcases h4 with h4 | ⟨h4, h5⟩
          · omega
          · rw [he i g] at h5; exact absurd h5 (Int32.not_lt.mpr (Int32.le_refl _))
        · subst g; exact ⟨h3, h4⟩
        · exact absurd (h1 j g) (hne (by omega) (by omega))
      · rintro ⟨h1, h2⟩
        exact ⟨j, he, ja, h1, h2⟩
    refine q_iload_n dX8_isBefore_46 rfl ?_
    refine q_aload_n dX8_isBefore_47 rfl ?_
    refine z_get 27 dX8_isBefore_48 (by first | assumption | decide) (sh_20 _ _ _) rfl (by decide) fl_X8_75 rfl ?_
    refine q_iconst (v := 1) dX8_isBefore_51 rfl ?_
    refine z_iald dX8_isBefore_52 (by first | assumption | decide) rfl (vp_in_nI (n := 1) (by omega) (by omega)) ?_
    rw [e1]
    refine q_icmp_ge 88 dX8_isBefore_53 (by decide) (fun g => ?_) (fun g => ?_)
    · have := (nI_leI (by omega) (by omega)).mp g
      refine q_iconst (v := 0) dX8_isBefore_88 rfl ?_
      exact z_zret dX8_isBefore_89 rfl (Or.inl rfl) ⟨by rw [bC_f (fun q => absurd (key.mp q).1 (by omega))], rfl, rfl⟩
    · have hjb : j < b.length := Nat.lt_of_not_le (fun q => g (nI_le q (by omega)))
      refine q_iload_n dX8_isBefore_56 rfl ?_
      refine q_aload_n dX8_isBefore_57 rfl ?_
      refine z_get 27 dX8_isBefore_58 (by first | assumption | decide) (sh_20 _ _ _) rfl (by decide) fl_X8_75 rfl ?_
      refine q_iconst (v := 0) dX8_isBefore_61 rfl ?_
      refine z_iald dX8_isBefore_62 (by first | assumption | decide) rfl (vp_in_nI (n := 0) (by omega) (by omega)) ?_
      rw [ez]
      refine q_icmp_eq 84 dX8_isBefore_63 (by decide) (fun g2 => ?_) (fun g2 => ?_)
      · refine q_iconst (v := 1) dX8_isBefore_84 rfl ?_
        refine q_goto 89 dX8_isBefore_85 (by decide) ?_
        exact z_zret dX8_isBefore_89 rfl (Or.inr rfl) ⟨by rw [bC_t (key.mpr ⟨hjb, Or.inl ((nI_eq (by omega) (by omega)).mp g2)⟩)], rfl, rfl⟩
      · have hja : j < a.length := by
          have : j ≠ a.length := fun q => g2 (by rw [q])
          omega
        refine q_aload_n dX8_isBefore_66 rfl ?_
        refine z_get 26 dX8_isBefore_67 (by first | assumption | decide) (sh_20 _ _ _) rfl (by decide) fl_X8_72 rfl ?_
        refine q_iload_n dX8_isBefore_70 rfl ?_
        refine z_iald dX8_isBefore_71 (by first | assumption | decide) rfl (vp_in_nI (n := j) (by omega) (by omega)) ?_
        refine q_aload_n dX8_isBefore_72 rfl ?_
        refine z_get 26 dX8_isBefore_73 (by first | assumption | decide) (sh_20 _ _ _) rfl (by decide) fl_X8_72 rfl ?_
        refine q_bipush (v := 32) dX8_isBefore_76 rfl ?_
        refine q_iload_n dX8_isBefore_78 rfl ?_
        refine q_iadd dX8_isBefore_79 ?_
        rw [nI_clamp (by omega), ea j hja, show (32 : Int32) + nI j = nI (32 + j) from nI_add 32 j]
        refine z_iald dX8_isBefore_80 (by first | assumption | decide) rfl (vp_in_nI (n := 32 + j) (by omega) (by omega)) ?_
        rw [nI_clamp (by omega), eb j hjb]
        refine q_icmp_ge 88 dX8_isBefore_81 (by decide) (fun g3 => ?_) (fun g3 => ?_)
        · refine q_iconst (v := 0) dX8_isBefore_88 rfl ?_
          refine z_zret dX8_isBefore_89 rfl (Or.inl rfl) ⟨?_, rfl, rfl⟩
          rw [bC_f]
          intro q
          rcases (key.mp q).2 with q2 | q2
          · omega
          · exact absurd q2.2 (Int32.not_lt.mpr g3)
        · refine q_iconst (v := 1) dX8_isBefore_84 rfl ?_
          refine q_goto 89 dX8_isBefore_85 (by decide) ?_
          exact z_zret dX8_isBefore_89 rfl (Or.inr rfl) ⟨by rw [bC_t (key.mpr ⟨hjb, Or.inr ⟨hja, Int32.not_le.mp g3⟩⟩)], rfl, rfl⟩
  have loop : ∀ (k j : Nat), j + k = a.length → j ≤ b.length → (∀ q, q < j → fn a q = fn b q) → Zq mX8_isBefore 0 (pI (bC (befL a b)) sg ta) sg ta 2 [some (.ref (nm 20 0)), some (.int (nI j))] [] := by
    intro k
    induction k with
    | zero =>
      intro j hj jb he
      refine q_iload_n dX8_isBefore_2 rfl ?_
      refine q_aload_n dX8_isBefore_3 rfl ?_
      refine z_get 27 dX8_isBefore_4 (by first | assumption | decide) (sh_20 _ _ _) rfl (by decide) fl_X8_75 rfl ?_
      refine q_iconst (v := 0) dX8_isBefore_7 rfl ?_
      refine z_iald dX8_isBefore_8 (by first | assumption | decide) rfl (vp_in_nI (n := 0) (by omega) (by omega)) ?_
      rw [ez]
      refine q_icmp_ge 46 dX8_isBefore_9 (by decide) (fun g => ?_) (fun g => ?_)
      · exact fin j (by omega) jb he (fun q => absurd q (by omega))
      · exact absurd (nI_le (by omega) (by omega)) g
    | succ k ih =>
      intro j hj jb he
      refine q_iload_n dX8_isBefore_2 rfl ?_
      refine q_aload_n dX8_isBefore_3 rfl ?_
      refine z_get 27 dX8_isBefore_4 (by first | assumption | decide) (sh_20 _ _ _) rfl (by decide) fl_X8_75 rfl ?_
      refine q_iconst (v := 0) dX8_isBefore_7 rfl ?_
      refine z_iald dX8_isBefore_8 (by first | assumption | decide) rfl (vp_in_nI (n := 0) (by omega) (by omega)) ?_
      rw [ez]
      refine q_icmp_ge 46 dX8_isBefore_9 (by decide) (fun g => ?_) (fun g => ?_)
      · exact absurd g (nI_ge (by omega) (by omega))
      · refine q_iload_n dX8_isBefore_12 rfl ?_
        refine q_aload_n dX8_isBefore_13 rfl ?_
        refine z_get 27 dX8_isBefore_14 (by first | assumption | decide) (sh_20 _ _ _) rfl (by decide) fl_X8_75 rfl ?_
        refine q_iconst (v := 1) dX8_isBefore_17 rfl ?_
        refine z_iald dX8_isBefore_18 (by first | assumption | decide) rfl (vp_in_nI (n := 1) (by omega) (by omega)) ?_
        rw [e1]
        refine q_icmp_ge 46 dX8_isBefore_19 (by decide) (fun g2 => ?_) (fun g2 => ?_)
        · have := (nI_leI (by omega) (by omega)).mp g2
          exact fin j (by omega) jb he (fun _ q => absurd q (by omega))
        · have hjb : j < b.length := Nat.lt_of_not_le (fun q => g2 (nI_le q (by omega)))
          refine q_aload_n dX8_isBefore_22 rfl ?_
          refine z_get 26 dX8_isBefore_23 (by first | assumption | decide) (sh_20 _ _ _) rfl (by decide) fl_X8_72 rfl ?_
          refine q_iload_n dX8_isBefore_26 rfl ?_
          refine z_iald dX8_isBefore_27 (by first | assumption | decide) rfl (vp_in_nI (n := j) (by omega) (by omega)) ?_
          refine q_aload_n dX8_isBefore_28 rfl ?_
          refine z_get 26 dX8_isBefore_29 (by first | assumption | decide) (sh_20 _ _ _) rfl (by decide) fl_X8_72 rfl ?_
          refine q_bipush (v := 32) dX8_isBefore_32 rfl ?_
          refine q_iload_n dX8_isBefore_34 rfl ?_
          refine q_iadd dX8_isBefore_35 ?_
          rw [nI_clamp (by omega), ea j (by omega), show (32 : Int32) + nI j = nI (32 + j) from nI_add 32 j]
          refine z_iald dX8_isBefore_36 (by first | assumption | decide) rfl (vp_in_nI (n := 32 + j) (by omega) (by omega)) ?_
          rw [nI_clamp (by omega), eb j hjb]
          refine q_icmp_ne 46 dX8_isBefore_37 (by decide) (fun g3 => ?_) (fun g3 => ?_)
          · exact fin j (by omega) jb he (fun _ _ => g3)
          · refine q_iinc dX8_isBefore_40 rfl (Nat.le_of_ble_eq_true rfl) rfl ?_
            dsimp only [List.set]
            refine q_goto 2 dX8_isBefore_43 (by decide) ?_
            rw [nI_inc]
            exact ih (j + 1) (by omega) hjb (fun q hq => by
              by_cases e : q = j
              · subst e; exact g3
              · exact he q (by omega))
  refine q_iconst (v := 0) dX8_isBefore_0 rfl ?_
  refine s_istore_n 1 dX8_isBefore_1 rfl (Nat.le_of_ble_eq_true rfl) rfl ?_
  dsimp only [List.set]
  exact loop a.length 0 (by omega) (by omega) (fun q hq => absurd hq (by omega))
set_option maxRecDepth 100000 in
set_option maxHeartbeats 4000000 in
theorem j_isTaken (sg : zI) (ta : zJ) (A nc m : Nat) (l : List Int32) (hA : A = 2 ∨ A = 3) (hC : MaM sg nc) (hm : m < nc) (h0 : MRow sg 0 l) (hl : ∀ j, j < l.length → ∃ a, a < A ∧ fn l j = nI a) : zP yX8_isTaken mX8_isTaken 0 [.ref (nm 20 0), .int (nI m), .int 0] sg ta (pI (bC (mxM sg (nI m) l)) sg ta) := by
  obtain ⟨a0, a1, a2⟩ := h0
  have hnc := hC.1
  have lt : ∀ j, j ≤ l.length → mrM sg m (fn l) j < 6 := fun j hj => mrM_lt (A := A) (by omega) hC hm j (fun q hq => hl q (by omega))
  refine zP_of (lv := [some (.ref (nm 20 0)), some (.int (nI m)), some (.int 0), none, none]) (by decide +kernel) rfl (fun h => by cases h) rfl (Nat.le_of_ble_eq_true rfl) ?_
  have loop : ∀ (k j : Nat), j + k = l.length → Zq mX8_isTaken 0 (pI (bC (mxM sg (nI m) l)) sg ta) sg ta 5 [some (.ref (nm 20 0)), some (.int (nI m)), some (.int 0), some (.int (nI (mrM sg m (fn l) j))), some (.int (nI j))] [] := by
    intro k
    induction k with
    | zero =>
      intro j hj
      have : j = l.length := by omega
      subst this
      have lt6 := lt l.length (Nat.le_refl _)
      refine q_iload dX8_isTaken_5 rfl ?_
      refine q_aload_n dX8_isTaken_7 rfl ?_
      refine z_get 27 dX8_isTaken_8 (by first | assumption | decide) (sh_20 _ _ _) rfl (by decide) fl_X8_75 rfl ?_
      refine q_iload_n dX8_isTaken_11 rfl ?_
      refine z_iald dX8_isTaken_12 (by first | assumption | decide) rfl (vp_in_nI (n := 0) (by omega) (by omega)) ?_
      rw [show sg 40 0 (Int32.toNatClampNeg 0) = nI l.length from a0]
      refine q_icmp_ge 49 dX8_isTaken_13 (by decide) (fun g => ?_) (fun g => ?_)
      · refine q_aload_n dX8_isTaken_49 rfl ?_
        refine z_get 10 dX8_isTaken_50 (by first | assumption | decide) (sh_20 _ _ _) rfl (by decide) fl_X8_32 rfl ?_
        refine q_bipush (v := 6) dX8_isTaken_53 rfl ?_
        refine q_iload_n dX8_isTaken_55 rfl ?_
        refine q_imul dX8_isTaken_56 ?_
        refine q_iload_n dX8_isTaken_57 rfl ?_
        refine q_iadd dX8_isTaken_58 ?_
        rw [show (6 : Int32) * nI m = nI (6 * m) from pk_mul 6 m, nI_add]
        refine z_zald dX8_isTaken_59 (by first | assumption | decide) rfl (vp_in_nI (n := 6 * m + mrM sg m (fn l) l.length) (by omega) (by omega)) ?_
        rw [nI_clamp (by omega)]
        have h01 := (hC.2.2 m hm).2.2 (mrM sg m (fn l) l.length) lt6
        refine z_zret dX8_isTaken_60 rfl h01 ⟨?_, rfl, rfl⟩
        unfold mxM
        rw [nI_clamp (show m < 2 ^ 31 by omega)]
        rcases h01 with q | q
        · rw [q, bC_f (by decide)]
        · rw [q, bC_t rfl]
      · exact absurd (nI_le (by omega) (by omega)) g
    | succ k ih =>
      intro j hj
      have lt6 := lt j (by omega)
      obtain ⟨a, ha, e⟩ := hl j (by omega)
      refine q_iload dX8_isTaken_5 rfl ?_
      refine q_aload_n dX8_isTaken_7 rfl ?_
      refine z_get 27 dX8_isTaken_8 (by first | assumption | decide) (sh_20 _ _ _) rfl (by decide) fl_X8_75 rfl ?_
      refine q_iload_n dX8_isTaken_11 rfl ?_
      refine z_iald dX8_isTaken_12 (by first | assumption | decide) rfl (vp_in_nI (n := 0) (by omega) (by omega)) ?_
      rw [show sg 40 0 (Int32.toNatClampNeg 0) = nI l.length from a0]
      refine q_icmp_ge 49 dX8_isTaken_13 (by decide) (fun g => ?_) (fun g => ?_)
      · exact absurd g (nI_ge (by omega) (by omega))
      · refine q_aload_n dX8_isTaken_16 rfl ?_
        refine z_get 9 dX8_isTaken_17 (by first | assumption | decide) (sh_20 _ _ _) rfl (by decide) fl_X8_29 rfl ?_
        refine q_bipush (v := 18) dX8_isTaken_20 rfl ?_
        refine q_iload_n dX8_isTaken_22 rfl ?_
        refine q_imul dX8_isTaken_23 ?_
        refine q_iconst (v := 3) dX8_isTaken_24 rfl ?_
        refine q_iload_n dX8_isTaken_25 rfl ?_
        refine q_imul dX8_isTaken_26 ?_
        refine q_iadd dX8_isTaken_27 ?_
        refine q_aload_n dX8_isTaken_28 rfl ?_
        refine z_get 26 dX8_isTaken_29 (by first | assumption | decide) (sh_20 _ _ _) rfl (by decide) fl_X8_72 rfl ?_
        refine q_bipush (v := 32) dX8_isTaken_32 rfl ?_
        refine q_iload_n dX8_isTaken_34 rfl ?_
        refine q_imul dX8_isTaken_35 ?_
        refine q_iload dX8_isTaken_36 rfl ?_
        rw [show (32 : Int32) * 0 = nI 0 from rfl]
        refine q_iadd dX8_isTaken_38 ?_
        rw [nI_add, Nat.zero_add]
        refine z_iald dX8_isTaken_39 (by first | assumption | decide) rfl (vp_in_nI (n := j) (by omega) (by omega)) ?_
        rw [nI_clamp (by omega), show sg 39 0 j = nI a by rw [← e, a2 j (by omega)]; congr 1; omega]
        refine q_iadd dX8_isTaken_40 ?_
        rw [show (18 : Int32) * nI m = nI (18 * m) from pk_mul 18 m, show (3 : Int32) * nI (mrM sg m (fn l) j) = nI (3 * mrM sg m (fn l) j) from pk_mul 3 _, nI_add, nI_add]
        refine z_iald dX8_isTaken_41 (by first | assumption | decide) rfl (vp_in_nI (n := 18 * m + 3 * mrM sg m (fn l) j + a) (by omega) (by omega)) ?_
        rw [nI_clamp (by omega)]
        obtain ⟨r, hr, e2⟩ := (hC.2.2 m hm).2.1 (mrM sg m (fn l) j) a lt6 (by omega)
        refine s_istore_n 3 dX8_isTaken_42 rfl (Nat.le_of_ble_eq_true rfl) rfl ?_
        dsimp only [List.set]
        refine q_iinc dX8_isTaken_43 rfl (Nat.le_of_ble_eq_true rfl) rfl ?_
        dsimp only [List.set]
        refine q_goto 5 dX8_isTaken_46 (by decide) ?_
        rw [nI_inc]
        have h := ih (j + 1) (by omega)
        rw [show mrM sg m (fn l) (j + 1) = r by simp only [mrM]; rw [e, nI_clamp (by omega), e2, nI_clamp (by omega)]] at h
        rw [e2]
        exact h
  refine q_iconst (v := 0) dX8_isTaken_0 rfl ?_
  refine s_istore_n 3 dX8_isTaken_1 rfl (Nat.le_of_ble_eq_true rfl) rfl ?_
  dsimp only [List.set]
  refine q_iconst (v := 0) dX8_isTaken_2 rfl ?_
  refine q_istore dX8_isTaken_3 (Nat.le_of_ble_eq_true rfl) rfl ?_
  dsimp only [List.set]
  exact loop l.length 0 (by omega)
set_option maxRecDepth 100000 in
set_option maxHeartbeats 4000000 in
theorem j_found (sg : zI) (ta : zJ) (v w : Nat) (a b : List Int32) (hv : v < 4) (hw : w < 4) (h0 : MRow sg v a) (h1 : MRow sg w b) : zP yX8_found mX8_found 0 [.ref (nm 20 0), .int (nI v), .int (nI w)] sg ta (fun x s t => s = sg ∧ t = ta ∧ ∃ r, x = some (.int r) ∧ ((r = -1 ∧ ¬ hasL a b) ∨ ∃ p, r = nI p ∧ fstL a b p)) := by
  obtain ⟨a0, a1, a2⟩ := h0
  obtain ⟨b0, b1, b2⟩ := h1
  refine zP_of (lv := [some (.ref (nm 20 0)), some (.int (nI v)), some (.int (nI w)), none, none, none]) (by decide +kernel) rfl (fun h => by cases h) rfl (Nat.le_of_ble_eq_true rfl) ?_
  have loop : ∀ (k p : Nat) (z1 z2 : Option Value), p + k = a.length + 1 → (∀ q, q < p → ¬ matR (fn a) a.length (fn b) b.length q) → Zq mX8_found 0 (fun x s t => s = sg ∧ t = ta ∧ ∃ r, x = some (.int r) ∧ ((r = -1 ∧ ¬ hasL a b) ∨ ∃ p, r = nI p ∧ fstL a b p)) sg ta 2 [some (.ref (nm 20 0)), some (.int (nI v)), some (.int (nI w)), some (.int (nI p)), z1, z2] [] := by
    intro k
    induction k with
    | zero =>
      intro p z1 z2 hp hq
      refine q_iload_n dX8_found_2 rfl ?_
      refine q_aload_n dX8_found_3 rfl ?_
      refine z_get 27 dX8_found_4 (by first | assumption | decide) (sh_20 _ _ _) rfl (by decide) fl_X8_75 rfl ?_
      refine q_iload_n dX8_found_7 rfl ?_
      refine z_iald dX8_found_8 (by first | assumption | decide) rfl (vp_in_nI (n := w) (by omega) (by omega)) ?_
      refine q_iadd dX8_found_9 ?_
      refine q_aload_n dX8_found_10 rfl ?_
      refine z_get 27 dX8_found_11 (by first | assumption | decide) (sh_20 _ _ _) rfl (by decide) fl_X8_75 rfl ?_
      refine q_iload_n dX8_found_14 rfl ?_
      refine z_iald dX8_found_15 (by first | assumption | decide) rfl (vp_in_nI (n := v) (by omega) (by omega)) ?_
      rw [nI_clamp (show w < 2 ^ 31 by omega), nI_clamp (show v < 2 ^ 31 by omega), a0, b0, nI_add]
      refine q_icmp_gt 96 dX8_found_16 (by decide) (fun g => ?_) (fun g => ?_)
      · refine q_iconst (v := (-1)) dX8_found_96 rfl ?_
        exact z_iret dX8_found_97 rfl ⟨rfl, rfl, _, rfl, Or.inl ⟨rfl, fun ⟨q, hq2⟩ => hq q (by have := hq2.1; omega) hq2⟩⟩
      · exact absurd (nI_lt (by omega) (by omega)) g
    | succ k ih =>
      intro p z1 z2 hp hq
      refine q_iload_n dX8_found_2 rfl ?_
      refine q_aload_n dX8_found_3 rfl ?_
      refine z_get 27 dX8_found_4 (by first | assumption | decide) (sh_20 _ _ _) rfl (by decide) fl_X8_75 rfl ?_
      refine q_iload_n dX8_found_7 rfl ?_
      refine z_iald dX8_found_8 (by first | assumption | decide) rfl (vp_in_nI (n := w) (by omega) (by omega)) ?_
      refine q_iadd dX8_found_9 ?_
      refine q_aload_n dX8_found_10 rfl ?_
      refine z_get 27 dX8_found_11 (by first | assumption | decide) (sh_20 _ _ _) rfl (by decide) fl_X8_75 rfl ?_
      refine q_iload_n dX8_found_14 rfl ?_
      refine z_iald dX8_found_15 (by first | assumption | decide) rfl (vp_in_nI (n := v) (by omega) (by omega)) ?_
      rw [nI_clamp (show w < 2 ^ 31 by omega), nI_clamp (show v < 2 ^ 31 by omega), a0, b0, nI_add]
      refine q_icmp_gt 96 dX8_found_16 (by decide) (fun g => ?_) (fun g => ?_)
      · have hgt := (nI_ltI (by omega) (by omega)).mp g
        refine q_iconst (v := (-1)) dX8_found_96 rfl ?_
        refine z_iret dX8_found_97 rfl ⟨rfl, rfl, _, rfl, Or.inl ⟨rfl, fun ⟨q, hq2⟩ => ?_⟩⟩
        have := hq2.1
        exact hq q (by omega) hq2
      · have hle : p + b.length ≤ a.length := Nat.le_of_not_lt (fun q => g (nI_lt q (by omega)))
        -- behind the inner loop
        have go : ∀ (F : Int32) z2, (F = bC (matR (fn a) a.length (fn b) b.length p)) → Zq mX8_found 0 (fun x s t => s = sg ∧ t = ta ∧ ∃ r, x = some (.int r) ∧ ((r = -1 ∧ ¬ hasL a b) ∨ ∃ p, r = nI p ∧ fstL a b p)) sg ta 83 [some (.ref (nm 20 0)), some (.int (nI v)), some (.int (nI w)), some (.int (nI p)), some (.int F), z2] [] := by
          intro F z2 hF
          subst hF
          refine q_iload dX8_found_83 rfl ?_
          refine q_if_eq 90 dX8_found_85 (by decide) (fun g2 => ?_) (fun g2 => ?_)
          · have hn := bC_z.mp g2
            refine q_iinc dX8_found_90 rfl (Nat.le_of_ble_eq_true rfl) rfl ?_
            dsimp only [List.set]
            refine q_goto 2 dX8_found_93 (by decide) ?_
            rw [nI_inc]
            exact ih (p + 1) _ _ (by omega) (fun q hq2 => by
              by_cases e : q = p
              · subst e; exact hn
              · exact hq q (by omega))
          · refine q_iload_n dX8_found_88 rfl ?_
            exact z_iret dX8_found_89 rfl ⟨rfl, rfl, _, rfl, Or.inr ⟨p, rfl, bC_nz.mp g2, hq⟩⟩
        have inner : ∀ (k2 i : Nat) (F : Int32), i + k2 = b.length → F = bC (∀ q, q < i → fn a (p + q) = fn b q) → Zq mX8_found 0 (fun x s t => s = sg ∧ t = ta ∧ ∃ r, x = some (.int r) ∧ ((r = -1 ∧ ¬ hasL a b) ∨ ∃ p, r = nI p ∧ fstL a b p)) sg ta 25 [some (.ref (nm 20 0)), some (.int (nI v)), some (.int (nI w)), some (.int (nI p)), some (.int F), some (.int (nI i))] [] := by
          intro k2
          induction k2 with
          | zero =>
            intro i F hi hF
            subst hF
            have : i = b.length := by omega
            subst this
            refine q_iload dX8_found_25 rfl ?_
            refine q_aload_n dX8_found_27 rfl ?_
            refine z_get 27 dX8_found_28 (by first | assumption | decide) (sh_20 _ _ _) rfl (by decide) fl_X8_75 rfl ?_
            refine q_iload_n dX8_found_31 rfl ?_
            refine z_iald dX8_found_32 (by first | assumption | decide) rfl (vp_in_nI (n := w) (by omega) (by omega)) ?_
            rw [nI_clamp (show w < 2 ^ 31 by omega), b0]
            refine q_icmp_ge 83 dX8_found_33 (by decide) (fun g2 => ?_) (fun g2 => ?_)
            · exact go _ _ (bC_iff ⟨fun q => ⟨hle, q⟩, fun q => q.2⟩)
            · exact absurd (nI_le (by omega) (by omega)) g2
          | succ k2 ih2 =>
            intro i F hi hF
            subst hF
            refine q_iload dX8_found_25 rfl ?_
            refine q_aload_n dX8_found_27 rfl ?_
            refine z_get 27 dX8_found_28 (by first | assumption | decide) (sh_20 _ _ _) rfl (by decide) fl_X8_75 rfl ?_
            refine q_iload_n dX8_found_31 rfl ?_
            refine z_iald dX8_found_32 (by first | assumption | decide) rfl (vp_in_nI (n := w) (by omega) (by omega)) ?_
            rw [nI_clamp (show w < 2 ^ 31 by omega), b0]
            refine q_icmp_ge 83 dX8_found_33 (by decide) (fun g2 => ?_) (fun g2 => ?_)
            · exact absurd g2 (nI_ge (by omega) (by omega))
            · refine q_iload dX8_found_36 rfl ?_
              refine q_if_eq 83 dX8_found_38 (by decide) (fun g3 => ?_) (fun g3 => ?_)
              · have hn := bC_z.mp g3
                refine go _ _ ?_
                rw [bC_f hn, bC_f (fun q => hn (fun j hj => q.2 j (by omega)))]
              · have hy := bC_nz.mp g3
                refine q_aload_n dX8_found_41 rfl ?_
                refine z_get 26 dX8_found_42 (by first | assumption | decide) (sh_20 _ _ _) rfl (by decide) fl_X8_72 rfl ?_
                refine q_bipush (v := 32) dX8_found_45 rfl ?_
                refine q_iload_n dX8_found_47 rfl ?_
                refine q_imul dX8_found_48 ?_
                refine q_iload_n dX8_found_49 rfl ?_
                refine q_iadd dX8_found_50 ?_
                refine q_iload dX8_found_51 rfl ?_
                refine q_iadd dX8_found_53 ?_
                rw [show (32 : Int32) * nI v = nI (32 * v) from pk_mul 32 v, nI_add, nI_add]
                refine z_iald dX8_found_54 (by first | assumption | decide) rfl (vp_in_nI (n := 32 * v + p + i) (by omega) (by omega)) ?_
                refine q_aload_n dX8_found_55 rfl ?_
                refine z_get 26 dX8_found_56 (by first | assumption | decide) (sh_20 _ _ _) rfl (by decide) fl_X8_72 rfl ?_
                refine q_bipush (v := 32) dX8_found_59 rfl ?_
                refine q_iload_n dX8_found_61 rfl ?_
                refine q_imul dX8_found_62 ?_
                refine q_iload dX8_found_63 rfl ?_
                refine q_iadd dX8_found_65 ?_
                rw [nI_clamp (by omega), show (32 : Int32) * nI w = nI (32 * w) from pk_mul 32 w, nI_add]
                refine z_iald dX8_found_66 (by first | assumption | decide) rfl (vp_in_nI (n := 32 * w + i) (by omega) (by omega)) ?_
                rw [nI_clamp (by omega), show sg 39 0 (32 * v + p + i) = fn a (p + i) by rw [a2 (p + i) (by omega), Nat.add_assoc], show sg 39 0 (32 * w + i) = fn b i by rw [b2 i (by omega)]]
                refine q_icmp_ne 74 dX8_found_67 (by decide) (fun g4 => ?_) (fun g4 => ?_)
                · refine q_iconst (v := 0) dX8_found_74 rfl ?_
                  refine q_istore dX8_found_75 (Nat.le_of_ble_eq_true rfl) rfl ?_
                  dsimp only [List.set]
                  refine q_iinc dX8_found_77 rfl (Nat.le_of_ble_eq_true rfl) rfl ?_
                  dsimp only [List.set]
                  refine q_goto 25 dX8_found_80 (by decide) ?_
                  rw [nI_inc]
                  exact ih2 (i + 1) _ (by omega) (bC_f (fun q => g4 (q i (by omega)))).symm
                · refine q_iconst (v := 1) dX8_found_70 rfl ?_
                  refine q_goto 75 dX8_found_71 (by decide) ?_
                  refine q_istore dX8_found_75 (Nat.le_of_ble_eq_true rfl) rfl ?_
                  dsimp only [List.set]
                  refine q_iinc dX8_found_77 rfl (Nat.le_of_ble_eq_true rfl) rfl ?_
                  dsimp only [List.set]
                  refine q_goto 25 dX8_found_80 (by decide) ?_
                  rw [nI_inc]
                  refine ih2 (i + 1) _ (by omega) (bC_t (fun q hq2 => ?_)).symm
                  by_cases e : q = i
                  · subst e; exact g4
                  · exact hy q (by omega)
        refine q_iconst (v := 1) dX8_found_19 rfl ?_
        refine q_istore dX8_found_20 (Nat.le_of_ble_eq_true rfl) rfl ?_
        dsimp only [List.set]
        refine q_iconst (v := 0) dX8_found_22 rfl ?_
        refine q_istore dX8_found_23 (Nat.le_of_ble_eq_true rfl) rfl ?_
        dsimp only [List.set]
        exact inner b.length 0 _ (by omega) (bC_t (fun q hq2 => absurd hq2 (by omega))).symm
  refine q_iconst (v := 0) dX8_found_0 rfl ?_
  refine s_istore_n 3 dX8_found_1 rfl (Nat.le_of_ble_eq_true rfl) rfl ?_
  dsimp only [List.set]
  exact loop (a.length + 1) 0 none none (by omega) (fun q hq => absurd hq (by omega))
