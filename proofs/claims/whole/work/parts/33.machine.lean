/-! Machine -/
set_option maxRecDepth 100000 in
set_option maxHeartbeats 4000000 in
theorem c_Machine_restart (sg : zI) (ta : zJ) (i : Nat) (x : Int32) (hi : i < cnt 15) : zP yX2_restart mX2_restart 1 [.ref (nm 15 i), .int x] sg ta (pV (upR (up3 (up3 sg 15 i 1 x) 15 i 2 0) 16 i (fun j => if j < 18 then 0 else sg 16 i j)) ta) := by
  have hi2 := cnt16 hi
  refine zP_of (lv := [some (.ref (nm 15 i)), some (.int x)]) (by decide +kernel) rfl (fun h => by cases h) rfl (Nat.le_of_ble_eq_true rfl) ?_
  refine q_aload_n dX2_restart_0 rfl ?_
  refine q_iload_n dX2_restart_1 rfl ?_
  refine z_puti 1 dX2_restart_2 (by first | assumption | decide) (sh_15 _ _ _) rfl (by decide) fl_X2_15 rfl pfI (Nat.le_of_ble_eq_true rfl) rfl ?_
  refine q_aload_n dX2_restart_5 rfl ?_
  refine q_iconst (v := 0) dX2_restart_6 rfl ?_
  refine z_puti 2 dX2_restart_7 (by first | assumption | decide) (sh_15 _ _ _) rfl (by decide) fl_X2_19 rfl pfI (Nat.le_of_ble_eq_true rfl) rfl ?_
  refine q_aload_n dX2_restart_10 rfl ?_
  refine z_get 0 dX2_restart_11 (by first | assumption | decide) (sh_15 _ _ _) rfl (by decide) fl_X2_9 rfl ?_
  refine q_iconst (v := 0) dX2_restart_14 rfl ?_
  refine z_callS (c_fillI _ ta 16 i 18 0 hi2 (fun _ _ => rfl) (by omega)) kS_X2_22 dX2_restart_15 rfl (by omega) (Nat.le_of_ble_eq_true rfl) (Nat.le_refl _) (Nat.le_refl _) rfl (fun v sg2 ta2 h => ?_)
  obtain ⟨rfl, rfl, rfl⟩ := h
  dsimp only [Option.toList, List.cons_append, List.nil_append]
  refine z_vret dX2_restart_18 rfl ⟨rfl, ?_, rfl⟩
  rw [up3_off (by omega), up3_off (by omega)]
set_option maxRecDepth 100000 in
set_option maxHeartbeats 4000000 in
theorem c_Machine_isState (sg : zI) (ta : zJ) (i : Nat) (x : Int32) (hi : i < cnt 15) : zP yX2_isState mX2_isState 0 [.ref (nm 15 i), .int x] sg ta (pI (bI (0 ≤ x ∧ x < sg 15 i 1)) sg ta) := by
  refine zP_of (lv := [some (.ref (nm 15 i)), some (.int x)]) (by decide +kernel) rfl (fun h => by cases h) rfl (Nat.le_of_ble_eq_true rfl) ?_
  refine q_iload_n dX2_isState_0 rfl ?_
  refine q_if_lt 16 dX2_isState_1 (by decide) (fun h => ?_) (fun h => ?_)
  · refine q_iconst (v := 0) dX2_isState_16 rfl ?_
    exact z_zret dX2_isState_17 rfl (Or.inl rfl) ⟨by rw [bI_f (fun q => absurd h (Int32.not_lt.mpr q.1))], rfl, rfl⟩
  · refine q_iload_n dX2_isState_4 rfl ?_
    refine q_aload_n dX2_isState_5 rfl ?_
    refine z_get 1 dX2_isState_6 (by first | assumption | decide) (sh_15 _ _ _) rfl (by decide) fl_X2_15 rfl ?_
    refine q_icmp_ge 16 dX2_isState_9 (by decide) (fun h2 => ?_) (fun h2 => ?_)
    · refine q_iconst (v := 0) dX2_isState_16 rfl ?_
      exact z_zret dX2_isState_17 rfl (Or.inl rfl) ⟨by rw [bI_f (fun q => absurd q.2 (Int32.not_lt.mpr h2))], rfl, rfl⟩
    · refine q_iconst (v := 1) dX2_isState_12 rfl ?_
      refine q_goto 17 dX2_isState_13 (by decide) ?_
      exact z_zret dX2_isState_17 rfl (Or.inr rfl) ⟨by rw [bI_t ⟨Int32.not_lt.mp h, Int32.not_le.mp h2⟩], rfl, rfl⟩
/-- a machine's step, steps r -/
noncomputable def mnx (r : Nat → Int32) (s a : Int32) : Int32 := sel (vp_in (s * 3 + a) 18) (r (s * 3 + a).toNatClampNeg) 0
set_option maxRecDepth 100000 in
set_option maxHeartbeats 4000000 in
theorem c_Machine_next (sg : zI) (ta : zJ) (i : Nat) (x y : Int32) (hi : i < cnt 15) : zP yX2_next mX2_next 0 [.ref (nm 15 i), .int x, .int y] sg ta (pI (mnx (sg 16 i) x y) sg ta) := by
  have hi2 := cnt16 hi
  refine zP_of (lv := [some (.ref (nm 15 i)), some (.int x), some (.int y), none]) (by decide +kernel) rfl (fun h => by cases h) rfl (Nat.le_of_ble_eq_true rfl) ?_
  refine q_iload_n dX2_next_0 rfl ?_
  refine q_iconst (v := 3) dX2_next_1 rfl ?_
  refine q_imul dX2_next_2 ?_
  refine q_iload_n dX2_next_3 rfl ?_
  refine q_iadd dX2_next_4 ?_
  refine s_istore_n 3 dX2_next_5 rfl (Nat.le_of_ble_eq_true rfl) rfl ?_
  dsimp only [List.set]
  refine q_iload_n dX2_next_6 rfl ?_
  refine q_if_lt 28 dX2_next_7 (by decide) (fun h => ?_) (fun h => ?_)
  · refine q_iconst (v := 0) dX2_next_28 rfl ?_
    exact z_iret dX2_next_29 rfl ⟨by unfold mnx; rw [sel_f (vin_not (Or.inl h) (by omega))], rfl, rfl⟩
  · refine q_iload_n dX2_next_10 rfl ?_
    refine q_aload_n dX2_next_11 rfl ?_
    refine z_get 0 dX2_next_12 (by first | assumption | decide) (sh_15 _ _ _) rfl (by decide) fl_X2_9 rfl ?_
    refine z_alen dX2_next_15 (by first | assumption | decide) rfl (fun _ => rfl) rfl ?_
    refine q_icmp_ge 28 dX2_next_16 (by decide) (fun h2 => ?_) (fun h2 => ?_)
    · refine q_iconst (v := 0) dX2_next_28 rfl ?_
      exact z_iret dX2_next_29 rfl ⟨by unfold mnx; rw [sel_f (vin_not (Or.inr h2) (by omega))], rfl, rfl⟩
    · refine q_aload_n dX2_next_19 rfl ?_
      refine z_get 0 dX2_next_20 (by first | assumption | decide) (sh_15 _ _ _) rfl (by decide) fl_X2_9 rfl ?_
      refine q_iload_n dX2_next_23 rfl ?_
      refine z_iald dX2_next_24 (by first | assumption | decide) rfl (vin h h2 (by omega)) ?_
      refine q_goto 29 dX2_next_25 (by decide) ?_
      exact z_iret dX2_next_29 rfl ⟨by unfold mnx; rw [sel_t (vin h h2 (by omega))], rfl, rfl⟩
set_option maxRecDepth 100000 in
set_option maxHeartbeats 4000000 in
theorem c_Machine_lead (sg : zI) (ta : zJ) (i : Nat) (x y z : Int32) (hi : i < cnt 15) (hv : vp_in (x * 3 + y) 18) : zP yX2_lead mX2_lead 0 [.ref (nm 15 i), .int x, .int y, .int z] sg ta (pV (up3 sg 16 i (x * 3 + y).toNatClampNeg z) ta) := by
  have hi2 := cnt16 hi
  refine zP_of (lv := [some (.ref (nm 15 i)), some (.int x), some (.int y), some (.int z), none]) (by decide +kernel) rfl (fun h => by cases h) rfl (Nat.le_of_ble_eq_true rfl) ?_
  refine q_iload_n dX2_lead_0 rfl ?_
  refine q_iconst (v := 3) dX2_lead_1 rfl ?_
  refine q_imul dX2_lead_2 ?_
  refine q_iload_n dX2_lead_3 rfl ?_
  refine q_iadd dX2_lead_4 ?_
  refine q_istore dX2_lead_5 (Nat.le_of_ble_eq_true rfl) rfl ?_
  dsimp only [List.set]
  refine q_iload dX2_lead_7 rfl ?_
  refine q_if_lt 30 dX2_lead_9 (by decide) (fun h => ?_) (fun h => ?_)
  · exact absurd hv (vin_not (Or.inl h) (by omega))
  · refine q_iload dX2_lead_12 rfl ?_
    refine q_aload_n dX2_lead_14 rfl ?_
    refine z_get 0 dX2_lead_15 (by first | assumption | decide) (sh_15 _ _ _) rfl (by decide) fl_X2_9 rfl ?_
    refine z_alen dX2_lead_18 (by first | assumption | decide) rfl (fun _ => rfl) rfl ?_
    refine q_icmp_ge 30 dX2_lead_19 (by decide) (fun h2 => ?_) (fun h2 => ?_)
    · exact absurd hv (vin_not (Or.inr h2) (by omega))
    · refine q_aload_n dX2_lead_22 rfl ?_
      refine z_get 0 dX2_lead_23 (by first | assumption | decide) (sh_15 _ _ _) rfl (by decide) fl_X2_9 rfl ?_
      refine q_iload dX2_lead_26 rfl ?_
      refine q_iload_n dX2_lead_28 rfl ?_
      refine z_iast dX2_lead_29 (by first | assumption | decide) (fun _ _ => rfl) hv ?_
      exact z_vret dX2_lead_30 rfl ⟨rfl, rfl, rfl⟩
def mgd (g x : Int32) : Prop := ¬ ((g >>> (x &&& 31)) &&& 1) = 0
set_option maxRecDepth 100000 in
set_option maxHeartbeats 4000000 in
theorem c_Machine_isGood (sg : zI) (ta : zJ) (i : Nat) (x : Int32) (hi : i < cnt 15) : zP yX2_isGood mX2_isGood 0 [.ref (nm 15 i), .int x] sg ta (pI (bC (mgd (sg 15 i 2) x)) sg ta) := by
  refine zP_of (lv := [some (.ref (nm 15 i)), some (.int x)]) (by decide +kernel) rfl (fun h => by cases h) rfl (Nat.le_of_ble_eq_true rfl) ?_
  refine q_aload_n dX2_isGood_0 rfl ?_
  refine z_get 2 dX2_isGood_1 (by first | assumption | decide) (sh_15 _ _ _) rfl (by decide) fl_X2_19 rfl ?_
  refine q_iload_n dX2_isGood_4 rfl ?_
  refine q_ishr dX2_isGood_5 ?_
  refine q_iconst (v := 1) dX2_isGood_6 rfl ?_
  refine q_iand dX2_isGood_7 ?_
  refine q_if_eq 15 dX2_isGood_8 (by decide) (fun h => ?_) (fun h => ?_)
  · refine q_iconst (v := 0) dX2_isGood_15 rfl ?_
    exact z_zret dX2_isGood_16 rfl (Or.inl rfl) ⟨by rw [bC_f (fun q => q h)], rfl, rfl⟩
  · refine q_iconst (v := 1) dX2_isGood_11 rfl ?_
    refine q_goto 16 dX2_isGood_12 (by decide) ?_
    exact z_zret dX2_isGood_16 rfl (Or.inr rfl) ⟨by rw [bC_t (p := mgd _ _) h], rfl, rfl⟩
set_option maxRecDepth 100000 in
set_option maxHeartbeats 4000000 in
theorem c_Machine_setGood (sg : zI) (ta : zJ) (i : Nat) (x y : Int32) (hi : i < cnt 15) : zP yX2_setGood mX2_setGood 0 [.ref (nm 15 i), .int x, .int y] sg ta (pV (up3 sg 15 i 2 (sel (y = 0) (sg 15 i 2 &&& ((1 <<< (x &&& 31)) ^^^ (-1))) (sg 15 i 2 ||| (1 <<< (x &&& 31))))) ta) := by
  refine zP_of (lv := [some (.ref (nm 15 i)), some (.int x), some (.int y)]) (by decide +kernel) rfl (fun h => by cases h) rfl (Nat.le_of_ble_eq_true rfl) ?_
  refine q_aload_n dX2_setGood_0 rfl ?_
  refine q_iload_n dX2_setGood_1 rfl ?_
  refine q_if_eq 16 dX2_setGood_2 (by decide) (fun h => ?_) (fun h => ?_)
  · refine q_aload_n dX2_setGood_16 rfl ?_
    refine z_get 2 dX2_setGood_17 (by first | assumption | decide) (sh_15 _ _ _) rfl (by decide) fl_X2_19 rfl ?_
    refine q_iconst (v := 1) dX2_setGood_20 rfl ?_
    refine q_iload_n dX2_setGood_21 rfl ?_
    refine q_ishl dX2_setGood_22 ?_
    refine q_iconst (v := (-1)) dX2_setGood_23 rfl ?_
    refine q_ixor dX2_setGood_24 ?_
    refine q_iand dX2_setGood_25 ?_
    refine z_puti 2 dX2_setGood_26 (by first | assumption | decide) (sh_15 _ _ _) rfl (by decide) fl_X2_19 rfl pfI (Nat.le_of_ble_eq_true rfl) rfl ?_
    exact z_vret dX2_setGood_29 rfl ⟨rfl, by rw [sel_t h], rfl⟩
  · refine q_aload_n dX2_setGood_5 rfl ?_
    refine z_get 2 dX2_setGood_6 (by first | assumption | decide) (sh_15 _ _ _) rfl (by decide) fl_X2_19 rfl ?_
    refine q_iconst (v := 1) dX2_setGood_9 rfl ?_
    refine q_iload_n dX2_setGood_10 rfl ?_
    refine q_ishl dX2_setGood_11 ?_
    refine q_ior dX2_setGood_12 ?_
    refine q_goto 26 dX2_setGood_13 (by decide) ?_
    refine z_puti 2 dX2_setGood_26 (by first | assumption | decide) (sh_15 _ _ _) rfl (by decide) fl_X2_19 rfl pfI (Nat.le_of_ble_eq_true rfl) rfl ?_
    exact z_vret dX2_setGood_29 rfl ⟨rfl, by rw [sel_f h], rfl⟩
def mrun (nx : Int32 → Int32 → Int32) (f : Nat → Int32) : Nat → Int32
  | 0 => 0
  | k + 1 => nx (mrun nx f k) (f k)
set_option maxRecDepth 100000 in
set_option maxHeartbeats 4000000 in
theorem c_Machine_takes (sg : zI) (ta : zJ) (i r n : Nat) (hi : i < cnt 15) (hr : r < cnt 13) (hn : sg 13 r 1 = nI n) (hn30 : n ≤ 30) : zP yX2_takes mX2_takes 1 [.ref (nm 15 i), .ref (nm 13 r)] sg ta (pI (bC (mgd (sg 15 i 2) (mrun (mnx (sg 16 i)) (sg 14 r) n))) sg ta) := by
  have hr2 := cnt14 hr
  refine zP_of (lv := [some (.ref (nm 15 i)), some (.ref (nm 13 r)), none, none]) (by decide +kernel) rfl (fun h => by cases h) rfl (Nat.le_of_ble_eq_true rfl) ?_
  have loop : ∀ k j : Nat, j + k = n → Zq mX2_takes 1 (pI (bC (mgd (sg 15 i 2) (mrun (mnx (sg 16 i)) (sg 14 r) n))) sg ta) sg ta 4 [some (.ref (nm 15 i)), some (.ref (nm 13 r)), some (.int (mrun (mnx (sg 16 i)) (sg 14 r) j)), some (.int (nI j))] [] := by
    intro k
    induction k with
    | zero =>
      intro j hj
      refine q_iload_n dX2_takes_4 rfl ?_
      refine q_aload_n dX2_takes_5 rfl ?_
      refine z_get 1 dX2_takes_6 (by first | assumption | decide) (sh_13 _ _ _) rfl (by decide) fl_X2_28 rfl ?_
      rw [hn]
      refine q_icmp_ge 30 dX2_takes_9 (by decide) (fun h => ?_) (fun h => ?_)
      · refine q_aload_n dX2_takes_30 rfl ?_
        refine q_iload_n dX2_takes_31 rfl ?_
        refine z_callV (c_Machine_isGood sg ta i _ hi) kV_X2_40 dX2_takes_32 (by first | assumption | decide) (sh_15 _ _ _) rfl rfl rfl (by omega) (Nat.le_of_ble_eq_true rfl) (Nat.le_refl _) (Nat.le_refl _) rfl (fun v sg2 ta2 h => ?_)
        obtain ⟨rfl, rfl, rfl⟩ := h
        dsimp only [Option.toList, List.cons_append, List.nil_append]
        exact z_zret dX2_takes_35 rfl (bC_01 _) ⟨by rw [show j = n by omega], rfl, rfl⟩
      · exact absurd (nI_le (by omega) (by omega)) h
    | succ k ih =>
      intro j hj
      refine q_iload_n dX2_takes_4 rfl ?_
      refine q_aload_n dX2_takes_5 rfl ?_
      refine z_get 1 dX2_takes_6 (by first | assumption | decide) (sh_13 _ _ _) rfl (by decide) fl_X2_28 rfl ?_
      rw [hn]
      refine q_icmp_ge 30 dX2_takes_9 (by decide) (fun h => ?_) (fun h => ?_)
      · exact absurd h (nI_ge (by omega) (by omega))
      · refine q_aload_n dX2_takes_12 rfl ?_
        refine q_iload_n dX2_takes_13 rfl ?_
        refine q_aload_n dX2_takes_14 rfl ?_
        refine z_get 0 dX2_takes_15 (by first | assumption | decide) (sh_13 _ _ _) rfl (by decide) fl_X2_33 rfl ?_
        refine q_iload_n dX2_takes_18 rfl ?_
        refine z_iald dX2_takes_19 (by first | assumption | decide) rfl (vp_in_nI (n := j) (by omega) (by omega)) ?_
        rw [nI_clamp (by omega)]
        refine z_callV (c_Machine_next sg ta i _ _ hi) kV_X2_36 dX2_takes_20 (by first | assumption | decide) (sh_15 _ _ _) rfl rfl rfl (by omega) (Nat.le_of_ble_eq_true rfl) (Nat.le_refl _) (Nat.le_refl _) rfl (fun v sg2 ta2 h => ?_)
        obtain ⟨rfl, rfl, rfl⟩ := h
        dsimp only [Option.toList, List.cons_append, List.nil_append]
        refine s_istore_n 2 dX2_takes_23 rfl (Nat.le_of_ble_eq_true rfl) rfl ?_
        dsimp only [List.set]
        refine q_iinc dX2_takes_24 rfl (Nat.le_of_ble_eq_true rfl) rfl ?_
        dsimp only [List.set]
        refine q_goto 4 dX2_takes_27 (by decide) ?_
        rw [nI_inc]
        exact ih (j + 1) (by omega)
  refine q_iconst (v := 0) dX2_takes_0 rfl ?_
  refine s_istore_n 2 dX2_takes_1 rfl (Nat.le_of_ble_eq_true rfl) rfl ?_
  dsimp only [List.set]
  refine q_iconst (v := 0) dX2_takes_2 rfl ?_
  refine s_istore_n 3 dX2_takes_3 rfl (Nat.le_of_ble_eq_true rfl) rfl ?_
  dsimp only [List.set]
  exact loop n 0 (by omega)
