noncomputable def bC (p : Prop) : Int32 := @ite Int32 p (Classical.propDecidable p) 1 0
theorem bC_t {p : Prop} (h : p) : bC p = 1 := by unfold bC; exact if_pos h
theorem bC_f {p : Prop} (h : ¬ p) : bC p = 0 := by unfold bC; exact if_neg h
theorem bC_01 (p : Prop) : bC p = 0 ∨ bC p = 1 := by
  by_cases h : p
  · exact Or.inr (bC_t h)
  · exact Or.inl (bC_f h)
theorem bC_z {p : Prop} : bC p = 0 ↔ ¬ p := by
  by_cases h : p
  · rw [bC_t h]; exact ⟨fun q => absurd q (by decide), fun q => absurd h q⟩
  · rw [bC_f h]; exact ⟨fun _ => h, fun _ => rfl⟩
theorem bC_nz {p : Prop} : ¬ bC p = 0 ↔ p := by rw [bC_z]; exact Classical.not_not
theorem bC_iff {p q : Prop} (h : p ↔ q) : bC p = bC q := by
  by_cases hp : p
  · rw [bC_t hp, bC_t (h.mp hp)]
  · rw [bC_f hp, bC_f (fun k => hp (h.mpr k))]
theorem bI_bC (p : Prop) [Decidable p] : bI p = bC p := by
  by_cases hp : p
  · rw [bI_t hp, bC_t hp]
  · rw [bI_f hp, bC_f hp]
/-- tested against its bounds: an index that is in -/
theorem vin {x : Int32} {n : Nat} (h1 : ¬ x < 0) (h2 : ¬ nI n ≤ x) (hn : n < 2 ^ 31) : vp_in x n := by
  rw [vp_in_iff]
  have e1 : ¬ x.toInt < 0 := fun q => h1 (by rw [Int32.lt_iff_toInt_lt, Int32.toInt_zero]; exact q)
  have e2 : ¬ (n : Int) ≤ x.toInt := fun q => h2 (by rw [Int32.le_iff_toInt_le, nI_toInt hn]; exact q)
  omega
theorem vin_not {x : Int32} {n : Nat} (h : x < 0 ∨ nI n ≤ x) (hn : n < 2 ^ 31) : ¬ vp_in x n := by
  rw [vp_in_iff]
  rcases h with h | h
  · rw [Int32.lt_iff_toInt_lt, Int32.toInt_zero] at h; omega
  · rw [Int32.le_iff_toInt_le, nI_toInt hn] at h; omega
noncomputable def sel (p : Prop) (a b : Int32) : Int32 := @ite Int32 p (Classical.propDecidable p) a b
theorem sel_t {p : Prop} {a b : Int32} (h : p) : sel p a b = a := by unfold sel; exact if_pos h
theorem sel_f {p : Prop} {a b : Int32} (h : ¬ p) : sel p a b = b := by unfold sel; exact if_neg h
/-! Term -/
set_option maxRecDepth 100000 in
set_option maxHeartbeats 4000000 in
theorem c_Term_restart (sg : zI) (ta : zJ) (i : Nat) (hi : i < cnt 11) : zP yX5_restart mX5_restart 0 [.ref (nm 11 i)] sg ta (pV (up3 sg 11 i 1 0) ta) := by
  refine zP_of (lv := [some (.ref (nm 11 i))]) (by decide +kernel) rfl (fun h => by cases h) rfl (Nat.le_of_ble_eq_true rfl) ?_
  refine q_aload_n dX5_restart_0 rfl ?_
  refine q_iconst (v := 0) dX5_restart_1 rfl ?_
  refine z_puti 1 dX5_restart_2 (by first | assumption | decide) (sh_11 _ _ _) rfl (by decide) fl_X5_15 rfl pfI (Nat.le_of_ble_eq_true rfl) rfl ?_
  exact z_vret dX5_restart_5 rfl ⟨rfl, rfl, rfl⟩
theorem cnt12 {i : Nat} (h : i < cnt 11) : i < cnt 12 := h
theorem cnt14 {i : Nat} (h : i < cnt 13) : i < cnt 14 := h
theorem cnt16 {i : Nat} (h : i < cnt 15) : i < cnt 16 := h
theorem cnt18 {i : Nat} (h : i < cnt 17) : i < cnt 18 := h
theorem cnt19 {i : Nat} (h : i < cnt 17) : i < cnt 19 := h
theorem cnt4 {i : Nat} (h : i < cnt 3) : i < cnt 4 := h
theorem cnt5 {i : Nat} (h : i < cnt 3) : i < cnt 5 := h
theorem cnt6 {i : Nat} (h : i < cnt 3) : i < cnt 6 := h
set_option maxRecDepth 100000 in
set_option maxHeartbeats 4000000 in
theorem c_Term_add (sg : zI) (ta : zJ) (i n : Nat) (x : Int32) (hi : i < cnt 11) (hn : sg 11 i 1 = nI n) (hn6 : n ≤ 6) : zP yX5_add mX5_add 0 [.ref (nm 11 i), .int x] sg ta (fun v s t => t = ta ∧ (n < 6 → v = some (.int 1) ∧ s = up3 (up3 sg 12 i n x) 11 i 1 (nI (n + 1))) ∧ (n = 6 → v = some (.int 0) ∧ s = sg)) := by
  have hi2 := cnt12 hi
  refine zP_of (lv := [some (.ref (nm 11 i)), some (.int x)]) (by decide +kernel) rfl (fun h => by cases h) rfl (Nat.le_of_ble_eq_true rfl) ?_
  refine q_aload_n dX5_add_0 rfl ?_
  refine z_get 1 dX5_add_1 (by first | assumption | decide) (sh_11 _ _ _) rfl (by decide) fl_X5_15 rfl ?_
  refine q_bipush (v := 6) dX5_add_4 rfl ?_
  rw [hn]
  refine q_icmp_lt 11 dX5_add_6 (by decide) (fun h => ?_) (fun h => ?_)
  · have h6 : n < 6 := by
      apply Nat.lt_of_not_le
      intro q
      exact nI_nlt (b := 6) (a := n) q (by omega) h
    refine q_aload_n dX5_add_11 rfl ?_
    refine z_get 0 dX5_add_12 (by first | assumption | decide) (sh_11 _ _ _) rfl (by decide) fl_X5_9 rfl ?_
    refine q_aload_n dX5_add_15 rfl ?_
    refine z_get 1 dX5_add_16 (by first | assumption | decide) (sh_11 _ _ _) rfl (by decide) fl_X5_15 rfl ?_
    refine q_iload_n dX5_add_19 rfl ?_
    rw [hn]
    refine z_iast dX5_add_20 (by first | assumption | decide) (fun _ _ => rfl) (vp_in_nI h6 (by omega)) ?_
    rw [nI_clamp (by omega)]
    refine q_aload_n dX5_add_21 rfl ?_
    refine q_dup dX5_add_22 rfl ?_
    refine z_get 1 dX5_add_23 (by first | assumption | decide) (sh_11 _ _ _) rfl (by decide) fl_X5_15 rfl ?_
    refine q_iconst (v := 1) dX5_add_26 rfl ?_
    rw [up3_off (by omega), hn]
    refine q_iadd dX5_add_27 ?_
    rw [nI_1]
    refine z_puti 1 dX5_add_28 (by first | assumption | decide) (sh_11 _ _ _) rfl (by decide) fl_X5_15 rfl pfI (Nat.le_of_ble_eq_true rfl) rfl ?_
    refine q_iconst (v := 1) dX5_add_31 rfl ?_
    exact z_zret dX5_add_32 rfl (Or.inr rfl) ⟨rfl, fun _ => ⟨rfl, rfl⟩, fun q => absurd q (by omega)⟩
  · have h6 : n = 6 := by
      apply Nat.le_antisymm hn6
      apply Nat.le_of_not_lt
      intro q
      exact h (nI_lt (b := 6) q (by omega))
    refine q_iconst (v := 0) dX5_add_9 rfl ?_
    exact z_zret dX5_add_10 rfl (Or.inl rfl) ⟨rfl, fun q => absurd q (by omega), fun _ => ⟨rfl, rfl⟩⟩
/-- a term's length, its parts p, the texts' lengths L -/
noncomputable def tlen (p L : Nat → Int32) : Nat → Int32
  | 0 => 0
  | k + 1 => tlen p L k + sel (vp_in (p k - 8) 4) (L (p k - 8).toNatClampNeg) 1
theorem tlen_s (p L : Nat → Int32) (k : Nat) : tlen p L (k + 1) = tlen p L k + sel (vp_in (p k - 8) 4) (L (p k - 8).toNatClampNeg) 1 := rfl
set_option maxRecDepth 100000 in
set_option maxHeartbeats 4000000 in
theorem c_Term_lengthWith (sg : zI) (ta : zJ) (i n w : Nat) (hi : i < cnt 11) (hw : w < cnt 4) (hn : sg 11 i 1 = nI n) (hn6 : n ≤ 6) : zP yX5_lengthWith mX5_lengthWith 0 [.ref (nm 11 i), .ref (nm 4 w)] sg ta (pI (tlen (sg 12 i) (sg 4 w) n) sg ta) := by
  have hi2 := cnt12 hi
  refine zP_of (lv := [some (.ref (nm 11 i)), some (.ref (nm 4 w)), none, none, none]) (by decide +kernel) rfl (fun h => by cases h) rfl (Nat.le_of_ble_eq_true rfl) ?_
  have loop : ∀ k j : Nat, ∀ z : Option Value, j + k = n → Zq mX5_lengthWith 0 (pI (tlen (sg 12 i) (sg 4 w) n) sg ta) sg ta 4 [some (.ref (nm 11 i)), some (.ref (nm 4 w)), some (.int (tlen (sg 12 i) (sg 4 w) j)), some (.int (nI j)), z] [] := by
    intro k
    induction k with
    | zero =>
      intro j z hj
      refine q_iload_n dX5_lengthWith_4 rfl ?_
      refine q_aload_n dX5_lengthWith_5 rfl ?_
      refine z_get 1 dX5_lengthWith_6 (by first | assumption | decide) (sh_11 _ _ _) rfl (by decide) fl_X5_15 rfl ?_
      rw [hn]
      refine q_icmp_ge 52 dX5_lengthWith_9 (by decide) (fun h => ?_) (fun h => ?_)
      · refine q_iload_n dX5_lengthWith_52 rfl ?_
        exact z_iret dX5_lengthWith_53 rfl ⟨by rw [show j = n by omega], rfl, rfl⟩
      · exact absurd (nI_le (by omega) (by omega)) h
    | succ k ih =>
      intro j z hj
      refine q_iload_n dX5_lengthWith_4 rfl ?_
      refine q_aload_n dX5_lengthWith_5 rfl ?_
      refine z_get 1 dX5_lengthWith_6 (by first | assumption | decide) (sh_11 _ _ _) rfl (by decide) fl_X5_15 rfl ?_
      rw [hn]
      refine q_icmp_ge 52 dX5_lengthWith_9 (by decide) (fun h => ?_) (fun h => ?_)
      · exact absurd h (nI_ge (by omega) (by omega))
      · refine q_aload_n dX5_lengthWith_12 rfl ?_
        refine z_get 0 dX5_lengthWith_13 (by first | assumption | decide) (sh_11 _ _ _) rfl (by decide) fl_X5_9 rfl ?_
        refine q_iload_n dX5_lengthWith_16 rfl ?_
        refine z_iald dX5_lengthWith_17 (by first | assumption | decide) rfl (vp_in_nI (n := j) (by omega) (by omega)) ?_
        refine q_bipush (v := 8) dX5_lengthWith_18 rfl ?_
        refine q_isub dX5_lengthWith_20 ?_
        refine q_istore dX5_lengthWith_21 (Nat.le_of_ble_eq_true rfl) rfl ?_
        dsimp only [List.set]
        refine q_iload_n dX5_lengthWith_23 rfl ?_
        refine q_iload dX5_lengthWith_24 rfl ?_
        rw [nI_clamp (by omega)]
        refine q_if_lt 43 dX5_lengthWith_26 (by decide) (fun h1 => ?_) (fun h1 => ?_)
        · refine q_iconst (v := 1) dX5_lengthWith_43 rfl ?_
          refine q_iadd dX5_lengthWith_44 ?_
          refine s_istore_n 2 dX5_lengthWith_45 rfl (Nat.le_of_ble_eq_true rfl) rfl ?_
          dsimp only [List.set]
          refine q_iinc dX5_lengthWith_46 rfl (Nat.le_of_ble_eq_true rfl) rfl ?_
          dsimp only [List.set]
          refine q_goto 4 dX5_lengthWith_49 (by decide) ?_
          rw [nI_inc]
          have hs : sel (vp_in (sg 12 i j - 8) 4) (sg 4 w (sg 12 i j - 8).toNatClampNeg) 1 = 1 := sel_f (vin_not (Or.inl h1) (by omega))
          have h2 := ih (j + 1) (some (.int (sg 12 i j - 8))) (by omega)
          rw [tlen_s, hs] at h2
          exact h2
        · refine q_iload dX5_lengthWith_29 rfl ?_
          refine q_aload_n dX5_lengthWith_31 rfl ?_
          refine z_alen dX5_lengthWith_32 (by first | assumption | decide) rfl (fun _ => rfl) rfl ?_
          refine q_icmp_ge 43 dX5_lengthWith_33 (by decide) (fun h2 => ?_) (fun h2 => ?_)
          · refine q_iconst (v := 1) dX5_lengthWith_43 rfl ?_
            refine q_iadd dX5_lengthWith_44 ?_
            refine s_istore_n 2 dX5_lengthWith_45 rfl (Nat.le_of_ble_eq_true rfl) rfl ?_
            dsimp only [List.set]
            refine q_iinc dX5_lengthWith_46 rfl (Nat.le_of_ble_eq_true rfl) rfl ?_
            dsimp only [List.set]
            refine q_goto 4 dX5_lengthWith_49 (by decide) ?_
            rw [nI_inc]
            have hs : sel (vp_in (sg 12 i j - 8) 4) (sg 4 w (sg 12 i j - 8).toNatClampNeg) 1 = 1 := sel_f (vin_not (Or.inr h2) (by omega))
            have h3 := ih (j + 1) (some (.int (sg 12 i j - 8))) (by omega)
            rw [tlen_s, hs] at h3
            exact h3
          · refine q_aload_n dX5_lengthWith_36 rfl ?_
            refine q_iload dX5_lengthWith_37 rfl ?_
            refine z_iald dX5_lengthWith_39 (by first | assumption | decide) rfl (vin h1 h2 (by omega)) ?_
            refine q_goto 44 dX5_lengthWith_40 (by decide) ?_
            refine q_iadd dX5_lengthWith_44 ?_
            refine s_istore_n 2 dX5_lengthWith_45 rfl (Nat.le_of_ble_eq_true rfl) rfl ?_
            dsimp only [List.set]
            refine q_iinc dX5_lengthWith_46 rfl (Nat.le_of_ble_eq_true rfl) rfl ?_
            dsimp only [List.set]
            refine q_goto 4 dX5_lengthWith_49 (by decide) ?_
            rw [nI_inc]
            have hs : sel (vp_in (sg 12 i j - 8) 4) (sg 4 w (sg 12 i j - 8).toNatClampNeg) 1 = sg 4 w (sg 12 i j - 8).toNatClampNeg := sel_t (vin h1 h2 (by omega))
            have h3 := ih (j + 1) (some (.int (sg 12 i j - 8))) (by omega)
            rw [tlen_s, hs] at h3
            exact h3
  refine q_iconst (v := 0) dX5_lengthWith_0 rfl ?_
  refine s_istore_n 2 dX5_lengthWith_1 rfl (Nat.le_of_ble_eq_true rfl) rfl ?_
  dsimp only [List.set]
  refine q_iconst (v := 0) dX5_lengthWith_2 rfl ?_
  refine s_istore_n 3 dX5_lengthWith_3 rfl (Nat.le_of_ble_eq_true rfl) rfl ?_
  dsimp only [List.set]
  exact loop n 0 none (by omega)
/-! Math.floorMod -/
noncomputable def fmod (x y : Int32) : Int32 := sel ((x ^^^ y) < 0 ∧ ¬ (x - x / y * y) = 0) (x - x / y * y + y) (x - x / y * y)
set_option maxRecDepth 100000 in
set_option maxHeartbeats 4000000 in
theorem c_floorMod (sg : zI) (ta : zJ) (x y : Int32) (hy : ¬ y = 0) : zP yJ9_floorMod_7cf53 mJ9_floorMod_7cf53 0 [.int x, .int y] sg ta (pI (fmod x y) sg ta) := by
  refine zC_ofF (lv := [some (.int x), some (.int y), none]) pn_yJ9_floorMod_7cf53 rfl (fun h => by cases h) rfl (Nat.le_of_ble_eq_true rfl) ?_
  refine q_iload_n dJ9_floorMod_7cf53_0 rfl ?_
  refine q_iload_n dJ9_floorMod_7cf53_1 rfl ?_
  refine q_irem dJ9_floorMod_7cf53_2 hy ?_
  refine s_istore_n 2 dJ9_floorMod_7cf53_3 rfl (Nat.le_of_ble_eq_true rfl) rfl ?_
  dsimp only [List.set]
  refine q_iload_n dJ9_floorMod_7cf53_4 rfl ?_
  refine q_iload_n dJ9_floorMod_7cf53_5 rfl ?_
  refine q_ixor dJ9_floorMod_7cf53_6 ?_
  refine q_if_ge 18 dJ9_floorMod_7cf53_7 (by decide) (fun h => ?_) (fun h => ?_)
  · refine q_iload_n dJ9_floorMod_7cf53_18 rfl ?_
    exact z_iret dJ9_floorMod_7cf53_19 rfl ⟨by unfold fmod; rw [sel_f (fun q => absurd q.1 (Int32.not_lt.mpr h))], rfl, rfl⟩
  · refine q_iload_n dJ9_floorMod_7cf53_10 rfl ?_
    refine q_if_eq 18 dJ9_floorMod_7cf53_11 (by decide) (fun h2 => ?_) (fun h2 => ?_)
    · refine q_iload_n dJ9_floorMod_7cf53_18 rfl ?_
      exact z_iret dJ9_floorMod_7cf53_19 rfl ⟨by unfold fmod; rw [sel_f (fun q => absurd h2 q.2)], rfl, rfl⟩
    · refine q_iload_n dJ9_floorMod_7cf53_14 rfl ?_
      refine q_iload_n dJ9_floorMod_7cf53_15 rfl ?_
      refine q_iadd dJ9_floorMod_7cf53_16 ?_
      exact z_iret dJ9_floorMod_7cf53_17 rfl ⟨by unfold fmod; rw [sel_t ⟨Int32.not_le.mp h, h2⟩], rfl, rfl⟩
