set_option maxRecDepth 100000 in
set_option maxHeartbeats 4000000 in
theorem c_Row_isSame (sg : zI) (ta : zJ) (r n r2 m : Nat) (hr : r < cnt 13) (hr' : r2 < cnt 13) (hn : sg 13 r 1 = nI n) (hm : sg 13 r2 1 = nI m) (hn30 : n ≤ 30) (hm30 : m ≤ 30) : zP yX3_isSame mX3_isSame 1 [.ref (nm 13 r), .ref (nm 13 r2)] sg ta (pI (bC (n = m ∧ ∀ k, k < n → sg 14 r k = sg 14 r2 k)) sg ta) := by
  refine zP_of (lv := [some (.ref (nm 13 r)), some (.ref (nm 13 r2))]) (by decide +kernel) rfl (fun h => by cases h) rfl (Nat.le_of_ble_eq_true rfl) ?_
  refine q_aload_n dX3_isSame_0 rfl ?_
  refine z_get 1 dX3_isSame_1 (by first | assumption | decide) (sh_13 _ _ _) rfl (by decide) fl_X3_15 rfl ?_
  refine q_aload_n dX3_isSame_4 rfl ?_
  refine z_get 1 dX3_isSame_5 (by first | assumption | decide) (sh_13 _ _ _) rfl (by decide) fl_X3_15 rfl ?_
  rw [hn, hm]
  refine q_icmp_ne 29 dX3_isSame_8 (by decide) (fun h => ?_) (fun h => ?_)
  · refine q_iconst (v := 0) dX3_isSame_29 rfl ?_
    exact z_zret dX3_isSame_30 rfl (Or.inl rfl) ⟨by rw [bC_f (fun q => h (by rw [q.1]))], rfl, rfl⟩
  · have hnm : n = m := (nI_eq (by omega) (by omega)).mp h
    refine q_aload_n dX3_isSame_11 rfl ?_
    refine q_iconst (v := 0) dX3_isSame_12 rfl ?_
    refine q_aload_n dX3_isSame_13 rfl ?_
    refine q_iconst (v := 0) dX3_isSame_14 rfl ?_
    refine q_aload_n dX3_isSame_15 rfl ?_
    refine z_get 1 dX3_isSame_16 (by first | assumption | decide) (sh_13 _ _ _) rfl (by decide) fl_X3_15 rfl ?_
    rw [hn]
    refine z_callV (c_Row_agrees sg ta r 0 n r2 0 m n hr hr' hn hm hn30 hm30 (by omega) (by omega) (by omega)) kV_X3_44 dX3_isSame_19 (by first | assumption | decide) (sh_13 _ _ _) rfl rfl rfl (by omega) (Nat.le_of_ble_eq_true rfl) (Nat.le_refl _) (Nat.le_refl _) rfl (fun v sg2 ta2 h => ?_)
    obtain ⟨rfl, rfl, rfl⟩ := h
    dsimp only [Option.toList, List.cons_append, List.nil_append]
    refine q_if_eq 29 dX3_isSame_22 (by decide) (fun h2 => ?_) (fun h2 => ?_)
    · refine q_iconst (v := 0) dX3_isSame_29 rfl ?_
      exact z_zret dX3_isSame_30 rfl (Or.inl rfl) ⟨by rw [bC_f (fun q => bC_z.mp h2 ⟨by omega, by omega, fun k hk => by rw [Nat.zero_add]; exact q.2 k hk⟩)], rfl, rfl⟩
    · refine q_iconst (v := 1) dX3_isSame_25 rfl ?_
      refine q_goto 30 dX3_isSame_26 (by decide) ?_
      exact z_zret dX3_isSame_30 rfl (Or.inr rfl) ⟨by rw [bC_t ⟨hnm, fun k hk => by have := (bC_nz.mp h2).2.2 k hk; rwa [Nat.zero_add] at this⟩], rfl, rfl⟩
/-- b (m letters) stands in a (n letters) at the place p -/
def matR (a : Nat → Int32) (n : Nat) (b : Nat → Int32) (m p : Nat) : Prop := p + m ≤ n ∧ ∀ k, k < m → a (p + k) = b k
/-- r: the first place, or -1 -/
def plR (a : Nat → Int32) (n : Nat) (b : Nat → Int32) (m : Nat) (r : Int32) : Prop := (r = -1 ∧ ∀ p, ¬ matR a n b m p) ∨ ∃ p, r = nI p ∧ matR a n b m p ∧ ∀ q, q < p → ¬ matR a n b m q
set_option maxRecDepth 100000 in
set_option maxHeartbeats 4000000 in
theorem c_Row_placeOf (sg : zI) (ta : zJ) (r n r2 m : Nat) (hr : r < cnt 13) (hr' : r2 < cnt 13) (hn : sg 13 r 1 = nI n) (hm : sg 13 r2 1 = nI m) (hn30 : n ≤ 30) (hm30 : m ≤ 30) : zP yX3_placeOf mX3_placeOf 1 [.ref (nm 13 r), .ref (nm 13 r2)] sg ta (fun v s t => s = sg ∧ t = ta ∧ ∃ x, v = some (.int x) ∧ plR (sg 14 r) n (sg 14 r2) m x) := by
  refine zP_of (lv := [some (.ref (nm 13 r)), some (.ref (nm 13 r2)), none]) (by decide +kernel) rfl (fun h => by cases h) rfl (Nat.le_of_ble_eq_true rfl) ?_
  have loop : ∀ k j : Nat, j + k = n + 1 → (∀ q, q < j → ¬ matR (sg 14 r) n (sg 14 r2) m q) → Zq mX3_placeOf 1 (fun v s t => s = sg ∧ t = ta ∧ ∃ x, v = some (.int x) ∧ plR (sg 14 r) n (sg 14 r2) m x) sg ta 2 [some (.ref (nm 13 r)), some (.ref (nm 13 r2)), some (.int (nI j))] [] := by
    intro k
    induction k with
    | zero =>
      intro j hj hq
      refine q_iload_n dX3_placeOf_2 rfl ?_
      refine q_aload_n dX3_placeOf_3 rfl ?_
      refine z_get 1 dX3_placeOf_4 (by first | assumption | decide) (sh_13 _ _ _) rfl (by decide) fl_X3_15 rfl ?_
      refine q_iadd dX3_placeOf_7 ?_
      refine q_aload_n dX3_placeOf_8 rfl ?_
      refine z_get 1 dX3_placeOf_9 (by first | assumption | decide) (sh_13 _ _ _) rfl (by decide) fl_X3_15 rfl ?_
      rw [hn, hm, nI_add]
      refine q_icmp_gt 37 dX3_placeOf_12 (by decide) (fun h => ?_) (fun h => ?_)
      · refine q_iconst (v := (-1)) dX3_placeOf_37 rfl ?_
        exact z_iret dX3_placeOf_38 rfl ⟨rfl, rfl, _, rfl, Or.inl ⟨rfl, fun p hp => hq p (by have := hp.1; omega) hp⟩⟩
      · exact absurd (nI_lt (by omega) (by omega)) h
    | succ k ih =>
      intro j hj hq
      refine q_iload_n dX3_placeOf_2 rfl ?_
      refine q_aload_n dX3_placeOf_3 rfl ?_
      refine z_get 1 dX3_placeOf_4 (by first | assumption | decide) (sh_13 _ _ _) rfl (by decide) fl_X3_15 rfl ?_
      refine q_iadd dX3_placeOf_7 ?_
      refine q_aload_n dX3_placeOf_8 rfl ?_
      refine z_get 1 dX3_placeOf_9 (by first | assumption | decide) (sh_13 _ _ _) rfl (by decide) fl_X3_15 rfl ?_
      rw [hn, hm, nI_add]
      refine q_icmp_gt 37 dX3_placeOf_12 (by decide) (fun h => ?_) (fun h => ?_)
      · have h1 : n < j + m := (nI_ltI (by omega) (by omega)).mp h
        refine q_iconst (v := (-1)) dX3_placeOf_37 rfl ?_
        refine z_iret dX3_placeOf_38 rfl ⟨rfl, rfl, _, rfl, Or.inl ⟨rfl, fun p hp => ?_⟩⟩
        rcases Nat.lt_or_ge p j with g | g
        · exact hq p g hp
        · have := hp.1; omega
      · have h1 : j + m ≤ n := Nat.le_of_not_lt (fun q => h (nI_lt q (by omega)))
        refine q_aload_n dX3_placeOf_15 rfl ?_
        refine q_iload_n dX3_placeOf_16 rfl ?_
        refine q_aload_n dX3_placeOf_17 rfl ?_
        refine q_iconst (v := 0) dX3_placeOf_18 rfl ?_
        refine q_aload_n dX3_placeOf_19 rfl ?_
        refine z_get 1 dX3_placeOf_20 (by first | assumption | decide) (sh_13 _ _ _) rfl (by decide) fl_X3_15 rfl ?_
        rw [hm]
        refine z_callV (c_Row_agrees sg ta r j n r2 0 m m hr hr' hn hm hn30 hm30 (by omega) (by omega) (by omega)) kV_X3_44 dX3_placeOf_23 (by first | assumption | decide) (sh_13 _ _ _) rfl rfl rfl (by omega) (Nat.le_of_ble_eq_true rfl) (Nat.le_refl _) (Nat.le_refl _) rfl (fun v sg2 ta2 h => ?_)
        obtain ⟨rfl, rfl, rfl⟩ := h
        dsimp only [Option.toList, List.cons_append, List.nil_append]
        refine q_if_eq 31 dX3_placeOf_26 (by decide) (fun h2 => ?_) (fun h2 => ?_)
        · refine q_iinc dX3_placeOf_31 rfl (Nat.le_of_ble_eq_true rfl) rfl ?_
          dsimp only [List.set]
          refine q_goto 2 dX3_placeOf_34 (by decide) ?_
          rw [nI_inc]
          refine ih (j + 1) (by omega) (lt_s hq (fun g => bC_z.mp h2 ⟨h1, by omega, fun k hk => by rw [Nat.zero_add]; exact g.2 k hk⟩))
        · refine q_iload_n dX3_placeOf_29 rfl ?_
          exact z_iret dX3_placeOf_30 rfl ⟨rfl, rfl, _, rfl, Or.inr ⟨j, rfl, ⟨h1, fun k hk => by have := (bC_nz.mp h2).2.2 k hk; rwa [Nat.zero_add] at this⟩, hq⟩⟩
  refine q_iconst (v := 0) dX3_placeOf_0 rfl ?_
  refine s_istore_n 2 dX3_placeOf_1 rfl (Nat.le_of_ble_eq_true rfl) rfl ?_
  dsimp only [List.set]
  exact loop (n + 1) 0 (by omega) (fun q hq => absurd hq (by omega))
/-- a is before b -/
def befR (a : Nat → Int32) (n : Nat) (b : Nat → Int32) (m : Nat) : Prop := ∃ i, (∀ k, k < i → a k = b k) ∧ i ≤ n ∧ i < m ∧ (i = n ∨ i < n ∧ a i < b i)
theorem befR_no {a b : Nat → Int32} {n m i : Nat} (hq : ∀ k, k < i → a k = b k) (hn : i < n) (hm : i < m) (hne : ¬ a i = b i) (hlt : ¬ a i < b i) : ¬ befR a n b m := by
  rintro ⟨j, h1, h2, h3, h4⟩
  rcases Nat.lt_trichotomy j i with g | g | g
  · rcases h4 with h4 | ⟨h4, h5⟩
    · omega
    · rw [hq j g] at h5
      exact absurd h5 (by rw [Int32.lt_iff_toInt_lt]; omega)
  · subst g
    rcases h4 with h4 | ⟨h4, h5⟩
    · omega
    · exact hlt h5
  · exact hne (h1 i g)
set_option maxRecDepth 100000 in
set_option maxHeartbeats 4000000 in
theorem c_Row_isBefore (sg : zI) (ta : zJ) (r n r2 m : Nat) (hr : r < cnt 13) (hr' : r2 < cnt 13) (hn : sg 13 r 1 = nI n) (hm : sg 13 r2 1 = nI m) (hn30 : n ≤ 30) (hm30 : m ≤ 30) : zP yX3_isBefore mX3_isBefore 0 [.ref (nm 13 r), .ref (nm 13 r2)] sg ta (pI (bC (befR (sg 14 r) n (sg 14 r2) m)) sg ta) := by
  have hr2 := cnt14 hr
  have hr3 := cnt14 hr'
  refine zP_of (lv := [some (.ref (nm 13 r)), some (.ref (nm 13 r2)), none]) (by decide +kernel) rfl (fun h => by cases h) rfl (Nat.le_of_ble_eq_true rfl) ?_
  have fin : ∀ j : Nat, (j = n ∨ j = m) → j ≤ n → j ≤ m → (∀ q, q < j → sg 14 r q = sg 14 r2 q) → Zq mX3_isBefore 0 (pI (bC (befR (sg 14 r) n (sg 14 r2) m)) sg ta) sg ta 60 [some (.ref (nm 13 r)), some (.ref (nm 13 r2)), some (.int (nI j))] [] := by
    intro j hj h1 h2 hq
    refine q_aload_n dX3_isBefore_60 rfl ?_
    refine z_get 1 dX3_isBefore_61 (by first | assumption | decide) (sh_13 _ _ _) rfl (by decide) fl_X3_15 rfl ?_
    refine q_aload_n dX3_isBefore_64 rfl ?_
    refine z_get 1 dX3_isBefore_65 (by first | assumption | decide) (sh_13 _ _ _) rfl (by decide) fl_X3_15 rfl ?_
    rw [hn, hm]
    refine q_icmp_ge 75 dX3_isBefore_68 (by decide) (fun h => ?_) (fun h => ?_)
    · have g : m ≤ n := (nI_leI (by omega) (by omega)).mp h
      refine q_iconst (v := 0) dX3_isBefore_75 rfl ?_
      refine z_zret dX3_isBefore_76 rfl (Or.inl rfl) ⟨?_, rfl, rfl⟩
      rw [bC_f]
      rintro ⟨i, q1, q2, q3, q4⟩
      rcases q4 with q4 | ⟨q4, q5⟩
      · omega
      · rw [hq i (by omega)] at q5
        exact absurd q5 (by rw [Int32.lt_iff_toInt_lt]; omega)
    · have g : n < m := Nat.lt_of_not_le (fun q => h (nI_le q (by omega)))
      refine q_iconst (v := 1) dX3_isBefore_71 rfl ?_
      refine q_goto 76 dX3_isBefore_72 (by decide) ?_
      refine z_zret dX3_isBefore_76 rfl (Or.inr rfl) ⟨?_, rfl, rfl⟩
      rw [bC_t ⟨n, fun k hk => hq k (by omega), Nat.le_refl n, g, Or.inl rfl⟩]
  have loop : ∀ k j : Nat, j + k = n → j ≤ m → (∀ q, q < j → sg 14 r q = sg 14 r2 q) → Zq mX3_isBefore 0 (pI (bC (befR (sg 14 r) n (sg 14 r2) m)) sg ta) sg ta 2 [some (.ref (nm 13 r)), some (.ref (nm 13 r2)), some (.int (nI j))] [] := by
    intro k
    induction k with
    | zero =>
      intro j hj hjm hq
      refine q_iload_n dX3_isBefore_2 rfl ?_
      refine q_aload_n dX3_isBefore_3 rfl ?_
      refine z_get 1 dX3_isBefore_4 (by first | assumption | decide) (sh_13 _ _ _) rfl (by decide) fl_X3_15 rfl ?_
      rw [hn]
      refine q_icmp_ge 60 dX3_isBefore_7 (by decide) (fun h => ?_) (fun h => ?_)
      · exact fin j (by omega) (by omega) hjm hq
      · exact absurd (nI_le (by omega) (by omega)) h
    | succ k ih =>
      intro j hj hjm hq
      refine q_iload_n dX3_isBefore_2 rfl ?_
      refine q_aload_n dX3_isBefore_3 rfl ?_
      refine z_get 1 dX3_isBefore_4 (by first | assumption | decide) (sh_13 _ _ _) rfl (by decide) fl_X3_15 rfl ?_
      rw [hn]
      refine q_icmp_ge 60 dX3_isBefore_7 (by decide) (fun h => ?_) (fun h => ?_)
      · exact absurd h (nI_ge (by omega) (by omega))
      · refine q_iload_n dX3_isBefore_10 rfl ?_
        refine q_aload_n dX3_isBefore_11 rfl ?_
        refine z_get 1 dX3_isBefore_12 (by first | assumption | decide) (sh_13 _ _ _) rfl (by decide) fl_X3_15 rfl ?_
        rw [hm]
        refine q_icmp_ge 60 dX3_isBefore_15 (by decide) (fun h2 => ?_) (fun h2 => ?_)
        · have g : m ≤ j := (nI_leI (by omega) (by omega)).mp h2
          exact fin j (by omega) (by omega) hjm hq
        · have g : j < m := Nat.lt_of_not_le (fun q => h2 (nI_le q (by omega)))
          refine q_aload_n dX3_isBefore_18 rfl ?_
          refine z_get 0 dX3_isBefore_19 (by first | assumption | decide) (sh_13 _ _ _) rfl (by decide) fl_X3_9 rfl ?_
          refine q_iload_n dX3_isBefore_22 rfl ?_
          refine z_iald dX3_isBefore_23 (by first | assumption | decide) rfl (vp_in_nI (n := j) (by omega) (by omega)) ?_
          refine q_aload_n dX3_isBefore_24 rfl ?_
          refine z_get 0 dX3_isBefore_25 (by first | assumption | decide) (sh_13 _ _ _) rfl (by decide) fl_X3_9 rfl ?_
          refine q_iload_n dX3_isBefore_28 rfl ?_
          refine z_iald dX3_isBefore_29 (by first | assumption | decide) rfl (vp_in_nI (n := j) (by omega) (by omega)) ?_
          rw [nI_clamp (by omega)]
          refine q_icmp_eq 54 dX3_isBefore_30 (by decide) (fun h3 => ?_) (fun h3 => ?_)
          · refine q_iinc dX3_isBefore_54 rfl (Nat.le_of_ble_eq_true rfl) rfl ?_
            dsimp only [List.set]
            refine q_goto 2 dX3_isBefore_57 (by decide) ?_
            rw [nI_inc]
            exact ih (j + 1) (by omega) (by omega) (lt_s hq h3)
          · refine q_aload_n dX3_isBefore_33 rfl ?_
            refine z_get 0 dX3_isBefore_34 (by first | assumption | decide) (sh_13 _ _ _) rfl (by decide) fl_X3_9 rfl ?_
            refine q_iload_n dX3_isBefore_37 rfl ?_
            refine z_iald dX3_isBefore_38 (by first | assumption | decide) rfl (vp_in_nI (n := j) (by omega) (by omega)) ?_
            refine q_aload_n dX3_isBefore_39 rfl ?_
            refine z_get 0 dX3_isBefore_40 (by first | assumption | decide) (sh_13 _ _ _) rfl (by decide) fl_X3_9 rfl ?_
            refine q_iload_n dX3_isBefore_43 rfl ?_
            refine z_iald dX3_isBefore_44 (by first | assumption | decide) rfl (vp_in_nI (n := j) (by omega) (by omega)) ?_
            rw [nI_clamp (by omega)]
            refine q_icmp_ge 52 dX3_isBefore_45 (by decide) (fun h4 => ?_) (fun h4 => ?_)
            · refine q_iconst (v := 0) dX3_isBefore_52 rfl ?_
              exact z_zret dX3_isBefore_53 rfl (Or.inl rfl) ⟨by rw [bC_f (befR_no hq (by omega) g h3 (Int32.not_lt.mpr h4))], rfl, rfl⟩
            · refine q_iconst (v := 1) dX3_isBefore_48 rfl ?_
              refine q_goto 53 dX3_isBefore_49 (by decide) ?_
              exact z_zret dX3_isBefore_53 rfl (Or.inr rfl) ⟨by rw [bC_t ⟨j, hq, by omega, g, Or.inr ⟨by omega, Int32.not_le.mp h4⟩⟩], rfl, rfl⟩
  refine q_iconst (v := 0) dX3_isBefore_0 rfl ?_
  refine s_istore_n 2 dX3_isBefore_1 rfl (Nat.le_of_ble_eq_true rfl) rfl ?_
  dsimp only [List.set]
  exact loop n 0 (by omega) (by omega) (fun q hq => absurd hq (by omega))
/-- the sum of a row -/
def sumR (a : Nat → Int32) : Nat → Int32
  | 0 => 0
  | k + 1 => 31 * sumR a k + a k + 1
set_option maxRecDepth 100000 in
set_option maxHeartbeats 4000000 in
theorem c_Row_hasSum (sg : zI) (ta : zJ) (r n : Nat) (x y : Int32) (hr : r < cnt 13) (hn : sg 13 r 1 = nI n) (hn30 : n ≤ 30) (hx : 0 < x) : zP yX3_hasSum mX3_hasSum 1 [.ref (nm 13 r), .int x, .int y] sg ta (pI (bC (fmod (sumR (sg 14 r) n) x = y)) sg ta) := by
  have hr2 := cnt14 hr
  refine zP_of (lv := [some (.ref (nm 13 r)), some (.int x), some (.int y), none, none]) (by decide +kernel) rfl (fun h => by cases h) rfl (Nat.le_of_ble_eq_true rfl) ?_
  have loop : ∀ k j : Nat, j + k = n → Zq mX3_hasSum 1 (pI (bC (fmod (sumR (sg 14 r) n) x = y)) sg ta) sg ta 5 [some (.ref (nm 13 r)), some (.int x), some (.int y), some (.int (sumR (sg 14 r) j)), some (.int (nI j))] [] := by
    intro k
    induction k with
    | zero =>
      intro j hj
      refine q_iload dX3_hasSum_5 rfl ?_
      refine q_aload_n dX3_hasSum_7 rfl ?_
      refine z_get 1 dX3_hasSum_8 (by first | assumption | decide) (sh_13 _ _ _) rfl (by decide) fl_X3_15 rfl ?_
      rw [hn]
      refine q_icmp_ge 35 dX3_hasSum_11 (by decide) (fun h => ?_) (fun h => ?_)
      · refine q_iload_n dX3_hasSum_35 rfl ?_
        refine q_if_le 52 dX3_hasSum_36 (by decide) (fun h2 => ?_) (fun h2 => ?_)
        · exact absurd hx (Int32.not_lt.mpr h2)
        · refine q_iload_n dX3_hasSum_39 rfl ?_
          refine q_iload_n dX3_hasSum_40 rfl ?_
          refine z_callS (c_floorMod sg ta _ x (fun q => by rw [q] at hx; exact absurd hx (by decide))) kS_X3_48 dX3_hasSum_41 rfl (by omega) (Nat.le_of_ble_eq_true rfl) (Nat.le_refl _) (Nat.le_refl _) rfl (fun v sg2 ta2 h => ?_)
          obtain ⟨rfl, rfl, rfl⟩ := h
          dsimp only [Option.toList, List.cons_append, List.nil_append]
          refine q_iload_n dX3_hasSum_44 rfl ?_
          refine q_icmp_ne 52 dX3_hasSum_45 (by decide) (fun h3 => ?_) (fun h3 => ?_)
          · refine q_iconst (v := 0) dX3_hasSum_52 rfl ?_
            exact z_zret dX3_hasSum_53 rfl (Or.inl rfl) ⟨by rw [bC_f (fun q => h3 (by rw [show j = n by omega]; exact q))], rfl, rfl⟩
          · refine q_iconst (v := 1) dX3_hasSum_48 rfl ?_
            refine q_goto 53 dX3_hasSum_49 (by decide) ?_
            exact z_zret dX3_hasSum_53 rfl (Or.inr rfl) ⟨by rw [bC_t (by rw [show n = j by omega]; exact h3)], rfl, rfl⟩
      · exact absurd (nI_le (by omega) (by omega)) h
    | succ k ih =>
      intro j hj
      refine q_iload dX3_hasSum_5 rfl ?_
      refine q_aload_n dX3_hasSum_7 rfl ?_
      refine z_get 1 dX3_hasSum_8 (by first | assumption | decide) (sh_13 _ _ _) rfl (by decide) fl_X3_15 rfl ?_
      rw [hn]
      refine q_icmp_ge 35 dX3_hasSum_11 (by decide) (fun h => ?_) (fun h => ?_)
      · exact absurd h (nI_ge (by omega) (by omega))
      · refine q_bipush (v := 31) dX3_hasSum_14 rfl ?_
        refine q_iload_n dX3_hasSum_16 rfl ?_
        refine q_imul dX3_hasSum_17 ?_
        refine q_aload_n dX3_hasSum_18 rfl ?_
        refine z_get 0 dX3_hasSum_19 (by first | assumption | decide) (sh_13 _ _ _) rfl (by decide) fl_X3_9 rfl ?_
        refine q_iload dX3_hasSum_22 rfl ?_
        refine z_iald dX3_hasSum_24 (by first | assumption | decide) rfl (vp_in_nI (n := j) (by omega) (by omega)) ?_
        refine q_iadd dX3_hasSum_25 ?_
        refine q_iconst (v := 1) dX3_hasSum_26 rfl ?_
        refine q_iadd dX3_hasSum_27 ?_
        refine s_istore_n 3 dX3_hasSum_28 rfl (Nat.le_of_ble_eq_true rfl) rfl ?_
        dsimp only [List.set]
        refine q_iinc dX3_hasSum_29 rfl (Nat.le_of_ble_eq_true rfl) rfl ?_
        dsimp only [List.set]
        refine q_goto 5 dX3_hasSum_32 (by decide) ?_
        rw [nI_clamp (by omega), nI_inc]
        exact ih (j + 1) (by omega)
  refine q_iconst (v := 0) dX3_hasSum_0 rfl ?_
  refine s_istore_n 3 dX3_hasSum_1 rfl (Nat.le_of_ble_eq_true rfl) rfl ?_
  dsimp only [List.set]
  refine q_iconst (v := 0) dX3_hasSum_2 rfl ?_
  refine q_istore dX3_hasSum_3 (Nat.le_of_ble_eq_true rfl) rfl ?_
  dsimp only [List.set]
  exact loop n 0 (by omega)
set_option maxRecDepth 100000 in
set_option maxHeartbeats 4000000 in
theorem c_Row_isReplaced (sg : zI) (ta : zJ) (r n r2 m p g r3 k : Nat) (hr : r < cnt 13) (hr' : r2 < cnt 13) (hr'' : r3 < cnt 13) (hn : sg 13 r 1 = nI n) (hm : sg 13 r2 1 = nI m) (hk : sg 13 r3 1 = nI k) (hn30 : n ≤ 30) (hm30 : m ≤ 30) (hk30 : k ≤ 30) (hpg : p + g ≤ m) : zP yX3_isReplaced mX3_isReplaced 1 [.ref (nm 13 r), .ref (nm 13 r2), .int (nI p), .int (nI g), .ref (nm 13 r3)] sg ta (pI (bC (n = p + k + (m - p - g) ∧ (∀ j, j < p → sg 14 r j = sg 14 r2 j) ∧ (∀ j, j < k → sg 14 r (p + j) = sg 14 r3 j) ∧ ∀ j, j < m - p - g → sg 14 r (p + k + j) = sg 14 r2 (p + g + j))) sg ta) := by
  refine zP_of (lv := [some (.ref (nm 13 r)), some (.ref (nm 13 r2)), some (.int (nI p)), some (.int (nI g)), some (.ref (nm 13 r3)), none]) (by decide +kernel) rfl (fun h => by cases h) rfl (Nat.le_of_ble_eq_true rfl) ?_
  refine q_aload_n dX3_isReplaced_0 rfl ?_
  refine z_get 1 dX3_isReplaced_1 (by first | assumption | decide) (sh_13 _ _ _) rfl (by decide) fl_X3_15 rfl ?_
  refine q_iload_n dX3_isReplaced_4 rfl ?_
  refine q_isub dX3_isReplaced_5 ?_
  refine q_iload_n dX3_isReplaced_6 rfl ?_
  refine q_isub dX3_isReplaced_7 ?_
  rw [hm, pk_sub (by omega), pk_sub (by omega)]
  refine q_istore dX3_isReplaced_8 (Nat.le_of_ble_eq_true rfl) rfl ?_
  dsimp only [List.set]
  refine q_aload_n dX3_isReplaced_10 rfl ?_
  refine z_get 1 dX3_isReplaced_11 (by first | assumption | decide) (sh_13 _ _ _) rfl (by decide) fl_X3_15 rfl ?_
  refine q_iload_n dX3_isReplaced_14 rfl ?_
  refine q_aload dX3_isReplaced_15 rfl ?_
  refine z_get 1 dX3_isReplaced_17 (by first | assumption | decide) (sh_13 _ _ _) rfl (by decide) fl_X3_15 rfl ?_
  refine q_iadd dX3_isReplaced_20 ?_
  refine q_iload dX3_isReplaced_21 rfl ?_
  refine q_iadd dX3_isReplaced_23 ?_
  rw [hn, hk, nI_add, nI_add]
  refine q_icmp_ne 78 dX3_isReplaced_24 (by decide) (fun h => ?_) (fun h => ?_)
  · refine q_iconst (v := 0) dX3_isReplaced_78 rfl ?_
    exact z_zret dX3_isReplaced_79 rfl (Or.inl rfl) ⟨by rw [bC_f (fun q => h (by rw [q.1]))], rfl, rfl⟩
  · have e : n = p + k + (m - p - g) := (nI_eq (by omega) (by omega)).mp h
    refine q_aload_n dX3_isReplaced_27 rfl ?_
    refine q_iconst (v := 0) dX3_isReplaced_28 rfl ?_
    refine q_aload_n dX3_isReplaced_29 rfl ?_
    refine q_iconst (v := 0) dX3_isReplaced_30 rfl ?_
    refine q_iload_n dX3_isReplaced_31 rfl ?_
    refine z_callV (c_Row_agrees sg ta r 0 n r2 0 m p hr hr' hn hm hn30 hm30 (by omega) (by omega) (by omega)) kV_X3_44 dX3_isReplaced_32 (by first | assumption | decide) (sh_13 _ _ _) rfl rfl rfl (by omega) (Nat.le_of_ble_eq_true rfl) (Nat.le_refl _) (Nat.le_refl _) rfl (fun v sg2 ta2 h => ?_)
    obtain ⟨rfl, rfl, rfl⟩ := h
    dsimp only [Option.toList, List.cons_append, List.nil_append]
    refine q_if_eq 78 dX3_isReplaced_35 (by decide) (fun h1 => ?_) (fun h1 => ?_)
    · refine q_iconst (v := 0) dX3_isReplaced_78 rfl ?_
      exact z_zret dX3_isReplaced_79 rfl (Or.inl rfl) ⟨by rw [bC_f (fun q => bC_z.mp h1 ⟨by omega, by omega, fun j hj => by rw [Nat.zero_add]; exact q.2.1 j hj⟩)], rfl, rfl⟩
    · have a1 := (bC_nz.mp h1).2.2
      refine q_aload_n dX3_isReplaced_38 rfl ?_
      refine q_iload_n dX3_isReplaced_39 rfl ?_
      refine q_aload dX3_isReplaced_40 rfl ?_
      refine q_iconst (v := 0) dX3_isReplaced_42 rfl ?_
      refine q_aload dX3_isReplaced_43 rfl ?_
      refine z_get 1 dX3_isReplaced_45 (by first | assumption | decide) (sh_13 _ _ _) rfl (by decide) fl_X3_15 rfl ?_
      rw [hk]
      refine z_callV (c_Row_agrees sg2 ta2 r p n r3 0 k k hr hr'' hn hk hn30 hk30 (by omega) (by omega) (by omega)) kV_X3_44 dX3_isReplaced_48 (by first | assumption | decide) (sh_13 _ _ _) rfl rfl rfl (by omega) (Nat.le_of_ble_eq_true rfl) (Nat.le_refl _) (Nat.le_refl _) rfl (fun v sg3 ta3 h => ?_)
      obtain ⟨rfl, rfl, rfl⟩ := h
      dsimp only [Option.toList, List.cons_append, List.nil_append]
      refine q_if_eq 78 dX3_isReplaced_51 (by decide) (fun h2 => ?_) (fun h2 => ?_)
      · refine q_iconst (v := 0) dX3_isReplaced_78 rfl ?_
        exact z_zret dX3_isReplaced_79 rfl (Or.inl rfl) ⟨by rw [bC_f (fun q => bC_z.mp h2 ⟨by omega, by omega, fun j hj => by rw [Nat.zero_add]; exact q.2.2.1 j hj⟩)], rfl, rfl⟩
      · have a2 := (bC_nz.mp h2).2.2
        refine q_aload_n dX3_isReplaced_54 rfl ?_
        refine q_iload_n dX3_isReplaced_55 rfl ?_
        refine q_aload dX3_isReplaced_56 rfl ?_
        refine z_get 1 dX3_isReplaced_58 (by first | assumption | decide) (sh_13 _ _ _) rfl (by decide) fl_X3_15 rfl ?_
        refine q_iadd dX3_isReplaced_61 ?_
        refine q_aload_n dX3_isReplaced_62 rfl ?_
        refine q_iload_n dX3_isReplaced_63 rfl ?_
        refine q_iload_n dX3_isReplaced_64 rfl ?_
        refine q_iadd dX3_isReplaced_65 ?_
        refine q_iload dX3_isReplaced_66 rfl ?_
        rw [hk, nI_add, nI_add]
        refine z_callV (c_Row_agrees sg3 ta3 r (p + k) n r2 (p + g) m (m - p - g) hr hr' hn hm hn30 hm30 (by omega) (by omega) (by omega)) kV_X3_44 dX3_isReplaced_68 (by first | assumption | decide) (sh_13 _ _ _) rfl rfl rfl (by omega) (Nat.le_of_ble_eq_true rfl) (Nat.le_refl _) (Nat.le_refl _) rfl (fun v sg4 ta4 h => ?_)
        obtain ⟨rfl, rfl, rfl⟩ := h
        dsimp only [Option.toList, List.cons_append, List.nil_append]
        refine q_if_eq 78 dX3_isReplaced_71 (by decide) (fun h3 => ?_) (fun h3 => ?_)
        · refine q_iconst (v := 0) dX3_isReplaced_78 rfl ?_
          exact z_zret dX3_isReplaced_79 rfl (Or.inl rfl) ⟨by rw [bC_f (fun q => bC_z.mp h3 ⟨by omega, by omega, fun j hj => q.2.2.2 j hj⟩)], rfl, rfl⟩
        · have a3 := (bC_nz.mp h3).2.2
          refine q_iconst (v := 1) dX3_isReplaced_74 rfl ?_
          refine q_goto 79 dX3_isReplaced_75 (by decide) ?_
          exact z_zret dX3_isReplaced_79 rfl (Or.inr rfl) ⟨by rw [bC_t ⟨e, fun j hj => by have := a1 j hj; rwa [Nat.zero_add] at this, fun j hj => by have := a2 j hj; rwa [Nat.zero_add] at this, a3⟩], rfl, rfl⟩
