def upR (sg : zI) (K i : Nat) (r : Nat → Int32) : zI := fun K' i' => if K' = K ∧ i' = i then r else sg K' i'
def upRl (ta : zJ) (K i : Nat) (r : Nat → Int64) : zJ := fun K' i' => if K' = K ∧ i' = i then r else ta K' i'
theorem upR_up3 (sg : zI) (K i : Nat) (r : Nat → Int32) (j : Nat) (x : Int32) : up3 (upR sg K i r) K i j x = upR sg K i (upd r j x) := by
  funext K' i'
  by_cases h : K' = K ∧ i' = i
  · simp [up3, upR, h]
  · simp [up3, upR, h]
theorem upRl_up3l (ta : zJ) (K i : Nat) (r : Nat → Int64) (j : Nat) (x : Int64) : up3l (upRl ta K i r) K i j x = upRl ta K i (vp_updL r j x) := by
  funext K' i'
  by_cases h : K' = K ∧ i' = i
  · simp [up3l, upRl, h]
  · simp [up3l, upRl, h]
theorem upR_self (sg : zI) (K i : Nat) : upR sg K i (sg K i) = sg := by
  funext K' i'
  by_cases h : K' = K ∧ i' = i
  · simp [upR, h]
  · simp [upR, h]
theorem upRl_self (ta : zJ) (K i : Nat) : upRl ta K i (ta K i) = ta := by
  funext K' i'
  by_cases h : K' = K ∧ i' = i
  · simp [upRl, h]
  · simp [upRl, h]
theorem fill_step (r : Nat → Int32) (x : Int32) (k : Nat) : upd (fun j => if j < k then x else r j) k x = fun j => if j < k + 1 then x else r j := by
  funext j
  unfold upd
  by_cases h : j = k
  · simp [h]
  · by_cases h2 : j < k
    · simp [h, h2]; intro h3; omega
    · have : ¬ j < k + 1 := by omega
      simp [h, h2, this]
theorem fill_stepL (r : Nat → Int64) (x : Int64) (k : Nat) : vp_updL (fun j => if j < k then x else r j) k x = fun j => if j < k + 1 then x else r j := by
  funext j
  unfold vp_updL
  by_cases h : j = k
  · simp [h]
  · by_cases h2 : j < k
    · simp [h, h2]; intro h3; omega
    · have : ¬ j < k + 1 := by omega
      simp [h, h2, this]
/-! the JDK's fill -/
set_option maxRecDepth 100000 in
set_option maxHeartbeats 4000000 in
theorem c_fillI (sg : zI) (ta : zJ) (K i n : Nat) (x : Int32) (hi : i < cnt K) (he : ∀ r q, shp K i r q = .inl (0, n, .inl r)) (hn : n < 2 ^ 31) : zP yJ7_fill_53178 mJ7_fill_53178 0 [.ref (nm K i), .int x] sg ta (fun v s t => v = none ∧ s = upR sg K i (fun j => if j < n then x else sg K i j) ∧ t = ta) := by
  refine zP_of (lv := [some (.ref (nm K i)), some (.int x), none, none]) (by decide +kernel) rfl (fun h => by cases h) rfl (Nat.le_of_ble_eq_true rfl) ?_
  have loop : ∀ k j : Nat, j + k = n → Zq mJ7_fill_53178 0 (fun v s t => v = none ∧ s = upR sg K i (fun j => if j < n then x else sg K i j) ∧ t = ta) (upR sg K i (fun q => if q < j then x else sg K i q)) ta 5 [some (.ref (nm K i)), some (.int x), some (.int (nI j)), some (.int (nI n))] [] := by
    intro k
    induction k with
    | zero =>
      intro j hj
      refine q_iload_n dJ7_fill_53178_5 rfl ?_
      refine q_iload_n dJ7_fill_53178_6 rfl ?_
      refine q_icmp_ge 20 dJ7_fill_53178_7 (by decide) (fun h => ?_) (fun h => ?_)
      · exact z_vret dJ7_fill_53178_20 rfl ⟨rfl, by rw [show j = n by omega], rfl⟩
      · exact absurd (nI_le (by omega) (by omega)) h
    | succ k ih =>
      intro j hj
      refine q_iload_n dJ7_fill_53178_5 rfl ?_
      refine q_iload_n dJ7_fill_53178_6 rfl ?_
      refine q_icmp_ge 20 dJ7_fill_53178_7 (by decide) (fun h => ?_) (fun h => ?_)
      · exact absurd h (nI_ge (by omega) (by omega))
      · refine q_aload_n dJ7_fill_53178_10 rfl ?_
        refine q_iload_n dJ7_fill_53178_11 rfl ?_
        refine q_iload_n dJ7_fill_53178_12 rfl ?_
        refine z_iast dJ7_fill_53178_13 hi he (vp_in_nI (by omega) (by omega)) ?_
        rw [nI_clamp (by omega), upR_up3, fill_step]
        refine q_iinc dJ7_fill_53178_14 rfl (Nat.le_of_ble_eq_true rfl) rfl ?_
        dsimp only [List.set]
        refine q_goto 5 dJ7_fill_53178_17 (by decide) ?_
        rw [nI_inc]
        exact ih (j + 1) (by omega)
  refine q_iconst (v := 0) dJ7_fill_53178_0 rfl ?_
  refine s_istore_n 2 dJ7_fill_53178_1 rfl (Nat.le_of_ble_eq_true rfl) rfl ?_
  dsimp only [List.set]
  refine q_aload_n dJ7_fill_53178_2 rfl ?_
  refine z_alen dJ7_fill_53178_3 hi (he _ _) (fun _ => rfl) rfl ?_
  refine s_istore_n 3 dJ7_fill_53178_4 rfl (Nat.le_of_ble_eq_true rfl) rfl ?_
  dsimp only [List.set]
  have h0 := loop n 0 (by omega)
  simp only [Nat.not_lt_zero, if_false] at h0
  rw [upR_self] at h0
  exact h0
set_option maxRecDepth 100000 in
set_option maxHeartbeats 4000000 in
theorem c_fillL (sg : zI) (ta : zJ) (K i n : Nat) (x : Int64) (hi : i < cnt K) (he : ∀ r q, shp K i r q = .inl (1, n, .inr (.inl q))) (hn : n < 2 ^ 31) : zP yJ7_fill_d0a16 mJ7_fill_d0a16 0 [.ref (nm K i), .long x] sg ta (fun v s t => v = none ∧ s = sg ∧ t = upRl ta K i (fun j => if j < n then x else ta K i j)) := by
  refine zP_of (lv := [some (.ref (nm K i)), some (.long x), none, none, none]) (by decide +kernel) rfl (fun h => by cases h) rfl (Nat.le_of_ble_eq_true rfl) ?_
  have loop : ∀ k j : Nat, j + k = n → Zq mJ7_fill_d0a16 0 (fun v s t => v = none ∧ s = sg ∧ t = upRl ta K i (fun j => if j < n then x else ta K i j)) sg (upRl ta K i (fun q => if q < j then x else ta K i q)) 6 [some (.ref (nm K i)), some (.long x), none, some (.int (nI j)), some (.int (nI n))] [] := by
    intro k
    induction k with
    | zero =>
      intro j hj
      refine q_iload_n dJ7_fill_d0a16_6 rfl ?_
      refine q_iload dJ7_fill_d0a16_7 rfl ?_
      refine q_icmp_ge 22 dJ7_fill_d0a16_9 (by decide) (fun h => ?_) (fun h => ?_)
      · exact z_vret dJ7_fill_d0a16_22 rfl ⟨rfl, rfl, by rw [show j = n by omega]⟩
      · exact absurd (nI_le (by omega) (by omega)) h
    | succ k ih =>
      intro j hj
      refine q_iload_n dJ7_fill_d0a16_6 rfl ?_
      refine q_iload dJ7_fill_d0a16_7 rfl ?_
      refine q_icmp_ge 22 dJ7_fill_d0a16_9 (by decide) (fun h => ?_) (fun h => ?_)
      · exact absurd h (nI_ge (by omega) (by omega))
      · refine q_aload_n dJ7_fill_d0a16_12 rfl ?_
        refine q_iload_n dJ7_fill_d0a16_13 rfl ?_
        refine q_lload_n dJ7_fill_d0a16_14 rfl ?_
        refine z_last dJ7_fill_d0a16_15 hi he (vp_in_nI (by omega) (by omega)) ?_
        rw [nI_clamp (by omega), upRl_up3l, fill_stepL]
        refine q_iinc dJ7_fill_d0a16_16 rfl (Nat.le_of_ble_eq_true rfl) rfl ?_
        dsimp only [List.set]
        refine q_goto 6 dJ7_fill_d0a16_19 (by decide) ?_
        rw [nI_inc]
        exact ih (j + 1) (by omega)
  refine q_iconst (v := 0) dJ7_fill_d0a16_0 rfl ?_
  refine s_istore_n 3 dJ7_fill_d0a16_1 rfl (Nat.le_of_ble_eq_true rfl) rfl ?_
  dsimp only [List.set]
  refine q_aload_n dJ7_fill_d0a16_2 rfl ?_
  refine z_alen dJ7_fill_d0a16_3 hi (he _ _) (fun _ => rfl) rfl ?_
  refine q_istore dJ7_fill_d0a16_4 (Nat.le_of_ble_eq_true rfl) rfl ?_
  dsimp only [List.set]
  have h0 := loop n 0 (by omega)
  simp only [Nat.not_lt_zero, if_false] at h0
  rw [upRl_self] at h0
  exact h0
/-! Space, the rest -/
set_option maxRecDepth 100000 in
set_option maxHeartbeats 4000000 in
theorem c_Space_isText (sg : zI) (ta : zJ) (x : Int32) : zP yX4_isText mX4_isText 0 [.ref (nm 1 0), .int x] sg ta (pI (bI (0 ≤ x ∧ x < sg 1 0 2)) sg ta) := by
  refine zP_of (lv := [some (.ref (nm 1 0)), some (.int x)]) (by decide +kernel) rfl (fun h => by cases h) rfl (Nat.le_of_ble_eq_true rfl) ?_
  refine q_iload_n dX4_isText_0 rfl ?_
  refine q_if_lt 16 dX4_isText_1 (by decide) (fun h => ?_) (fun h => ?_)
  · refine q_iconst (v := 0) dX4_isText_16 rfl ?_
    exact z_zret dX4_isText_17 rfl (Or.inl rfl) ⟨by rw [bI_f (fun q => absurd h (Int32.not_lt.mpr q.1))], rfl, rfl⟩
  · refine q_iload_n dX4_isText_4 rfl ?_
    refine q_aload_n dX4_isText_5 rfl ?_
    refine z_get 2 dX4_isText_6 (by first | assumption | decide) (sh_1 _ _ _) rfl (by decide) fl_X4_22 rfl ?_
    refine q_icmp_ge 16 dX4_isText_9 (by decide) (fun h2 => ?_) (fun h2 => ?_)
    · refine q_iconst (v := 0) dX4_isText_16 rfl ?_
      exact z_zret dX4_isText_17 rfl (Or.inl rfl) ⟨by rw [bI_f (fun q => absurd q.2 (Int32.not_lt.mpr h2))], rfl, rfl⟩
    · refine q_iconst (v := 1) dX4_isText_12 rfl ?_
      refine q_goto 17 dX4_isText_13 (by decide) ?_
      exact z_zret dX4_isText_17 rfl (Or.inr rfl) ⟨by rw [bI_t ⟨Int32.not_lt.mp h, Int32.not_le.mp h2⟩], rfl, rfl⟩
set_option maxRecDepth 100000 in
set_option maxHeartbeats 4000000 in
theorem c_Space_restart (sg : zI) (ta : zJ) (x : Int32) : zP yX4_restart mX4_restart 0 [.ref (nm 1 0), .int x] sg ta (pV (up3 (up3 (up3 sg 1 0 1 x) 1 0 2 0) 1 0 3 1) ta) := by
  refine zP_of (lv := [some (.ref (nm 1 0)), some (.int x)]) (by decide +kernel) rfl (fun h => by cases h) rfl (Nat.le_of_ble_eq_true rfl) ?_
  refine q_aload_n dX4_restart_0 rfl ?_
  refine q_iload_n dX4_restart_1 rfl ?_
  refine z_puti 1 dX4_restart_2 (by first | assumption | decide) (sh_1 _ _ _) rfl (by decide) fl_X4_15 rfl pfI (Nat.le_of_ble_eq_true rfl) rfl ?_
  refine q_aload_n dX4_restart_5 rfl ?_
  refine q_iconst (v := 0) dX4_restart_6 rfl ?_
  refine z_puti 2 dX4_restart_7 (by first | assumption | decide) (sh_1 _ _ _) rfl (by decide) fl_X4_22 rfl pfI (Nat.le_of_ble_eq_true rfl) rfl ?_
  refine q_aload_n dX4_restart_10 rfl ?_
  refine q_iconst (v := 1) dX4_restart_11 rfl ?_
  refine z_puti 3 dX4_restart_12 (by first | assumption | decide) (sh_1 _ _ _) rfl (by decide) fl_X4_19 rfl pfI (Nat.le_of_ble_eq_true rfl) rfl ?_
  exact z_vret dX4_restart_15 rfl ⟨rfl, rfl, rfl⟩
set_option maxRecDepth 100000 in
set_option maxHeartbeats 4000000 in
theorem c_Space_hasRoomFor (sg : zI) (ta : zJ) (A m nT sz : Nat) (hA : sg 1 0 1 = nI A) (hT : sg 1 0 2 = nI nT) (hs : sg 1 0 3 = nI sz) (hm : m < 2 ^ 31) (hT2 : nT ≤ 4) (hs2 : sz ≤ 8000) (hr : rowsN A m ≤ 400) : zP yX4_hasRoomFor mX4_hasRoomFor 1 [.ref (nm 1 0), .int (nI m)] sg ta (pI (bI (nT < 4 ∧ sz * rowsN A m ≤ 8000)) sg ta) := by
  refine zP_of (lv := [some (.ref (nm 1 0)), some (.int (nI m))]) (by decide +kernel) rfl (fun h => by cases h) rfl (Nat.le_of_ble_eq_true rfl) ?_
  refine q_aload_n dX4_hasRoomFor_0 rfl ?_
  refine z_get 2 dX4_hasRoomFor_1 (by first | assumption | decide) (sh_1 _ _ _) rfl (by decide) fl_X4_22 rfl ?_
  refine q_iconst (v := 4) dX4_hasRoomFor_4 rfl ?_
  rw [hT]
  refine q_icmp_ge 28 dX4_hasRoomFor_5 (by decide) (fun h => ?_) (fun h => ?_)
  · refine q_iconst (v := 0) dX4_hasRoomFor_28 rfl ?_
    exact z_zret dX4_hasRoomFor_29 rfl (Or.inl rfl) ⟨by rw [bI_f (fun q => absurd ((nI_leI (a := 4) (by omega) (by omega)).mp h) (by omega))], rfl, rfl⟩
  · have h4 : nT < 4 := by
      apply Nat.lt_of_not_le
      intro q
      exact h (nI_le (a := 4) q (by omega))
    refine q_aload_n dX4_hasRoomFor_8 rfl ?_
    refine z_get 3 dX4_hasRoomFor_9 (by first | assumption | decide) (sh_1 _ _ _) rfl (by decide) fl_X4_19 rfl ?_
    refine q_aload_n dX4_hasRoomFor_12 rfl ?_
    refine q_iload_n dX4_hasRoomFor_13 rfl ?_
    refine z_callV (c_Space_rowsUpTo sg ta A m hA hm) kV_X4_25 dX4_hasRoomFor_14 (by first | assumption | decide) (sh_1 _ _ _) rfl rfl rfl (by omega) (Nat.le_of_ble_eq_true rfl) (Nat.le_refl _) (Nat.le_refl _) rfl (fun v sg2 ta2 h => ?_)
    obtain ⟨rfl, rfl, rfl⟩ := h
    dsimp only [Option.toList, List.cons_append, List.nil_append]
    refine q_imul dX4_hasRoomFor_17 ?_
    refine q_sipush (v := 8000) dX4_hasRoomFor_18 rfl ?_
    have hp : sz * rowsN A m ≤ 8000 * 400 := Nat.mul_le_mul hs2 hr
    rw [hs, pk_mul]
    refine q_icmp_gt 28 dX4_hasRoomFor_21 (by decide) (fun h2 => ?_) (fun h2 => ?_)
    · refine q_iconst (v := 0) dX4_hasRoomFor_28 rfl ?_
      refine z_zret dX4_hasRoomFor_29 rfl (Or.inl rfl) ⟨?_, rfl, rfl⟩
      rw [bI_f (fun q => absurd h2 (nI_nlt (a := 8000) q.2 (by omega) : ¬ nI 8000 < _))]
    · refine q_iconst (v := 1) dX4_hasRoomFor_24 rfl ?_
      refine q_goto 29 dX4_hasRoomFor_25 (by decide) ?_
      refine z_zret dX4_hasRoomFor_29 rfl (Or.inr rfl) ⟨?_, rfl, rfl⟩
      rw [bI_t ⟨h4, Nat.le_of_not_lt (fun q => h2 (nI_lt (a := 8000) q (by omega)))⟩]
set_option maxRecDepth 100000 in
set_option maxHeartbeats 4000000 in
theorem c_Space_add (sg : zI) (ta : zJ) (A m nT sz : Nat) (hA : sg 1 0 1 = nI A) (hT : sg 1 0 2 = nI nT) (hs : sg 1 0 3 = nI sz) (hm : m < 2 ^ 31) (hT2 : nT < 4) : zP yX4_add mX4_add 1 [.ref (nm 1 0), .int (nI m)] sg ta (pV (up3 (up3 (up3 sg 2 0 nT (nI m)) 1 0 2 (nI (nT + 1))) 1 0 3 (nI (sz * rowsN A m))) ta) := by
  refine zP_of (lv := [some (.ref (nm 1 0)), some (.int (nI m))]) (by decide +kernel) rfl (fun h => by cases h) rfl (Nat.le_of_ble_eq_true rfl) ?_
  refine q_aload_n dX4_add_0 rfl ?_
  refine z_get 2 dX4_add_1 (by first | assumption | decide) (sh_1 _ _ _) rfl (by decide) fl_X4_22 rfl ?_
  refine q_iconst (v := 4) dX4_add_4 rfl ?_
  rw [hT]
  refine q_icmp_ge 42 dX4_add_5 (by decide) (fun h => ?_) (fun h => ?_)
  · exact absurd ((nI_leI (a := 4) (by omega) (by omega)).mp h) (by omega)
  · refine q_aload_n dX4_add_8 rfl ?_
    refine z_get 0 dX4_add_9 (by first | assumption | decide) (sh_1 _ _ _) rfl (by decide) fl_X4_9 rfl ?_
    refine q_aload_n dX4_add_12 rfl ?_
    refine z_get 2 dX4_add_13 (by first | assumption | decide) (sh_1 _ _ _) rfl (by decide) fl_X4_22 rfl ?_
    refine q_iload_n dX4_add_16 rfl ?_
    rw [hT]
    refine z_iast dX4_add_17 (by first | assumption | decide) (fun _ _ => rfl) (vp_in_nI hT2 (by omega)) ?_
    rw [nI_clamp (by omega)]
    refine q_aload_n dX4_add_18 rfl ?_
    refine q_dup dX4_add_19 rfl ?_
    refine z_get 2 dX4_add_20 (by first | assumption | decide) (sh_1 _ _ _) rfl (by decide) fl_X4_22 rfl ?_
    refine q_iconst (v := 1) dX4_add_23 rfl ?_
    have e2 : up3 sg 2 0 nT (nI m) 1 0 2 = nI nT := by rw [up3_off (by decide)]; exact hT
    rw [e2]
    refine q_iadd dX4_add_24 ?_
    rw [nI_1]
    refine z_puti 2 dX4_add_25 (by first | assumption | decide) (sh_1 _ _ _) rfl (by decide) fl_X4_22 rfl pfI (Nat.le_of_ble_eq_true rfl) rfl ?_
    refine q_aload_n dX4_add_28 rfl ?_
    refine q_dup dX4_add_29 rfl ?_
    refine z_get 3 dX4_add_30 (by first | assumption | decide) (sh_1 _ _ _) rfl (by decide) fl_X4_19 rfl ?_
    refine q_aload_n dX4_add_33 rfl ?_
    refine q_iload_n dX4_add_34 rfl ?_
    refine z_callV (c_Space_rowsUpTo _ ta A m (by rw [up3_get, if_neg (by decide), up3_off (by decide)]; exact hA) hm) kV_X4_25 dX4_add_35 (by first | assumption | decide) (sh_1 _ _ _) rfl rfl rfl (by omega) (Nat.le_of_ble_eq_true rfl) (Nat.le_refl _) (Nat.le_refl _) rfl (fun v sg2 ta2 h => ?_)
    obtain ⟨rfl, rfl, rfl⟩ := h
    dsimp only [Option.toList, List.cons_append, List.nil_append]
    refine q_imul dX4_add_38 ?_
    have e3 : up3 (up3 sg 2 0 nT (nI m)) 1 0 2 (nI (nT + 1)) 1 0 3 = nI sz := by rw [up3_get, if_neg (by decide), up3_off (by decide)]; exact hs
    rw [e3, pk_mul]
    refine z_puti 3 dX4_add_39 (by first | assumption | decide) (sh_1 _ _ _) rfl (by decide) fl_X4_19 rfl pfI (Nat.le_of_ble_eq_true rfl) rfl ?_
    exact z_vret dX4_add_42 rfl ⟨rfl, rfl, rfl⟩
