/-! CONSTRUCTORS -/
theorem vu_e {g : Nat → zE} {k : Nat} {x : zE} : va_up g k x k = x := if_pos rfl
theorem vu_n {g : Nat → zE} {k j : Nat} {x : zE} (h : j ≠ k) : va_up g k x j = g j := if_neg h
set_option maxRecDepth 100000 in
set_option maxHeartbeats 4000000 in
theorem i_Term (k N : Nat) (g : Nat → zE) (hk : g k = .inr (5, [.null, .int 0])) (h1 : 1 ≤ k) (h2 : k ≤ N) : zC yX5_init mX5_init 1 1 6 [.ref k] N g (fun v N2 g2 => v = none ∧ N2 = N + 1 ∧ g2 k = .inr (5, [.ref (N + 1), .int 0]) ∧ g2 (N + 1) = .inl (0, 6, .inl (fun _ => 0)) ∧ ∀ j, j ≠ k → j ≠ N + 1 → g2 j = g j) := by
  have n1 : k ≠ N + 1 := by omega
  have n1' : N + 1 ≠ k := by omega
  refine zC_of (lv := [some (.ref k)]) (by decide +kernel) rfl (fun _ => rfl) rfl (Nat.le_of_ble_eq_true rfl) ?_
  refine q_aload_n dX5_init_0 rfl ?_
  refine q_objInit dX5_init_1 ml_X5_3 (by omega) (Nat.le_of_ble_eq_true rfl) ?_
  refine q_aload_n dX5_init_4 rfl ?_
  refine q_bipush (v := 6) dX5_init_5 rfl ?_
  refine q_newa (t := 0) (n := 6) (a0 := (6, .inl (fun _ => 0))) dX5_init_7 ac_int rfl (fun _ => rfl) (fun _ _ => rfl) (fun _ => rfl) (fun _ _ => rfl) (by decide) rfl (by decide) (by omega) (by omega) ?_
  refine q_putr 0 dX5_init_9 ((vu_n n1).trans (hk)) (by omega) (by omega) rfl (by decide) fl_X5_9 rfl rfl rfl (tyX5_ok 0 (by decide)) (fun _ => rfl) (fun _ => rfl) (Nat.le_of_ble_eq_true rfl) ?_
  dsimp only [List.set]
  exact q_ret (v := none) ⟨rfl, rfl, by simp [va_up], by simp [va_up, n1'], fun j a b => by simp [va_up, a, b]⟩ ⟨dX5_init_12, rfl⟩ (Nat.le_refl _) (Nat.le_refl _)
set_option maxRecDepth 100000 in
set_option maxHeartbeats 4000000 in
theorem i_Row (k N : Nat) (g : Nat → zE) (hk : g k = .inr (3, [.null, .int 0])) (h1 : 1 ≤ k) (h2 : k ≤ N) : zC yX3_init mX3_init 1 1 30 [.ref k] N g (fun v N2 g2 => v = none ∧ N2 = N + 1 ∧ g2 k = .inr (3, [.ref (N + 1), .int 0]) ∧ g2 (N + 1) = .inl (0, 30, .inl (fun _ => 0)) ∧ ∀ j, j ≠ k → j ≠ N + 1 → g2 j = g j) := by
  have n1 : k ≠ N + 1 := by omega
  have n1' : N + 1 ≠ k := by omega
  refine zC_of (lv := [some (.ref k)]) (by decide +kernel) rfl (fun _ => rfl) rfl (Nat.le_of_ble_eq_true rfl) ?_
  refine q_aload_n dX3_init_0 rfl ?_
  refine q_objInit dX3_init_1 ml_X3_3 (by omega) (Nat.le_of_ble_eq_true rfl) ?_
  refine q_aload_n dX3_init_4 rfl ?_
  refine q_bipush (v := 30) dX3_init_5 rfl ?_
  refine q_newa (t := 0) (n := 30) (a0 := (30, .inl (fun _ => 0))) dX3_init_7 ac_int rfl (fun _ => rfl) (fun _ _ => rfl) (fun _ => rfl) (fun _ _ => rfl) (by decide) rfl (by decide) (by omega) (by omega) ?_
  refine q_putr 0 dX3_init_9 ((vu_n n1).trans (hk)) (by omega) (by omega) rfl (by decide) fl_X3_9 rfl rfl rfl (tyX3_ok 0 (by decide)) (fun _ => rfl) (fun _ => rfl) (Nat.le_of_ble_eq_true rfl) ?_
  dsimp only [List.set]
  exact q_ret (v := none) ⟨rfl, rfl, by simp [va_up], by simp [va_up, n1'], fun j a b => by simp [va_up, a, b]⟩ ⟨dX3_init_12, rfl⟩ (Nat.le_refl _) (Nat.le_refl _)
set_option maxRecDepth 100000 in
set_option maxHeartbeats 4000000 in
theorem i_Space (k N : Nat) (g : Nat → zE) (hk : g k = .inr (4, [.null, .int 0, .int 0, .int 0])) (h1 : 1 ≤ k) (h2 : k ≤ N) : zC yX4_init mX4_init 1 1 4 [.ref k] N g (fun v N2 g2 => v = none ∧ N2 = N + 1 ∧ g2 k = .inr (4, [.ref (N + 1), .int 2, .int 0, .int 1]) ∧ g2 (N + 1) = .inl (0, 4, .inl (fun _ => 0)) ∧ ∀ j, j ≠ k → j ≠ N + 1 → g2 j = g j) := by
  have n1 : k ≠ N + 1 := by omega
  have n1' : N + 1 ≠ k := by omega
  refine zC_of (lv := [some (.ref k)]) (by decide +kernel) rfl (fun _ => rfl) rfl (Nat.le_of_ble_eq_true rfl) ?_
  refine q_aload_n dX4_init_0 rfl ?_
  refine q_objInit dX4_init_1 ml_X4_3 (by omega) (Nat.le_of_ble_eq_true rfl) ?_
  refine q_aload_n dX4_init_4 rfl ?_
  refine q_iconst (v := 4) dX4_init_5 rfl ?_
  refine q_newa (t := 0) (n := 4) (a0 := (4, .inl (fun _ => 0))) dX4_init_6 ac_int rfl (fun _ => rfl) (fun _ _ => rfl) (fun _ => rfl) (fun _ _ => rfl) (by decide) rfl (by decide) (by omega) (by omega) ?_
  refine q_putr 0 dX4_init_8 ((vu_n n1).trans (hk)) (by omega) (by omega) rfl (by decide) fl_X4_9 rfl rfl rfl (tyX4_ok 0 (by decide)) (fun _ => rfl) (fun _ => rfl) (Nat.le_of_ble_eq_true rfl) ?_
  dsimp only [List.set]
  refine q_aload_n dX4_init_11 rfl ?_
  refine q_iconst (v := 2) dX4_init_12 rfl ?_
  refine q_puti 1 dX4_init_13 (vu_e) (by omega) (by omega) rfl (by decide) fl_X4_15 rfl (tyX4_ok 1 (by decide)) (Nat.le_of_ble_eq_true rfl) ?_
  dsimp only [List.set]
  refine q_aload_n dX4_init_16 rfl ?_
  refine q_iconst (v := 1) dX4_init_17 rfl ?_
  refine q_puti 3 dX4_init_18 (vu_e) (by omega) (by omega) rfl (by decide) fl_X4_19 rfl (tyX4_ok 3 (by decide)) (Nat.le_of_ble_eq_true rfl) ?_
  dsimp only [List.set]
  exact q_ret (v := none) ⟨rfl, rfl, by simp [va_up], by simp [va_up, n1'], fun j a b => by simp [va_up, a, b]⟩ ⟨dX4_init_21, rfl⟩ (Nat.le_refl _) (Nat.le_refl _)
set_option maxRecDepth 100000 in
set_option maxHeartbeats 4000000 in
theorem i_Machine (k N : Nat) (g : Nat → zE) (hk : g k = .inr (2, [.null, .int 0, .int 0])) (h1 : 1 ≤ k) (h2 : k ≤ N) : zC yX2_init mX2_init 1 1 18 [.ref k] N g (fun v N2 g2 => v = none ∧ N2 = N + 1 ∧ g2 k = .inr (2, [.ref (N + 1), .int 1, .int 0]) ∧ g2 (N + 1) = .inl (0, 18, .inl (fun _ => 0)) ∧ ∀ j, j ≠ k → j ≠ N + 1 → g2 j = g j) := by
  have n1 : k ≠ N + 1 := by omega
  have n1' : N + 1 ≠ k := by omega
  refine zC_of (lv := [some (.ref k)]) (by decide +kernel) rfl (fun _ => rfl) rfl (Nat.le_of_ble_eq_true rfl) ?_
  refine q_aload_n dX2_init_0 rfl ?_
  refine q_objInit dX2_init_1 ml_X2_3 (by omega) (Nat.le_of_ble_eq_true rfl) ?_
  refine q_aload_n dX2_init_4 rfl ?_
  refine q_bipush (v := 18) dX2_init_5 rfl ?_
  refine q_newa (t := 0) (n := 18) (a0 := (18, .inl (fun _ => 0))) dX2_init_7 ac_int rfl (fun _ => rfl) (fun _ _ => rfl) (fun _ => rfl) (fun _ _ => rfl) (by decide) rfl (by decide) (by omega) (by omega) ?_
  refine q_putr 0 dX2_init_9 ((vu_n n1).trans (hk)) (by omega) (by omega) rfl (by decide) fl_X2_9 rfl rfl rfl (tyX2_ok 0 (by decide)) (fun _ => rfl) (fun _ => rfl) (Nat.le_of_ble_eq_true rfl) ?_
  dsimp only [List.set]
  refine q_aload_n dX2_init_12 rfl ?_
  refine q_iconst (v := 1) dX2_init_13 rfl ?_
  refine q_puti 1 dX2_init_14 (vu_e) (by omega) (by omega) rfl (by decide) fl_X2_15 rfl (tyX2_ok 1 (by decide)) (Nat.le_of_ble_eq_true rfl) ?_
  dsimp only [List.set]
  exact q_ret (v := none) ⟨rfl, rfl, by simp [va_up], by simp [va_up, n1'], fun j a b => by simp [va_up, a, b]⟩ ⟨dX2_init_17, rfl⟩ (Nat.le_refl _) (Nat.le_refl _)
set_option maxRecDepth 100000 in
set_option maxHeartbeats 4000000 in
theorem i_Formula (k N : Nat) (g : Nat → zE) (hk : g k = .inr (0, [.null, .null, .int 0, .int 0, .int 0, .int 0, .int 0, .int 0, .int 0])) (h1 : 1 ≤ k) (h2 : k ≤ N) : zC yX0_init mX0_init 1 2 250 [.ref k] N g (fun v N2 g2 => v = none ∧ N2 = N + 2 ∧ g2 k = .inr (0, [.ref (N + 1), .ref (N + 2), .int 0, .int 0, .int 0, .int 0, .int 0, .int 0, .int 0]) ∧ g2 (N + 1) = .inl (1, 125, .inr (.inl (fun _ => 0))) ∧ g2 (N + 2) = .inl (1, 125, .inr (.inl (fun _ => 0))) ∧ ∀ j, j ≠ k → j ≠ N + 1 → j ≠ N + 2 → g2 j = g j) := by
  have n1 : k ≠ N + 1 := by omega
  have n1' : N + 1 ≠ k := by omega
  have n2 : k ≠ N + 2 := by omega
  have n2' : N + 2 ≠ k := by omega
  refine zC_of (lv := [some (.ref k)]) (by decide +kernel) rfl (fun _ => rfl) rfl (Nat.le_of_ble_eq_true rfl) ?_
  refine q_aload_n dX0_init_0 rfl ?_
  refine q_objInit dX0_init_1 ml_X0_3 (by omega) (Nat.le_of_ble_eq_true rfl) ?_
  refine q_aload_n dX0_init_4 rfl ?_
  refine q_bipush (v := 125) dX0_init_5 rfl ?_
  refine q_newa (t := 1) (n := 125) (a0 := (125, .inr (.inl (fun _ => 0)))) dX0_init_7 ac_long rfl (fun _ => rfl) (fun _ _ => rfl) (fun _ => rfl) (fun _ _ => rfl) (by decide) rfl (by decide) (by omega) (by omega) ?_
  refine q_putr 0 dX0_init_9 ((vu_n n1).trans (hk)) (by omega) (by omega) rfl (by decide) fl_X0_9 rfl rfl rfl (tyX0_ok 0 (by decide)) (fun _ => rfl) (fun _ => rfl) (Nat.le_of_ble_eq_true rfl) ?_
  dsimp only [List.set]
  refine q_aload_n dX0_init_12 rfl ?_
  refine q_bipush (v := 125) dX0_init_13 rfl ?_
  refine q_newa (t := 1) (n := 125) (a0 := (125, .inr (.inl (fun _ => 0)))) dX0_init_15 ac_long rfl (fun _ => rfl) (fun _ _ => rfl) (fun _ => rfl) (fun _ _ => rfl) (by decide) rfl (by decide) (by omega) (by omega) ?_
  refine q_putr 1 dX0_init_17 ((vu_n n2).trans (vu_e)) (by omega) (by omega) rfl (by decide) fl_X0_15 rfl rfl rfl (tyX0_ok 1 (by decide)) (fun _ => rfl) (fun _ => rfl) (Nat.le_of_ble_eq_true rfl) ?_
  dsimp only [List.set]
  exact q_ret (v := none) ⟨rfl, rfl, by simp [va_up], by simp [va_up, n1'], by simp [va_up, n2'], fun j a b c => by simp [va_up, a, b, c]⟩ ⟨dX0_init_20, rfl⟩ (Nat.le_refl _) (Nat.le_refl _)
set_option maxRecDepth 100000 in
set_option maxHeartbeats 4000000 in
theorem i_Way (k N sp : Nat) (g : Nat → zE) (hk : g k = .inr (6, [.null, .null, .null, .null, .int 0, .int 0, .int 0])) (h1 : 1 ≤ k) (h2 : k ≤ N) : zC yX6_init mX6_init 1 3 28 [.ref k, .ref sp] N g (fun v N2 g2 => v = none ∧ N2 = N + 3 ∧ g2 k = .inr (6, [.ref sp, .ref (N + 1), .ref (N + 2), .ref (N + 3), .int 0, .int 0, .int 1]) ∧ g2 (N + 1) = .inl (0, 4, .inl (fun _ => 0)) ∧ g2 (N + 2) = .inl (0, 4, .inl (fun _ => 0)) ∧ g2 (N + 3) = .inl (0, 20, .inl (fun _ => 0)) ∧ ∀ j, j ≠ k → j ≠ N + 1 → j ≠ N + 2 → j ≠ N + 3 → g2 j = g j) := by
  have n1 : k ≠ N + 1 := by omega
  have n1' : N + 1 ≠ k := by omega
  have n2 : k ≠ N + 2 := by omega
  have n2' : N + 2 ≠ k := by omega
  have n3 : k ≠ N + 3 := by omega
  have n3' : N + 3 ≠ k := by omega
  refine zC_of (lv := [some (.ref k), some (.ref sp)]) (by decide +kernel) rfl (fun _ => rfl) rfl (Nat.le_of_ble_eq_true rfl) ?_
  refine q_aload_n dX6_init_0 rfl ?_
  refine q_objInit dX6_init_1 ml_X6_3 (by omega) (Nat.le_of_ble_eq_true rfl) ?_
  refine q_aload_n dX6_init_4 rfl ?_
  refine q_iconst (v := 4) dX6_init_5 rfl ?_
  refine q_newa (t := 0) (n := 4) (a0 := (4, .inl (fun _ => 0))) dX6_init_6 ac_int rfl (fun _ => rfl) (fun _ _ => rfl) (fun _ => rfl) (fun _ _ => rfl) (by decide) rfl (by decide) (by omega) (by omega) ?_
  refine q_putr 1 dX6_init_8 ((vu_n n1).trans (hk)) (by omega) (by omega) rfl (by decide) fl_X6_9 rfl rfl rfl (tyX6_ok 1 (by decide)) (fun _ => rfl) (fun _ => rfl) (Nat.le_of_ble_eq_true rfl) ?_
  dsimp only [List.set]
  refine q_aload_n dX6_init_11 rfl ?_
  refine q_iconst (v := 4) dX6_init_12 rfl ?_
  refine q_newa (t := 0) (n := 4) (a0 := (4, .inl (fun _ => 0))) dX6_init_13 ac_int rfl (fun _ => rfl) (fun _ _ => rfl) (fun _ => rfl) (fun _ _ => rfl) (by decide) rfl (by decide) (by omega) (by omega) ?_
  refine q_putr 2 dX6_init_15 ((vu_n n2).trans (vu_e)) (by omega) (by omega) rfl (by decide) fl_X6_15 rfl rfl rfl (tyX6_ok 2 (by decide)) (fun _ => rfl) (fun _ => rfl) (Nat.le_of_ble_eq_true rfl) ?_
  dsimp only [List.set]
  refine q_aload_n dX6_init_18 rfl ?_
  refine q_bipush (v := 20) dX6_init_19 rfl ?_
  refine q_newa (t := 0) (n := 20) (a0 := (20, .inl (fun _ => 0))) dX6_init_21 ac_int rfl (fun _ => rfl) (fun _ _ => rfl) (fun _ => rfl) (fun _ _ => rfl) (by decide) rfl (by decide) (by omega) (by omega) ?_
  refine q_putr 3 dX6_init_23 ((vu_n n3).trans (vu_e)) (by omega) (by omega) rfl (by decide) fl_X6_18 rfl rfl rfl (tyX6_ok 3 (by decide)) (fun _ => rfl) (fun _ => rfl) (Nat.le_of_ble_eq_true rfl) ?_
  dsimp only [List.set]
  refine q_aload_n dX6_init_26 rfl ?_
  refine q_iconst (v := 1) dX6_init_27 rfl ?_
  refine q_puti 6 dX6_init_28 (vu_e) (by omega) (by omega) rfl (by decide) fl_X6_21 rfl (tyX6_ok 6 (by decide)) (Nat.le_of_ble_eq_true rfl) ?_
  dsimp only [List.set]
  refine q_aload_n dX6_init_31 rfl ?_
  refine q_aload_n dX6_init_32 rfl ?_
  refine q_putr 0 dX6_init_33 (vu_e) (by omega) (by omega) rfl (by decide) fl_X6_25 rfl rfl rfl (tyX6_ok 0 (by decide)) (fun _ => rfl) (fun _ => rfl) (Nat.le_of_ble_eq_true rfl) ?_
  dsimp only [List.set]
  exact q_ret (v := none) ⟨rfl, rfl, by simp [va_up], by simp [va_up, n1'], by simp [va_up, n2'], by simp [va_up, n3'], fun j a b c d => by simp [va_up, a, b, c, d]⟩ ⟨dX6_init_36, rfl⟩ (Nat.le_refl _) (Nat.le_refl _)
