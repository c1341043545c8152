/-! the constructors of Judge and of the class; E: what the cells hold at last -/
def sg0 : zI := fun K i j => if K = 1 then (if j = 1 then 2 else if j = 3 then 1 else 0) else if K = 3 then (if j = 6 then 1 else 0) else if K = 15 then (if j = 1 then 1 else 0) else if K = 20 then (if j = 0 then 2 else if j = 3 then 1 else 0) else 0
def ta0 : zJ := fun _ _ _ => 0
def cE : Nat → zE := mk sg0 ta0
theorem cE_nm {K i : Nat} (h : i < cnt K) : cE (nm K i) = shp K i (sg0 K i) (ta0 K i) := mk_nm h
set_option maxRecDepth 100000 in
set_option maxHeartbeats 4000000 in
theorem i_Judge (g : Nat → zE) (hk : g 15 = .inr (1, [.null, .null, .null, .null, .null, .null, .null])) : zC yX1_init mX1_init 2 10 136 [.ref 15, .ref 12, .ref 13] 15 g (fun v N2 g2 => v = none ∧ N2 = 25 ∧ g2 15 = .inr (1, [.ref 12, .ref 13, .ref 16, .ref 18, .ref 20, .ref 22, .ref 24]) ∧ (∀ j, 16 ≤ j → j ≤ 25 → g2 j = cE j) ∧ ∀ j, j < 15 → g2 j = g j) := by
  refine zC_of (lv := [some (.ref 15), some (.ref 12), some (.ref 13)]) (by decide +kernel) rfl (fun _ => rfl) rfl (Nat.le_of_ble_eq_true rfl) ?_
  suffices key : ∀ G : Nat → zE, G 15 = .inr (1, [.null, .null, .null, .null, .null, .null, .null]) → (∀ j, j < 15 → G j = g j) → Wq mX1_init 2 none 10 136 (fun v N2 g2 => v = none ∧ N2 = 25 ∧ g2 15 = .inr (1, [.ref 12, .ref 13, .ref 16, .ref 18, .ref 20, .ref 22, .ref 24]) ∧ (∀ j, 16 ≤ j → j ≤ 25 → g2 j = cE j) ∧ ∀ j, j < 15 → g2 j = g j) 0 0 15 G 0 [some (.ref 15), some (.ref 12), some (.ref 13)] [] from key g hk (fun _ _ => rfl)
  clear hk
  intro G hk hL
  have hE : ∀ j, 16 ≤ j → j ≤ 15 → G j = cE j := fun j a b => absurd a (by omega)
  refine q_aload_n dX1_init_0 rfl ?_
  refine q_objInit dX1_init_1 ml_X1_3 (by omega) (Nat.le_of_ble_eq_true rfl) ?_
  refine q_aload_n dX1_init_4 rfl ?_
  refine q_new (ci := 5) (fs := [.null, .int 0]) dX1_init_5 rfl cl_X1_9 it_RX5 in_RX5 tyX5 tyX5_ok (fun j hj => match j, hj with | 0, _ => rfl | 1, _ => rfl | j + 2, h => absurd h (by omega)) (fun _ _ => rfl) (by omega) (by omega) ?_
  refine q_dup dX1_init_8 rfl ?_
  refine q_callN (i_Term 16 16 _ vu_e (by omega) (by omega)) kN_X1_11 dX1_init_9 rfl (by omega) (Nat.le_of_ble_eq_true rfl) (by omega) (by omega) rfl (fun v N2 g2 h => ?_)
  obtain ⟨rfl, rfl, ek, en, oth⟩ := h
  dsimp only [Option.toList, List.nil_append]
  have hk2 : g2 15 = .inr (1, [.null, .null, .null, .null, .null, .null, .null]) := (oth 15 (by omega) (by omega)).trans ((vu_n (by omega)).trans hk)
  refine q_putr 2 dX1_init_12 (hk2) (by omega) (by omega) rfl (by decide) fl_X1_12 rfl rfl rfl (tyX1_ok 2 (by decide)) (fun _ => rfl) (fun _ => rfl) (Nat.le_of_ble_eq_true rfl) ?_
  dsimp only [List.set]
  have hE2 : ∀ j, 16 ≤ j → j ≤ 17 → (va_up g2 15 (.inr (1, [.null, .null, .ref 16, .null, .null, .null, .null]))) j = cE j := fun j a b => by
    rw [vu_n (by omega)]
    by_cases e1 : j = 16
    · subst e1; rw [ek]; rfl
    · by_cases e2 : j = 17
      · subst e2; exact en
      · rw [oth j e1 e2, vu_n e1]; exact hE j a (by omega)
  have hL2 : ∀ j, j < 15 → (va_up g2 15 (.inr (1, [.null, .null, .ref 16, .null, .null, .null, .null]))) j = g j := fun j a => by
    rw [vu_n (by omega), oth j (by omega) (by omega), vu_n (by omega)]; exact hL j a
  have hk3 : (va_up g2 15 (.inr (1, [.null, .null, .ref 16, .null, .null, .null, .null]))) 15 = .inr (1, [.null, .null, .ref 16, .null, .null, .null, .null]) := vu_e
  clear hE hL hk ek en oth hk2
  generalize hG2 : va_up g2 15 (.inr (1, [.null, .null, .ref 16, .null, .null, .null, .null])) = G2 at hE2 hL2 hk3 ⊢
  clear hG2 g2 G
  obtain ⟨G, hG⟩ : ∃ G, G = G2 := ⟨G2, rfl⟩
  rw [← hG] at hE2 hL2 hk3 ⊢
  clear hG G2
  have hE := hE2
  have hk := hk3
  have hL := hL2
  clear hE2 hk3 hL2
  refine q_aload_n dX1_init_15 rfl ?_
  refine q_new (ci := 3) (fs := [.null, .int 0]) dX1_init_16 rfl cl_X1_18 it_RX3 in_RX3 tyX3 tyX3_ok (fun j hj => match j, hj with | 0, _ => rfl | 1, _ => rfl | j + 2, h => absurd h (by omega)) (fun _ _ => rfl) (by omega) (by omega) ?_
  refine q_dup dX1_init_19 rfl ?_
  refine q_callN (i_Row 18 18 _ vu_e (by omega) (by omega)) kN_X1_20 dX1_init_20 rfl (by omega) (Nat.le_of_ble_eq_true rfl) (by omega) (by omega) rfl (fun v N2 g2 h => ?_)
  obtain ⟨rfl, rfl, ek, en, oth⟩ := h
  dsimp only [Option.toList, List.nil_append]
  have hk2 : g2 15 = .inr (1, [.null, .null, .ref 16, .null, .null, .null, .null]) := (oth 15 (by omega) (by omega)).trans ((vu_n (by omega)).trans hk)
  refine q_putr 3 dX1_init_23 (hk2) (by omega) (by omega) rfl (by decide) fl_X1_21 rfl rfl rfl (tyX1_ok 3 (by decide)) (fun _ => rfl) (fun _ => rfl) (Nat.le_of_ble_eq_true rfl) ?_
  dsimp only [List.set]
  have hE2 : ∀ j, 16 ≤ j → j ≤ 19 → (va_up g2 15 (.inr (1, [.null, .null, .ref 16, .ref 18, .null, .null, .null]))) j = cE j := fun j a b => by
    rw [vu_n (by omega)]
    by_cases e1 : j = 18
    · subst e1; rw [ek]; rfl
    · by_cases e2 : j = 19
      · subst e2; exact en
      · rw [oth j e1 e2, vu_n e1]; exact hE j a (by omega)
  have hL2 : ∀ j, j < 15 → (va_up g2 15 (.inr (1, [.null, .null, .ref 16, .ref 18, .null, .null, .null]))) j = g j := fun j a => by
    rw [vu_n (by omega), oth j (by omega) (by omega), vu_n (by omega)]; exact hL j a
  have hk3 : (va_up g2 15 (.inr (1, [.null, .null, .ref 16, .ref 18, .null, .null, .null]))) 15 = .inr (1, [.null, .null, .ref 16, .ref 18, .null, .null, .null]) := vu_e
  clear hE hL hk ek en oth hk2
  generalize hG2 : va_up g2 15 (.inr (1, [.null, .null, .ref 16, .ref 18, .null, .null, .null])) = G2 at hE2 hL2 hk3 ⊢
  clear hG2 g2 G
  obtain ⟨G, hG⟩ : ∃ G, G = G2 := ⟨G2, rfl⟩
  rw [← hG] at hE2 hL2 hk3 ⊢
  clear hG G2
  have hE := hE2
  have hk := hk3
  have hL := hL2
  clear hE2 hk3 hL2
  refine q_aload_n dX1_init_26 rfl ?_
  refine q_new (ci := 3) (fs := [.null, .int 0]) dX1_init_27 rfl cl_X1_18 it_RX3 in_RX3 tyX3 tyX3_ok (fun j hj => match j, hj with | 0, _ => rfl | 1, _ => rfl | j + 2, h => absurd h (by omega)) (fun _ _ => rfl) (by omega) (by omega) ?_
  refine q_dup dX1_init_30 rfl ?_
  refine q_callN (i_Row 20 20 _ vu_e (by omega) (by omega)) kN_X1_20 dX1_init_31 rfl (by omega) (Nat.le_of_ble_eq_true rfl) (by omega) (by omega) rfl (fun v N2 g2 h => ?_)
  obtain ⟨rfl, rfl, ek, en, oth⟩ := h
  dsimp only [Option.toList, List.nil_append]
  have hk2 : g2 15 = .inr (1, [.null, .null, .ref 16, .ref 18, .null, .null, .null]) := (oth 15 (by omega) (by omega)).trans ((vu_n (by omega)).trans hk)
  refine q_putr 4 dX1_init_34 (hk2) (by omega) (by omega) rfl (by decide) fl_X1_25 rfl rfl rfl (tyX1_ok 4 (by decide)) (fun _ => rfl) (fun _ => rfl) (Nat.le_of_ble_eq_true rfl) ?_
  dsimp only [List.set]
  have hE2 : ∀ j, 16 ≤ j → j ≤ 21 → (va_up g2 15 (.inr (1, [.null, .null, .ref 16, .ref 18, .ref 20, .null, .null]))) j = cE j := fun j a b => by
    rw [vu_n (by omega)]
    by_cases e1 : j = 20
    · subst e1; rw [ek]; rfl
    · by_cases e2 : j = 21
      · subst e2; exact en
      · rw [oth j e1 e2, vu_n e1]; exact hE j a (by omega)
  have hL2 : ∀ j, j < 15 → (va_up g2 15 (.inr (1, [.null, .null, .ref 16, .ref 18, .ref 20, .null, .null]))) j = g j := fun j a => by
    rw [vu_n (by omega), oth j (by omega) (by omega), vu_n (by omega)]; exact hL j a
  have hk3 : (va_up g2 15 (.inr (1, [.null, .null, .ref 16, .ref 18, .ref 20, .null, .null]))) 15 = .inr (1, [.null, .null, .ref 16, .ref 18, .ref 20, .null, .null]) := vu_e
  clear hE hL hk ek en oth hk2
  generalize hG2 : va_up g2 15 (.inr (1, [.null, .null, .ref 16, .ref 18, .ref 20, .null, .null])) = G2 at hE2 hL2 hk3 ⊢
  clear hG2 g2 G
  obtain ⟨G, hG⟩ : ∃ G, G = G2 := ⟨G2, rfl⟩
  rw [← hG] at hE2 hL2 hk3 ⊢
  clear hG G2
  have hE := hE2
  have hk := hk3
  have hL := hL2
  clear hE2 hk3 hL2
  refine q_aload_n dX1_init_37 rfl ?_
  refine q_new (ci := 3) (fs := [.null, .int 0]) dX1_init_38 rfl cl_X1_18 it_RX3 in_RX3 tyX3 tyX3_ok (fun j hj => match j, hj with | 0, _ => rfl | 1, _ => rfl | j + 2, h => absurd h (by omega)) (fun _ _ => rfl) (by omega) (by omega) ?_
  refine q_dup dX1_init_41 rfl ?_
  refine q_callN (i_Row 22 22 _ vu_e (by omega) (by omega)) kN_X1_20 dX1_init_42 rfl (by omega) (Nat.le_of_ble_eq_true rfl) (by omega) (by omega) rfl (fun v N2 g2 h => ?_)
  obtain ⟨rfl, rfl, ek, en, oth⟩ := h
  dsimp only [Option.toList, List.nil_append]
  have hk2 : g2 15 = .inr (1, [.null, .null, .ref 16, .ref 18, .ref 20, .null, .null]) := (oth 15 (by omega) (by omega)).trans ((vu_n (by omega)).trans hk)
  refine q_putr 5 dX1_init_45 (hk2) (by omega) (by omega) rfl (by decide) fl_X1_28 rfl rfl rfl (tyX1_ok 5 (by decide)) (fun _ => rfl) (fun _ => rfl) (Nat.le_of_ble_eq_true rfl) ?_
  dsimp only [List.set]
  have hE2 : ∀ j, 16 ≤ j → j ≤ 23 → (va_up g2 15 (.inr (1, [.null, .null, .ref 16, .ref 18, .ref 20, .ref 22, .null]))) j = cE j := fun j a b => by
    rw [vu_n (by omega)]
    by_cases e1 : j = 22
    · subst e1; rw [ek]; rfl
    · by_cases e2 : j = 23
      · subst e2; exact en
      · rw [oth j e1 e2, vu_n e1]; exact hE j a (by omega)
  have hL2 : ∀ j, j < 15 → (va_up g2 15 (.inr (1, [.null, .null, .ref 16, .ref 18, .ref 20, .ref 22, .null]))) j = g j := fun j a => by
    rw [vu_n (by omega), oth j (by omega) (by omega), vu_n (by omega)]; exact hL j a
  have hk3 : (va_up g2 15 (.inr (1, [.null, .null, .ref 16, .ref 18, .ref 20, .ref 22, .null]))) 15 = .inr (1, [.null, .null, .ref 16, .ref 18, .ref 20, .ref 22, .null]) := vu_e
  clear hE hL hk ek en oth hk2
  generalize hG2 : va_up g2 15 (.inr (1, [.null, .null, .ref 16, .ref 18, .ref 20, .ref 22, .null])) = G2 at hE2 hL2 hk3 ⊢
  clear hG2 g2 G
  obtain ⟨G, hG⟩ : ∃ G, G = G2 := ⟨G2, rfl⟩
  rw [← hG] at hE2 hL2 hk3 ⊢
  clear hG G2
  have hE := hE2
  have hk := hk3
  have hL := hL2
  clear hE2 hk3 hL2
  refine q_aload_n dX1_init_48 rfl ?_
  refine q_new (ci := 3) (fs := [.null, .int 0]) dX1_init_49 rfl cl_X1_18 it_RX3 in_RX3 tyX3 tyX3_ok (fun j hj => match j, hj with | 0, _ => rfl | 1, _ => rfl | j + 2, h => absurd h (by omega)) (fun _ _ => rfl) (by omega) (by omega) ?_
  refine q_dup dX1_init_52 rfl ?_
  refine q_callN (i_Row 24 24 _ vu_e (by omega) (by omega)) kN_X1_20 dX1_init_53 rfl (by omega) (Nat.le_of_ble_eq_true rfl) (by omega) (by omega) rfl (fun v N2 g2 h => ?_)
  obtain ⟨rfl, rfl, ek, en, oth⟩ := h
  dsimp only [Option.toList, List.nil_append]
  have hk2 : g2 15 = .inr (1, [.null, .null, .ref 16, .ref 18, .ref 20, .ref 22, .null]) := (oth 15 (by omega) (by omega)).trans ((vu_n (by omega)).trans hk)
  refine q_putr 6 dX1_init_56 (hk2) (by omega) (by omega) rfl (by decide) fl_X1_31 rfl rfl rfl (tyX1_ok 6 (by decide)) (fun _ => rfl) (fun _ => rfl) (Nat.le_of_ble_eq_true rfl) ?_
  dsimp only [List.set]
  have hE2 : ∀ j, 16 ≤ j → j ≤ 25 → (va_up g2 15 (.inr (1, [.null, .null, .ref 16, .ref 18, .ref 20, .ref 22, .ref 24]))) j = cE j := fun j a b => by
    rw [vu_n (by omega)]
    by_cases e1 : j = 24
    · subst e1; rw [ek]; rfl
    · by_cases e2 : j = 25
      · subst e2; exact en
      · rw [oth j e1 e2, vu_n e1]; exact hE j a (by omega)
  have hL2 : ∀ j, j < 15 → (va_up g2 15 (.inr (1, [.null, .null, .ref 16, .ref 18, .ref 20, .ref 22, .ref 24]))) j = g j := fun j a => by
    rw [vu_n (by omega), oth j (by omega) (by omega), vu_n (by omega)]; exact hL j a
  have hk3 : (va_up g2 15 (.inr (1, [.null, .null, .ref 16, .ref 18, .ref 20, .ref 22, .ref 24]))) 15 = .inr (1, [.null, .null, .ref 16, .ref 18, .ref 20, .ref 22, .ref 24]) := vu_e
  clear hE hL hk ek en oth hk2
  generalize hG2 : va_up g2 15 (.inr (1, [.null, .null, .ref 16, .ref 18, .ref 20, .ref 22, .ref 24])) = G2 at hE2 hL2 hk3 ⊢
  clear hG2 g2 G
  obtain ⟨G, hG⟩ : ∃ G, G = G2 := ⟨G2, rfl⟩
  rw [← hG] at hE2 hL2 hk3 ⊢
  clear hG G2
  have hE := hE2
  have hk := hk3
  have hL := hL2
  clear hE2 hk3 hL2
  refine q_aload_n dX1_init_59 rfl ?_
  refine q_aload_n dX1_init_60 rfl ?_
  refine q_putr 0 dX1_init_61 (hk) (by omega) (by omega) rfl (by decide) fl_X1_34 rfl rfl rfl (tyX1_ok 0 (by decide)) (fun _ => rfl) (fun _ => rfl) (Nat.le_of_ble_eq_true rfl) ?_
  dsimp only [List.set]
  refine q_aload_n dX1_init_64 rfl ?_
  refine q_aload_n dX1_init_65 rfl ?_
  refine q_putr 1 dX1_init_66 (vu_e) (by omega) (by omega) rfl (by decide) fl_X1_38 rfl rfl rfl (tyX1_ok 1 (by decide)) (fun _ => rfl) (fun _ => rfl) (Nat.le_of_ble_eq_true rfl) ?_
  dsimp only [List.set]
  exact q_ret (v := none) ⟨rfl, rfl, vu_e, fun j a b => by rw [vu_n (by omega), vu_n (by omega)]; exact hE j a b, fun j a => by rw [vu_n (by omega), vu_n (by omega)]; exact hL j a⟩ ⟨dX1_init_69, rfl⟩ (Nat.le_refl _) (Nat.le_refl _)
