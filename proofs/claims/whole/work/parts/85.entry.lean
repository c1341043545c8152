/-! the law from its beginning -/
set_option maxHeartbeats 4000000 in
theorem w_law {L : Nat} {xs : Nat → Int32} (hL : L ≤ 384) (g : Nat → zE) : Wq mL_law 9 (some (L, xs)) 600000 7302250 QL 0 0 0 g 0 [some (.ref 0), none, none, none] [] := by
  refine q_new (ci := 7) (fs := [.null, .null, .null, .null, .null, .null, .null, .int 0, .int 0, .int 0, .int 0, .int 0, .int 0]) dL_law_0 rfl cl_L_7 it_RX7 in_RX7 tyX7 tyX7_ok (fun j hj => match j, hj with | 0, _ => rfl | 1, _ => rfl | 2, _ => rfl | 3, _ => rfl | 4, _ => rfl | 5, _ => rfl | 6, _ => rfl | 7, _ => rfl | 8, _ => rfl | 9, _ => rfl | 10, _ => rfl | 11, _ => rfl | 12, _ => rfl | j + 13, h => absurd h (by omega)) (fun _ _ => rfl) (by omega) (by omega) ?_
  refine q_dup dL_law_3 rfl ?_
  refine q_callI (As := []) (i_TextSolver _ vu_e) kI_L_9 dL_law_4 rfl (by omega) (Nat.le_of_ble_eq_true rfl) (by omega) (by omega) rfl (fun v N2 g2 h => ?_)
  obtain ⟨rfl, rfl, h2⟩ := h
  dsimp only [Option.toList, List.cons_append, List.nil_append]
  refine s_astore_n 1 dL_law_7 rfl (Nat.le_of_ble_eq_true rfl) rfl ?_
  dsimp only [List.set]
  refine q_new (ci := 8) (fs := [.int 0, .int 0, .null, .int 0, .int 0, .null, .null, .int 0, .null, .null, .null, .int 0, .null, .null, .null, .null, .null, .null, .null, .int 0, .null, .null, .int 0, .null, .null, .null, .null, .null, .null, .int 0, .null, .null]) dL_law_8 rfl cl_L_10 it_RX8 in_RX8 tyX8 tyX8_ok (fun j hj => match j, hj with | 0, _ => rfl | 1, _ => rfl | 2, _ => rfl | 3, _ => rfl | 4, _ => rfl | 5, _ => rfl | 6, _ => rfl | 7, _ => rfl | 8, _ => rfl | 9, _ => rfl | 10, _ => rfl | 11, _ => rfl | 12, _ => rfl | 13, _ => rfl | 14, _ => rfl | 15, _ => rfl | 16, _ => rfl | 17, _ => rfl | 18, _ => rfl | 19, _ => rfl | 20, _ => rfl | 21, _ => rfl | 22, _ => rfl | 23, _ => rfl | 24, _ => rfl | 25, _ => rfl | 26, _ => rfl | 27, _ => rfl | 28, _ => rfl | 29, _ => rfl | 30, _ => rfl | 31, _ => rfl | j + 32, h => absurd h (by omega)) (fun _ _ => rfl) (by omega) (by omega) ?_
  refine q_dup dL_law_11 rfl ?_
  refine q_callI (As := []) (i_Model _ vu_e) kI_L_12 dL_law_12 rfl (by omega) (Nat.le_of_ble_eq_true rfl) (by omega) (by omega) rfl (fun v N2 g4 h => ?_)
  obtain ⟨rfl, rfl, h4, h5⟩ := h
  dsimp only [Option.toList, List.cons_append, List.nil_append]
  refine s_astore_n 2 dL_law_15 rfl (Nat.le_of_ble_eq_true rfl) rfl ?_
  dsimp only [List.set]
  refine q_iconst (v := 0) dL_law_16 rfl ?_
  refine s_istore_n 3 dL_law_17 rfl (Nat.le_of_ble_eq_true rfl) rfl ?_
  dsimp only [List.set]
  refine q_congr (g' := mk sg0 ta0) (fun k hk => ?_) ?_
  · by_cases h : k + 1 < 86
    · rw [h5 _ h, vu_n (by omega)]
      exact h2 _ (by omega) (by omega)
    · exact h4 _ (by omega) (by omega)
  · exact w_loop hL (L + 1) 0 sg0 ta0 (by omega) (by omega) Inv_start
