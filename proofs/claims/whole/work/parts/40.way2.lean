/-- only the rows of the list may have changed -/
def frm (ks : List (Nat × Nat)) (sg s : zI) : Prop := ∀ K j, (K, j) ∉ ks → s K j = sg K j
theorem frm_refl (ks : List (Nat × Nat)) (sg : zI) : frm ks sg sg := fun _ _ _ => rfl
theorem frm_trans {ks : List (Nat × Nat)} {a b c : zI} (h : frm ks a b) (h2 : frm ks b c) : frm ks a c := fun K j hk => (h2 K j hk).trans (h K j hk)
theorem frm_mono {ks ks' : List (Nat × Nat)} {a b : zI} (hs : ∀ q ∈ ks, q ∈ ks') (h : frm ks a b) : frm ks' a b := fun K j hk => h K j (fun q => hk (hs _ q))
theorem frm_up3 {ks : List (Nat × Nat)} {a b : zI} {K i j : Nat} {x : Int32} (hk : (K, i) ∈ ks) (h : frm ks a b) : frm ks a (up3 b K i j x) := fun K' i' hk' => by
  rw [up3_off (fun q => hk' (by rw [q.1, q.2]; exact hk))]
  exact h K' i' hk'
theorem frm_upR {ks : List (Nat × Nat)} {a b : zI} {K i : Nat} {r : Nat → Int32} (hk : (K, i) ∈ ks) (h : frm ks a b) : frm ks a (upR b K i r) := fun K' i' hk' => by
  have : ¬ (K' = K ∧ i' = i) := fun q => hk' (by rw [q.1, q.2]; exact hk)
  simp only [upR, if_neg this]
  exact h K' i' hk'
theorem frm_way {i : Nat} {a b : zI} (h : wayOnly i a b) : frm [(3, i), (4, i), (5, i)] a b := fun K j hk => h.1 K j (fun q => hk (by rw [q.1, q.2]; simp)) (fun q => hk (by rw [q.1, q.2]; simp))
def SpaceOk (sg : zI) (A nT : Nat) (mo : Nat → Nat) : Prop := (A = 2 ∨ A = 3) ∧ nT ≤ 4 ∧ (∀ t, t < nT → mo t ≤ 5) ∧ wSize A mo nT ≤ 8000 ∧ sg 1 0 1 = nI A ∧ sg 1 0 2 = nI nT ∧ sg 1 0 3 = nI (wSize A mo nT) ∧ ∀ t, t < nT → sg 2 0 t = nI (mo t)
def WayOk (sg : zI) (i A nT : Nat) (mo : Nat → Nat) (k : Nat) : Prop := k < kAll mo nT ∧ (∀ t, t < nT → sg 4 i t = nI (vec mo nT k t)) ∧ sg 3 i 4 = nI (wTot mo nT k) ∧ sg 3 i 5 = nI (wFst A mo nT k) ∧ sg 3 i 6 = nI (A ^ wTot mo nT k) ∧ ∀ t, t < nT → sg 5 i t = nI (psum (vec mo nT k) t)
theorem SpaceOk_frm {ks : List (Nat × Nat)} {a b : zI} {A nT : Nat} {mo : Nat → Nat} (h : SpaceOk a A nT mo) (hf : frm ks a b) (h1 : (1, 0) ∉ ks) (h2 : (2, 0) ∉ ks) : SpaceOk b A nT mo := by
  obtain ⟨a1, a2, a3, a4, a5, a6, a7, a8⟩ := h
  refine ⟨a1, a2, a3, a4, ?_, ?_, ?_, ?_⟩
  · rw [hf 1 0 h1]; exact a5
  · rw [hf 1 0 h1]; exact a6
  · rw [hf 1 0 h1]; exact a7
  · rw [hf 2 0 h2]; exact a8
theorem kAll_le {mo : Nat → Nat} : ∀ n, (∀ t, t < n → mo t ≤ 5) → kAll mo n ≤ 6 ^ n
  | 0, _ => by simp [kAll]
  | n + 1, h => by
    have h1 := kAll_le n (fun t ht => h t (by omega))
    have h2 := h n (by omega)
    simp only [kAll, Nat.pow_succ]
    exact Nat.mul_le_mul h1 (by omega)
theorem kAll_lt {mo : Nat → Nat} {n : Nat} (hn : n ≤ 4) (h : ∀ t, t < n → mo t ≤ 5) : kAll mo n ≤ 1296 := by
  have h1 := kAll_le n h
  have h2 : 6 ^ n ≤ 6 ^ 4 := Nat.pow_le_pow_right (by omega) hn
  have h3 : (6 : Nat) ^ 4 = 1296 := rfl
  omega
theorem vec5 {mo : Nat → Nat} {n k : Nat} (h : ∀ t, t < n → mo t ≤ 5) : ∀ t, t < n → vec mo n k t ≤ 5 := fun t ht => Nat.le_trans (vec_le mo n k t ht) (h t ht)
set_option maxRecDepth 100000 in
set_option maxHeartbeats 4000000 in
theorem c_Space_lengthWays (sg : zI) (ta : zJ) (A nT : Nat) (mo : Nat → Nat) (hS : SpaceOk sg A nT mo) : zP yX4_lengthWays mX4_lengthWays 0 [.ref (nm 1 0)] sg ta (pI (nI (kAll mo nT)) sg ta) := by
  obtain ⟨-, hT4, -, -, -, hT, -, hm⟩ := hS
  refine zP_of (lv := [some (.ref (nm 1 0)), none, none]) (by decide +kernel) rfl (fun h => by cases h) rfl (Nat.le_of_ble_eq_true rfl) ?_
  have loop : ∀ k j : Nat, j + k = nT → Zq mX4_lengthWays 0 (pI (nI (kAll mo nT)) sg ta) sg ta 4 [some (.ref (nm 1 0)), some (.int (nI (kAll mo j))), some (.int (nI j))] [] := by
    intro k
    induction k with
    | zero =>
      intro j hj
      refine q_iload_n dX4_lengthWays_4 rfl ?_
      refine q_aload_n dX4_lengthWays_5 rfl ?_
      refine z_get 2 dX4_lengthWays_6 (by first | assumption | decide) (sh_1 _ _ _) rfl (by decide) fl_X4_22 rfl ?_
      rw [hT]
      refine q_icmp_ge 29 dX4_lengthWays_9 (by decide) (fun h => ?_) (fun h => ?_)
      · refine q_iload_n dX4_lengthWays_29 rfl ?_
        exact z_iret dX4_lengthWays_30 rfl ⟨by rw [show j = nT by omega], rfl, rfl⟩
      · exact absurd (nI_le (by omega) (by omega)) h
    | succ k ih =>
      intro j hj
      refine q_iload_n dX4_lengthWays_4 rfl ?_
      refine q_aload_n dX4_lengthWays_5 rfl ?_
      refine z_get 2 dX4_lengthWays_6 (by first | assumption | decide) (sh_1 _ _ _) rfl (by decide) fl_X4_22 rfl ?_
      rw [hT]
      refine q_icmp_ge 29 dX4_lengthWays_9 (by decide) (fun h => ?_) (fun h => ?_)
      · exact absurd h (nI_ge (by omega) (by omega))
      · refine q_iload_n dX4_lengthWays_12 rfl ?_
        refine q_aload_n dX4_lengthWays_13 rfl ?_
        refine z_get 0 dX4_lengthWays_14 (by first | assumption | decide) (sh_1 _ _ _) rfl (by decide) fl_X4_9 rfl ?_
        refine q_iload_n dX4_lengthWays_17 rfl ?_
        refine z_iald dX4_lengthWays_18 (by first | assumption | decide) rfl (vp_in_nI (n := j) (by omega) (by omega)) ?_
        rw [nI_clamp (by omega), hm j (by omega)]
        refine q_iconst (v := 1) dX4_lengthWays_19 rfl ?_
        refine q_iadd dX4_lengthWays_20 ?_
        refine q_imul dX4_lengthWays_21 ?_
        refine s_istore_n 1 dX4_lengthWays_22 rfl (Nat.le_of_ble_eq_true rfl) rfl ?_
        dsimp only [List.set]
        refine q_iinc dX4_lengthWays_23 rfl (Nat.le_of_ble_eq_true rfl) rfl ?_
        dsimp only [List.set]
        refine q_goto 4 dX4_lengthWays_26 (by decide) ?_
        rw [nI_1, pk_mul, nI_inc]
        exact ih (j + 1) (by omega)
  refine q_iconst (v := 1) dX4_lengthWays_0 rfl ?_
  refine s_istore_n 1 dX4_lengthWays_1 rfl (Nat.le_of_ble_eq_true rfl) rfl ?_
  dsimp only [List.set]
  refine q_iconst (v := 0) dX4_lengthWays_2 rfl ?_
  refine s_istore_n 2 dX4_lengthWays_3 rfl (Nat.le_of_ble_eq_true rfl) rfl ?_
  dsimp only [List.set]
  exact loop nT 0 (by omega)
set_option maxRecDepth 100000 in
set_option maxHeartbeats 4000000 in
theorem c_Way_restart (sg : zI) (ta : zJ) (i A nT : Nat) (mo : Nat → Nat) (hi : i < cnt 3) (hS : SpaceOk sg A nT mo) : zP yX6_restart mX6_restart 1 [.ref (nm 3 i)] sg ta (fun x s t => x = none ∧ t = ta ∧ frm [(3, i), (4, i), (5, i)] sg s ∧ WayOk s i A nT mo 0) := by
  have hi4 := cnt4 hi
  obtain ⟨hA23, hT4, hm5, hsz, hA, hT, hz, hm⟩ := hS
  refine zP_of (lv := [some (.ref (nm 3 i))]) (by decide +kernel) rfl (fun h => by cases h) rfl (Nat.le_of_ble_eq_true rfl) ?_
  refine q_aload_n dX6_restart_0 rfl ?_
  refine z_get 1 dX6_restart_1 (by first | assumption | decide) (sh_3 _ _ _) rfl (by decide) fl_X6_9 rfl ?_
  refine q_iconst (v := 0) dX6_restart_4 rfl ?_
  refine z_callS (c_fillI sg ta 4 i 4 0 hi4 (fun _ _ => rfl) (by omega)) kS_X6_29 dX6_restart_5 rfl (by omega) (Nat.le_of_ble_eq_true rfl) (Nat.le_refl _) (Nat.le_refl _) rfl (fun v s1 ta1 h => ?_)
  obtain ⟨rfl, rfl, rfl⟩ := h
  dsimp only [Option.toList, List.cons_append, List.nil_append]
  refine q_aload_n dX6_restart_8 rfl ?_
  refine q_iconst (v := 0) dX6_restart_9 rfl ?_
  refine z_puti 5 dX6_restart_10 (by first | assumption | decide) (sh_3 _ _ _) rfl (by decide) fl_X6_35 rfl pfI (Nat.le_of_ble_eq_true rfl) rfl ?_
  refine q_aload_n dX6_restart_13 rfl ?_
  have hf1 : frm [(3, i), (4, i), (5, i)] sg (up3 (upR sg 4 i (fun j => if j < 4 then 0 else sg 4 i j)) 3 i 5 0) := frm_up3 (by simp) (frm_upR (by simp) (frm_refl _ _))
  have hz4 : ∀ t, t < nT → (up3 (upR sg 4 i (fun j => if j < 4 then 0 else sg 4 i j)) 3 i 5 0) 4 i t = nI (vec mo nT 0 t) := by
    intro t ht
    rw [up3_off (by omega), vec_zero]
    simp only [upR, and_self, if_true]
    rw [if_pos (by omega)]
    rfl
  refine z_callV (c_Way_layOut _ ta1 i nT A (vec mo nT 0) hi (by rw [hf1 1 0 (by simp)]; exact hT) hT4 (by rw [hf1 1 0 (by simp)]; exact hA) hz4 (vec5 hm5)) kV_X6_38 dX6_restart_14 (by first | assumption | decide) (sh_3 _ _ _) rfl rfl rfl (by omega) (Nat.le_of_ble_eq_true rfl) (Nat.le_refl _) (Nat.le_refl _) rfl (fun v s2 ta2 h => ?_)
  obtain ⟨rfl, rfl, hw, g4, g6, g5⟩ := h
  dsimp only [Option.toList, List.cons_append, List.nil_append]
  refine z_vret dX6_restart_17 rfl ⟨rfl, rfl, frm_trans hf1 (frm_way hw), kAll_pos mo nT, ?_, g4, ?_, g6, g5⟩
  · intro t ht
    rw [hw.1 4 i (by omega) (by omega)]
    exact hz4 t ht
  · rw [hw.2, up3_get, if_pos ⟨rfl, rfl, rfl⟩]
    rfl
theorem tm_0 : nI 0 - 1 < 0 := by decide
theorem tm_s (j : Nat) : nI (j + 1) - 1 = nI j := nI_pred j
theorem tm_dec (j : Nat) : nI j + Int32.ofInt (-1) = nI j - 1 := by
  rw [Int32.sub_eq_add_neg]; rfl
set_option maxRecDepth 100000 in
set_option maxHeartbeats 4000000 in
theorem c_Way_next (sg : zI) (ta : zJ) (i A nT : Nat) (mo : Nat → Nat) (k : Nat) (hi : i < cnt 3) (hS : SpaceOk sg A nT mo) (hW : WayOk sg i A nT mo k) : zP yX6_goToNextLengths mX6_goToNextLengths 1 [.ref (nm 3 i)] sg ta (fun x s t => x = none ∧ t = ta ∧ frm [(3, i), (4, i), (5, i)] sg s ∧ (k + 1 < kAll mo nT → WayOk s i A nT mo (k + 1)) ∧ (k + 1 = kAll mo nT → WayOk s i A nT mo 0)) := by
  have hi4 := cnt4 hi
  obtain ⟨hA23, hT4, hm5, hsz, hA, hT, hz, hm⟩ := hS
  obtain ⟨hk, hv, htot, hfst, hcnt, hst⟩ := hW
  have hv5 := vec5 (k := k) hm5
  refine zP_of (lv := [some (.ref (nm 3 i)), none]) (by decide +kernel) rfl (fun h => by cases h) rfl (Nat.le_of_ble_eq_true rfl) ?_
  have fin : ∀ (z : Option Value) (s : zI) (w : Nat → Nat) (k' : Nat), frm [(3, i), (4, i), (5, i)] sg s → (∀ t, t < nT → s 4 i t = nI (w t)) → (∀ t, t < nT → w t = vec mo nT k' t) → k' < kAll mo nT → s 3 i 5 = nI (wFst A mo nT k') → ((k + 1 < kAll mo nT ∧ k' = k + 1) ∨ (k + 1 = kAll mo nT ∧ k' = 0)) → Zq mX6_goToNextLengths 1 (fun x s t => x = none ∧ t = ta ∧ frm [(3, i), (4, i), (5, i)] sg s ∧ (k + 1 < kAll mo nT → WayOk s i A nT mo (k + 1)) ∧ (k + 1 = kAll mo nT → WayOk s i A nT mo 0)) s ta 80 [some (.ref (nm 3 i)), z] [] := by
    intro z s w k' hf h4 hw hk' h5 hor
    refine q_aload_n dX6_goToNextLengths_80 rfl ?_
    refine z_callV (c_Way_layOut s ta i nT A w hi (by rw [hf 1 0 (by simp)]; exact hT) hT4 (by rw [hf 1 0 (by simp)]; exact hA) h4 (fun t ht => by rw [hw t ht]; exact vec5 hm5 t ht)) kV_X6_38 dX6_goToNextLengths_81 (by first | assumption | decide) (sh_3 _ _ _) rfl rfl rfl (by omega) (Nat.le_of_ble_eq_true rfl) (Nat.le_refl _) (Nat.le_refl _) rfl (fun v s2 ta2 h => ?_)
    obtain ⟨rfl, rfl, hwo, g4, g6, g5⟩ := h
    dsimp only [Option.toList, List.cons_append, List.nil_append]
    have hps : ∀ t, t ≤ nT → psum w t = psum (vec mo nT k') t := fun t ht => psum_congr t (fun u hu => hw u (by omega))
    have hWay : WayOk s2 i A nT mo k' := by
      refine ⟨hk', fun t ht => by rw [hwo.1 4 i (by omega) (by omega), h4 t ht, hw t ht], by rw [g4, hps nT (Nat.le_refl _)]; rfl, by rw [hwo.2]; exact h5, by rw [g6, hps nT (Nat.le_refl _)]; rfl, fun t ht => by rw [g5 t ht, hps t (by omega)]⟩
    refine z_vret dX6_goToNextLengths_84 rfl ⟨rfl, rfl, frm_trans hf (frm_way hwo), fun q => ?_, fun q => ?_⟩
    · rcases hor with ⟨a, b⟩ | ⟨a, b⟩
      · rw [← b]; exact hWay
      · omega
    · rcases hor with ⟨a, b⟩ | ⟨a, b⟩
      · omega
      · rw [← b]; exact hWay
  have loop : ∀ (j : Nat) (s : zI), j ≤ nT → frm [(3, i), (4, i), (5, i)] sg s → s 3 i 5 = nI (wFst A mo nT (k + 1)) → (∀ u, u < j → s 4 i u = nI (vec mo nT k u)) → (∀ u, j ≤ u → u < nT → s 4 i u = nI 0 ∧ vec mo nT k u = mo u) → Zq mX6_goToNextLengths 1 (fun x s t => x = none ∧ t = ta ∧ frm [(3, i), (4, i), (5, i)] sg s ∧ (k + 1 < kAll mo nT → WayOk s i A nT mo (k + 1)) ∧ (k + 1 = kAll mo nT → WayOk s i A nT mo 0)) s ta 23 [some (.ref (nm 3 i)), some (.int (nI j - 1))] [] := by
    intro j
    induction j with
    | zero =>
      intro s hj hf h5 hlo hhi
      refine q_iload_n dX6_goToNextLengths_23 rfl ?_
      refine q_if_lt 58 dX6_goToNextLengths_24 (by decide) (fun h => ?_) (fun h => ?_)
      · refine q_iload_n dX6_goToNextLengths_58 rfl ?_
        refine q_if_lt 75 dX6_goToNextLengths_59 (by decide) (fun h2 => ?_) (fun h2 => ?_)
        · refine q_aload_n dX6_goToNextLengths_75 rfl ?_
          refine q_iconst (v := 0) dX6_goToNextLengths_76 rfl ?_
          refine z_puti 5 dX6_goToNextLengths_77 (by first | assumption | decide) (sh_3 _ _ _) rfl (by decide) fl_X6_35 rfl pfI (Nat.le_of_ble_eq_true rfl) rfl ?_
          refine fin _ _ (fun _ => 0) 0 (frm_up3 (by simp) hf) (fun t ht => ?_) (fun t ht => by rw [vec_zero]) (kAll_pos mo nT) ?_ (Or.inr ⟨?_, rfl⟩)
          · rw [up3_off (by omega)]; exact (hhi t (by omega) ht).1
          · rw [up3_get, if_pos ⟨rfl, rfl, rfl⟩]; rfl
          · exact vec_last hk (fun u hu => (hhi u (by omega) hu).2)
        · exact absurd tm_0 h2
      · exact absurd tm_0 h
    | succ j ih =>
      intro s hj hf h5 hlo hhi
      rw [tm_s]
      have hin : vp_in (nI j) 4 := vp_in_nI (by omega) (by omega)
      refine q_iload_n dX6_goToNextLengths_23 rfl ?_
      refine q_if_lt 58 dX6_goToNextLengths_24 (by decide) (fun h => ?_) (fun h => ?_)
      · exact absurd h (nI_pos (by omega))
      · refine q_aload_n dX6_goToNextLengths_27 rfl ?_
        refine z_get 1 dX6_goToNextLengths_28 (by first | assumption | decide) (sh_3 _ _ _) rfl (by decide) fl_X6_9 rfl ?_
        refine q_iload_n dX6_goToNextLengths_31 rfl ?_
        refine z_iald dX6_goToNextLengths_32 (by first | assumption | decide) rfl (by assumption) ?_
        refine q_aload_n dX6_goToNextLengths_33 rfl ?_
        refine z_get 0 dX6_goToNextLengths_34 (by first | assumption | decide) (sh_3 _ _ _) rfl (by decide) fl_X6_25 rfl ?_
        refine z_get 0 dX6_goToNextLengths_37 (by first | assumption | decide) (sh_1 _ _ _) rfl (by decide) fl_X6_52 rfl ?_
        refine q_iload_n dX6_goToNextLengths_40 rfl ?_
        refine z_iald dX6_goToNextLengths_41 (by first | assumption | decide) rfl (by assumption) ?_
        rw [nI_clamp (by omega), hlo j (by omega), hf 2 0 (by simp), hm j (by omega)]
        have b1 := hv5 j (by omega)
        have b2 := hm5 j (by omega)
        refine q_icmp_lt 58 dX6_goToNextLengths_42 (by decide) (fun h2 => ?_) (fun h2 => ?_)
        · have h3 : vec mo nT k j < mo j := (nI_ltI (by omega) (by omega)).mp h2
          refine q_iload_n dX6_goToNextLengths_58 rfl ?_
          refine q_if_lt 75 dX6_goToNextLengths_59 (by decide) (fun h4 => ?_) (fun h4 => ?_)
          · exact absurd h4 (nI_pos (by omega))
          · refine q_aload_n dX6_goToNextLengths_62 rfl ?_
            refine z_get 1 dX6_goToNextLengths_63 (by first | assumption | decide) (sh_3 _ _ _) rfl (by decide) fl_X6_9 rfl ?_
            refine q_iload_n dX6_goToNextLengths_66 rfl ?_
            refine q_dup2 dX6_goToNextLengths_67 rfl rfl ?_
            refine z_iald dX6_goToNextLengths_68 (by first | assumption | decide) rfl (by assumption) ?_
            refine q_iconst (v := 1) dX6_goToNextLengths_69 rfl ?_
            refine q_iadd dX6_goToNextLengths_70 ?_
            refine z_iast dX6_goToNextLengths_71 (by first | assumption | decide) (fun _ _ => rfl) (by assumption) ?_
            refine q_goto 80 dX6_goToNextLengths_72 (by decide) ?_
            rw [nI_clamp (by omega), hlo j (by omega), nI_1]
            have hn := vec_next (w := fun u => if u = j then vec mo nT k j + 1 else if u < j then vec mo nT k u else 0) hk (show j < nT by omega) h3 (by simp) (fun u hu => by rw [if_neg (by omega), if_pos hu]) (fun u hu hu2 => ⟨(hhi u (by omega) hu2).2, by rw [if_neg (by omega), if_neg (by omega)]⟩)
            refine fin _ _ _ (k + 1) (frm_up3 (by simp) hf) (fun t ht => ?_) hn.2 hn.1 ?_ (Or.inl ⟨hn.1, rfl⟩)
            · rw [up3_get]
              by_cases g : t = j
              · subst g; rw [if_pos ⟨rfl, rfl, rfl⟩, if_pos rfl]
              · rw [if_neg (by omega), if_neg g]
                by_cases g2 : t < j
                · rw [if_pos g2]; exact hlo t (by omega)
                · rw [if_neg g2]; exact (hhi t (by omega) ht).1
            · rw [up3_off (by omega)]; exact h5
        · have h3 : vec mo nT k j = mo j := by
            have := vec_le mo nT k j (by omega)
            have : ¬ vec mo nT k j < mo j := fun q => h2 (nI_lt q (by omega))
            omega
          refine q_aload_n dX6_goToNextLengths_45 rfl ?_
          refine z_get 1 dX6_goToNextLengths_46 (by first | assumption | decide) (sh_3 _ _ _) rfl (by decide) fl_X6_9 rfl ?_
          refine q_iload_n dX6_goToNextLengths_49 rfl ?_
          refine q_iconst (v := 0) dX6_goToNextLengths_50 rfl ?_
          refine z_iast dX6_goToNextLengths_51 (by first | assumption | decide) (fun _ _ => rfl) (by assumption) ?_
          refine q_iinc dX6_goToNextLengths_52 rfl (Nat.le_of_ble_eq_true rfl) rfl ?_
          dsimp only [List.set]
          refine q_goto 23 dX6_goToNextLengths_55 (by decide) ?_
          rw [nI_clamp (by omega), tm_dec]
          refine ih _ (by omega) (frm_up3 (by simp) hf) ?_ (fun u hu => ?_) (fun u hu hu2 => ?_)
          · rw [up3_off (by omega)]; exact h5
          · rw [up3_get, if_neg (by omega)]; exact hlo u (by omega)
          · rw [up3_get]
            by_cases g : u = j
            · subst g; rw [if_pos ⟨rfl, rfl, rfl⟩]; exact ⟨rfl, h3⟩
            · rw [if_neg (by omega)]; exact hhi u (by omega) hu2
  refine q_aload_n dX6_goToNextLengths_0 rfl ?_
  refine q_dup dX6_goToNextLengths_1 rfl ?_
  refine z_get 5 dX6_goToNextLengths_2 (by first | assumption | decide) (sh_3 _ _ _) rfl (by decide) fl_X6_35 rfl ?_
  refine q_aload_n dX6_goToNextLengths_5 rfl ?_
  refine z_get 6 dX6_goToNextLengths_6 (by first | assumption | decide) (sh_3 _ _ _) rfl (by decide) fl_X6_21 rfl ?_
  rw [hfst, hcnt]
  refine q_iadd dX6_goToNextLengths_9 ?_
  rw [nI_add]
  refine z_puti 5 dX6_goToNextLengths_10 (by first | assumption | decide) (sh_3 _ _ _) rfl (by decide) fl_X6_35 rfl pfI (Nat.le_of_ble_eq_true rfl) rfl ?_
  refine q_aload_n dX6_goToNextLengths_13 rfl ?_
  refine z_get 0 dX6_goToNextLengths_14 (by first | assumption | decide) (sh_3 _ _ _) rfl (by decide) fl_X6_25 rfl ?_
  refine z_get 2 dX6_goToNextLengths_17 (by first | assumption | decide) (sh_1 _ _ _) rfl (by decide) fl_X6_44 rfl ?_
  have hf1 : frm [(3, i), (4, i), (5, i)] sg (up3 sg 3 i 5 (nI (wFst A mo nT k + A ^ wTot mo nT k))) := frm_up3 (by simp) (frm_refl _ _)
  rw [hf1 1 0 (by simp), hT]
  refine q_iconst (v := 1) dX6_goToNextLengths_20 rfl ?_
  refine q_isub dX6_goToNextLengths_21 ?_
  refine s_istore_n 1 dX6_goToNextLengths_22 rfl (Nat.le_of_ble_eq_true rfl) rfl ?_
  dsimp only [List.set]
  refine loop nT _ (Nat.le_refl _) hf1 ?_ (fun u hu => ?_) (fun u hu hu2 => by omega)
  · rw [up3_get, if_pos ⟨rfl, rfl, rfl⟩]; rfl
  · rw [up3_off (by omega)]; exact hv u hu
theorem SpaceOk_size {sg : zI} {A nT : Nat} {mo : Nat → Nat} (h : SpaceOk sg A nT mo) : wSize A mo nT ≤ 8000 := h.2.2.2.1
set_option maxRecDepth 100000 in
set_option maxHeartbeats 4000000 in
theorem c_Way_goTo (sg : zI) (ta : zJ) (i A nT : Nat) (mo : Nat → Nat) (k w : Nat) (hi : i < cnt 3) (hS : SpaceOk sg A nT mo) (hW : WayOk sg i A nT mo k) (hw : w < wSize A mo nT) : zP yX6_goTo mX6_goTo 2 [.ref (nm 3 i), .int (nI w)] sg ta (fun x s t => x = none ∧ t = ta ∧ frm [(3, i), (4, i), (5, i), (6, i)] sg s ∧ WayOk s i A nT mo (kOf A mo nT w) ∧ ∀ j, j < wTot mo nT (kOf A mo nT w) → s 6 i j = nI (wLet A mo nT w j)) := by
  have hi6 := cnt6 hi
  have hsz := SpaceOk_size hS
  have hKb := kAll_lt hS.2.1 hS.2.2.1
  have hA23 := hS.1
  have mono3 : ∀ {a b : zI}, frm [(3, i), (4, i), (5, i)] a b → frm [(3, i), (4, i), (5, i), (6, i)] a b := fun h => frm_mono (by intro q hq; simp at hq ⊢; rcases hq with h | h | h <;> simp [h]) h
  -- the letters
  have loop3 : ∀ (j : Nat) (s : zI) (q : Nat) (k : Nat), wIn A mo nT w k → frm [(3, i), (4, i), (5, i), (6, i)] sg s → WayOk s i A nT mo k → j ≤ wTot mo nT k → q < 8000 → (∀ u, u < j → vec (fun _ => A - 1) (wTot mo nT k) (w - wFst A mo nT k) u = vec (fun _ => A - 1) j q u) → (∀ u, j ≤ u → u < wTot mo nT k → s 6 i u = nI (vec (fun _ => A - 1) (wTot mo nT k) (w - wFst A mo nT k) u)) → Zq mX6_goTo 2 (fun x s t => x = none ∧ t = ta ∧ frm [(3, i), (4, i), (5, i), (6, i)] sg s ∧ WayOk s i A nT mo (kOf A mo nT w) ∧ ∀ j, j < wTot mo nT (kOf A mo nT w) → s 6 i j = nI (wLet A mo nT w j)) s ta 61 [some (.ref (nm 3 i)), some (.int (nI w)), some (.int (nI q)), some (.int (nI j - 1))] [] := by
    intro j
    induction j with
    | zero =>
      intro s q k hin hf hWk hj hq hlo hhi
      refine q_iload_n dX6_goTo_61 rfl ?_
      refine q_if_lt 106 dX6_goTo_62 (by decide) (fun h => ?_) (fun h => ?_)
      · refine z_vret dX6_goTo_106 rfl ⟨rfl, rfl, hf, by rw [kOf_eq hin]; exact hWk, ?_⟩
        unfold wLet
        rw [kOf_eq hin]
        exact fun u hu => hhi u (by omega) hu
      · exact absurd tm_0 h
    | succ j ih =>
      intro s q k hin hf hWk hj hq hlo hhi
      rw [tm_s]
      have hA : s 1 0 1 = nI A := by rw [hf 1 0 (by simp)]; exact hS.2.2.2.2.1
      have hT20 : wTot mo nT k ≤ 20 := by
        have := psum_le (vec5 (k := k) hS.2.2.1) nT (Nat.le_refl _)
        have := hS.2.1
        unfold wTot; omega
      have hAne : ¬ nI A = 0 := nI_ne0 (by omega) (by omega)
      have eA : A - 1 + 1 = A := by omega
      refine q_iload_n dX6_goTo_61 rfl ?_
      refine q_if_lt 106 dX6_goTo_62 (by decide) (fun h => ?_) (fun h => ?_)
      · exact absurd h (nI_pos (by omega))
      · refine q_aload_n dX6_goTo_65 rfl ?_
        refine z_get 0 dX6_goTo_66 (by first | assumption | decide) (sh_3 _ _ _) rfl (by decide) fl_X6_25 rfl ?_
        refine z_get 1 dX6_goTo_69 (by first | assumption | decide) (sh_1 _ _ _) rfl (by decide) fl_X6_49 rfl ?_
        rw [hA]
        refine q_if_le 106 dX6_goTo_72 (by decide) (fun h2 => ?_) (fun h2 => ?_)
        · exact absurd h2 (nI_nle (by omega) (by omega))
        · refine q_aload_n dX6_goTo_75 rfl ?_
          refine z_get 3 dX6_goTo_76 (by first | assumption | decide) (sh_3 _ _ _) rfl (by decide) fl_X6_18 rfl ?_
          refine q_iload_n dX6_goTo_79 rfl ?_
          refine q_iload_n dX6_goTo_80 rfl ?_
          refine q_aload_n dX6_goTo_81 rfl ?_
          refine z_get 0 dX6_goTo_82 (by first | assumption | decide) (sh_3 _ _ _) rfl (by decide) fl_X6_25 rfl ?_
          refine z_get 1 dX6_goTo_85 (by first | assumption | decide) (sh_1 _ _ _) rfl (by decide) fl_X6_49 rfl ?_
          rw [hA]
          refine q_irem dX6_goTo_88 hAne ?_
          rw [pk_rem (by omega) (by omega) (by omega)]
          refine z_iast dX6_goTo_89 (by first | assumption | decide) (fun _ _ => rfl) (vp_in_nI (n := j) (by omega) (by omega)) ?_
          refine q_iload_n dX6_goTo_90 rfl ?_
          refine q_aload_n dX6_goTo_91 rfl ?_
          refine z_get 0 dX6_goTo_92 (by first | assumption | decide) (sh_3 _ _ _) rfl (by decide) fl_X6_25 rfl ?_
          refine z_get 1 dX6_goTo_95 (by first | assumption | decide) (sh_1 _ _ _) rfl (by decide) fl_X6_49 rfl ?_
          rw [nI_clamp (by omega), up3_off (by omega), hA]
          refine q_idiv dX6_goTo_98 hAne ?_
          refine s_istore_n 2 dX6_goTo_99 rfl (Nat.le_of_ble_eq_true rfl) rfl ?_
          dsimp only [List.set]
          refine q_iinc dX6_goTo_100 rfl (Nat.le_of_ble_eq_true rfl) rfl ?_
          dsimp only [List.set]
          refine q_goto 61 dX6_goTo_103 (by decide) ?_
          rw [pk_div (by omega) (by omega) (by omega), tm_dec]
          refine ih _ (q / A) k hin (frm_up3 (by simp) hf) ⟨hWk.1, fun t ht => by rw [up3_off (by omega)]; exact hWk.2.1 t ht, by rw [up3_off (by omega)]; exact hWk.2.2.1, by rw [up3_off (by omega)]; exact hWk.2.2.2.1, by rw [up3_off (by omega)]; exact hWk.2.2.2.2.1, fun t ht => by rw [up3_off (by omega)]; exact hWk.2.2.2.2.2 t ht⟩ (by omega) (Nat.lt_of_le_of_lt (Nat.div_le_self _ _) hq) (fun u hu => ?_) (fun u hu hu2 => ?_)
          · rw [hlo u (by omega)]
            simp only [vec, eA]
            rw [if_neg (by omega)]
          · rw [up3_get]
            by_cases g : u = j
            · subst g
              rw [if_pos ⟨rfl, rfl, rfl⟩, hlo u (by omega)]
              simp only [vec, if_true, eA]
            · rw [if_neg (by omega)]; exact hhi u (by omega) hu2
  have fin : ∀ (z y : Option Value) (s : zI) (k : Nat), wIn A mo nT w k → frm [(3, i), (4, i), (5, i), (6, i)] sg s → WayOk s i A nT mo k → Zq mX6_goTo 2 (fun x s t => x = none ∧ t = ta ∧ frm [(3, i), (4, i), (5, i), (6, i)] sg s ∧ WayOk s i A nT mo (kOf A mo nT w) ∧ ∀ j, j < wTot mo nT (kOf A mo nT w) → s 6 i j = nI (wLet A mo nT w j)) s ta 47 [some (.ref (nm 3 i)), some (.int (nI w)), z, y] [] := by
    intro z y s k hin hf hWk
    refine q_iload_n dX6_goTo_47 rfl ?_
    refine q_aload_n dX6_goTo_48 rfl ?_
    refine z_get 5 dX6_goTo_49 (by first | assumption | decide) (sh_3 _ _ _) rfl (by decide) fl_X6_35 rfl ?_
    rw [hWk.2.2.2.1]
    refine q_isub dX6_goTo_52 ?_
    refine s_istore_n 2 dX6_goTo_53 rfl (Nat.le_of_ble_eq_true rfl) rfl ?_
    dsimp only [List.set]
    refine q_aload_n dX6_goTo_54 rfl ?_
    refine z_get 4 dX6_goTo_55 (by first | assumption | decide) (sh_3 _ _ _) rfl (by decide) fl_X6_41 rfl ?_
    rw [pk_sub hin.2.1, hWk.2.2.1]
    refine q_iconst (v := 1) dX6_goTo_58 rfl ?_
    refine q_isub dX6_goTo_59 ?_
    refine s_istore_n 3 dX6_goTo_60 rfl (Nat.le_of_ble_eq_true rfl) rfl ?_
    dsimp only [List.set]
    exact loop3 (wTot mo nT k) s _ k hin hf hWk (Nat.le_refl _) (by omega) (fun u hu => rfl) (fun u hu hu2 => by omega)
  have loop : ∀ (n k : Nat) (y : Option Value) (s : zI), kAll mo nT ≤ n + k → n ≤ 1296 → wFst A mo nT k ≤ w → frm [(3, i), (4, i), (5, i), (6, i)] sg s → WayOk s i A nT mo k → Zq mX6_goTo 2 (fun x s t => x = none ∧ t = ta ∧ frm [(3, i), (4, i), (5, i), (6, i)] sg s ∧ WayOk s i A nT mo (kOf A mo nT w) ∧ ∀ j, j < wTot mo nT (kOf A mo nT w) → s 6 i j = nI (wLet A mo nT w j)) s ta 20 [some (.ref (nm 3 i)), some (.int (nI w)), some (.int (nI n)), y] [] := by
    intro n
    induction n with
    | zero =>
      intro k y s hn hn2 hle hf hWk
      have := hWk.1
      omega
    | succ n ih =>
      intro k y s hn hn2 hle hf hWk
      have hS2 : SpaceOk s A nT mo := SpaceOk_frm hS hf (by simp) (by simp)
      have hle2 := wFst_le A mo nT (show k + 1 ≤ kAll mo nT from hWk.1)
      rw [wFst_s] at hle2
      refine q_iload_n dX6_goTo_20 rfl ?_
      refine q_if_le 47 dX6_goTo_21 (by decide) (fun h => ?_) (fun h => ?_)
      · exact absurd h (nI_nle (by omega) (by omega))
      · refine q_iload_n dX6_goTo_24 rfl ?_
        refine q_aload_n dX6_goTo_25 rfl ?_
        refine z_get 5 dX6_goTo_26 (by first | assumption | decide) (sh_3 _ _ _) rfl (by decide) fl_X6_35 rfl ?_
        refine q_aload_n dX6_goTo_29 rfl ?_
        refine z_get 6 dX6_goTo_30 (by first | assumption | decide) (sh_3 _ _ _) rfl (by decide) fl_X6_21 rfl ?_
        refine q_iadd dX6_goTo_33 ?_
        rw [hWk.2.2.2.1, hWk.2.2.2.2.1, nI_add]
        refine q_icmp_lt 47 dX6_goTo_34 (by decide) (fun h2 => ?_) (fun h2 => ?_)
        · exact fin _ _ s k ⟨hWk.1, hle, by rw [wFst_s]; exact (nI_ltI (by omega) (by omega)).mp h2⟩ hf hWk
        · have h3 : wFst A mo nT (k + 1) ≤ w := by
            rw [wFst_s]
            exact Nat.le_of_not_lt (fun q => h2 (nI_lt q (by omega)))
          have h4 : k + 1 < kAll mo nT := by
            rcases Nat.lt_or_ge (k + 1) (kAll mo nT) with g | g
            · exact g
            · have : k + 1 = kAll mo nT := Nat.le_antisymm hWk.1 g
              rw [this, wFst_all] at h3
              omega
          refine q_aload_n dX6_goTo_37 rfl ?_
          refine z_callV (c_Way_next s ta i A nT mo k hi hS2 hWk) kV_X6_62 dX6_goTo_38 (by first | assumption | decide) (sh_3 _ _ _) rfl rfl rfl (by omega) (Nat.le_of_ble_eq_true rfl) (Nat.le_refl _) (Nat.le_refl _) rfl (fun v s2 ta2 h => ?_)
          obtain ⟨rfl, rfl, hf2, hw1, -⟩ := h
          dsimp only [Option.toList, List.cons_append, List.nil_append]
          refine q_iinc dX6_goTo_41 rfl (Nat.le_of_ble_eq_true rfl) rfl ?_
          dsimp only [List.set]
          refine q_goto 20 dX6_goTo_44 (by decide) ?_
          rw [tm_dec, tm_s]
          exact ih (k + 1) y s2 (by omega) (by omega) h3 (frm_trans hf (mono3 hf2)) (hw1 h4)
  have from12 : ∀ (s : zI) (k : Nat), wFst A mo nT k ≤ w → frm [(3, i), (4, i), (5, i), (6, i)] sg s → WayOk s i A nT mo k → Zq mX6_goTo 2 (fun x s t => x = none ∧ t = ta ∧ frm [(3, i), (4, i), (5, i), (6, i)] sg s ∧ WayOk s i A nT mo (kOf A mo nT w) ∧ ∀ j, j < wTot mo nT (kOf A mo nT w) → s 6 i j = nI (wLet A mo nT w j)) s ta 12 [some (.ref (nm 3 i)), some (.int (nI w)), none, none] [] := by
    intro s k hle hf hWk
    refine q_aload_n dX6_goTo_12 rfl ?_
    refine z_get 0 dX6_goTo_13 (by first | assumption | decide) (sh_3 _ _ _) rfl (by decide) fl_X6_25 rfl ?_
    refine z_callV (c_Space_lengthWays s ta A nT mo (SpaceOk_frm hS hf (by simp) (by simp))) kV_X6_58 dX6_goTo_16 (by first | assumption | decide) (sh_1 _ _ _) rfl rfl rfl (by omega) (Nat.le_of_ble_eq_true rfl) (Nat.le_refl _) (Nat.le_refl _) rfl (fun v s2 ta2 h => ?_)
    obtain ⟨rfl, rfl, rfl⟩ := h
    dsimp only [Option.toList, List.cons_append, List.nil_append]
    refine s_istore_n 2 dX6_goTo_19 rfl (Nat.le_of_ble_eq_true rfl) rfl ?_
    dsimp only [List.set]
    exact loop _ k none s2 (by omega) hKb hle hf hWk
  refine zP_of (lv := [some (.ref (nm 3 i)), some (.int (nI w)), none, none]) (by decide +kernel) rfl (fun h => by cases h) rfl (Nat.le_of_ble_eq_true rfl) ?_
  have hle2 := wFst_le A mo nT (Nat.le_of_lt hW.1)
  refine q_iload_n dX6_goTo_0 rfl ?_
  refine q_aload_n dX6_goTo_1 rfl ?_
  refine z_get 5 dX6_goTo_2 (by first | assumption | decide) (sh_3 _ _ _) rfl (by decide) fl_X6_35 rfl ?_
  rw [hW.2.2.2.1]
  refine q_icmp_ge 12 dX6_goTo_5 (by decide) (fun h => ?_) (fun h => ?_)
  · exact from12 sg k ((nI_leI (by omega) (by omega)).mp h) (frm_refl _ _) hW
  · refine q_aload_n dX6_goTo_8 rfl ?_
    refine z_callV (c_Way_restart sg ta i A nT mo hi hS) kV_X6_55 dX6_goTo_9 (by first | assumption | decide) (sh_3 _ _ _) rfl rfl rfl (by omega) (Nat.le_of_ble_eq_true rfl) (Nat.le_refl _) (Nat.le_refl _) rfl (fun v s2 ta2 h => ?_)
    obtain ⟨rfl, rfl, hf2, hw0⟩ := h
    dsimp only [Option.toList, List.cons_append, List.nil_append]
    exact from12 s2 0 (Nat.zero_le _) (mono3 hf2) hw0
set_option maxRecDepth 100000 in
set_option maxHeartbeats 4000000 in
theorem c_Way_lengthOf (sg : zI) (ta : zJ) (i nT t : Nat) (hi : i < cnt 3) (hT : sg 1 0 2 = nI nT) (ht : t < nT) (hT4 : nT ≤ 4) : zP yX6_lengthOf mX6_lengthOf 1 [.ref (nm 3 i), .int (nI t)] sg ta (pI (sg 4 i t) sg ta) := by
  have hi4 := cnt4 hi
  refine zP_of (lv := [some (.ref (nm 3 i)), some (.int (nI t))]) (by decide +kernel) rfl (fun h => by cases h) rfl (Nat.le_of_ble_eq_true rfl) ?_
  refine q_aload_n dX6_lengthOf_0 rfl ?_
  refine z_get 0 dX6_lengthOf_1 (by first | assumption | decide) (sh_3 _ _ _) rfl (by decide) fl_X6_25 rfl ?_
  refine q_iload_n dX6_lengthOf_4 rfl ?_
  refine z_callV (c_Space_isText sg ta (nI t)) kV_X6_65 dX6_lengthOf_5 (by first | assumption | decide) (sh_1 _ _ _) rfl rfl rfl (by omega) (Nat.le_of_ble_eq_true rfl) (Nat.le_refl _) (Nat.le_refl _) rfl (fun v s2 ta2 h => ?_)
  obtain ⟨rfl, rfl, rfl⟩ := h
  dsimp only [Option.toList, List.cons_append, List.nil_append]
  refine q_if_eq 20 dX6_lengthOf_8 (by decide) (fun h => ?_) (fun h => ?_)
  · rw [bI_z, hT] at h
    exact absurd ⟨nI_pos' (by omega), nI_lt ht (by omega)⟩ h
  · refine q_aload_n dX6_lengthOf_11 rfl ?_
    refine z_get 1 dX6_lengthOf_12 (by first | assumption | decide) (sh_3 _ _ _) rfl (by decide) fl_X6_9 rfl ?_
    refine q_iload_n dX6_lengthOf_15 rfl ?_
    refine z_iald dX6_lengthOf_16 (by first | assumption | decide) rfl (vp_in_nI (n := t) (by omega) (by omega)) ?_
    refine q_goto 21 dX6_lengthOf_17 (by decide) ?_
    rw [nI_clamp (by omega)]
    exact z_iret dX6_lengthOf_21 rfl ⟨rfl, rfl, rfl⟩
set_option maxRecDepth 100000 in
set_option maxHeartbeats 4000000 in
theorem c_Way_letterOf (sg : zI) (ta : zJ) (i nT t l q : Nat) (x : Int32) (hi : i < cnt 3) (hT : sg 1 0 2 = nI nT) (ht : t < nT) (hT4 : nT ≤ 4) (hl : sg 4 i t = nI l) (hs : sg 5 i t = nI q) (hlq : q + l ≤ 20) : zP yX6_letterOf mX6_letterOf 2 [.ref (nm 3 i), .int (nI t), .int x] sg ta (fun v s tt => s = sg ∧ tt = ta ∧ ((∃ j, j < l ∧ x = nI j ∧ v = some (.int (sg 6 i (q + j)))) ∨ ((x < 0 ∨ nI l ≤ x) ∧ v = some (.int (-1))))) := by
  have hi5 := cnt5 hi
  have hi6 := cnt6 hi
  refine zP_of (lv := [some (.ref (nm 3 i)), some (.int (nI t)), some (.int x)]) (by decide +kernel) rfl (fun h => by cases h) rfl (Nat.le_of_ble_eq_true rfl) ?_
  refine q_iload_n dX6_letterOf_0 rfl ?_
  refine q_if_lt 29 dX6_letterOf_1 (by decide) (fun h => ?_) (fun h => ?_)
  · refine q_iconst (v := (-1)) dX6_letterOf_29 rfl ?_
    exact z_iret dX6_letterOf_30 rfl ⟨rfl, rfl, Or.inr ⟨Or.inl h, rfl⟩⟩
  · refine q_iload_n dX6_letterOf_4 rfl ?_
    refine q_aload_n dX6_letterOf_5 rfl ?_
    refine q_iload_n dX6_letterOf_6 rfl ?_
    refine z_callV (c_Way_lengthOf sg ta i nT t hi hT ht hT4) kV_X6_69 dX6_letterOf_7 (by first | assumption | decide) (sh_3 _ _ _) rfl rfl rfl (by omega) (Nat.le_of_ble_eq_true rfl) (Nat.le_refl _) (Nat.le_refl _) rfl (fun v s2 ta2 h => ?_)
    obtain ⟨rfl, rfl, rfl⟩ := h
    dsimp only [Option.toList, List.cons_append, List.nil_append]
    rw [hl]
    refine q_icmp_ge 29 dX6_letterOf_10 (by decide) (fun h2 => ?_) (fun h2 => ?_)
    · refine q_iconst (v := (-1)) dX6_letterOf_29 rfl ?_
      exact z_iret dX6_letterOf_30 rfl ⟨rfl, rfl, Or.inr ⟨Or.inr h2, rfl⟩⟩
    · obtain ⟨j, hj, rfl⟩ := vp_in_of (vin h h2 (by omega)) (by omega)
      refine q_aload_n dX6_letterOf_13 rfl ?_
      refine z_get 3 dX6_letterOf_14 (by first | assumption | decide) (sh_3 _ _ _) rfl (by decide) fl_X6_18 rfl ?_
      refine q_aload_n dX6_letterOf_17 rfl ?_
      refine z_get 2 dX6_letterOf_18 (by first | assumption | decide) (sh_3 _ _ _) rfl (by decide) fl_X6_15 rfl ?_
      refine q_iload_n dX6_letterOf_21 rfl ?_
      refine z_iald dX6_letterOf_22 (by first | assumption | decide) rfl (vp_in_nI (n := t) (by omega) (by omega)) ?_
      refine q_iload_n dX6_letterOf_23 rfl ?_
      refine q_iadd dX6_letterOf_24 ?_
      rw [nI_clamp (by omega), hs, nI_add]
      refine z_iald dX6_letterOf_25 (by first | assumption | decide) rfl (vp_in_nI (n := q + j) (by omega) (by omega)) ?_
      refine q_goto 30 dX6_letterOf_26 (by decide) ?_
      rw [nI_clamp (by omega)]
      exact z_iret dX6_letterOf_30 rfl ⟨rfl, rfl, Or.inl ⟨j, hj, rfl, rfl⟩⟩
