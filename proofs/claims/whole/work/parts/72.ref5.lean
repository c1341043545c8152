/-! THE REFERENCE: its questions -/
def HMw (mu : zI) (A nT : Nat) (mo : Nat → Nat) (w : Nat) : Prop := (∀ t, t < nT → mu 34 0 t = nI (vec mo nT (kOf A mo nT w) t)) ∧ ∀ t, t < nT → ∀ i, i < vec mo nT (kOf A mo nT w) t → mu 35 0 (5 * t + i) = nI (wLet A mo nT w (psum (vec mo nT (kOf A mo nT w)) t + i))
def perH (sg s : zI) : Prop := ∀ K i j, ¬ (34 ≤ K ∧ K ≤ 35) → ¬ (37 ≤ K ∧ K ≤ 43) → ¬ (K = 20 ∧ (j = 29 ∨ j = 19)) → s K i j = sg K i j
def perC (sg s : zI) : Prop := ∀ K i j, ¬ (36 ≤ K ∧ K ≤ 43) → ¬ (K = 20 ∧ (j = 29 ∨ j = 22)) → s K i j = sg K i j
def takeM (sg : zI) (ta : zJ) (A nT : Nat) (mo : Nat → Nat) (nf m : Nat) (x : Int32) (v : Option Value) (s : zI) (t : zJ) : Prop := t = ta ∧ ((v = some (.int 1) ∧ perH sg s ∧ s 20 0 19 = 1 ∧ ∃ a w, x = nI a ∧ a < 8000 ∧ w < wSize A mo nT ∧ mdlM sg A nT mo nf m w ∧ sumN (mN sg A nT mo nf m) w = a ∧ HMw s A nT mo w) ∨ (v = some (.int 0) ∧ perS sg s ∧ (x < 0 ∨ ∃ a, a < 2 ^ 31 ∧ x = nI a ∧ sumN (mN sg A nT mo nf m) (wSize A mo nT) ≤ a)))
set_option maxRecDepth 100000 in
set_option maxHeartbeats 4000000 in
theorem j_take (sg : zI) (ta : zJ) (A nT : Nat) (mo : Nat → Nat) (nt nc nf m : Nat) (x : Int32) (hM : MoOk sg A nT mo nt nc nf) (hm : mask0 sg nf m) : zP yX8_take mX8_take 5 [.ref (nm 20 0), .int x] sg ta (takeM sg ta A nT mo nf m x) := by
  have hnf := hM.2.2.2.1
  have hT := hM.1.2.1
  have hsz := hM.1.2.2.2.1
  have hm5 := hM.1.2.2.1
  refine zP_of (lv := [some (.ref (nm 20 0)), some (.int x), none]) (by decide +kernel) rfl (fun h => by cases h) rfl (Nat.le_of_ble_eq_true rfl) ?_
  refine q_aload_n dX8_take_0 rfl ?_
  refine z_callV (j_stayAll sg ta) kV_X8_167 dX8_take_1 (by first | assumption | decide) (sh_20 _ _ _) rfl rfl rfl (by omega) (Nat.le_of_ble_eq_true rfl) (Nat.le_refl _) (Nat.le_refl _) rfl (fun v s1 t1 h => ?_)
  obtain ⟨rfl, rfl, hf1, hz1⟩ := h
  dsimp only [Option.toList, List.cons_append, List.nil_append]
  have p1 : perS sg s1 := perS_frm hf1 (by intro q hq; simp at hq; subst hq; simp)
  refine q_iload_n dX8_take_4 rfl ?_
  refine q_if_lt 17 dX8_take_5 (by decide) (fun g => ?_) (fun g => ?_)
  · refine q_iconst (v := 0) dX8_take_17 rfl ?_
    exact z_zret dX8_take_18 rfl (Or.inl rfl) ⟨rfl, Or.inr ⟨rfl, p1, Or.inl g⟩⟩
  · obtain ⟨a, ha, rfl⟩ := nI_of g
    refine q_aload_n dX8_take_8 rfl ?_
    refine q_iload_n dX8_take_9 rfl ?_
    refine z_callV (j_search s1 t1 A nT mo nt nc nf m (nI a) (MoOk_S p1 hM) (stay_mask hnf hf1 hz1 hm)) kV_X8_170 dX8_take_10 (by first | assumption | decide) (sh_20 _ _ _) rfl rfl rfl (by omega) (Nat.le_of_ble_eq_true rfl) (Nat.le_refl _) (Nat.le_refl _) rfl (fun v s2 t2 h => ?_)
    obtain ⟨rfl, hf2, hh⟩ := h
    dsimp only [Option.toList, List.cons_append, List.nil_append]
    have p2 := perS_trans p1 (perS_S hf2)
    rw [mN_S p1] at hh
    have le8 : ∀ w, w ≤ wSize A mo nT → sumN (mN sg A nT mo nf m) w ≤ 8000 := fun w hw => Nat.le_trans (sum_le mN_01 w) (by omega)
    rcases hh with ⟨w, hw, hmd, hx, rfl, hR⟩ | ⟨hno, rfl⟩
    · rw [mdlM_S p1] at hmd
      have l8 := le8 w (by omega)
      have ea : a = sumN (mN sg A nT mo nf m) w := (nI_eq ha (by omega)).mp hx
      have lt8 : sumN (mN sg A nT mo nf m) w ≤ w := sum_le mN_01 w
      dsimp only [Option.toList, List.cons_append, List.nil_append]
      refine q_iload_n dX8_take_13 rfl ?_
      refine q_icmp_gt 19 dX8_take_14 (by decide) (fun g2 => ?_) (fun g2 => ?_)
      · have hloop2 : ∀ (k j : Nat) (s : zI), j + k = 20 → (∀ K i j, ¬ (34 ≤ K ∧ K ≤ 35) → ¬ (K = 20 ∧ j = 19) → s K i j = s2 K i j) → s 20 0 19 = 1 → (∀ q, q < 4 → s 34 0 q = s2 37 0 q) → (∀ q, q < j → s 35 0 q = s2 38 0 q) → Zq mX8_take 5 (takeM sg t2 A nT mo nf m (nI a)) s t2 51 [some (.ref (nm 20 0)), some (.int (nI a)), some (.int (nI j))] [] := by
          intro k
          induction k with
          | zero =>
            intro j s hj hf h19 h34 h35
            have : j = 20 := by omega
            subst this
            refine q_iload_n dX8_take_51 rfl ?_
            refine q_bipush (v := 20) dX8_take_52 rfl ?_
            refine q_icmp_ge 75 dX8_take_54 (by decide) (fun q => ?_) (fun q => ?_)
            · refine q_iconst (v := 1) dX8_take_75 rfl ?_
              refine z_zret dX8_take_76 rfl (Or.inr rfl) ⟨rfl, Or.inl ⟨rfl, fun K i j c1 c2 c3 => ?_, h19, a, w, rfl, by omega, hw, hmd, ea.symm, fun t ht => ?_, fun t ht i hi => ?_⟩⟩
              · rw [hf K i j c1 (by omega)]; exact p2 K i j c2 (by omega)
              · rw [h34 t (by omega)]; exact hR.2.1.1 t ht
              · have := vec5 (k := kOf A mo nT w) hm5 t ht
                rw [h35 _ (by omega)]; exact hR.2.1.2 t ht i hi
            · exact absurd (nI_le (a := 20) (by omega) (by omega)) q
          | succ k ih =>
            intro j s hj hf h19 h34 h35
            refine q_iload_n dX8_take_51 rfl ?_
            refine q_bipush (v := 20) dX8_take_52 rfl ?_
            refine q_icmp_ge 75 dX8_take_54 (by decide) (fun q => ?_) (fun q => ?_)
            · exact absurd q (nI_ge (b := 20) (by omega) (by omega))
            · refine q_aload_n dX8_take_57 rfl ?_
              refine z_get 21 dX8_take_58 (by first | assumption | decide) (sh_20 _ _ _) rfl (by decide) fl_X8_60 rfl ?_
              refine q_iload_n dX8_take_61 rfl ?_
              refine q_aload_n dX8_take_62 rfl ?_
              refine z_get 25 dX8_take_63 (by first | assumption | decide) (sh_20 _ _ _) rfl (by decide) fl_X8_69 rfl ?_
              refine q_iload_n dX8_take_66 rfl ?_
              refine z_iald dX8_take_67 (by first | assumption | decide) rfl (vp_in_nI (n := j) (by omega) (by omega)) ?_
              rw [nI_clamp (by omega), hf 38 0 j (by omega) (by omega)]
              refine z_iast dX8_take_68 (by first | assumption | decide) (fun _ _ => rfl) (vp_in_nI (n := j) (by omega) (by omega)) ?_
              refine q_iinc dX8_take_69 rfl (Nat.le_of_ble_eq_true rfl) rfl ?_
              dsimp only [List.set]
              refine q_goto 51 dX8_take_72 (by decide) ?_
              rw [nI_clamp (by omega), nI_inc]
              refine ih (j + 1) _ (by omega) (fun K i j' c1 c2 => by rw [up3_ne (by omega)]; exact hf K i j' c1 c2) (by rw [up3_ne (by omega)]; exact h19) (fun q hq => by rw [up3_ne (by omega)]; exact h34 q hq) (fun q hq => ?_)
              rw [up3_get]
              by_cases e : q = j
              · rw [if_pos ⟨rfl, rfl, e⟩, e]
              · rw [if_neg (by omega)]; exact h35 q (by omega)
        have hloop1 : ∀ (k j : Nat) (s : zI), j + k = 4 → (∀ K i j, ¬ (34 ≤ K ∧ K ≤ 35) → ¬ (K = 20 ∧ j = 19) → s K i j = s2 K i j) → s 20 0 19 = 1 → (∀ q, q < j → s 34 0 q = s2 37 0 q) → Zq mX8_take 5 (takeM sg t2 A nT mo nf m (nI a)) s t2 26 [some (.ref (nm 20 0)), some (.int (nI a)), some (.int (nI j))] [] := by
          intro k
          induction k with
          | zero =>
            intro j s hj hf h19 h34
            have : j = 4 := by omega
            subst this
            refine q_iload_n dX8_take_26 rfl ?_
            refine q_iconst (v := 4) dX8_take_27 rfl ?_
            refine q_icmp_ge 49 dX8_take_28 (by decide) (fun q => ?_) (fun q => ?_)
            · refine q_iconst (v := 0) dX8_take_49 rfl ?_
              refine s_istore_n 2 dX8_take_50 rfl (Nat.le_of_ble_eq_true rfl) rfl ?_
              dsimp only [List.set]
              exact hloop2 20 0 s (by omega) hf h19 h34 (fun q hq => absurd hq (by omega))
            · exact absurd (nI_le (a := 4) (by omega) (by omega)) q
          | succ k ih =>
            intro j s hj hf h19 h34
            refine q_iload_n dX8_take_26 rfl ?_
            refine q_iconst (v := 4) dX8_take_27 rfl ?_
            refine q_icmp_ge 49 dX8_take_28 (by decide) (fun q => ?_) (fun q => ?_)
            · exact absurd q (nI_ge (b := 4) (by omega) (by omega))
            · refine q_aload_n dX8_take_31 rfl ?_
              refine z_get 20 dX8_take_32 (by first | assumption | decide) (sh_20 _ _ _) rfl (by decide) fl_X8_57 rfl ?_
              refine q_iload_n dX8_take_35 rfl ?_
              refine q_aload_n dX8_take_36 rfl ?_
              refine z_get 24 dX8_take_37 (by first | assumption | decide) (sh_20 _ _ _) rfl (by decide) fl_X8_66 rfl ?_
              refine q_iload_n dX8_take_40 rfl ?_
              refine z_iald dX8_take_41 (by first | assumption | decide) rfl (vp_in_nI (n := j) (by omega) (by omega)) ?_
              rw [nI_clamp (by omega), hf 37 0 j (by omega) (by omega)]
              refine z_iast dX8_take_42 (by first | assumption | decide) (fun _ _ => rfl) (vp_in_nI (n := j) (by omega) (by omega)) ?_
              refine q_iinc dX8_take_43 rfl (Nat.le_of_ble_eq_true rfl) rfl ?_
              dsimp only [List.set]
              refine q_goto 26 dX8_take_46 (by decide) ?_
              rw [nI_clamp (by omega), nI_inc]
              refine ih (j + 1) _ (by omega) (fun K i j' c1 c2 => by rw [up3_ne (by omega)]; exact hf K i j' c1 c2) (by rw [up3_ne (by omega)]; exact h19) (fun q hq => ?_)
              rw [up3_get]
              by_cases e : q = j
              · rw [if_pos ⟨rfl, rfl, e⟩, e]
              · rw [if_neg (by omega)]; exact h34 q (by omega)
        refine q_aload_n dX8_take_19 rfl ?_
        refine q_iconst (v := 1) dX8_take_20 rfl ?_
        refine z_putz 19 dX8_take_21 (by first | assumption | decide) (sh_20 _ _ _) rfl (by decide) fl_X8_87 rfl pfZ (Nat.le_of_ble_eq_true rfl) (by first | exact Or.inl rfl | exact Or.inr rfl | assumption) rfl ?_
        refine q_iconst (v := 0) dX8_take_24 rfl ?_
        refine s_istore_n 2 dX8_take_25 rfl (Nat.le_of_ble_eq_true rfl) rfl ?_
        dsimp only [List.set]
        refine hloop1 4 0 _ (by omega) (fun K i j c1 c2 => by rw [up3_get, if_neg (by omega)]) (by rw [up3_get, if_pos ⟨rfl, rfl, rfl⟩]) (fun q hq => absurd hq (by omega))
      · exact absurd (nI_lt (by omega) (by omega)) g2
    · dsimp only [Option.toList, List.cons_append, List.nil_append]
      have hle : sumN (mN sg A nT mo nf m) (wSize A mo nT) ≤ a := by
        by_cases q : a < sumN (mN sg A nT mo nf m) (wSize A mo nT)
        · obtain ⟨w, h1, h2, h3⟩ := ivt mN_01 _ q
          exact absurd (by rw [h3]) (hno w h1 ((mdlM_S p1 A nT mo nf m w).mpr (mN_1 h2)))
        · omega
      have l8 := le8 _ (Nat.le_refl _)
      refine q_iload_n dX8_take_13 rfl ?_
      refine q_icmp_gt 19 dX8_take_14 (by decide) (fun g2 => ?_) (fun g2 => ?_)
      · exact absurd g2 (nI_nlt hle (by omega))
      · refine q_iconst (v := 0) dX8_take_17 rfl ?_
        exact z_zret dX8_take_18 rfl (Or.inl rfl) ⟨rfl, Or.inr ⟨rfl, p2, Or.inr ⟨a, ha, rfl, hle⟩⟩⟩
set_option maxRecDepth 100000 in
set_option maxHeartbeats 4000000 in
theorem j_solve (sg : zI) (ta : zJ) (A nT : Nat) (mo : Nat → Nat) (nt nc nf m : Nat) (hM : MoOk sg A nT mo nt nc nf) (hm : mask0 sg nf m) : zP yX8_solve mX8_solve 6 [.ref (nm 20 0)] sg ta (takeM sg ta A nT mo nf m 0) := by
  refine zP_of (lv := [some (.ref (nm 20 0))]) (by decide +kernel) rfl (fun h => by cases h) rfl (Nat.le_of_ble_eq_true rfl) ?_
  refine q_aload_n dX8_solve_0 rfl ?_
  refine q_iconst (v := 0) dX8_solve_1 rfl ?_
  refine z_callV (j_take sg ta A nT mo nt nc nf m 0 hM hm) kV_X8_174 dX8_solve_2 (by first | assumption | decide) (sh_20 _ _ _) rfl rfl rfl (by omega) (Nat.le_of_ble_eq_true rfl) (Nat.le_refl _) (Nat.le_refl _) rfl (fun v s1 t1 h => ?_)
  obtain ⟨rfl, hh⟩ := h
  dsimp only [Option.toList, List.cons_append, List.nil_append]
  have ht : takeM sg t1 A nT mo nf m 0 v s1 t1 := ⟨rfl, hh⟩
  rcases hh with ⟨rfl, -⟩ | ⟨rfl, -⟩
  · dsimp only [Option.toList, List.cons_append, List.nil_append]
    refine q_if_eq 12 dX8_solve_5 (by decide) (fun g => ?_) (fun g => ?_)
    · exact absurd g (by decide)
    · refine q_iconst (v := 1) dX8_solve_8 rfl ?_
      refine q_goto 13 dX8_solve_9 (by decide) ?_
      exact z_iret dX8_solve_13 rfl ht
  · dsimp only [Option.toList, List.cons_append, List.nil_append]
    refine q_if_eq 12 dX8_solve_5 (by decide) (fun g => ?_) (fun g => ?_)
    · refine q_iconst (v := 0) dX8_solve_12 rfl ?_
      exact z_iret dX8_solve_13 rfl ht
    · exact absurd rfl g
set_option maxRecDepth 100000 in
set_option maxHeartbeats 4000000 in
theorem j_model (sg : zI) (ta : zJ) (A nT : Nat) (mo : Nat → Nat) (nt nc nf m : Nat) (x : Int32) (hM : MoOk sg A nT mo nt nc nf) (hm : mask0 sg nf m) : zP yX8_model mX8_model 6 [.ref (nm 20 0), .int x] sg ta (takeM sg ta A nT mo nf m x) := by
  refine zP_of (lv := [some (.ref (nm 20 0)), some (.int x)]) (by decide +kernel) rfl (fun h => by cases h) rfl (Nat.le_of_ble_eq_true rfl) ?_
  refine q_aload_n dX8_model_0 rfl ?_
  refine q_iload_n dX8_model_1 rfl ?_
  refine z_callV (j_take sg ta A nT mo nt nc nf m x hM hm) kV_X8_174 dX8_model_2 (by first | assumption | decide) (sh_20 _ _ _) rfl rfl rfl (by omega) (Nat.le_of_ble_eq_true rfl) (Nat.le_refl _) (Nat.le_refl _) rfl (fun v s1 t1 h => ?_)
  obtain ⟨rfl, hh⟩ := h
  dsimp only [Option.toList, List.cons_append, List.nil_append]
  have ht : takeM sg t1 A nT mo nf m x v s1 t1 := ⟨rfl, hh⟩
  rcases hh with ⟨rfl, -⟩ | ⟨rfl, -⟩
  · dsimp only [Option.toList, List.cons_append, List.nil_append]
    refine q_if_eq 12 dX8_model_5 (by decide) (fun g => ?_) (fun g => ?_)
    · exact absurd g (by decide)
    · refine q_iconst (v := 1) dX8_model_8 rfl ?_
      refine q_goto 13 dX8_model_9 (by decide) ?_
      exact z_iret dX8_model_13 rfl ht
  · dsimp only [Option.toList, List.cons_append, List.nil_append]
    refine q_if_eq 12 dX8_model_5 (by decide) (fun g => ?_) (fun g => ?_)
    · refine q_iconst (v := 0) dX8_model_12 rfl ?_
      exact z_iret dX8_model_13 rfl ht
    · exact absurd rfl g
set_option maxRecDepth 100000 in
set_option maxHeartbeats 4000000 in
theorem j_models (sg : zI) (ta : zJ) (A nT : Nat) (mo : Nat → Nat) (nt nc nf m : Nat) (hM : MoOk sg A nT mo nt nc nf) (hm : mask0 sg nf m) : zP yX8_models mX8_models 5 [.ref (nm 20 0)] sg ta (fun v s t => v = some (.int (nI (sumN (mN sg A nT mo nf m) (wSize A mo nT)))) ∧ t = ta ∧ perS sg s) := by
  have hnf := hM.2.2.2.1
  have hsz := hM.1.2.2.2.1
  refine zP_of (lv := [some (.ref (nm 20 0))]) (by decide +kernel) rfl (fun h => by cases h) rfl (Nat.le_of_ble_eq_true rfl) ?_
  refine q_aload_n dX8_models_0 rfl ?_
  refine z_callV (j_stayAll sg ta) kV_X8_167 dX8_models_1 (by first | assumption | decide) (sh_20 _ _ _) rfl rfl rfl (by omega) (Nat.le_of_ble_eq_true rfl) (Nat.le_refl _) (Nat.le_refl _) rfl (fun v s1 t1 h => ?_)
  obtain ⟨rfl, rfl, hf1, hz1⟩ := h
  dsimp only [Option.toList, List.cons_append, List.nil_append]
  have p1 : perS sg s1 := perS_frm hf1 (by intro q hq; simp at hq; subst hq; simp)
  refine q_aload_n dX8_models_4 rfl ?_
  refine q_iconst (v := (-1)) dX8_models_5 rfl ?_
  refine z_callV (j_search s1 t1 A nT mo nt nc nf m (-1) (MoOk_S p1 hM) (stay_mask hnf hf1 hz1 hm)) kV_X8_170 dX8_models_6 (by first | assumption | decide) (sh_20 _ _ _) rfl rfl rfl (by omega) (Nat.le_of_ble_eq_true rfl) (Nat.le_refl _) (Nat.le_refl _) rfl (fun v s2 t2 h => ?_)
  obtain ⟨rfl, hf2, hh⟩ := h
  dsimp only [Option.toList, List.cons_append, List.nil_append]
  have p2 := perS_trans p1 (perS_S hf2)
  rw [mN_S p1] at hh
  rcases hh with ⟨w, hw, hmd, hx, rfl, hR⟩ | ⟨hno, rfl⟩
  · have := sum_le (f := mN sg A nT mo nf m) mN_01 w
    exact absurd hx.symm (nI_m1 (by omega))
  · exact z_iret dX8_models_9 rfl ⟨rfl, rfl, p2⟩
set_option maxRecDepth 100000 in
set_option maxHeartbeats 4000000 in
theorem j_holds (sg : zI) (ta : zJ) (A nT : Nat) (mo : Nat → Nat) (nt nc nf : Nat) (x : Int32) (w : Nat) (hM : MoOk sg A nT mo nt nc nf) (hH : ¬ sg 20 0 19 = 0 → HMw sg A nT mo w) : zP yX8_holds mX8_holds 3 [.ref (nm 20 0), .int x] sg ta (fun v s t => t = ta ∧ perS sg s ∧ (¬ tk nf x → v = some (.int (-2))) ∧ (tk nf x → sg 20 0 19 = 0 → v = some (.int (-4))) ∧ (∀ f, f < nf → x = nI f → ¬ sg 20 0 19 = 0 → v = some (.int (bC (trM sg A nT mo w f))))) := by
  have hnf := hM.2.2.2.1
  have hT := hM.1.2.1
  have hm5 := hM.1.2.2.1
  refine zP_of (lv := [some (.ref (nm 20 0)), some (.int x), none]) (by decide +kernel) rfl (fun h => by cases h) rfl (Nat.le_of_ble_eq_true rfl) ?_
  refine q_iload_n dX8_holds_0 rfl ?_
  refine q_iconst (v := 0) dX8_holds_1 rfl ?_
  refine q_aload_n dX8_holds_2 rfl ?_
  refine z_get 11 dX8_holds_3 (by first | assumption | decide) (sh_20 _ _ _) rfl (by decide) fl_X8_98 rfl ?_
  refine q_iconst (v := 1) dX8_holds_6 rfl ?_
  refine q_isub dX8_holds_7 ?_
  rw [hM.2.2.2.2.1]
  refine z_callS (j_in sg ta x 0 _) kS_X8_94 dX8_holds_8 rfl (by omega) (Nat.le_of_ble_eq_true rfl) (Nat.le_refl _) (Nat.le_refl _) rfl (fun v s1 t1 h => ?_)
  obtain ⟨rfl, rfl, rfl⟩ := h
  dsimp only [Option.toList, List.cons_append, List.nil_append]
  refine q_if_ne 17 dX8_holds_11 (by decide) (fun h => ?_) (fun h => ?_)
  · obtain ⟨f, hf, rfl⟩ := (tk_in (n := nf) (by omega) x).mpr (bC_nz.mp h)
    refine q_aload_n dX8_holds_17 rfl ?_
    refine z_get 19 dX8_holds_18 (by first | assumption | decide) (sh_20 _ _ _) rfl (by decide) fl_X8_87 rfl ?_
    refine q_if_ne 27 dX8_holds_21 (by decide) (fun g => ?_) (fun g => ?_)
    · have hw := hH g
      have loop2 : ∀ (k j : Nat) (s : zI), j + k = 20 → (∀ K i j, ¬ (37 ≤ K ∧ K ≤ 38) → s K i j = s1 K i j) → (∀ q, q < 4 → s 37 0 q = s1 34 0 q) → (∀ q, q < j → s 38 0 q = s1 35 0 q) → Zq mX8_holds 3 (fun v s t => t = t1 ∧ perS s1 s ∧ (¬ tk nf (nI f) → v = some (.int (-2))) ∧ (tk nf (nI f) → s1 20 0 19 = 0 → v = some (.int (-4))) ∧ (∀ f', f' < nf → nI f = nI f' → ¬ s1 20 0 19 = 0 → v = some (.int (bC (trM s1 A nT mo w f'))))) s t1 54 [some (.ref (nm 20 0)), some (.int (nI f)), some (.int (nI j))] [] := by
        intro k
        induction k with
        | zero =>
          intro j s hj hs h37 h38
          have : j = 20 := by omega
          subst this
          have ps : perS s1 s := fun K i j c1 c2 => hs K i j (by omega)
          have hR : RwM s A nT mo w := by
            refine ⟨fun t ht => ?_, fun t ht i hi => ?_⟩
            · rw [h37 t (by omega)]; exact hw.1 t ht
            · have := vec5 (k := kOf A mo nT w) hm5 t ht
              rw [h38 _ (by omega)]; exact hw.2 t ht i hi
          refine q_iload_n dX8_holds_54 rfl ?_
          refine q_bipush (v := 20) dX8_holds_55 rfl ?_
          refine q_icmp_ge 78 dX8_holds_57 (by decide) (fun q => ?_) (fun q => ?_)
          · refine q_aload_n dX8_holds_78 rfl ?_
            refine q_iload_n dX8_holds_79 rfl ?_
            refine z_callV (j_is s t1 A nT mo nt nc nf w f (MoOk_S ps hM) hR hf) kV_X8_155 dX8_holds_80 (by first | assumption | decide) (sh_20 _ _ _) rfl rfl rfl (by omega) (Nat.le_of_ble_eq_true rfl) (Nat.le_refl _) (Nat.le_refl _) rfl (fun v s3 t3 h => ?_)
            obtain ⟨rfl, rfl, fr3⟩ := h
            dsimp only [Option.toList, List.cons_append, List.nil_append]
            rw [bC_iff (trM_S ps A nT mo w f)]
            have fin : ∀ r, r = bC (trM s1 A nT mo w f) → t3 = t3 ∧ perS s1 s3 ∧ (¬ tk nf (nI f) → some (Value.int r) = some (.int (-2))) ∧ (tk nf (nI f) → s1 20 0 19 = 0 → some (Value.int r) = some (.int (-4))) ∧ (∀ f', f' < nf → nI f = nI f' → ¬ s1 20 0 19 = 0 → some (Value.int r) = some (.int (bC (trM s1 A nT mo w f')))) := fun r hr => ⟨rfl, perS_trans ps (perS_I fr3), fun z => absurd ⟨f, hf, rfl⟩ z, fun _ z => absurd z g, fun f' hf' e _ => by rw [hr, (nI_eq (by omega) (by omega)).mp e]⟩
            refine q_if_eq 90 dX8_holds_83 (by decide) (fun z => ?_) (fun z => ?_)
            · refine q_iconst (v := 0) dX8_holds_90 rfl ?_
              exact z_iret dX8_holds_91 rfl (fin _ z.symm)
            · refine q_iconst (v := 1) dX8_holds_86 rfl ?_
              refine q_goto 91 dX8_holds_87 (by decide) ?_
              exact z_iret dX8_holds_91 rfl (fin _ (bC_t (bC_nz.mp z)).symm)
          · exact absurd (nI_le (a := 20) (by omega) (by omega)) q
        | succ k ih =>
          intro j s hj hs h37 h38
          refine q_iload_n dX8_holds_54 rfl ?_
          refine q_bipush (v := 20) dX8_holds_55 rfl ?_
          refine q_icmp_ge 78 dX8_holds_57 (by decide) (fun q => ?_) (fun q => ?_)
          · exact absurd q (nI_ge (b := 20) (by omega) (by omega))
          · refine q_aload_n dX8_holds_60 rfl ?_
            refine z_get 25 dX8_holds_61 (by first | assumption | decide) (sh_20 _ _ _) rfl (by decide) fl_X8_69 rfl ?_
            refine q_iload_n dX8_holds_64 rfl ?_
            refine q_aload_n dX8_holds_65 rfl ?_
            refine z_get 21 dX8_holds_66 (by first | assumption | decide) (sh_20 _ _ _) rfl (by decide) fl_X8_60 rfl ?_
            refine q_iload_n dX8_holds_69 rfl ?_
            refine z_iald dX8_holds_70 (by first | assumption | decide) rfl (vp_in_nI (n := j) (by omega) (by omega)) ?_
            rw [nI_clamp (by omega), hs 35 0 j (by omega)]
            refine z_iast dX8_holds_71 (by first | assumption | decide) (fun _ _ => rfl) (vp_in_nI (n := j) (by omega) (by omega)) ?_
            refine q_iinc dX8_holds_72 rfl (Nat.le_of_ble_eq_true rfl) rfl ?_
            dsimp only [List.set]
            refine q_goto 54 dX8_holds_75 (by decide) ?_
            rw [nI_clamp (by omega), nI_inc]
            refine ih (j + 1) _ (by omega) (fun K i j' c1 => by rw [up3_ne (by omega)]; exact hs K i j' c1) (fun q hq => by rw [up3_ne (by omega)]; exact h37 q hq) (fun q hq => ?_)
            rw [up3_get]
            by_cases e : q = j
            · rw [if_pos ⟨rfl, rfl, e⟩, e]
            · rw [if_neg (by omega)]; exact h38 q (by omega)
      have loop1 : ∀ (k j : Nat) (s : zI), j + k = 4 → (∀ K i j, ¬ (37 ≤ K ∧ K ≤ 38) → s K i j = s1 K i j) → (∀ q, q < j → s 37 0 q = s1 34 0 q) → Zq mX8_holds 3 (fun v s t => t = t1 ∧ perS s1 s ∧ (¬ tk nf (nI f) → v = some (.int (-2))) ∧ (tk nf (nI f) → s1 20 0 19 = 0 → v = some (.int (-4))) ∧ (∀ f', f' < nf → nI f = nI f' → ¬ s1 20 0 19 = 0 → v = some (.int (bC (trM s1 A nT mo w f'))))) s t1 29 [some (.ref (nm 20 0)), some (.int (nI f)), some (.int (nI j))] [] := by
        intro k
        induction k with
        | zero =>
          intro j s hj hs h37
          have : j = 4 := by omega
          subst this
          refine q_iload_n dX8_holds_29 rfl ?_
          refine q_iconst (v := 4) dX8_holds_30 rfl ?_
          refine q_icmp_ge 52 dX8_holds_31 (by decide) (fun q => ?_) (fun q => ?_)
          · refine q_iconst (v := 0) dX8_holds_52 rfl ?_
            refine s_istore_n 2 dX8_holds_53 rfl (Nat.le_of_ble_eq_true rfl) rfl ?_
            dsimp only [List.set]
            exact loop2 20 0 s (by omega) hs h37 (fun q hq => absurd hq (by omega))
          · exact absurd (nI_le (a := 4) (by omega) (by omega)) q
        | succ k ih =>
          intro j s hj hs h37
          refine q_iload_n dX8_holds_29 rfl ?_
          refine q_iconst (v := 4) dX8_holds_30 rfl ?_
          refine q_icmp_ge 52 dX8_holds_31 (by decide) (fun q => ?_) (fun q => ?_)
          · exact absurd q (nI_ge (b := 4) (by omega) (by omega))
          · refine q_aload_n dX8_holds_34 rfl ?_
            refine z_get 24 dX8_holds_35 (by first | assumption | decide) (sh_20 _ _ _) rfl (by decide) fl_X8_66 rfl ?_
            refine q_iload_n dX8_holds_38 rfl ?_
            refine q_aload_n dX8_holds_39 rfl ?_
            refine z_get 20 dX8_holds_40 (by first | assumption | decide) (sh_20 _ _ _) rfl (by decide) fl_X8_57 rfl ?_
            refine q_iload_n dX8_holds_43 rfl ?_
            refine z_iald dX8_holds_44 (by first | assumption | decide) rfl (vp_in_nI (n := j) (by omega) (by omega)) ?_
            rw [nI_clamp (by omega), hs 34 0 j (by omega)]
            refine z_iast dX8_holds_45 (by first | assumption | decide) (fun _ _ => rfl) (vp_in_nI (n := j) (by omega) (by omega)) ?_
            refine q_iinc dX8_holds_46 rfl (Nat.le_of_ble_eq_true rfl) rfl ?_
            dsimp only [List.set]
            refine q_goto 29 dX8_holds_49 (by decide) ?_
            rw [nI_clamp (by omega), nI_inc]
            refine ih (j + 1) _ (by omega) (fun K i j' c1 => by rw [up3_ne (by omega)]; exact hs K i j' c1) (fun q hq => ?_)
            rw [up3_get]
            by_cases e : q = j
            · rw [if_pos ⟨rfl, rfl, e⟩, e]
            · rw [if_neg (by omega)]; exact h37 q (by omega)
      refine q_iconst (v := 0) dX8_holds_27 rfl ?_
      refine s_istore_n 2 dX8_holds_28 rfl (Nat.le_of_ble_eq_true rfl) rfl ?_
      dsimp only [List.set]
      exact loop1 4 0 s1 (by omega) (fun _ _ _ _ => rfl) (fun q hq => absurd hq (by omega))
    · refine q_bipush (v := (-4)) dX8_holds_24 rfl ?_
      exact z_iret dX8_holds_26 rfl ⟨rfl, perS_refl _, fun z => absurd ⟨f, hf, rfl⟩ z, fun _ _ => rfl, fun _ _ _ z => absurd g z⟩
  · have hno : ¬ tk nf x := fun k => bC_z.mp h ((tk_in (by omega) x).mp k)
    refine q_bipush (v := (-2)) dX8_holds_14 rfl ?_
    exact z_iret dX8_holds_16 rfl ⟨rfl, perS_refl _, fun _ => rfl, fun z => absurd z hno, fun f a b => absurd ⟨f, a, b⟩ hno⟩
