theorem cnt17 {f : Nat} (h : f < 10) : f < cnt 17 := h
set_option maxRecDepth 100000 in
set_option maxHeartbeats 8000000 in
theorem c_isModel (sg : zI) (ta : zJ) (A nT : Nat) (mo : Nat → Nat) (nf w : Nat) (x : Int32) (hQ : QI sg ta A nT mo nf) (hw : w < wSize A mo nT) : zP yX7_isModel mX7_isModel 3 [.ref (nm 0 0), .int (nI w), .int x] sg ta (fun v s t => v = some (.int (bC (mdl sg A nT mo nf x w))) ∧ frm frQ sg s ∧ QI s t A nT mo nf) := by
  have hnf := hQ.2.2.1
  have hw8 : w < 8000 := Nat.lt_of_lt_of_le hw hQ.1.2.2.2.1
  have i0 : 0 < cnt 3 := by decide
  -- formula j is judged, at pc 62
  have loop : ∀ (k j : Nat) (z : Option Value) (s : zI) (t : zJ), j + k = nf → frm frQ sg s → QI s t A nT mo nf → (∀ f, f < j → inM x (nI f) → (trW sg A nT mo w f ↔ sg 17 f 7 = 0)) → Zq mX7_isModel 3 (fun v s t => v = some (.int (bC (mdl sg A nT mo nf x w))) ∧ frm frQ sg s ∧ QI s t A nT mo nf) s t 2 [some (.ref (nm 0 0)), some (.int (nI w)), some (.int x), some (.int (nI j)), z] [] := by
    intro k
    induction k with
    | zero =>
      intro j z s t hj hf hq hd
      refine q_iload_n dX7_isModel_2 rfl ?_
      refine q_aload_n dX7_isModel_3 rfl ?_
      refine z_get 9 dX7_isModel_4 (by first | assumption | decide) (sh_0 _ _ _) rfl (by decide) fl_X7_58 rfl ?_
      rw [hq.2.2.2.1]
      refine q_icmp_ge 84 dX7_isModel_7 (by decide) (fun h => ?_) (fun h => ?_)
      · refine q_iconst (v := 1) dX7_isModel_84 rfl ?_
        refine z_zret dX7_isModel_85 rfl (Or.inr rfl) ⟨?_, hf, hq⟩
        rw [bC_t]
        intro f hf2
        exact hd f (by omega)
      · exact absurd (nI_le (by omega) (by omega)) h
    | succ k ih =>
      intro j z s t hj hf hq hd
      have hj10 : j < 10 := by omega
      have hjc := cnt17 hj10
      have at62 : ∀ (s : zI) (t : zJ), frm frQ sg s → QI s t A nT mo nf → inM x (nI j) → jd t j w → Zq mX7_isModel 3 (fun v s t => v = some (.int (bC (mdl sg A nT mo nf x w))) ∧ frm frQ sg s ∧ QI s t A nT mo nf) s t 62 [some (.ref (nm 0 0)), some (.int (nI w)), some (.int x), some (.int (nI j)), some (.ref (nm 17 j))] [] := by
        intro s t hf hq hin hjd
        have h17 : s 17 j = sg 17 j := hf 17 j (frQ_not (by omega))
        have hso := (hq.2.2.2.2.2 j (by omega) w hw8).2 hjd hw
        rw [trW_frm hf] at hso
        have h01 := (hQ.2.2.2.2.1 j (by omega)).2
        refine q_aload dX7_isModel_62 rfl ?_
        refine q_iload_n dX7_isModel_64 rfl ?_
        refine z_callV (c_Formula_isSoIn s t j w hjc hw8) kV_X7_258 dX7_isModel_65 (by first | assumption | decide) (sh_17 _ _ _) rfl rfl rfl (by omega) (Nat.le_of_ble_eq_true rfl) (Nat.le_refl _) (Nat.le_refl _) rfl (fun v s2 t2 h => ?_)
        obtain ⟨rfl, rfl, rfl⟩ := h
        dsimp only [Option.toList, List.cons_append, List.nil_append]
        refine q_aload dX7_isModel_68 rfl ?_
        refine z_get 7 dX7_isModel_70 (by first | assumption | decide) (sh_17 _ _ _) rfl (by decide) fl_X7_153 rfl ?_
        rw [h17]
        refine q_icmp_ne 78 dX7_isModel_73 (by decide) (fun h => ?_) (fun h => ?_)
        · refine q_iinc dX7_isModel_78 rfl (Nat.le_of_ble_eq_true rfl) rfl ?_
          dsimp only [List.set]
          refine q_goto 2 dX7_isModel_81 (by decide) ?_
          rw [nI_inc]
          refine ih (j + 1) _ s2 t2 (by omega) hf hq (fun f hf2 => ?_)
          by_cases e : f = j
          · subst e
            intro _
            rw [← hso]
            rcases h01 with g | g
            · rw [g] at h ⊢
              exact ⟨fun _ => rfl, fun _ => bC_nz.mp h⟩
            · rw [g] at h ⊢
              refine ⟨fun q => absurd (bC_t q) h, fun q => absurd q (by decide)⟩
          · exact hd f (by omega)
        · refine q_iconst (v := 0) dX7_isModel_76 rfl ?_
          refine z_zret dX7_isModel_77 rfl (Or.inl rfl) ⟨?_, hf, hq⟩
          rw [bC_f]
          intro hm
          have h2 := hm j (by omega) hin
          rw [← hso] at h2
          rcases h01 with g | g
          · rw [g] at h h2
            exact bC_z.mp h (h2.mpr rfl)
          · rw [g] at h h2
            have : so t2 j w := bC_nz.mp (fun q => by have h' : bC (so t2 j w) = 1 := h; rw [q] at h'; exact absurd h' (by decide))
            exact absurd (h2.mp this) (by decide)
      refine q_iload_n dX7_isModel_2 rfl ?_
      refine q_aload_n dX7_isModel_3 rfl ?_
      refine z_get 9 dX7_isModel_4 (by first | assumption | decide) (sh_0 _ _ _) rfl (by decide) fl_X7_58 rfl ?_
      rw [hq.2.2.2.1]
      refine q_icmp_ge 84 dX7_isModel_7 (by decide) (fun h => ?_) (fun h => ?_)
      · exact absurd h (nI_ge (by omega) (by omega))
      · refine q_aload_n dX7_isModel_10 rfl ?_
        refine z_get 5 dX7_isModel_11 (by first | assumption | decide) (sh_0 _ _ _) rfl (by decide) fl_X7_42 rfl ?_
        refine q_iload_n dX7_isModel_14 rfl ?_
        refine z_aald dX7_isModel_15 (by first | assumption | decide) rfl (fun _ => rfl) (vp_in_nI (n := j) hj10 (by omega)) (aal hj10 (by omega)) ?_
        refine q_astore dX7_isModel_16 (Nat.le_of_ble_eq_true rfl) rfl ?_
        dsimp only [List.set]
        refine q_iload_n dX7_isModel_18 rfl ?_
        refine q_iload_n dX7_isModel_19 rfl ?_
        refine z_callS (c_isIn s t x (nI j)) kS_X7_204 dX7_isModel_20 rfl (by omega) (Nat.le_of_ble_eq_true rfl) (Nat.le_refl _) (Nat.le_refl _) rfl (fun v s2 t2 h => ?_)
        obtain ⟨rfl, rfl, rfl⟩ := h
        dsimp only [Option.toList, List.cons_append, List.nil_append]
        refine q_if_eq 78 dX7_isModel_23 (by decide) (fun h2 => ?_) (fun h2 => ?_)
        · refine q_iinc dX7_isModel_78 rfl (Nat.le_of_ble_eq_true rfl) rfl ?_
          dsimp only [List.set]
          refine q_goto 2 dX7_isModel_81 (by decide) ?_
          rw [nI_inc]
          refine ih (j + 1) _ s2 t2 (by omega) hf hq (fun f hf2 => ?_)
          by_cases e : f = j
          · subst e; exact fun q => absurd q (bC_z.mp h2)
          · exact hd f (by omega)
        · have hin := bC_nz.mp h2
          refine q_aload dX7_isModel_26 rfl ?_
          refine q_iload_n dX7_isModel_28 rfl ?_
          refine z_callV (c_Formula_isJudged s2 t2 j w hjc hw8) kV_X7_252 dX7_isModel_29 (by first | assumption | decide) (sh_17 _ _ _) rfl rfl rfl (by omega) (Nat.le_of_ble_eq_true rfl) (Nat.le_refl _) (Nat.le_refl _) rfl (fun v s3 t3 h => ?_)
          obtain ⟨rfl, rfl, rfl⟩ := h
          dsimp only [Option.toList, List.cons_append, List.nil_append]
          refine q_if_ne 62 dX7_isModel_32 (by decide) (fun h3 => ?_) (fun h3 => ?_)
          · exact at62 s3 t3 hf hq hin (bC_nz.mp h3)
          · have hnj : ¬ jd t3 j w := bC_z.mp h3
            obtain ⟨k0, hk0⟩ := hq.2.1
            refine q_aload_n dX7_isModel_35 rfl ?_
            refine z_get 1 dX7_isModel_36 (by first | assumption | decide) (sh_0 _ _ _) rfl (by decide) fl_X7_21 rfl ?_
            refine q_iload_n dX7_isModel_39 rfl ?_
            refine z_callV (c_Way_goTo s3 t3 0 A nT mo k0 w i0 hq.1 hk0 hw) kV_X7_234 dX7_isModel_40 (by first | assumption | decide) (sh_3 _ _ _) rfl rfl rfl (by omega) (Nat.le_of_ble_eq_true rfl) (Nat.le_refl _) (Nat.le_refl _) rfl (fun v s4 t4 h => ?_)
            obtain ⟨rfl, rfl, hf4, hw4, hr4⟩ := h
            dsimp only [Option.toList, List.cons_append, List.nil_append]
            have hfq4 := frQ_way hf4
            have hS4 : SpaceOk s4 A nT mo := SpaceOk_frm hq.1 hfq4 (frQ_not (by omega)) (frQ_not (by omega))
            have hFV4 := FV_frm hfq4 (hq.2.2.2.2.1 j (by omega)).1
            refine q_aload dX7_isModel_43 rfl ?_
            refine q_iload_n dX7_isModel_45 rfl ?_
            refine q_aload_n dX7_isModel_46 rfl ?_
            refine z_get 6 dX7_isModel_47 (by first | assumption | decide) (sh_0 _ _ _) rfl (by decide) fl_X7_51 rfl ?_
            refine q_aload dX7_isModel_50 rfl ?_
            refine q_aload_n dX7_isModel_52 rfl ?_
            refine z_get 1 dX7_isModel_53 (by first | assumption | decide) (sh_0 _ _ _) rfl (by decide) fl_X7_21 rfl ?_
            refine z_callV (c_Judge_isSo s4 t4 j 0 hjc i0 (FV_FOk hS4 hw4 hFV4)) kV_X7_187 dX7_isModel_56 (by first | assumption | decide) (sh_10 _ _ _) rfl rfl rfl (by omega) (Nat.le_of_ble_eq_true rfl) (Nat.le_refl _) (Nat.le_refl _) rfl (fun v s5 t5 h => ?_)
            obtain ⟨rfl, rfl, hf5⟩ := h
            dsimp only [Option.toList, List.cons_append, List.nil_append]
            have htr := trC_W hS4 hw4 hr4 hFV4
            have hfq5 : frm frQ s3 s5 := frm_trans hfq4 (frQ_rows hf5)
            refine z_callV (c_Formula_keep s5 t5 j w _ hjc hw8) kV_X7_255 dX7_isModel_59 (by first | assumption | decide) (sh_17 _ _ _) rfl rfl rfl (by omega) (Nat.le_of_ble_eq_true rfl) (Nat.le_refl _) (Nat.le_refl _) rfl (fun v s6 t6 h => ?_)
            obtain ⟨rfl, rfl, rfl⟩ := h
            dsimp only [Option.toList, List.cons_append, List.nil_append]
            have hq6 : QI s6 t5 A nT mo nf := QI_frm hfq5 hq ⟨_, WayOk_rows hf5 hw4⟩
            obtain ⟨hc1, hc2⟩ := Cache_keep (x := bC (trC s4 j 0)) hq6.2.2.2.2.2 (show j < nf by omega) hw8 hnj (by rw [bC_nz, htr, trW_frm (frQ_rows hf5)])
            exact at62 s6 _ (frm_trans hf hfq5) ⟨hq6.1, hq6.2.1, hq6.2.2.1, hq6.2.2.2.1, hq6.2.2.2.2.1, hc1⟩ hin hc2
  refine zP_of (lv := [some (.ref (nm 0 0)), some (.int (nI w)), some (.int x), none, none]) (by decide +kernel) rfl (fun h => by cases h) rfl (Nat.le_of_ble_eq_true rfl) ?_
  refine q_iconst (v := 0) dX7_isModel_0 rfl ?_
  refine s_istore_n 3 dX7_isModel_1 rfl (Nat.le_of_ble_eq_true rfl) rfl ?_
  dsimp only [List.set]
  exact loop nf 0 none sg ta (by omega) (frm_refl _ _) hQ (fun f hf => absurd hf (by omega))
theorem lb_lN {n : Nat} (j : Nat) (hj : j < 64) : lb (lN n) j = n.testBit j := by
  unfold lb
  rw [wb_tb, BitVec.getLsbD_ofNat]
  simp [hj]
set_option maxRecDepth 100000 in
set_option maxHeartbeats 4000000 in
theorem c_waysIn (sg : zI) (ta : zJ) (A nT wd : Nat) (mo : Nat → Nat) (hS : SpaceOk sg A nT mo) (hw : wd < 125) : zP yX7_waysIn mX7_waysIn 0 [.ref (nm 0 0), .int (nI wd)] sg ta (fun v s t => s = sg ∧ t = ta ∧ ∃ y, v = some (.long y) ∧ ∀ j, j < 64 → (lb y j = true ↔ wd * 64 + j < wSize A mo nT)) := by
  have hsz := hS.2.2.2.1
  have e7 := hS.2.2.2.2.2.2.1
  refine zP_of (lv := [some (.ref (nm 0 0)), some (.int (nI wd)), none]) (by decide +kernel) rfl (fun h => by cases h) rfl (Nat.le_of_ble_eq_true rfl) ?_
  refine q_aload_n dX7_waysIn_0 rfl ?_
  refine z_get 0 dX7_waysIn_1 (by first | assumption | decide) (sh_0 _ _ _) rfl (by decide) fl_X7_12 rfl ?_
  refine z_get 3 dX7_waysIn_4 (by first | assumption | decide) (sh_1 _ _ _) rfl (by decide) fl_X7_226 rfl ?_
  refine q_iload_n dX7_waysIn_7 rfl ?_
  refine q_bipush (v := 64) dX7_waysIn_8 rfl ?_
  refine q_imul dX7_waysIn_10 ?_
  rw [e7, show nI wd * 64 = nI (wd * 64) from pk_mul wd 64]
  rcases Nat.lt_or_ge (wd * 64) (wSize A mo nT) with g | g
  · refine q_isub dX7_waysIn_11 ?_
    rw [pk_sub (by omega)]
    refine s_istore_n 2 dX7_waysIn_12 rfl (Nat.le_of_ble_eq_true rfl) rfl ?_
    dsimp only [List.set]
    refine q_iload_n dX7_waysIn_13 rfl ?_
    refine q_if_gt 19 dX7_waysIn_14 (by decide) (fun h => ?_) (fun h => ?_)
    · refine q_iload_n dX7_waysIn_19 rfl ?_
      refine q_bipush (v := 64) dX7_waysIn_20 rfl ?_
      refine q_icmp_lt 31 dX7_waysIn_22 (by decide) (fun h2 => ?_) (fun h2 => ?_)
      · have h3 : wSize A mo nT - wd * 64 < 64 := (nI_ltI (b := 64) (by omega) (by omega)).mp h2
        refine q_lconst (v := 1) dX7_waysIn_31 rfl ?_
        refine q_iload_n dX7_waysIn_32 rfl ?_
        refine q_lshl dX7_waysIn_33 ?_
        refine q_lconst (v := 1) dX7_waysIn_34 rfl ?_
        refine q_lsub dX7_waysIn_35 ?_
        refine z_lret dX7_waysIn_36 rfl ⟨rfl, rfl, _, rfl, fun j hj => ?_⟩
        have e1 : (1 : Int64) <<< ((nI (wSize A mo nT - wd * 64)).toInt64 &&& 63) - 1 = lN (2 ^ (wSize A mo nT - wd * 64) - 1) := by
          have a := wb_shl 1 h3
          rw [Nat.one_mul] at a
          have b := lN_sub (a := 2 ^ (wSize A mo nT - wd * 64)) (b := 1) (Nat.pos_of_ne_zero (by exact Nat.ne_of_gt (Nat.two_pow_pos _)))
          rw [← b, ← a]
          rfl
        rw [e1, lb_lN _ hj, Nat.testBit_two_pow_sub_one]
        simp
        omega
      · have h3 : ¬ wSize A mo nT - wd * 64 < 64 := fun q => h2 (nI_lt (b := 64) q (by omega))
        refine q_ldc2 dX7_waysIn_25 cn_X7_237 ?_
        refine q_goto 36 dX7_waysIn_28 (by decide) ?_
        refine z_lret dX7_waysIn_36 rfl ⟨rfl, rfl, _, rfl, fun j hj => ?_⟩
        rw [lb_m1 hj]
        simp
        omega
    · exact absurd (nI_lt (a := 0) (by omega) (by omega)) h
  · refine q_isub dX7_waysIn_11 ?_
    refine s_istore_n 2 dX7_waysIn_12 rfl (Nat.le_of_ble_eq_true rfl) rfl ?_
    dsimp only [List.set]
    refine q_iload_n dX7_waysIn_13 rfl ?_
    have hneg : nI (wSize A mo nT) - nI (wd * 64) ≤ 0 := by
      rw [Int32.le_iff_toInt_le, pk_sub_toInt (by omega) (by omega), Int32.toInt_zero]
      omega
    refine q_if_gt 19 dX7_waysIn_14 (by decide) (fun h => ?_) (fun h => ?_)
    · exact absurd h (Int32.not_lt.mpr hneg)
    · refine q_lconst (v := 0) dX7_waysIn_17 rfl ?_
      refine z_lret dX7_waysIn_18 rfl ⟨rfl, rfl, _, rfl, fun j hj => ?_⟩
      rw [lb_0]
      simp
      omega
