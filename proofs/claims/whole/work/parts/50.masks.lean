/-! masks of formulas -/
theorem mk_or : ∀ m, m < 1024 → ∀ f, f < 10 → nI m ||| (1 <<< (nI f &&& 31)) = nI (m ||| 2 ^ f) := by decide +kernel
theorem mk_clr : ∀ m, m < 1024 → ∀ f, f < 10 → nI m &&& ((1 <<< (nI f &&& 31)) ^^^ (-1)) = nI (m &&& (1023 ^^^ 2 ^ f)) := by decide +kernel
theorem mk_in : ∀ m, m < 1024 → ∀ f, f < 10 → decide (((nI m >>> (nI f &&& 31)) &&& 1) = 0) = !m.testBit f := by decide +kernel
theorem inM_iff {m f : Nat} (hm : m < 1024) (hf : f < 10) : inM (nI m) (nI f) ↔ m.testBit f = true := by
  have h := mk_in m hm f hf
  unfold inM
  by_cases g : ((nI m >>> (nI f &&& 31)) &&& 1) = 0
  · rw [decide_eq_true g] at h
    simp [g]
    simpa using h.symm
  · rw [decide_eq_false g] at h
    simp [g]
    simpa using h.symm
theorem mk_or_lt {m f : Nat} (hm : m < 1024) (hf : f < 10) : m ||| 2 ^ f < 1024 := Nat.or_lt_two_pow (n := 10) hm (Nat.pow_lt_pow_right (by omega) hf)
theorem mk_clr_lt {m f : Nat} (hm : m < 1024) : m &&& (1023 ^^^ 2 ^ f) < 1024 := Nat.lt_of_le_of_lt Nat.and_le_left hm
theorem mk_or_bit (m f g : Nat) : (m ||| 2 ^ f).testBit g = (m.testBit g || decide (f = g)) := by rw [Nat.testBit_or, Nat.testBit_two_pow]
theorem mk_clr_bit (m f : Nat) {g : Nat} (hg : g < 10) : (m &&& (1023 ^^^ 2 ^ f)).testBit g = (m.testBit g && !decide (f = g)) := by
  rw [Nat.testBit_and, Nat.testBit_xor, Nat.testBit_two_pow, show (1023 : Nat) = 2 ^ 10 - 1 from rfl, Nat.testBit_two_pow_sub_one]
  simp [hg]
set_option maxRecDepth 100000 in
set_option maxHeartbeats 4000000 in
theorem c_countingFormulas (sg : zI) (ta : zJ) (nf : Nat) (hn : sg 0 0 9 = nI nf) (hnf : nf ≤ 10) : zP yX7_countingFormulas mX7_countingFormulas 0 [.ref (nm 0 0)] sg ta (fun v s t => s = sg ∧ t = ta ∧ ∃ m, m < 1024 ∧ v = some (.int (nI m)) ∧ ∀ f, f < 10 → (m.testBit f = true ↔ f < nf ∧ sg 17 f 8 = 0)) := by
  refine zP_of (lv := [some (.ref (nm 0 0)), none, none]) (by decide +kernel) rfl (fun h => by cases h) rfl (Nat.le_of_ble_eq_true rfl) ?_
  have loop : ∀ (k j m : Nat), j + k = nf → m < 1024 → (∀ f, f < 10 → (m.testBit f = true ↔ f < j ∧ sg 17 f 8 = 0)) → Zq mX7_countingFormulas 0 (fun v s t => s = sg ∧ t = ta ∧ ∃ m, m < 1024 ∧ v = some (.int (nI m)) ∧ ∀ f, f < 10 → (m.testBit f = true ↔ f < nf ∧ sg 17 f 8 = 0)) sg ta 4 [some (.ref (nm 0 0)), some (.int (nI m)), some (.int (nI j))] [] := by
    intro k
    induction k with
    | zero =>
      intro j m hj hm hb
      refine q_iload_n dX7_countingFormulas_4 rfl ?_
      refine q_aload_n dX7_countingFormulas_5 rfl ?_
      refine z_get 9 dX7_countingFormulas_6 (by first | assumption | decide) (sh_0 _ _ _) rfl (by decide) fl_X7_58 rfl ?_
      rw [hn]
      refine q_icmp_ge 36 dX7_countingFormulas_9 (by decide) (fun h => ?_) (fun h => ?_)
      · refine q_iload_n dX7_countingFormulas_36 rfl ?_
        exact z_iret dX7_countingFormulas_37 rfl ⟨rfl, rfl, m, hm, rfl, by rw [show nf = j by omega]; exact hb⟩
      · exact absurd (nI_le (by omega) (by omega)) h
    | succ k ih =>
      intro j m hj hm hb
      have j10 : j < 10 := by omega
      have hjc := cnt17 j10
      refine q_iload_n dX7_countingFormulas_4 rfl ?_
      refine q_aload_n dX7_countingFormulas_5 rfl ?_
      refine z_get 9 dX7_countingFormulas_6 (by first | assumption | decide) (sh_0 _ _ _) rfl (by decide) fl_X7_58 rfl ?_
      rw [hn]
      refine q_icmp_ge 36 dX7_countingFormulas_9 (by decide) (fun h => ?_) (fun h => ?_)
      · exact absurd h (nI_ge (by omega) (by omega))
      · refine q_aload_n dX7_countingFormulas_12 rfl ?_
        refine z_get 5 dX7_countingFormulas_13 (by first | assumption | decide) (sh_0 _ _ _) rfl (by decide) fl_X7_42 rfl ?_
        refine q_iload_n dX7_countingFormulas_16 rfl ?_
        refine z_aald dX7_countingFormulas_17 (by first | assumption | decide) rfl (fun _ => rfl) (vp_in_nI (n := j) j10 (by omega)) (aal j10 (by omega)) ?_
        refine z_get 8 dX7_countingFormulas_18 (by first | assumption | decide) (sh_17 _ _ _) rfl (by decide) fl_X7_157 rfl ?_
        refine q_if_ne 30 dX7_countingFormulas_21 (by decide) (fun h2 => ?_) (fun h2 => ?_)
        · refine q_iinc dX7_countingFormulas_30 rfl (Nat.le_of_ble_eq_true rfl) rfl ?_
          dsimp only [List.set]
          refine q_goto 4 dX7_countingFormulas_33 (by decide) ?_
          rw [nI_inc]
          refine ih (j + 1) m (by omega) hm (fun f hf => ?_)
          rw [hb f hf]
          constructor
          · rintro ⟨a, b⟩; exact ⟨by omega, b⟩
          · rintro ⟨a, b⟩
            by_cases e : f = j
            · subst e; exact absurd b h2
            · exact ⟨by omega, b⟩
        · refine q_iload_n dX7_countingFormulas_24 rfl ?_
          refine q_iconst (v := 1) dX7_countingFormulas_25 rfl ?_
          refine q_iload_n dX7_countingFormulas_26 rfl ?_
          refine q_ishl dX7_countingFormulas_27 ?_
          refine q_ior dX7_countingFormulas_28 ?_
          rw [mk_or m hm j j10]
          refine s_istore_n 1 dX7_countingFormulas_29 rfl (Nat.le_of_ble_eq_true rfl) rfl ?_
          dsimp only [List.set]
          refine q_iinc dX7_countingFormulas_30 rfl (Nat.le_of_ble_eq_true rfl) rfl ?_
          dsimp only [List.set]
          refine q_goto 4 dX7_countingFormulas_33 (by decide) ?_
          rw [nI_inc]
          refine ih (j + 1) _ (by omega) (mk_or_lt hm j10) (fun f hf => ?_)
          rw [mk_or_bit]
          simp only [Bool.or_eq_true, decide_eq_true_eq]
          rw [hb f hf]
          constructor
          · rintro (⟨a, b⟩ | a)
            · exact ⟨by omega, b⟩
            · subst a; exact ⟨by omega, h2⟩
          · rintro ⟨a, b⟩
            by_cases e : f = j
            · exact Or.inr e.symm
            · exact Or.inl ⟨by omega, b⟩
  refine q_iconst (v := 0) dX7_countingFormulas_0 rfl ?_
  refine s_istore_n 1 dX7_countingFormulas_1 rfl (Nat.le_of_ble_eq_true rfl) rfl ?_
  dsimp only [List.set]
  refine q_iconst (v := 0) dX7_countingFormulas_2 rfl ?_
  refine s_istore_n 2 dX7_countingFormulas_3 rfl (Nat.le_of_ble_eq_true rfl) rfl ?_
  dsimp only [List.set]
  refine loop nf 0 0 (by omega) (by omega) (fun f hf => ?_)
  simp
set_option maxRecDepth 100000 in
set_option maxHeartbeats 4000000 in
theorem c_hasModel (sg : zI) (ta : zJ) (A nT : Nat) (mo : Nat → Nat) (nf : Nat) (x : Int32) (hQ : QI sg ta A nT mo nf) : zP yX7_hasModel mX7_hasModel 5 [.ref (nm 0 0), .int x] sg ta (fun v s t => v = some (.int (bC (∃ w, w < wSize A mo nT ∧ mdl sg A nT mo nf x w))) ∧ frm frQ sg s ∧ QI s t A nT mo nf) := by
  have hsz := hQ.1.2.2.2.1
  refine zP_of (lv := [some (.ref (nm 0 0)), some (.int x), none]) (by decide +kernel) rfl (fun h => by cases h) rfl (Nat.le_of_ble_eq_true rfl) ?_
  have loop : ∀ (k wd : Nat) (s : zI) (t : zJ), wd + k = 125 → frm frQ sg s → QI s t A nT mo nf → (∀ w, w < wd * 64 → ¬ (w < wSize A mo nT ∧ mdl sg A nT mo nf x w)) → Zq mX7_hasModel 5 (fun v s t => v = some (.int (bC (∃ w, w < wSize A mo nT ∧ mdl sg A nT mo nf x w))) ∧ frm frQ sg s ∧ QI s t A nT mo nf) s t 2 [some (.ref (nm 0 0)), some (.int x), some (.int (nI wd))] [] := by
    intro k
    induction k with
    | zero =>
      intro wd s t hk hf hq hn
      refine q_iload_n dX7_hasModel_2 rfl ?_
      refine q_bipush (v := 125) dX7_hasModel_3 rfl ?_
      refine q_icmp_ge 27 dX7_hasModel_5 (by decide) (fun h => ?_) (fun h => ?_)
      · refine q_iconst (v := 0) dX7_hasModel_27 rfl ?_
        refine z_zret dX7_hasModel_28 rfl (Or.inl rfl) ⟨?_, hf, hq⟩
        rw [bC_f]
        rintro ⟨w, h1, h2⟩
        exact hn w (by omega) ⟨h1, h2⟩
      · exact absurd (nI_le (a := 125) (by omega) (by omega)) h
    | succ k ih =>
      intro wd s t hk hf hq hn
      refine q_iload_n dX7_hasModel_2 rfl ?_
      refine q_bipush (v := 125) dX7_hasModel_3 rfl ?_
      refine q_icmp_ge 27 dX7_hasModel_5 (by decide) (fun h => ?_) (fun h => ?_)
      · exact absurd ((nI_leI (a := 125) (by omega) (by omega)).mp h) (by omega)
      · refine q_aload_n dX7_hasModel_8 rfl ?_
        refine q_iload_n dX7_hasModel_9 rfl ?_
        refine q_iload_n dX7_hasModel_10 rfl ?_
        refine z_callV (c_modelsIn s t A nT mo nf wd x hq (by omega)) kV_X7_168 dX7_hasModel_11 (by first | assumption | decide) (sh_0 _ _ _) rfl rfl rfl (by omega) (Nat.le_of_ble_eq_true rfl) (Nat.le_refl _) (Nat.le_refl _) rfl (fun v s2 t2 h => ?_)
        obtain ⟨hf2, hq2, y, rfl, hy⟩ := h
        dsimp only [Option.toList, List.cons_append, List.nil_append]
        refine q_lconst (v := 0) dX7_hasModel_14 rfl ?_
        refine q_lcmp dX7_hasModel_15 ?_
        refine q_if_eq 21 dX7_hasModel_16 (by decide) (fun h2 => ?_) (fun h2 => ?_)
        · rw [lcmp0, lb_zero] at h2
          refine q_iinc dX7_hasModel_21 rfl (Nat.le_of_ble_eq_true rfl) rfl ?_
          dsimp only [List.set]
          refine q_goto 2 dX7_hasModel_24 (by decide) ?_
          rw [nI_inc]
          refine ih (wd + 1) s2 t2 (by omega) (frm_trans hf hf2) hq2 (fun w hw => ?_)
          rcases Nat.lt_or_ge w (wd * 64) with g | g
          · exact hn w g
          · intro q
            have := (hy (w - wd * 64) (by omega)).mpr (by rw [show wd * 64 + (w - wd * 64) = w by omega, mdl_frm hf]; exact q)
            rw [h2 _ (by omega)] at this
            exact absurd this (by decide)
        · rw [lcmp0] at h2
          refine q_iconst (v := 1) dX7_hasModel_19 rfl ?_
          refine z_zret dX7_hasModel_20 rfl (Or.inr rfl) ⟨?_, frm_trans hf hf2, hq2⟩
          rw [bC_t]
          apply Classical.byContradiction
          intro hno
          apply h2
          rw [lb_zero]
          intro j hj
          cases hb : lb y j with
          | false => rfl
          | true =>
            have := (hy j hj).mp hb
            rw [mdl_frm hf] at this
            exact absurd ⟨_, this⟩ hno
  refine q_iconst (v := 0) dX7_hasModel_0 rfl ?_
  refine s_istore_n 2 dX7_hasModel_1 rfl (Nat.le_of_ble_eq_true rfl) rfl ?_
  dsimp only [List.set]
  exact loop 125 0 sg ta (by omega) (frm_refl _ _) hQ (fun w hw => absurd hw (by omega))
/-- 1 for a model, 0 for another way -/
noncomputable def isMn (sg : zI) (A nT : Nat) (mo : Nat → Nat) (nf : Nat) (x : Int32) (w : Nat) : Nat := @ite Nat (w < wSize A mo nT ∧ mdl sg A nT mo nf x w) (Classical.propDecidable _) 1 0
theorem isMn_t {sg : zI} {A nT : Nat} {mo : Nat → Nat} {nf : Nat} {x : Int32} {w : Nat} (h : w < wSize A mo nT ∧ mdl sg A nT mo nf x w) : isMn sg A nT mo nf x w = 1 := by unfold isMn; rw [if_pos h]
theorem isMn_f {sg : zI} {A nT : Nat} {mo : Nat → Nat} {nf : Nat} {x : Int32} {w : Nat} (h : ¬ (w < wSize A mo nT ∧ mdl sg A nT mo nf x w)) : isMn sg A nT mo nf x w = 0 := by unfold isMn; rw [if_neg h]
theorem isMn_frm {a b : zI} (h : frm frQ a b) (A nT : Nat) (mo : Nat → Nat) (nf : Nat) (x : Int32) : isMn b A nT mo nf x = isMn a A nT mo nf x := by
  funext w
  by_cases g : w < wSize A mo nT ∧ mdl a A nT mo nf x w
  · rw [isMn_t g, isMn_t (by rw [mdl_frm h]; exact g)]
  · rw [isMn_f g, isMn_f (by rw [mdl_frm h]; exact g)]
theorem lb_nat (y : Int64) {j : Nat} (hj : j < 64) : lb y j = y.toBitVec.toNat.testBit j := by unfold lb; rfl
theorem pcL_eq {y : Int64} {p : Nat → Nat} (h : ∀ j, j < 64 → (lb y j = true ∧ p j = 1) ∨ (lb y j = false ∧ p j = 0)) : ∀ q, q ≤ 64 → bs y.toBitVec.toNat q = sumN p q := by
  intro q hq
  unfold bs
  refine sumN_congr q (fun j hj => ?_)
  rw [← lb_nat y (by omega)]
  rcases h j (by omega) with ⟨a, b⟩ | ⟨a, b⟩ <;> rw [a, b] <;> rfl
theorem isMn_bits {sg : zI} {A nT wd : Nat} {mo : Nat → Nat} {nf : Nat} {x : Int32} {y : Int64} (hy : ∀ j, j < 64 → (lb y j = true ↔ (wd * 64 + j < wSize A mo nT ∧ mdl sg A nT mo nf x (wd * 64 + j)))) : ∀ j, j < 64 → (lb y j = true ∧ isMn sg A nT mo nf x (wd * 64 + j) = 1) ∨ (lb y j = false ∧ isMn sg A nT mo nf x (wd * 64 + j) = 0) := by
  intro j hj
  cases hb : lb y j with
  | true => exact Or.inl ⟨rfl, isMn_t ((hy j hj).mp hb)⟩
  | false => exact Or.inr ⟨rfl, isMn_f (fun q => by rw [(hy j hj).mpr q] at hb; exact absurd hb (by decide))⟩
set_option maxRecDepth 100000 in
set_option maxHeartbeats 4000000 in
theorem c_models (sg : zI) (ta : zJ) (A nT : Nat) (mo : Nat → Nat) (nf : Nat) (hQ : QI sg ta A nT mo nf) : zP yX7_models mX7_models 5 [.ref (nm 0 0)] sg ta (fun v s t => frm frQ sg s ∧ QI s t A nT mo nf ∧ ∃ m, m < 1024 ∧ (∀ f, f < 10 → (m.testBit f = true ↔ f < nf ∧ sg 17 f 8 = 0)) ∧ v = some (.int (nI (sumN (isMn sg A nT mo nf (nI m)) 8000)))) := by
  refine zP_of (lv := [some (.ref (nm 0 0)), none, none, none]) (by decide +kernel) rfl (fun h => by cases h) rfl (Nat.le_of_ble_eq_true rfl) ?_
  refine q_aload_n dX7_models_0 rfl ?_
  refine z_callV (c_countingFormulas sg ta nf hQ.2.2.2.1 hQ.2.2.1) kV_X7_164 dX7_models_1 (by first | assumption | decide) (sh_0 _ _ _) rfl rfl rfl (by omega) (Nat.le_of_ble_eq_true rfl) (Nat.le_refl _) (Nat.le_refl _) rfl (fun v s0 t0 h => ?_)
  obtain ⟨rfl, rfl, m, hm, rfl, hb⟩ := h
  dsimp only [Option.toList, List.cons_append, List.nil_append]
  have loop : ∀ (k wd : Nat) (s : zI) (t : zJ), wd + k = 125 → frm frQ s0 s → QI s t A nT mo nf → Zq mX7_models 5 (fun v s t => frm frQ s0 s ∧ QI s t A nT mo nf ∧ ∃ m, m < 1024 ∧ (∀ f, f < 10 → (m.testBit f = true ↔ f < nf ∧ s0 17 f 8 = 0)) ∧ v = some (.int (nI (sumN (isMn s0 A nT mo nf (nI m)) 8000)))) s t 9 [some (.ref (nm 0 0)), some (.int (nI m)), some (.int (nI (sumN (isMn s0 A nT mo nf (nI m)) (wd * 64)))), some (.int (nI wd))] [] := by
    intro k
    induction k with
    | zero =>
      intro wd s t hk hf hq
      refine q_iload_n dX7_models_9 rfl ?_
      refine q_bipush (v := 125) dX7_models_10 rfl ?_
      refine q_icmp_ge 33 dX7_models_12 (by decide) (fun h => ?_) (fun h => ?_)
      · refine q_iload_n dX7_models_33 rfl ?_
        exact z_iret dX7_models_34 rfl ⟨hf, hq, m, hm, hb, by rw [show wd * 64 = 8000 by omega]⟩
      · exact absurd (nI_le (a := 125) (by omega) (by omega)) h
    | succ k ih =>
      intro wd s t hk hf hq
      refine q_iload_n dX7_models_9 rfl ?_
      refine q_bipush (v := 125) dX7_models_10 rfl ?_
      refine q_icmp_ge 33 dX7_models_12 (by decide) (fun h => ?_) (fun h => ?_)
      · exact absurd ((nI_leI (a := 125) (by omega) (by omega)).mp h) (by omega)
      · refine q_iload_n dX7_models_15 rfl ?_
        refine q_aload_n dX7_models_16 rfl ?_
        refine q_iload_n dX7_models_17 rfl ?_
        refine q_iload_n dX7_models_18 rfl ?_
        refine z_callV (c_modelsIn s t A nT mo nf wd (nI m) hq (by omega)) kV_X7_168 dX7_models_19 (by first | assumption | decide) (sh_0 _ _ _) rfl rfl rfl (by omega) (Nat.le_of_ble_eq_true rfl) (Nat.le_refl _) (Nat.le_refl _) rfl (fun v s2 t2 h => ?_)
        obtain ⟨hf2, hq2, y, rfl, hy⟩ := h
        dsimp only [Option.toList, List.cons_append, List.nil_append]
        refine z_callS (c_bitCountL s2 t2 y) kS_X7_172 dX7_models_22 rfl (by omega) (Nat.le_of_ble_eq_true rfl) (Nat.le_refl _) (Nat.le_refl _) rfl (fun v s3 t3 h => ?_)
        obtain ⟨rfl, rfl, rfl⟩ := h
        dsimp only [Option.toList, List.cons_append, List.nil_append]
        have e1 : pcL y = sumN (fun j => isMn s0 A nT mo nf (nI m) (wd * 64 + j)) 64 := by
          rw [← isMn_frm hf]
          exact pcL_eq (isMn_bits hy) 64 (Nat.le_refl _)
        refine q_iadd dX7_models_25 ?_
        refine s_istore_n 2 dX7_models_26 rfl (Nat.le_of_ble_eq_true rfl) rfl ?_
        dsimp only [List.set]
        refine q_iinc dX7_models_27 rfl (Nat.le_of_ble_eq_true rfl) rfl ?_
        dsimp only [List.set]
        refine q_goto 9 dX7_models_30 (by decide) ?_
        rw [nI_inc, nI_add, e1, ← sumN_add]
        rw [show wd * 64 + 64 = (wd + 1) * 64 by omega]
        exact ih (wd + 1) s3 t3 (by omega) (frm_trans hf hf2) hq2
  refine s_istore_n 1 dX7_models_4 rfl (Nat.le_of_ble_eq_true rfl) rfl ?_
  dsimp only [List.set]
  refine q_iconst (v := 0) dX7_models_5 rfl ?_
  refine s_istore_n 2 dX7_models_6 rfl (Nat.le_of_ble_eq_true rfl) rfl ?_
  dsimp only [List.set]
  refine q_iconst (v := 0) dX7_models_7 rfl ?_
  refine s_istore_n 3 dX7_models_8 rfl (Nat.le_of_ble_eq_true rfl) rfl ?_
  dsimp only [List.set]
  exact loop 125 0 s0 t0 (by omega) (frm_refl _ _) hQ
