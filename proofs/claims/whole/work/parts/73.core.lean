theorem s0_of {sg : zI} {A nT : Nat} {mo : Nat → Nat} {nf m : Nat} {v : Option Value} {P : Nat → Prop} (hsz : wSize A mo nT ≤ 8000) (h : (∃ w, w < wSize A mo nT ∧ mdlM sg A nT mo nf m w ∧ (0 : Int32) = nI (sumN (mN sg A nT mo nf m) w) ∧ v = some (.int (nI (sumN (mN sg A nT mo nf m) w + 1))) ∧ P w) ∨ ((∀ w, w < wSize A mo nT → mdlM sg A nT mo nf m w → ¬ (0 : Int32) = nI (sumN (mN sg A nT mo nf m) w)) ∧ v = some (.int (nI (sumN (mN sg A nT mo nf m) (wSize A mo nT)))))) : (hMM sg A nT mo nf m ∧ v = some (.int 1)) ∨ (¬ hMM sg A nT mo nf m ∧ v = some (.int 0)) := by
  rcases h with ⟨w, hw, hmd, hx, rfl, -⟩ | ⟨hno, rfl⟩
  · have := sum_le (f := mN sg A nT mo nf m) mN_01 w
    have e : 0 = sumN (mN sg A nT mo nf m) w := (nI_eq (a := 0) (by omega) (by omega)).mp hx
    exact Or.inl ⟨⟨w, hw, hmd⟩, by rw [← e]; rfl⟩
  · have z : ¬ 0 < sumN (mN sg A nT mo nf m) (wSize A mo nT) := fun q => by
      obtain ⟨w, a, b, c⟩ := ivt mN_01 _ q
      exact hno w a (mN_1 b) (by rw [c]; rfl)
    refine Or.inr ⟨fun ⟨w, a, b⟩ => z ?_, by rw [show sumN (mN sg A nT mo nf m) (wSize A mo nT) = 0 by omega]; rfl⟩
    exact Nat.lt_of_le_of_lt (Nat.zero_le _) (nth_lt a (mN_t b))
theorem clr_same {m j : Nat} (hm : m < 1024) (h : ¬ m.testBit j = true) : m &&& (1023 ^^^ 2 ^ j) = m := by
  apply Nat.eq_of_testBit_eq
  intro i
  by_cases hi : i < 10
  · rw [mk_clr_bit m j hi]
    by_cases e : j = i
    · subst e; simp at h; simp [h]
    · simp [e]
  · have h1 : 1024 ≤ 2 ^ i := Nat.pow_le_pow_right (n := 2) (by omega) (show 10 ≤ i by omega)
    rw [Nat.testBit_lt_two_pow (Nat.lt_of_lt_of_le (mk_clr_lt hm) h1), Nat.testBit_lt_two_pow (Nat.lt_of_lt_of_le hm h1)]
theorem bs_clr {m j : Nat} (h : m.testBit j = true) : ∀ k, k ≤ 10 → bs (m &&& (1023 ^^^ 2 ^ j)) k + (if j < k then 1 else 0) = bs m k
  | 0, _ => rfl
  | k + 1, hk => by
    have ih := bs_clr h k (by omega)
    rw [bs_step, bs_step, mk_clr_bit m j (show k < 10 by omega)]
    by_cases e : j = k
    · subst e
      rw [if_neg (by omega)] at ih
      rw [if_pos (by omega), h]
      simp
      omega
    · simp only [e, decide_false, Bool.not_false, Bool.and_true]
      by_cases g : j < k
      · rw [if_pos g] at ih
        rw [if_pos (by omega)]
        omega
      · rw [if_neg g] at ih
        rw [if_neg (by omega)]
        omega
theorem maskG_S {a b : zI} (h33 : b 33 = a 33) (h42 : b 42 = a 42) {nf m : Nat} (hm : maskG a nf m) : maskG b nf m := by
  unfold maskG at *
  rw [h33, h42]
  exact hm
def coreM (sg : zI) (ta : zJ) (A nT : Nat) (mo : Nat → Nat) (nf m : Nat) (v : Option Value) (s : zI) (t : zJ) : Prop := t = ta ∧ (hMM sg A nT mo nf m → v = some (.int (-4)) ∧ perS sg s) ∧ (¬ hMM sg A nT mo nf m → v = some (.int (nI (bs (coreF (hMM sg A nT mo nf) m nf) 10))) ∧ perC sg s ∧ s 20 0 22 = 1 ∧ ∀ f, f < nf → (s 36 0 f = 0 ∨ s 36 0 f = 1) ∧ ((coreF (hMM sg A nT mo nf) m nf).testBit f = true ↔ s 36 0 f = 1))
set_option maxRecDepth 100000 in
set_option maxHeartbeats 8000000 in
theorem j_core (sg : zI) (ta : zJ) (A nT : Nat) (mo : Nat → Nat) (nt nc nf m : Nat) (hM : MoOk sg A nT mo nt nc nf) (hm : mask0 sg nf m) : zP yX8_core mX8_core 5 [.ref (nm 20 0)] sg ta (coreM sg ta A nT mo nf m) := by
  have hnf := hM.2.2.2.1
  have hsz := hM.1.2.2.2.1
  refine zP_of (lv := [some (.ref (nm 20 0)), none, none]) (by decide +kernel) rfl (fun h => by cases h) rfl (Nat.le_of_ble_eq_true rfl) ?_
  refine q_aload_n dX8_core_0 rfl ?_
  refine z_callV (j_stayAll sg ta) kV_X8_167 dX8_core_1 (by first | assumption | decide) (sh_20 _ _ _) rfl rfl rfl (by omega) (Nat.le_of_ble_eq_true rfl) (Nat.le_refl _) (Nat.le_refl _) rfl (fun v s1 t1 h => ?_)
  obtain ⟨rfl, rfl, hf1, hz1⟩ := h
  dsimp only [Option.toList, List.cons_append, List.nil_append]
  have p1 : perS sg s1 := perS_frm hf1 (by intro q hq; simp at hq; subst hq; simp)
  have g1 := stay_mask hnf hf1 hz1 hm
  refine q_aload_n dX8_core_4 rfl ?_
  refine q_iconst (v := 0) dX8_core_5 rfl ?_
  refine z_callV (j_search s1 t1 A nT mo nt nc nf m 0 (MoOk_S p1 hM) g1) kV_X8_170 dX8_core_6 (by first | assumption | decide) (sh_20 _ _ _) rfl rfl rfl (by omega) (Nat.le_of_ble_eq_true rfl) (Nat.le_refl _) (Nat.le_refl _) rfl (fun v s2 t2 h => ?_)
  obtain ⟨rfl, hf2, hh⟩ := h
  dsimp only [Option.toList, List.cons_append, List.nil_append]
  have p2 := perS_trans p1 (perS_S hf2)
  have g2 : maskG s2 nf m := maskG_S (frS_row hf2 (by omega) (by omega)) (frS_row hf2 (by omega) (by omega)) g1
  have z2 : ∀ q, q < 10 → s2 42 0 q = 0 := fun q hq => by rw [frS_row hf2 (by omega) (by omega)]; exact hz1 q hq
  rcases s0_of hsz hh with ⟨hy, rfl⟩ | ⟨hn, rfl⟩
  · rw [hMM_S p1] at hy
    dsimp only [Option.toList, List.cons_append, List.nil_append]
    refine q_if_le 15 dX8_core_9 (by decide) (fun g => ?_) (fun g => ?_)
    · exact absurd g (by decide)
    · refine q_bipush (v := (-4)) dX8_core_12 rfl ?_
      exact z_iret dX8_core_14 rfl ⟨rfl, fun _ => ⟨rfl, p2⟩, fun q => absurd hy q⟩
  · rw [hMM_S p1] at hn
    dsimp only [Option.toList, List.cons_append, List.nil_append]
    -- the core's bits are written
    have wr : ∀ (k f M : Nat) (s : zI) (n : Int32), f + k = nf → M = coreF (hMM sg A nT mo nf) m nf → n = nI (bs M 10) → maskG s nf M → (∀ K i j, ¬ (36 ≤ K ∧ K ≤ 43) → ¬ (K = 20 ∧ j = 29) → s K i j = sg K i j) → (∀ g, g < f → (s 36 0 g = 0 ∨ s 36 0 g = 1) ∧ (M.testBit g = true ↔ s 36 0 g = 1)) → Zq mX8_core 5 (coreM sg t2 A nT mo nf m) s t2 70 [some (.ref (nm 20 0)), some (.int n), some (.int (nI f))] [] := by
      intro k
      induction k with
      | zero =>
        intro f M s n hf eM en hg hs h36
        have : f = nf := by omega
        subst this
        refine q_iload_n dX8_core_70 rfl ?_
        refine q_aload_n dX8_core_71 rfl ?_
        refine z_get 11 dX8_core_72 (by first | assumption | decide) (sh_20 _ _ _) rfl (by decide) fl_X8_98 rfl ?_
        rw [hs 20 0 11 (by omega) (by omega), hM.2.2.2.2.1]
        refine q_icmp_ge 113 dX8_core_75 (by decide) (fun g => ?_) (fun g => ?_)
        · refine q_aload_n dX8_core_113 rfl ?_
          refine z_callV (j_stayAll s t2) kV_X8_167 dX8_core_114 (by first | assumption | decide) (sh_20 _ _ _) rfl rfl rfl (by omega) (Nat.le_of_ble_eq_true rfl) (Nat.le_refl _) (Nat.le_refl _) rfl (fun v s3 t3 h => ?_)
          obtain ⟨rfl, rfl, hf3, -⟩ := h
          dsimp only [Option.toList, List.cons_append, List.nil_append]
          refine q_aload_n dX8_core_117 rfl ?_
          refine q_iconst (v := 1) dX8_core_118 rfl ?_
          refine z_putz 22 dX8_core_119 (by first | assumption | decide) (sh_20 _ _ _) rfl (by decide) fl_X8_91 rfl pfZ (Nat.le_of_ble_eq_true rfl) (by first | exact Or.inl rfl | exact Or.inr rfl | assumption) rfl ?_
          refine q_iload_n dX8_core_122 rfl ?_
          refine z_iret dX8_core_123 rfl ⟨rfl, fun q => absurd q hn, fun _ => ⟨by rw [en, eM], fun K i j c1 c2 => ?_, by rw [up3_get, if_pos ⟨rfl, rfl, rfl⟩], fun g hg => ?_⟩⟩
          · rw [up3_get, if_neg (by omega), hf3 K i (by simp; omega)]; exact hs K i j c1 (by omega)
          · rw [up3_ne (by omega), hf3 36 0 (by simp), ← eM]; exact h36 g hg
        · exact absurd (nI_le (by omega) (by omega)) g
      | succ k ih =>
        intro f M s n hf eM en hg hs h36
        have f10 : f < 10 := by omega
        refine q_iload_n dX8_core_70 rfl ?_
        refine q_aload_n dX8_core_71 rfl ?_
        refine z_get 11 dX8_core_72 (by first | assumption | decide) (sh_20 _ _ _) rfl (by decide) fl_X8_98 rfl ?_
        rw [hs 20 0 11 (by omega) (by omega), hM.2.2.2.2.1]
        refine q_icmp_ge 113 dX8_core_75 (by decide) (fun g => ?_) (fun g => ?_)
        · exact absurd g (nI_ge (by omega) (by omega))
        · have on : ∀ F : Int32, (F = 0 ∨ F = 1) → (M.testBit f = true ↔ F = 1) → Zq mX8_core 5 (coreM sg t2 A nT mo nf m) s t2 106 [some (.ref (nm 20 0)), some (.int n), some (.int (nI f))] [.int F, .int (nI f), .ref (nm 36 0)] := by
            intro F h01 hF
            refine z_zast dX8_core_106 (by first | assumption | decide) (fun _ _ => rfl) (vp_in_nI (n := f) f10 (by omega)) h01 ?_
            refine q_iinc dX8_core_107 rfl (Nat.le_of_ble_eq_true rfl) rfl ?_
            dsimp only [List.set]
            refine q_goto 70 dX8_core_110 (by decide) ?_
            rw [nI_clamp (by omega), nI_inc]
            refine ih (f + 1) M _ n (by omega) eM en (maskG_S (up3_ne (by omega)) (up3_ne (by omega)) hg) (fun K i j c1 c2 => by rw [up3_ne (by omega)]; exact hs K i j c1 c2) (fun g hg => ?_)
            rw [up3_get]
            by_cases e : g = f
            · subst e; rw [if_pos ⟨rfl, rfl, rfl⟩]; exact ⟨h01, hF⟩
            · rw [if_neg (by omega)]; exact h36 g (by omega)
          refine q_aload_n dX8_core_78 rfl ?_
          refine z_get 23 dX8_core_79 (by first | assumption | decide) (sh_20 _ _ _) rfl (by decide) fl_X8_63 rfl ?_
          refine q_iload_n dX8_core_82 rfl ?_
          refine q_aload_n dX8_core_83 rfl ?_
          refine z_get 18 dX8_core_84 (by first | assumption | decide) (sh_20 _ _ _) rfl (by decide) fl_X8_54 rfl ?_
          refine q_iload_n dX8_core_87 rfl ?_
          refine z_zald dX8_core_88 (by first | assumption | decide) rfl (vp_in_nI (n := f) f10 (by omega)) ?_
          rw [nI_clamp (by omega)]
          refine q_if_ne 105 dX8_core_89 (by decide) (fun q1 => ?_) (fun q1 => ?_)
          · refine q_iconst (v := 0) dX8_core_105 rfl ?_
            exact on 0 (Or.inl rfl) ⟨fun z => absurd ((hg f (by omega)).mp z).1 q1, fun z => absurd z (by decide)⟩
          · refine q_aload_n dX8_core_92 rfl ?_
            refine z_get 30 dX8_core_93 (by first | assumption | decide) (sh_20 _ _ _) rfl (by decide) fl_X8_81 rfl ?_
            refine q_iload_n dX8_core_96 rfl ?_
            refine z_zald dX8_core_97 (by first | assumption | decide) rfl (vp_in_nI (n := f) f10 (by omega)) ?_
            rw [nI_clamp (by omega)]
            refine q_if_ne 105 dX8_core_98 (by decide) (fun q2 => ?_) (fun q2 => ?_)
            · refine q_iconst (v := 0) dX8_core_105 rfl ?_
              exact on 0 (Or.inl rfl) ⟨fun z => absurd ((hg f (by omega)).mp z).2 q2, fun z => absurd z (by decide)⟩
            · refine q_iconst (v := 1) dX8_core_101 rfl ?_
              refine q_goto 106 dX8_core_102 (by decide) ?_
              exact on 1 (Or.inr rfl) ⟨fun _ => rfl, fun _ => (hg f (by omega)).mpr ⟨q1, q2⟩⟩
    have loop : ∀ (j M n : Nat) (s : zI), j ≤ nf → M < 1024 → ¬ hMM sg A nT mo nf M → coreF (hMM sg A nT mo nf) m nf = coreF (hMM sg A nT mo nf) M j → n + bs M j = bs M 10 → maskG s nf M → (∀ q, q < j → s 42 0 q = 0) → perS sg s → Zq mX8_core 5 (coreM sg t2 A nT mo nf m) s t2 24 [some (.ref (nm 20 0)), some (.int (nI n)), some (.int (nI j - 1))] [] := by
      intro j
      induction j with
      | zero =>
        intro M n s hj hM' hnM hcF hbs hg hz hs
        refine q_iload_n dX8_core_24 rfl ?_
        refine q_if_lt 68 dX8_core_25 (by decide) (fun g => ?_) (fun g => ?_)
        · refine q_iconst (v := 0) dX8_core_68 rfl ?_
          refine s_istore_n 2 dX8_core_69 rfl (Nat.le_of_ble_eq_true rfl) rfl ?_
          dsimp only [List.set]
          exact wr nf 0 M s _ (by omega) hcF.symm (by rw [← hbs]; rfl) hg (fun K i j c1 c2 => hs K i j (by omega) c2) (fun g hg => absurd hg (by omega))
        · exact absurd tm_0 g
      | succ j ih =>
        intro M n s hj hM' hnM hcF hbs hg hz hs
        have j10 : j < 10 := by omega
        rw [tm_s]
        refine q_iload_n dX8_core_24 rfl ?_
        refine q_if_lt 68 dX8_core_25 (by decide) (fun g => ?_) (fun g => ?_)
        · exact absurd g (nI_pos (by omega))
        · refine q_aload_n dX8_core_28 rfl ?_
          refine z_get 18 dX8_core_29 (by first | assumption | decide) (sh_20 _ _ _) rfl (by decide) fl_X8_54 rfl ?_
          refine q_iload_n dX8_core_32 rfl ?_
          refine z_zald dX8_core_33 (by first | assumption | decide) rfl (vp_in_nI (n := j) j10 (by omega)) ?_
          rw [nI_clamp (by omega)]
          refine q_if_ne 62 dX8_core_34 (by decide) (fun q1 => ?_) (fun q1 => ?_)
          · have hb : ¬ M.testBit j = true := fun z => q1 ((hg j (by omega)).mp z).1
            have ec := clr_same (j := j) hM' hb
            have hf : ¬ hMM sg A nT mo nf (M &&& (1023 ^^^ 2 ^ j)) := by rw [ec]; exact hnM
            refine q_iinc dX8_core_62 rfl (Nat.le_of_ble_eq_true rfl) rfl ?_
            dsimp only [List.set]
            refine q_goto 24 dX8_core_65 (by decide) ?_
            rw [tm_dec]
            refine ih M n s (by omega) hM' hnM ?_ ?_ hg (fun q hq => hz q (by omega)) hs
            · rw [hcF, coreF_f hf, ec]
            · rw [bs_step] at hbs
              simp at hb
              rw [hb] at hbs
              simp at hbs
              exact hbs
          · have hb : M.testBit j = true := (hg j (by omega)).mpr ⟨q1, hz j (by omega)⟩
            have hb10 := bs_clr hb 10 (Nat.le_refl _)
            have hbj := bs_clr hb j (by omega)
            rw [if_pos j10] at hb10
            rw [if_neg (by omega)] at hbj
            rw [bs_step, hb] at hbs
            simp at hbs
            have g3 : maskG (up3 s 42 0 j 1) nf (M &&& (1023 ^^^ 2 ^ j)) := fun f hf => by
              rw [mk_clr_bit M j (show f < 10 by omega), up3_ne (by omega), up3_get, Bool.and_eq_true, hg f hf]
              by_cases e : f = j
              · subst e
                rw [if_pos ⟨rfl, rfl, rfl⟩]
                simp
              · rw [if_neg (by omega)]
                have : ¬ j = f := fun z => e z.symm
                simp [this]
            have p3 : perS sg (up3 s 42 0 j 1) := fun K i j' c1 c2 => by rw [up3_ne (by omega)]; exact hs K i j' c1 c2
            refine q_aload_n dX8_core_37 rfl ?_
            refine z_get 30 dX8_core_38 (by first | assumption | decide) (sh_20 _ _ _) rfl (by decide) fl_X8_81 rfl ?_
            refine q_iload_n dX8_core_41 rfl ?_
            refine q_iconst (v := 1) dX8_core_42 rfl ?_
            refine z_zast dX8_core_43 (by first | assumption | decide) (fun _ _ => rfl) (vp_in_nI (n := j) j10 (by omega)) (Or.inr rfl) ?_
            refine q_aload_n dX8_core_44 rfl ?_
            refine q_iconst (v := 0) dX8_core_45 rfl ?_
            rw [nI_clamp (by omega)]
            refine z_callV (j_search _ t2 A nT mo nt nc nf _ 0 (MoOk_S p3 hM) g3) kV_X8_170 dX8_core_46 (by first | assumption | decide) (sh_20 _ _ _) rfl rfl rfl (by omega) (Nat.le_of_ble_eq_true rfl) (Nat.le_refl _) (Nat.le_refl _) rfl (fun v s4 t4 h => ?_)
            obtain ⟨rfl, hf4, hh4⟩ := h
            dsimp only [Option.toList, List.cons_append, List.nil_append]
            have p4 := perS_trans p3 (perS_S hf4)
            have e42 : s4 42 = (up3 s 42 0 j 1) 42 := frS_row hf4 (by omega) (by omega)
            have e33 : s4 33 = (up3 s 42 0 j 1) 33 := frS_row hf4 (by omega) (by omega)
            rcases s0_of hsz hh4 with ⟨hy, rfl⟩ | ⟨hn2, rfl⟩
            · rw [hMM_S p3] at hy
              dsimp only [Option.toList, List.cons_append, List.nil_append]
              refine q_if_le 62 dX8_core_49 (by decide) (fun q2 => ?_) (fun q2 => ?_)
              · exact absurd q2 (by decide)
              · refine q_aload_n dX8_core_52 rfl ?_
                refine z_get 30 dX8_core_53 (by first | assumption | decide) (sh_20 _ _ _) rfl (by decide) fl_X8_81 rfl ?_
                refine q_iload_n dX8_core_56 rfl ?_
                refine q_iconst (v := 0) dX8_core_57 rfl ?_
                refine z_zast dX8_core_58 (by first | assumption | decide) (fun _ _ => rfl) (vp_in_nI (n := j) j10 (by omega)) (Or.inl rfl) ?_
                rw [nI_clamp (by omega)]
                refine q_iinc dX8_core_59 rfl (Nat.le_of_ble_eq_true rfl) rfl ?_
                dsimp only [List.set]
                refine q_iinc dX8_core_62 rfl (Nat.le_of_ble_eq_true rfl) rfl ?_
                dsimp only [List.set]
                refine q_goto 24 dX8_core_65 (by decide) ?_
                rw [nI_inc, tm_dec]
                refine ih M (n + 1) _ (by omega) hM' hnM ?_ (by omega) (fun f hf => ?_) (fun q hq => ?_) (fun K i j' c1 c2 => ?_)
                · rw [hcF, coreF_t hy]
                · rw [up3_ne (by omega), e33, up3_ne (by omega), up3_get, e42, hg f hf]
                  by_cases e : f = j
                  · subst e
                    rw [if_pos ⟨rfl, rfl, rfl⟩, hz f (by omega)]
                  · rw [if_neg (by omega), up3_get, if_neg (by omega)]
                · rw [up3_get, if_neg (by omega), e42, up3_get, if_neg (by omega)]; exact hz q (by omega)
                · rw [up3_ne (by omega)]; exact p4 K i j' c1 c2
            · rw [hMM_S p3] at hn2
              dsimp only [Option.toList, List.cons_append, List.nil_append]
              refine q_if_le 62 dX8_core_49 (by decide) (fun q2 => ?_) (fun q2 => ?_)
              · refine q_iinc dX8_core_62 rfl (Nat.le_of_ble_eq_true rfl) rfl ?_
                dsimp only [List.set]
                refine q_goto 24 dX8_core_65 (by decide) ?_
                rw [tm_dec]
                refine ih _ n s4 (by omega) (mk_clr_lt hM') hn2 ?_ (by omega) (maskG_S e33 e42 g3) (fun q hq => ?_) p4
                · rw [hcF, coreF_f hn2]
                · rw [e42, up3_get, if_neg (by omega)]; exact hz q (by omega)
              · exact absurd (by decide) q2
    refine q_if_le 15 dX8_core_9 (by decide) (fun g => ?_) (fun g => ?_)
    · refine q_iconst (v := 0) dX8_core_15 rfl ?_
      refine s_istore_n 1 dX8_core_16 rfl (Nat.le_of_ble_eq_true rfl) rfl ?_
      dsimp only [List.set]
      refine q_aload_n dX8_core_17 rfl ?_
      refine z_get 11 dX8_core_18 (by first | assumption | decide) (sh_20 _ _ _) rfl (by decide) fl_X8_98 rfl ?_
      rw [perS_20 p2 (by omega), hM.2.2.2.2.1]
      refine q_iconst (v := 1) dX8_core_21 rfl ?_
      refine q_isub dX8_core_22 ?_
      refine s_istore_n 2 dX8_core_23 rfl (Nat.le_of_ble_eq_true rfl) rfl ?_
      dsimp only [List.set]
      have hz0 : bs m nf = bs m 10 := by
        have : ∀ k, nf + k ≤ 10 → bs m (nf + k) = bs m nf := fun k => by
          induction k with
          | zero => intro _; rfl
          | succ k ih =>
            intro h
            rw [← Nat.add_assoc, bs_step, ih (by omega)]
            have hb : m.testBit (nf + k) = false := by
              cases e : m.testBit (nf + k)
              · rfl
              · have := ((hm.2 (nf + k) (by omega)).mp e).1; omega
            rw [hb]; rfl
        have h10 := this (10 - nf) (by omega)
        rw [show nf + (10 - nf) = 10 by omega] at h10
        exact h10.symm
      exact loop nf m 0 s2 (Nat.le_refl _) hm.1 hn rfl (by omega) g2 (fun q hq => z2 q (by omega)) p2
    · exact absurd (by decide) g
