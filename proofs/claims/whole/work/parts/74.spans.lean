theorem lenM_tk {mu : zI} {nT nt n k t : Nat} {mo : Nat → Nat} (hnt : nt ≤ 12) (ht : t < nt) (hn : mu 22 0 t = nI n) (hn6 : n ≤ 6) : lenM mu mo nT k (nI t) = (spl (fun j => mu 23 0 (6 * t + j)) (fun t => nI (vec mo nT k t)) (fun t => nI (psum (vec mo nT k) t)) (fun _ => 0) n).length := by
  unfold lenM
  rw [if_neg (nI_m1 (by omega)), nI_clamp (show t < 2 ^ 31 by omega), hn, nI_clamp (show n < 2 ^ 31 by omega)]
theorem PV_Part2 {A nT k : Nat} {mo : Nat → Nat} {x : Int32} (hA : A = 2 ∨ A = 3) (hT : nT ≤ 4) (hm : ∀ t, t < nT → mo t ≤ 5) (h : PV A nT x) : PartOk (fun t => nI (vec mo nT k t)) (fun t => nI (psum (vec mo nT k) t)) x := by
  rcases h with ⟨a, ha, e⟩ | ⟨t, ht, e⟩
  · rw [e]; exact Or.inl (PV_letter (by omega))
  · rw [e]; exact Or.inr ⟨t, _, _, PV_text t, by omega, rfl, vec5 hm t ht, rfl, psum20 hT (vec5 hm) ht⟩
theorem lenM_30 {mu : zI} {A nT nt k : Nat} {mo : Nat → Nat} {x : Int32} (hS : SpM mu A nT mo) (hT : TeM mu A nT nt) (h : x = -1 ∨ tk nt x) : lenM mu mo nT k x ≤ 30 := by
  by_cases e : x = -1
  · unfold lenM; rw [if_pos e]; omega
  · obtain ⟨t, ht, rfl⟩ := h.resolve_left e
    obtain ⟨n, h1, h2, h3⟩ := hT.2.2 t ht
    rw [lenM_tk hT.1 ht h2 h1]
    have := spl_len (p := fun j => mu 23 0 (6 * t + j)) (L := fun t => nI (vec mo nT k t)) (S := fun t => nI (psum (vec mo nT k) t)) (row := fun _ => 0) n (fun j hj => PV_Part2 hS.1 hS.2.1 hS.2.2.1 (h3 j hj))
    omega
set_option maxRecDepth 100000 in
set_option maxHeartbeats 4000000 in
theorem j_lengthOf (sg : zI) (ta : zJ) (A nT nt k t : Nat) (mo : Nat → Nat) (hS : SpM sg A nT mo) (hE : TeM sg A nT nt) (hL : LenS sg nT mo k) (ht : t < nt) : zP yX8_lengthOf mX8_lengthOf 0 [.ref (nm 20 0), .int (nI t)] sg ta (pI (nI (lenM sg mo nT k (nI t))) sg ta) := by
  have hnt := hE.1
  have hA := hS.1
  have hT := hS.2.1
  have hm5 := hS.2.2.1
  obtain ⟨n, hn6, hn, hp⟩ := hE.2.2 t ht
  have v5 : ∀ u, u < nT → vec mo nT k u ≤ 5 := vec5 hm5
  have hlen : ∀ j, j ≤ n → (spl (fun j => sg 23 0 (6 * t + j)) (fun t => nI (vec mo nT k t)) (fun t => nI (psum (vec mo nT k) t)) (fun _ => 0) j).length ≤ 5 * j := fun k hk => spl_len k (fun j hj => PV_Part2 hA hT hm5 (hp j (by omega)))
  rw [lenM_tk hnt ht hn hn6]
  refine zP_of (lv := [some (.ref (nm 20 0)), some (.int (nI t)), none, none, none]) (by decide +kernel) rfl (fun h => by cases h) rfl (Nat.le_of_ble_eq_true rfl) ?_
  have loop : ∀ (q j : Nat) (z : Option Value), j + q = n → Zq mX8_lengthOf 0 (pI (nI (spl (fun j => sg 23 0 (6 * t + j)) (fun t => nI (vec mo nT k t)) (fun t => nI (psum (vec mo nT k) t)) (fun _ => 0) n).length) sg ta) sg ta 4 [some (.ref (nm 20 0)), some (.int (nI t)), some (.int (nI (spl (fun j => sg 23 0 (6 * t + j)) (fun t => nI (vec mo nT k t)) (fun t => nI (psum (vec mo nT k) t)) (fun _ => 0) j).length)), some (.int (nI j)), z] [] := by
    intro q
    induction q with
    | zero =>
      intro j z hj
      have : j = n := by omega
      subst this
      refine q_iload_n dX8_lengthOf_4 rfl ?_
      refine q_aload_n dX8_lengthOf_5 rfl ?_
      refine z_get 5 dX8_lengthOf_6 (by first | assumption | decide) (sh_20 _ _ _) rfl (by decide) fl_X8_20 rfl ?_
      refine q_iload_n dX8_lengthOf_9 rfl ?_
      refine z_iald dX8_lengthOf_10 (by first | assumption | decide) rfl (vp_in_nI (n := t) (by omega) (by omega)) ?_
      rw [nI_clamp (by omega), hn]
      refine q_icmp_ge 57 dX8_lengthOf_11 (by decide) (fun g => ?_) (fun g => ?_)
      · refine q_iload_n dX8_lengthOf_57 rfl ?_
        exact z_iret dX8_lengthOf_58 rfl ⟨rfl, rfl, rfl⟩
      · exact absurd (nI_le (by omega) (by omega)) g
    | succ q ih =>
      intro j z hj
      refine q_iload_n dX8_lengthOf_4 rfl ?_
      refine q_aload_n dX8_lengthOf_5 rfl ?_
      refine z_get 5 dX8_lengthOf_6 (by first | assumption | decide) (sh_20 _ _ _) rfl (by decide) fl_X8_20 rfl ?_
      refine q_iload_n dX8_lengthOf_9 rfl ?_
      refine z_iald dX8_lengthOf_10 (by first | assumption | decide) rfl (vp_in_nI (n := t) (by omega) (by omega)) ?_
      rw [nI_clamp (by omega), hn]
      refine q_icmp_ge 57 dX8_lengthOf_11 (by decide) (fun g => ?_) (fun g => ?_)
      · exact absurd g (nI_ge (by omega) (by omega))
      · refine q_aload_n dX8_lengthOf_14 rfl ?_
        refine z_get 6 dX8_lengthOf_15 (by first | assumption | decide) (sh_20 _ _ _) rfl (by decide) fl_X8_23 rfl ?_
        refine q_bipush (v := 6) dX8_lengthOf_18 rfl ?_
        refine q_iload_n dX8_lengthOf_20 rfl ?_
        refine q_imul dX8_lengthOf_21 ?_
        refine q_iload_n dX8_lengthOf_22 rfl ?_
        rw [show (6 : Int32) * nI t = nI (6 * t) from pk_mul 6 t]
        refine q_iadd dX8_lengthOf_23 ?_
        rw [nI_add]
        refine z_iald dX8_lengthOf_24 (by first | assumption | decide) rfl (vp_in_nI (n := 6 * t + j) (by omega) (by omega)) ?_
        rw [nI_clamp (by omega)]
        refine q_istore dX8_lengthOf_25 (Nat.le_of_ble_eq_true rfl) rfl ?_
        dsimp only [List.set]
        refine q_iload_n dX8_lengthOf_27 rfl ?_
        refine q_iload dX8_lengthOf_28 rfl ?_
        refine q_bipush (v := 8) dX8_lengthOf_30 rfl ?_
        rcases hp j (by omega) with ⟨a, ha, e⟩ | ⟨u, hu, e⟩
        · have e2 : (spl (fun j => sg 23 0 (6 * t + j)) (fun t => nI (vec mo nT k t)) (fun t => nI (psum (vec mo nT k) t)) (fun _ => 0) (j + 1)).length = (spl (fun j => sg 23 0 (6 * t + j)) (fun t => nI (vec mo nT k t)) (fun t => nI (psum (vec mo nT k) t)) (fun _ => 0) j).length + 1 := by
            simp only [spl]; rw [e, splP_l (PV_letter (by omega)), List.length_append]; rfl
          rw [e]
          refine q_icmp_ge 39 dX8_lengthOf_32 (by decide) (fun g2 => ?_) (fun g2 => ?_)
          · exact absurd g2 (nI_ge (b := 8) (by omega) (by omega))
          · refine q_iconst (v := 1) dX8_lengthOf_35 rfl ?_
            refine q_goto 49 dX8_lengthOf_36 (by decide) ?_
            refine q_iadd dX8_lengthOf_49 ?_
            rw [nI_1]
            refine s_istore_n 2 dX8_lengthOf_50 rfl (Nat.le_of_ble_eq_true rfl) rfl ?_
            dsimp only [List.set]
            refine q_iinc dX8_lengthOf_51 rfl (Nat.le_of_ble_eq_true rfl) rfl ?_
            dsimp only [List.set]
            refine q_goto 4 dX8_lengthOf_54 (by decide) ?_
            rw [nI_inc]
            have h := ih (j + 1) (some (.int (nI a))) (by omega)
            rw [e2] at h
            exact h
        · have e2 : (spl (fun j => sg 23 0 (6 * t + j)) (fun t => nI (vec mo nT k t)) (fun t => nI (psum (vec mo nT k) t)) (fun _ => 0) (j + 1)).length = (spl (fun j => sg 23 0 (6 * t + j)) (fun t => nI (vec mo nT k t)) (fun t => nI (psum (vec mo nT k) t)) (fun _ => 0) j).length + vec mo nT k u := by
            simp only [spl]; rw [e, splP_t (L := fun t => nI (vec mo nT k t)) (S := fun t => nI (psum (vec mo nT k) t)) (PV_text u) (by omega) rfl (v5 u hu) rfl (psum20 hT v5 hu), List.length_append, List.length_map, List.length_range]
          rw [e]
          refine q_icmp_ge 39 dX8_lengthOf_32 (by decide) (fun g2 => ?_) (fun g2 => ?_)
          · refine q_aload_n dX8_lengthOf_39 rfl ?_
            refine z_get 24 dX8_lengthOf_40 (by first | assumption | decide) (sh_20 _ _ _) rfl (by decide) fl_X8_66 rfl ?_
            refine q_iload dX8_lengthOf_43 rfl ?_
            refine q_bipush (v := 8) dX8_lengthOf_45 rfl ?_
            refine q_isub dX8_lengthOf_47 ?_
            rw [PV_text]
            refine z_iald dX8_lengthOf_48 (by first | assumption | decide) rfl (vp_in_nI (n := u) (by omega) (by omega)) ?_
            rw [nI_clamp (by omega), hL.2 u hu]
            refine q_iadd dX8_lengthOf_49 ?_
            rw [nI_add]
            refine s_istore_n 2 dX8_lengthOf_50 rfl (Nat.le_of_ble_eq_true rfl) rfl ?_
            dsimp only [List.set]
            refine q_iinc dX8_lengthOf_51 rfl (Nat.le_of_ble_eq_true rfl) rfl ?_
            dsimp only [List.set]
            refine q_goto 4 dX8_lengthOf_54 (by decide) ?_
            rw [nI_inc]
            have h := ih (j + 1) (some (.int (nI (8 + u)))) (by omega)
            rw [e2] at h
            exact h
          · exact absurd (nI_le (a := 8) (by omega) (by omega)) g2
  refine q_iconst (v := 0) dX8_lengthOf_0 rfl ?_
  refine s_istore_n 2 dX8_lengthOf_1 rfl (Nat.le_of_ble_eq_true rfl) rfl ?_
  dsimp only [List.set]
  refine q_iconst (v := 0) dX8_lengthOf_2 rfl ?_
  refine s_istore_n 3 dX8_lengthOf_3 rfl (Nat.le_of_ble_eq_true rfl) rfl ?_
  dsimp only [List.set]
  exact loop n 0 none (by omega)
theorem lenM_at {a b : zI} (h22 : b 22 = a 22) (h23 : b 23 = a 23) (mo : Nat → Nat) (nT k : Nat) (x : Int32) : lenM b mo nT k x = lenM a mo nT k x := by
  unfold lenM
  rw [h22, h23]
theorem fitNM_t {mu : zI} {mo : Nat → Nat} {nT nf k : Nat} (h : fitKM mu mo nT nf k) : fitNM mu mo nT nf k = 1 := by unfold fitNM; rw [if_pos h]
theorem fitNM_f {mu : zI} {mo : Nat → Nat} {nT nf k : Nat} (h : ¬ fitKM mu mo nT nf k) : fitNM mu mo nT nf k = 0 := by unfold fitNM; rw [if_neg h]
set_option maxRecDepth 100000 in
set_option maxHeartbeats 16000000 in
theorem j_spans (sg : zI) (ta : zJ) (A nT : Nat) (mo : Nat → Nat) (nt nc nf : Nat) (hM : MoOk sg A nT mo nt nc nf) : zP yX8_spans mX8_spans 1 [.ref (nm 20 0)] sg ta (fun v s t => v = some (.int (nI (sumN (fitNM sg mo nT nf) (kAll mo nT)))) ∧ t = ta ∧ perS sg s) := by
  have hnf := hM.2.2.2.1
  have hT := hM.1.2.1
  refine zP_of (lv := [some (.ref (nm 20 0)), none, none, none, none, none]) (by decide +kernel) rfl (fun h => by cases h) rfl (Nat.le_of_ble_eq_true rfl) ?_
  have outer : ∀ (q k : Nat) (s : zI) (z3 z4 z5 : Option Value), k + q = kAll mo nT → 0 < q → frm [(37, 0), (38, 0)] sg s → LenS s nT mo k → Zq mX8_spans 1 (fun v s t => v = some (.int (nI (sumN (fitNM sg mo nT nf) (kAll mo nT)))) ∧ t = ta ∧ perS sg s) s ta 12 [some (.ref (nm 20 0)), some (.int (nI (sumN (fitNM sg mo nT nf) k))), some (.int 1), z3, z4, z5] [] := by
    intro q
    induction q with
    | zero => intro k s z3 z4 z5 _ h0; omega
    | succ q ih =>
      intro k s z3 z4 z5 hk _ hs hL
      have ps : perS sg s := perS_frm hs (by intro q hq; simp at hq; rcases hq with h | h <;> subst h <;> simp)
      have hM1 := MoOk_S ps hM
      have r : ∀ K, K ≠ 37 → K ≠ 38 → ∀ i, s K i = sg K i := fun K a b i => hs K i (by simp; omega)
      have len : ∀ x, lenM s mo nT k x = lenM sg mo nT k x := fun x => lenM_at (funext (r 22 (by omega) (by omega))) (funext (r 23 (by omega) (by omega))) mo nT k x
      -- behind the inner loop
      have fin : ∀ (F : Int32) (z4 z5 : Option Value), F = bC (fitKM sg mo nT nf k) → Zq mX8_spans 1 (fun v s t => v = some (.int (nI (sumN (fitNM sg mo nT nf) (kAll mo nT)))) ∧ t = ta ∧ perS sg s) s ta 194 [some (.ref (nm 20 0)), some (.int (nI (sumN (fitNM sg mo nT nf) k))), some (.int 1), some (.int F), z4, z5] [] := by
        intro F z4 z5 hF
        have go : ∀ G : Int32, G = nI (sumN (fitNM sg mo nT nf) (k + 1)) → Zq mX8_spans 1 (fun v s t => v = some (.int (nI (sumN (fitNM sg mo nT nf) (kAll mo nT)))) ∧ t = ta ∧ perS sg s) s ta 205 [some (.ref (nm 20 0)), some (.int (nI (sumN (fitNM sg mo nT nf) k))), some (.int 1), some (.int F), z4, z5] [.int G] := by
          intro G hG
          refine s_istore_n 1 dX8_spans_205 rfl (Nat.le_of_ble_eq_true rfl) rfl ?_
          dsimp only [List.set]
          refine q_aload_n dX8_spans_206 rfl ?_
          refine z_callV (j_nextLengths s ta A nT mo k hM1.1 hL) kV_X8_152 dX8_spans_207 (by first | assumption | decide) (sh_20 _ _ _) rfl rfl rfl (by omega) (Nat.le_of_ble_eq_true rfl) (Nat.le_refl _) (Nat.le_refl _) rfl (fun v s3 t3 h => ?_)
          obtain ⟨rfl, hf3, hh⟩ := h
          dsimp only [Option.toList, List.cons_append, List.nil_append]
          have hs3 : frm [(37, 0), (38, 0)] sg s3 := frm_trans hs (frm_mono (by simp) hf3)
          rcases hh with ⟨hlt, rfl, hL3⟩ | ⟨heq, rfl⟩
          · dsimp only [Option.toList, List.cons_append, List.nil_append]
            refine s_istore_n 2 dX8_spans_210 rfl (Nat.le_of_ble_eq_true rfl) rfl ?_
            dsimp only [List.set]
            refine q_goto 8 dX8_spans_211 (by decide) ?_
            refine q_iload_n dX8_spans_8 rfl ?_
            refine q_if_eq 214 dX8_spans_9 (by decide) (fun g => ?_) (fun g => ?_)
            · exact absurd g (by decide)
            · rw [hG]
              exact ih (k + 1) s3 _ _ _ (by omega) (by omega) hs3 hL3
          · dsimp only [Option.toList, List.cons_append, List.nil_append]
            refine s_istore_n 2 dX8_spans_210 rfl (Nat.le_of_ble_eq_true rfl) rfl ?_
            dsimp only [List.set]
            refine q_goto 8 dX8_spans_211 (by decide) ?_
            refine q_iload_n dX8_spans_8 rfl ?_
            refine q_if_eq 214 dX8_spans_9 (by decide) (fun g => ?_) (fun g => ?_)
            · refine q_iload_n dX8_spans_214 rfl ?_
              refine z_iret dX8_spans_215 rfl ⟨?_, rfl, perS_frm hs3 (by intro q hq; simp at hq; rcases hq with h | h <;> subst h <;> simp)⟩
              rw [hG, heq]
            · exact absurd rfl g
        have e : sumN (fitNM sg mo nT nf) (k + 1) = sumN (fitNM sg mo nT nf) k + fitNM sg mo nT nf k := rfl
        refine q_iload_n dX8_spans_194 rfl ?_
        refine q_iload_n dX8_spans_195 rfl ?_
        refine q_if_eq 203 dX8_spans_196 (by decide) (fun g => ?_) (fun g => ?_)
        · rw [hF] at g
          rw [fitNM_f (bC_z.mp g)] at e
          refine q_iconst (v := 0) dX8_spans_203 rfl ?_
          refine q_iadd dX8_spans_204 ?_
          exact go _ (by rw [e]; exact nI_add _ 0)
        · rw [hF] at g
          rw [fitNM_t (bC_nz.mp g)] at e
          refine q_iconst (v := 1) dX8_spans_199 rfl ?_
          refine q_goto 204 dX8_spans_200 (by decide) ?_
          refine q_iadd dX8_spans_204 ?_
          exact go _ (by rw [e]; exact nI_add _ 1)
      have inner : ∀ (p f : Nat) (F : Int32) (z5 : Option Value), f + p = nf → F = bC (∀ g, g < f → sg 33 0 g = 0 → fit1M sg mo nT k g) → Zq mX8_spans 1 (fun v s t => v = some (.int (nI (sumN (fitNM sg mo nT nf) (kAll mo nT)))) ∧ t = ta ∧ perS sg s) s ta 17 [some (.ref (nm 20 0)), some (.int (nI (sumN (fitNM sg mo nT nf) k))), some (.int 1), some (.int F), some (.int (nI f)), z5] [] := by
        intro p
        induction p with
        | zero =>
          intro f F z5 hf hF
          have : f = nf := by omega
          subst this
          refine q_iload dX8_spans_17 rfl ?_
          refine q_aload_n dX8_spans_19 rfl ?_
          refine z_get 11 dX8_spans_20 (by first | assumption | decide) (sh_20 _ _ _) rfl (by decide) fl_X8_98 rfl ?_
          rw [r 20 (by omega) (by omega), hM.2.2.2.2.1]
          refine q_icmp_ge 194 dX8_spans_23 (by decide) (fun g => ?_) (fun g => ?_)
          · exact fin F _ _ hF
          · exact absurd (nI_le (by omega) (by omega)) g
        | succ p ihp =>
          intro f F z5 hf hF
          have f10 : f < 10 := by omega
          obtain ⟨kd, h1, h2, h3, h4, h5, h6, h7, h8, h01, -⟩ := hM.2.2.2.2.2 f (by omega)
          have la := lenM_30 (k := k) (mo := mo) hM.1 hM.2.1 (Or.inr h3)
          refine q_iload dX8_spans_17 rfl ?_
          refine q_aload_n dX8_spans_19 rfl ?_
          refine z_get 11 dX8_spans_20 (by first | assumption | decide) (sh_20 _ _ _) rfl (by decide) fl_X8_98 rfl ?_
          rw [r 20 (by omega) (by omega), hM.2.2.2.2.1]
          refine q_icmp_ge 194 dX8_spans_23 (by decide) (fun g => ?_) (fun g => ?_)
          · exact absurd g (nI_ge (by omega) (by omega))
          · refine q_iload_n dX8_spans_26 rfl ?_
            refine q_if_eq 194 dX8_spans_27 (by decide) (fun gF => ?_) (fun gF => ?_)
            · rw [hF] at gF
              have hn := bC_z.mp gF
              refine fin F _ _ ?_
              rw [hF, bC_f hn, bC_f (fun q => hn (fun g hg ho => q g (by omega) ho))]
            · rw [hF] at gF
              have hpre := bC_nz.mp gF
              -- on to the next formula
              have on : ∀ (G : Int32) (z5 : Option Value), G = bC (sg 33 0 f = 0 → fit1M sg mo nT k f) → Zq mX8_spans 1 (fun v s t => v = some (.int (nI (sumN (fitNM sg mo nT nf) (kAll mo nT)))) ∧ t = ta ∧ perS sg s) s ta 188 [some (.ref (nm 20 0)), some (.int (nI (sumN (fitNM sg mo nT nf) k))), some (.int 1), some (.int G), some (.int (nI f)), z5] [] := by
                intro G z5 hG
                refine q_iinc dX8_spans_188 rfl (Nat.le_of_ble_eq_true rfl) rfl ?_
                dsimp only [List.set]
                refine q_goto 17 dX8_spans_191 (by decide) ?_
                rw [nI_inc]
                refine ihp (f + 1) G z5 (by omega) ?_
                rw [hG]
                apply bC_iff
                constructor
                · intro q g hg ho
                  by_cases e : g = f
                  · subst e; exact q ho
                  · exact hpre g (by omega) ho
                · intro q ho; exact q f (by omega) ho
              have F1 : F = 1 := by rw [hF, bC_t hpre]
              -- nothing is asked of it
              have quiet : ∀ z5, (sg 33 0 f = 0 → fit1M sg mo nT k f) → Zq mX8_spans 1 (fun v s t => v = some (.int (nI (sumN (fitNM sg mo nT nf) (kAll mo nT)))) ∧ t = ta ∧ perS sg s) s ta 188 [some (.ref (nm 20 0)), some (.int (nI (sumN (fitNM sg mo nT nf) k))), some (.int 1), some (.int F), some (.int (nI f)), z5] [] := fun z5 h => on F z5 (by rw [F1, bC_t h])
              have z1 : (27 : Nat) ≠ 37 := by omega
              -- the second test
              have second : (¬ sg 33 0 f = 0 ∨ kd ≠ 1) → Zq mX8_spans 1 (fun v s t => v = some (.int (nI (sumN (fitNM sg mo nT nf) (kAll mo nT)))) ∧ t = ta ∧ perS sg s) s ta 127 [some (.ref (nm 20 0)), some (.int (nI (sumN (fitNM sg mo nT nf) k))), some (.int 1), some (.int F), some (.int (nI f)), z5] [] := by
                intro hor
                refine q_aload_n dX8_spans_127 rfl ?_
                refine z_get 18 dX8_spans_128 (by first | assumption | decide) (sh_20 _ _ _) rfl (by decide) fl_X8_54 rfl ?_
                refine q_iload dX8_spans_131 rfl ?_
                refine z_zald dX8_spans_133 (by first | assumption | decide) rfl (vp_in_nI (n := f) f10 (by omega)) ?_
                rw [nI_clamp (by omega), r 33 (by omega) (by omega)]
                refine q_if_ne 188 dX8_spans_134 (by decide) (fun q1 => ?_) (fun q1 => ?_)
                · exact quiet _ (fun z => absurd z q1)
                · have k1 : kd ≠ 1 := hor.resolve_left (fun z => z q1)
                  have n1 : ¬ sg 27 0 f = 1 := fun z => k1 ((nI_eq (b := 1) (by omega) (by omega)).mp (h2.symm.trans z))
                  refine q_aload_n dX8_spans_137 rfl ?_
                  refine z_get 12 dX8_spans_138 (by first | assumption | decide) (sh_20 _ _ _) rfl (by decide) fl_X8_36 rfl ?_
                  refine q_iload dX8_spans_141 rfl ?_
                  refine z_iald dX8_spans_143 (by first | assumption | decide) rfl (vp_in_nI (n := f) f10 (by omega)) ?_
                  rw [nI_clamp (by omega), r 27 (by omega) (by omega), h2]
                  refine q_if_ne 188 dX8_spans_144 (by decide) (fun q2 => ?_) (fun q2 => ?_)
                  · have n0 : ¬ sg 27 0 f = 0 := fun z => q2 (h2.symm.trans z)
                    exact quiet _ (fun _ => ⟨fun z => absurd z n1, fun z => absurd z n0⟩)
                  · have k0 : kd = 0 := (nI_eq (b := 0) (by omega) (by omega)).mp q2
                    refine q_aload_n dX8_spans_147 rfl ?_
                    refine z_get 17 dX8_spans_148 (by first | assumption | decide) (sh_20 _ _ _) rfl (by decide) fl_X8_51 rfl ?_
                    refine q_iload dX8_spans_151 rfl ?_
                    refine z_zald dX8_spans_153 (by first | assumption | decide) rfl (vp_in_nI (n := f) f10 (by omega)) ?_
                    rw [nI_clamp (by omega), r 32 (by omega) (by omega)]
                    refine q_if_ne 188 dX8_spans_154 (by decide) (fun q3 => ?_) (fun q3 => ?_)
                    · exact quiet _ (fun _ => ⟨fun z => absurd z n1, fun _ z => absurd z q3⟩)
                    · obtain ⟨ia, hia, ea⟩ := h3
                      have hb' := h4 (by omega) (by omega) (by omega)
                      obtain ⟨ib, hib, eb⟩ := id hb'
                      have lb := lenM_30 (k := k) (mo := mo) hM.1 hM.2.1 (Or.inr hb')
                      refine q_aload_n dX8_spans_157 rfl ?_
                      refine q_aload_n dX8_spans_158 rfl ?_
                      refine z_get 13 dX8_spans_159 (by first | assumption | decide) (sh_20 _ _ _) rfl (by decide) fl_X8_39 rfl ?_
                      refine q_iload dX8_spans_162 rfl ?_
                      refine z_iald dX8_spans_164 (by first | assumption | decide) rfl (vp_in_nI (n := f) f10 (by omega)) ?_
                      rw [nI_clamp (by omega), r 28 (by omega) (by omega), ea]
                      refine z_callV (j_lengthOf s ta A nT nt k ia mo hM1.1 hM1.2.1 hL hia) kV_X8_177 dX8_spans_165 (by first | assumption | decide) (sh_20 _ _ _) rfl rfl rfl (by omega) (Nat.le_of_ble_eq_true rfl) (Nat.le_refl _) (Nat.le_refl _) rfl (fun v s3 t3 h => ?_)
                      obtain ⟨rfl, rfl, rfl⟩ := h
                      dsimp only [Option.toList, List.cons_append, List.nil_append]
                      refine q_aload_n dX8_spans_168 rfl ?_
                      refine q_aload_n dX8_spans_169 rfl ?_
                      refine z_get 14 dX8_spans_170 (by first | assumption | decide) (sh_20 _ _ _) rfl (by decide) fl_X8_42 rfl ?_
                      refine q_iload dX8_spans_173 rfl ?_
                      refine z_iald dX8_spans_175 (by first | assumption | decide) rfl (vp_in_nI (n := f) f10 (by omega)) ?_
                      rw [nI_clamp (by omega), r 29 (by omega) (by omega), eb]
                      refine z_callV (j_lengthOf s3 t3 A nT nt k ib mo hM1.1 hM1.2.1 hL hib) kV_X8_177 dX8_spans_176 (by first | assumption | decide) (sh_20 _ _ _) rfl rfl rfl (by omega) (Nat.le_of_ble_eq_true rfl) (Nat.le_refl _) (Nat.le_refl _) rfl (fun v s4 t4 h => ?_)
                      obtain ⟨rfl, rfl, rfl⟩ := h
                      dsimp only [Option.toList, List.cons_append, List.nil_append]
                      rw [len, len, ← ea, ← eb]
                      have hfit : (sg 33 0 f = 0 → fit1M sg mo nT k f) ↔ lenM sg mo nT k (sg 28 0 f) = lenM sg mo nT k (sg 29 0 f) := ⟨fun h => (h q1).2 (h2.trans q2) q3, fun h _ => ⟨fun z => absurd z n1, fun _ _ => h⟩⟩
                      refine q_icmp_ne 186 dX8_spans_179 (by decide) (fun q4 => ?_) (fun q4 => ?_)
                      · refine q_iconst (v := 0) dX8_spans_186 rfl ?_
                        refine s_istore_n 3 dX8_spans_187 rfl (Nat.le_of_ble_eq_true rfl) rfl ?_
                        dsimp only [List.set]
                        exact on 0 _ (by rw [bC_f (fun z => q4 (by rw [hfit.mp z]))])
                      · refine q_iconst (v := 1) dX8_spans_182 rfl ?_
                        refine q_goto 187 dX8_spans_183 (by decide) ?_
                        refine s_istore_n 3 dX8_spans_187 rfl (Nat.le_of_ble_eq_true rfl) rfl ?_
                        dsimp only [List.set]
                        exact on 1 _ (by rw [bC_t (hfit.mpr ((nI_eq (by omega) (by omega)).mp q4))])
              refine q_aload_n dX8_spans_30 rfl ?_
              refine z_get 18 dX8_spans_31 (by first | assumption | decide) (sh_20 _ _ _) rfl (by decide) fl_X8_54 rfl ?_
              refine q_iload dX8_spans_34 rfl ?_
              refine z_zald dX8_spans_36 (by first | assumption | decide) rfl (vp_in_nI (n := f) f10 (by omega)) ?_
              rw [nI_clamp (by omega), r 33 (by omega) (by omega)]
              refine q_if_ne 127 dX8_spans_37 (by decide) (fun q1 => ?_) (fun q1 => ?_)
              · exact second (Or.inl q1)
              · refine q_aload_n dX8_spans_40 rfl ?_
                refine z_get 12 dX8_spans_41 (by first | assumption | decide) (sh_20 _ _ _) rfl (by decide) fl_X8_36 rfl ?_
                refine q_iload dX8_spans_44 rfl ?_
                refine z_iald dX8_spans_46 (by first | assumption | decide) rfl (vp_in_nI (n := f) f10 (by omega)) ?_
                refine q_iconst (v := 1) dX8_spans_47 rfl ?_
                rw [nI_clamp (by omega), r 27 (by omega) (by omega), h2]
                refine q_icmp_ne 127 dX8_spans_48 (by decide) (fun q2 => ?_) (fun q2 => ?_)
                · exact second (Or.inr (fun z => q2 (by rw [z]; rfl)))
                · have k1 : kd = 1 := (nI_eq (b := 1) (by omega) (by omega)).mp q2
                  obtain ⟨hb, c1, c2⟩ := h5 k1
                  have lb := lenM_30 (k := k) (mo := mo) hM.1 hM.2.1 hb
                  obtain ⟨ia, hia, ea⟩ := h3
                  have key := longer_iff (c := sg 30 0 f) la lb c1 c2
                  have hfit : (sg 33 0 f = 0 → fit1M sg mo nT k f) ↔ ((sg 30 0 f).toInt ≤ (lenM sg mo nT k (sg 28 0 f) : Int) - lenM sg mo nT k (sg 29 0 f) ↔ sg 32 0 f = 0) := ⟨fun h => (h q1).1 (h2.trans q2), fun h _ => ⟨fun _ => h, fun z => absurd (h2.symm.trans z) (by rw [k1]; decide)⟩⟩
                  -- behind the comparison
                  have cmp : ∀ S : Int32, S = bC ((sg 30 0 f).toInt ≤ (lenM sg mo nT k (sg 28 0 f) : Int) - lenM sg mo nT k (sg 29 0 f)) → Zq mX8_spans 1 (fun v s t => v = some (.int (nI (sumN (fitNM sg mo nT nf) (kAll mo nT)))) ∧ t = ta ∧ perS sg s) s ta 104 [some (.ref (nm 20 0)), some (.int (nI (sumN (fitNM sg mo nT nf) k))), some (.int 1), some (.int F), some (.int (nI f)), z5] [.int S] := by
                    intro S hS
                    refine q_istore dX8_spans_104 (Nat.le_of_ble_eq_true rfl) rfl ?_
                    dsimp only [List.set]
                    refine q_iload dX8_spans_106 rfl ?_
                    refine q_aload_n dX8_spans_108 rfl ?_
                    refine z_get 17 dX8_spans_109 (by first | assumption | decide) (sh_20 _ _ _) rfl (by decide) fl_X8_51 rfl ?_
                    refine q_iload dX8_spans_112 rfl ?_
                    refine z_zald dX8_spans_114 (by first | assumption | decide) rfl (vp_in_nI (n := f) f10 (by omega)) ?_
                    rw [nI_clamp (by omega), r 32 (by omega) (by omega)]
                    refine q_icmp_eq 122 dX8_spans_115 (by decide) (fun q3 => ?_) (fun q3 => ?_)
                    · refine q_iconst (v := 0) dX8_spans_122 rfl ?_
                      refine s_istore_n 3 dX8_spans_123 rfl (Nat.le_of_ble_eq_true rfl) rfl ?_
                      dsimp only [List.set]
                      refine q_goto 188 dX8_spans_124 (by decide) ?_
                      refine on 0 _ ?_
                      rw [bC_f]
                      intro z
                      have zz := hfit.mp z
                      rw [hS] at q3
                      by_cases y : (sg 30 0 f).toInt ≤ (lenM sg mo nT k (sg 28 0 f) : Int) - lenM sg mo nT k (sg 29 0 f)
                      · rw [bC_t y, zz.mp y] at q3; exact absurd q3 (by decide)
                      · rw [bC_f y] at q3; exact y (zz.mpr q3.symm)
                    · refine q_iconst (v := 1) dX8_spans_118 rfl ?_
                      refine q_goto 123 dX8_spans_119 (by decide) ?_
                      refine s_istore_n 3 dX8_spans_123 rfl (Nat.le_of_ble_eq_true rfl) rfl ?_
                      dsimp only [List.set]
                      refine q_goto 188 dX8_spans_124 (by decide) ?_
                      refine on 1 _ ?_
                      rw [bC_t]
                      refine hfit.mpr ?_
                      rw [hS] at q3
                      by_cases y : (sg 30 0 f).toInt ≤ (lenM sg mo nT k (sg 28 0 f) : Int) - lenM sg mo nT k (sg 29 0 f)
                      · rw [bC_t y] at q3
                        rcases h01 with z | z
                        · exact ⟨fun _ => z, fun _ => y⟩
                        · exact absurd z.symm q3
                      · rw [bC_f y] at q3
                        rcases h01 with z | z
                        · exact absurd z.symm q3
                        · exact ⟨fun x => absurd x y, fun x => by rw [z] at x; exact absurd x (by decide)⟩
                  have lastP : ∀ m : Nat, m = lenM sg mo nT k (sg 29 0 f) → Zq mX8_spans 1 (fun v s t => v = some (.int (nI (sumN (fitNM sg mo nT nf) (kAll mo nT)))) ∧ t = ta ∧ perS sg s) s ta 88 [some (.ref (nm 20 0)), some (.int (nI (sumN (fitNM sg mo nT nf) k))), some (.int 1), some (.int F), some (.int (nI f)), z5] [.int (nI m), .int (nI (lenM sg mo nT k (sg 28 0 f)))] := by
                    intro m hm
                    subst hm
                    refine q_aload_n dX8_spans_88 rfl ?_
                    refine z_get 15 dX8_spans_89 (by first | assumption | decide) (sh_20 _ _ _) rfl (by decide) fl_X8_45 rfl ?_
                    refine q_iload dX8_spans_92 rfl ?_
                    refine z_iald dX8_spans_94 (by first | assumption | decide) rfl (vp_in_nI (n := f) f10 (by omega)) ?_
                    refine q_iadd dX8_spans_95 ?_
                    rw [nI_clamp (by omega), r 30 (by omega) (by omega)]
                    refine q_icmp_lt 103 dX8_spans_96 (by decide) (fun q3 => ?_) (fun q3 => ?_)
                    · refine q_iconst (v := 0) dX8_spans_103 rfl ?_
                      exact cmp 0 (by rw [bC_f (key.mp q3)])
                    · refine q_iconst (v := 1) dX8_spans_99 rfl ?_
                      refine q_goto 104 dX8_spans_100 (by decide) ?_
                      exact cmp 1 (by rw [bC_t (Classical.not_not.mp (fun n => q3 (key.mpr n)))])
                  refine q_aload_n dX8_spans_51 rfl ?_
                  refine q_aload_n dX8_spans_52 rfl ?_
                  refine z_get 13 dX8_spans_53 (by first | assumption | decide) (sh_20 _ _ _) rfl (by decide) fl_X8_39 rfl ?_
                  refine q_iload dX8_spans_56 rfl ?_
                  refine z_iald dX8_spans_58 (by first | assumption | decide) rfl (vp_in_nI (n := f) f10 (by omega)) ?_
                  rw [nI_clamp (by omega), r 28 (by omega) (by omega), ea]
                  refine z_callV (j_lengthOf s ta A nT nt k ia mo hM1.1 hM1.2.1 hL hia) kV_X8_177 dX8_spans_59 (by first | assumption | decide) (sh_20 _ _ _) rfl rfl rfl (by omega) (Nat.le_of_ble_eq_true rfl) (Nat.le_refl _) (Nat.le_refl _) rfl (fun v s3 t3 h => ?_)
                  obtain ⟨rfl, rfl, rfl⟩ := h
                  dsimp only [Option.toList, List.cons_append, List.nil_append]
                  rw [len, ← ea]
                  refine q_aload_n dX8_spans_62 rfl ?_
                  refine z_get 14 dX8_spans_63 (by first | assumption | decide) (sh_20 _ _ _) rfl (by decide) fl_X8_42 rfl ?_
                  refine q_iload dX8_spans_66 rfl ?_
                  refine z_iald dX8_spans_68 (by first | assumption | decide) rfl (vp_in_nI (n := f) f10 (by omega)) ?_
                  refine q_iconst (v := (-1)) dX8_spans_69 rfl ?_
                  rw [nI_clamp (by omega), r 29 (by omega) (by omega)]
                  refine q_icmp_ne 77 dX8_spans_70 (by decide) (fun q3 => ?_) (fun q3 => ?_)
                  · obtain ⟨ib, hib, eb⟩ := hb.resolve_left q3
                    refine q_aload_n dX8_spans_77 rfl ?_
                    refine q_aload_n dX8_spans_78 rfl ?_
                    refine z_get 14 dX8_spans_79 (by first | assumption | decide) (sh_20 _ _ _) rfl (by decide) fl_X8_42 rfl ?_
                    refine q_iload dX8_spans_82 rfl ?_
                    refine z_iald dX8_spans_84 (by first | assumption | decide) rfl (vp_in_nI (n := f) f10 (by omega)) ?_
                    rw [nI_clamp (by omega), r 29 (by omega) (by omega), eb]
                    refine z_callV (j_lengthOf s3 t3 A nT nt k ib mo hM1.1 hM1.2.1 hL hib) kV_X8_177 dX8_spans_85 (by first | assumption | decide) (sh_20 _ _ _) rfl rfl rfl (by omega) (Nat.le_of_ble_eq_true rfl) (Nat.le_refl _) (Nat.le_refl _) rfl (fun v s4 t4 h => ?_)
                    obtain ⟨rfl, rfl, rfl⟩ := h
                    dsimp only [Option.toList, List.cons_append, List.nil_append]
                    rw [len]
                    exact lastP _ (by rw [eb])
                  · refine q_iconst (v := 0) dX8_spans_73 rfl ?_
                    refine q_goto 88 dX8_spans_74 (by decide) ?_
                    exact lastP 0 (by unfold lenM; rw [if_pos q3])
      refine q_iconst (v := 1) dX8_spans_12 rfl ?_
      refine s_istore_n 3 dX8_spans_13 rfl (Nat.le_of_ble_eq_true rfl) rfl ?_
      dsimp only [List.set]
      refine q_iconst (v := 0) dX8_spans_14 rfl ?_
      refine q_istore dX8_spans_15 (Nat.le_of_ble_eq_true rfl) rfl ?_
      dsimp only [List.set]
      exact inner nf 0 1 _ (by omega) (bC_t (fun g hg => absurd hg (by omega))).symm
  refine q_iconst (v := 0) dX8_spans_0 rfl ?_
  refine s_istore_n 1 dX8_spans_1 rfl (Nat.le_of_ble_eq_true rfl) rfl ?_
  dsimp only [List.set]
  refine q_aload_n dX8_spans_2 rfl ?_
  refine z_callV (j_first sg ta) kV_X8_158 dX8_spans_3 (by first | assumption | decide) (sh_20 _ _ _) rfl rfl rfl (by omega) (Nat.le_of_ble_eq_true rfl) (Nat.le_refl _) (Nat.le_refl _) rfl (fun v s1 t1 h => ?_)
  obtain ⟨rfl, rfl, hf, h37, h38⟩ := h
  dsimp only [Option.toList, List.cons_append, List.nil_append]
  refine q_iconst (v := 1) dX8_spans_6 rfl ?_
  refine s_istore_n 2 dX8_spans_7 rfl (Nat.le_of_ble_eq_true rfl) rfl ?_
  dsimp only [List.set]
  refine q_iload_n dX8_spans_8 rfl ?_
  refine q_if_eq 214 dX8_spans_9 (by decide) (fun g => ?_) (fun g => ?_)
  · exact absurd g (by decide)
  · exact outer (kAll mo nT) 0 s1 none none none (by omega) (kAll_pos mo nT) hf (first_Len hT h37)
