/-! THE REFERENCE: models are looked for -/
def frS (sg s : zI) : Prop := ∀ K i j, ¬ (37 ≤ K ∧ K ≤ 41) → ¬ (K = 20 ∧ j = 29) → s K i j = sg K i j
def perS (sg s : zI) : Prop := ∀ K i j, ¬ (37 ≤ K ∧ K ≤ 43) → ¬ (K = 20 ∧ j = 29) → s K i j = sg K i j
theorem frS_refl (a : zI) : frS a a := fun _ _ _ _ _ => rfl
theorem frS_trans {a b c : zI} (h : frS a b) (h2 : frS b c) : frS a c := fun K i j x y => (h2 K i j x y).trans (h K i j x y)
theorem perS_refl (a : zI) : perS a a := fun _ _ _ _ _ => rfl
theorem perS_trans {a b c : zI} (h : perS a b) (h2 : perS b c) : perS a c := fun K i j x y => (h2 K i j x y).trans (h K i j x y)
theorem perS_S {a b : zI} (h : frS a b) : perS a b := fun K i j x y => h K i j (by omega) y
theorem perS_I {a b : zI} (h : frI a b) : perS a b := fun K i j x y => h K i j (by omega) (by omega) (by omega) y
theorem frS_I {a b : zI} (h : frI a b) : frS a b := fun K i j x y => h K i j (by omega) (by omega) (by omega) y
theorem frS_frm {ks : List (Nat × Nat)} {a b : zI} (h : frm ks a b) (hk : ∀ q ∈ ks, 37 ≤ q.1 ∧ q.1 ≤ 41) : frS a b := fun K i j x y => by rw [h K i (fun q => x (hk _ q))]
theorem perS_frm {ks : List (Nat × Nat)} {a b : zI} (h : frm ks a b) (hk : ∀ q ∈ ks, 37 ≤ q.1 ∧ q.1 ≤ 43) : perS a b := fun K i j x y => by rw [h K i (fun q => x (hk _ q))]
theorem frS_row {a b : zI} (h : frS a b) {K : Nat} (h1 : K < 37 ∨ 41 < K) (h4 : K ≠ 20) : b K = a K := by
  funext i j
  exact h K i j (by omega) (fun q => h4 q.1)
theorem perS_row {a b : zI} (h : perS a b) {K : Nat} (h1 : K < 37 ∨ 43 < K) (h4 : K ≠ 20) : b K = a K := by
  funext i j
  exact h K i j (by omega) (fun q => h4 q.1)
theorem perS_20 {a b : zI} (h : perS a b) {j : Nat} (hj : j ≠ 29) : b 20 0 j = a 20 0 j := h 20 0 j (by omega) (by omega)
theorem MoOk_S {a b : zI} (h : perS a b) {A nT : Nat} {mo : Nat → Nat} {nt nc nf : Nat} (hM : MoOk a A nT mo nt nc nf) : MoOk b A nT mo nt nc nf := MoOk_fr (a := a) (b := b) (fun K x y => perS_row h (by omega) (by omega)) (fun j hj => perS_20 h hj) hM
theorem trM_S {a b : zI} (h : perS a b) (A nT : Nat) (mo : Nat → Nat) (w f : Nat) : trM b A nT mo w f ↔ trM a A nT mo w f := trM_at (fun K x y => perS_row h (by omega) (by omega)) A nT mo w f
theorem mdlM_S {a b : zI} (h : perS a b) (A nT : Nat) (mo : Nat → Nat) (nf m w : Nat) : mdlM b A nT mo nf m w ↔ mdlM a A nT mo nf m w := by
  unfold mdlM
  constructor
  · intro q f hf hb
    have := q f hf hb
    rw [trM_S h, perS_row h (K := 32) (by omega) (by omega)] at this
    exact this
  · intro q f hf hb
    rw [trM_S h, perS_row h (K := 32) (by omega) (by omega)]
    exact q f hf hb
theorem mN_S {a b : zI} (h : perS a b) (A nT : Nat) (mo : Nat → Nat) (nf m : Nat) : mN b A nT mo nf m = mN a A nT mo nf m := by
  funext w
  by_cases g : mdlM a A nT mo nf m w
  · rw [mN_t g, mN_t ((mdlM_S h A nT mo nf m w).mpr g)]
  · rw [mN_f g, mN_f (fun q => g ((mdlM_S h A nT mo nf m w).mp q))]
theorem hMM_S {a b : zI} (h : perS a b) (A nT : Nat) (mo : Nat → Nat) (nf m : Nat) : hMM b A nT mo nf m ↔ hMM a A nT mo nf m :=
  ⟨fun ⟨w, x, y⟩ => ⟨w, x, (mdlM_S h A nT mo nf m w).mp y⟩, fun ⟨w, x, y⟩ => ⟨w, x, (mdlM_S h A nT mo nf m w).mpr y⟩⟩
theorem mask_S {a b : zI} (h : perS a b) {nf m : Nat} (hm : mask0 a nf m) : mask0 b nf m := by
  unfold mask0 at *
  rw [perS_row h (by omega) (by omega)]
  exact hm
set_option maxRecDepth 100000 in
set_option maxHeartbeats 4000000 in
theorem j_next (sg : zI) (ta : zJ) (A nT : Nat) (mo : Nat → Nat) (w : Nat) (hS : SpM sg A nT mo) (hR : RwS sg A nT mo w) : zP yX8_next mX8_next 1 [.ref (nm 20 0)] sg ta (fun v s t => t = ta ∧ frm [(37, 0), (38, 0)] sg s ∧ ((w + 1 < wSize A mo nT ∧ v = some (.int 1) ∧ RwS s A nT mo (w + 1)) ∨ (w + 1 = wSize A mo nT ∧ v = some (.int 0)))) := by
  refine zP_of (lv := [some (.ref (nm 20 0))]) (by decide +kernel) rfl (fun h => by cases h) rfl (Nat.le_of_ble_eq_true rfl) ?_
  refine q_aload_n dX8_next_0 rfl ?_
  refine z_callV (j_nextLetters sg ta A nT mo w hS hR) kV_X8_149 dX8_next_1 (by first | assumption | decide) (sh_20 _ _ _) rfl rfl rfl (by omega) (Nat.le_of_ble_eq_true rfl) (Nat.le_refl _) (Nat.le_refl _) rfl (fun v s1 t1 h => ?_)
  obtain ⟨rfl, hf, hh⟩ := h
  dsimp only [Option.toList, List.cons_append, List.nil_append]
  rcases hh with ⟨rfl, hr⟩ | ⟨rfl, he, hz⟩
  · dsimp only [Option.toList, List.cons_append, List.nil_append]
    refine q_if_ne 14 dX8_next_4 (by decide) (fun g => ?_) (fun g => ?_)
    · refine q_iconst (v := 1) dX8_next_14 rfl ?_
      refine q_goto 19 dX8_next_15 (by decide) ?_
      exact z_zret dX8_next_19 rfl (Or.inr rfl) ⟨rfl, frm_mono (by simp) hf, Or.inl ⟨hr.1, rfl, hr⟩⟩
    · exact absurd g (by decide)
  · dsimp only [Option.toList, List.cons_append, List.nil_append]
    refine q_if_ne 14 dX8_next_4 (by decide) (fun g => ?_) (fun g => ?_)
    · exact absurd rfl g
    · have hS1 : SpM s1 A nT mo := SpM_at (by rw [hf 20 0 (by simp)]) (by rw [hf 20 0 (by simp)]) (by rw [hf 20 0 (by simp)]) (hf 21 0 (by simp)) hS
      have hin := kOf_in hR.1
      have hL1 : LenS s1 nT mo (kOf A mo nT w) := ⟨hin.1, fun t ht => by rw [hf 37 0 (by simp)]; exact hR.2.1.1 t ht⟩
      refine q_aload_n dX8_next_7 rfl ?_
      refine z_callV (j_nextLengths s1 t1 A nT mo _ hS1 hL1) kV_X8_152 dX8_next_8 (by first | assumption | decide) (sh_20 _ _ _) rfl rfl rfl (by omega) (Nat.le_of_ble_eq_true rfl) (Nat.le_refl _) (Nat.le_refl _) rfl (fun v s2 t2 h => ?_)
      obtain ⟨rfl, hf2, hh2⟩ := h
      dsimp only [Option.toList, List.cons_append, List.nil_append]
      have hf12 : frm [(37, 0), (38, 0)] sg s2 := frm_trans (frm_mono (by simp) hf) (frm_mono (by simp) hf2)
      rcases hh2 with ⟨hlt, rfl, hL2⟩ | ⟨heq, rfl⟩
      · dsimp only [Option.toList, List.cons_append, List.nil_append]
        have hA := hS.1
        have hk2 : wIn A mo nT (w + 1) (kOf A mo nT w + 1) := by
          refine ⟨hlt, by omega, ?_⟩
          rw [wFst_s A mo nT (kOf A mo nT w + 1), ← he]
          have : 0 < A ^ wTot mo nT (kOf A mo nT w + 1) := Nat.pow_pos (by omega)
          omega
        have ek := kOf_eq hk2
        have hlt2 : w + 1 < wSize A mo nT := Nat.lt_of_lt_of_le hk2.2.2 (wFst_le A mo nT hk2.1)
        refine q_if_eq 18 dX8_next_11 (by decide) (fun g2 => ?_) (fun g2 => ?_)
        · exact absurd g2 (by decide)
        · refine q_iconst (v := 1) dX8_next_14 rfl ?_
          refine q_goto 19 dX8_next_15 (by decide) ?_
          refine z_zret dX8_next_19 rfl (Or.inr rfl) ⟨rfl, hf12, Or.inl ⟨hlt2, rfl, hlt2, ⟨fun t ht => by rw [ek]; exact hL2.2 t ht, fun t ht i hi => ?_⟩, fun t ht i _ h5 => ?_⟩⟩
          · rw [ek] at hi
            have v5 := vec5 (k := kOf A mo nT w + 1) hS.2.2.1 t ht
            rw [hf2 38 0 (by simp), hz t ht i (by omega)]
            unfold wLet
            rw [ek, show w + 1 - wFst A mo nT (kOf A mo nT w + 1) = 0 by omega, vec_zero]
            rfl
          · rw [hf2 38 0 (by simp)]; exact hz t ht i h5
      · dsimp only [Option.toList, List.cons_append, List.nil_append]
        refine q_if_eq 18 dX8_next_11 (by decide) (fun g2 => ?_) (fun g2 => ?_)
        · refine q_iconst (v := 0) dX8_next_18 rfl ?_
          refine z_zret dX8_next_19 rfl (Or.inl rfl) ⟨rfl, hf12, Or.inr ⟨?_, rfl⟩⟩
          rw [he, heq, wFst_all]
        · exact absurd rfl g2
def maskG (s : zI) (nf m : Nat) : Prop := ∀ f, f < nf → (m.testBit f = true ↔ s 33 0 f = 0 ∧ s 42 0 f = 0)
set_option maxRecDepth 100000 in
set_option maxHeartbeats 4000000 in
theorem j_isModel (sg : zI) (ta : zJ) (A nT : Nat) (mo : Nat → Nat) (nt nc nf w m : Nat) (hM : MoOk sg A nT mo nt nc nf) (hW : RwM sg A nT mo w) (hm : maskG sg nf m) : zP yX8_isModel mX8_isModel 3 [.ref (nm 20 0)] sg ta (fun v s t => v = some (.int (bC (mdlM sg A nT mo nf m w))) ∧ t = ta ∧ frI sg s) := by
  have hnf := hM.2.2.2.1
  refine zP_of (lv := [some (.ref (nm 20 0)), none]) (by decide +kernel) rfl (fun h => by cases h) rfl (Nat.le_of_ble_eq_true rfl) ?_
  have loop : ∀ (k f : Nat) (s : zI), f + k = nf → frI sg s → (∀ g, g < f → m.testBit g = true → (trM sg A nT mo w g ↔ sg 32 0 g = 0)) → Zq mX8_isModel 3 (fun v s t => v = some (.int (bC (mdlM sg A nT mo nf m w))) ∧ t = ta ∧ frI sg s) s ta 2 [some (.ref (nm 20 0)), some (.int (nI f))] [] := by
    intro k
    induction k with
    | zero =>
      intro f s hf hs hg
      have : f = nf := by omega
      subst this
      refine q_iload_n dX8_isModel_2 rfl ?_
      refine q_aload_n dX8_isModel_3 rfl ?_
      refine z_get 11 dX8_isModel_4 (by first | assumption | decide) (sh_20 _ _ _) rfl (by decide) fl_X8_98 rfl ?_
      rw [hs 20 0 11 (by omega) (by omega) (by omega) (by omega), hM.2.2.2.2.1]
      refine q_icmp_ge 50 dX8_isModel_7 (by decide) (fun g => ?_) (fun g => ?_)
      · refine q_iconst (v := 1) dX8_isModel_50 rfl ?_
        exact z_zret dX8_isModel_51 rfl (Or.inr rfl) ⟨by rw [bC_t (p := mdlM sg A nT mo f m w) hg], rfl, hs⟩
      · exact absurd (nI_le (by omega) (by omega)) g
    | succ k ih =>
      intro f s hf hs hg
      have f10 : f < 10 := by omega
      have r : ∀ K, K ≠ 39 → K ≠ 40 → K ≠ 41 → K ≠ 20 → s K = sg K := fun K a b c d => frI_row hs a b c d
      refine q_iload_n dX8_isModel_2 rfl ?_
      refine q_aload_n dX8_isModel_3 rfl ?_
      refine z_get 11 dX8_isModel_4 (by first | assumption | decide) (sh_20 _ _ _) rfl (by decide) fl_X8_98 rfl ?_
      rw [hs 20 0 11 (by omega) (by omega) (by omega) (by omega), hM.2.2.2.2.1]
      have skip : ¬ m.testBit f = true → ∀ s', frI sg s' → Zq mX8_isModel 3 (fun v s t => v = some (.int (bC (mdlM sg A nT mo nf m w))) ∧ t = ta ∧ frI sg s) s' ta 44 [some (.ref (nm 20 0)), some (.int (nI f))] [] := by
        intro hn s' hs'
        refine q_iinc dX8_isModel_44 rfl (Nat.le_of_ble_eq_true rfl) rfl ?_
        dsimp only [List.set]
        refine q_goto 2 dX8_isModel_47 (by decide) ?_
        rw [nI_inc]
        refine ih (f + 1) s' (by omega) hs' (fun g h1 h2 => ?_)
        by_cases e : g = f
        · subst e; exact absurd h2 hn
        · exact hg g (by omega) h2
      refine q_icmp_ge 50 dX8_isModel_7 (by decide) (fun g => ?_) (fun g => ?_)
      · exact absurd g (nI_ge (by omega) (by omega))
      · refine q_aload_n dX8_isModel_10 rfl ?_
        refine z_get 18 dX8_isModel_11 (by first | assumption | decide) (sh_20 _ _ _) rfl (by decide) fl_X8_54 rfl ?_
        refine q_iload_n dX8_isModel_14 rfl ?_
        refine z_zald dX8_isModel_15 (by first | assumption | decide) rfl (vp_in_nI (n := f) f10 (by omega)) ?_
        rw [nI_clamp (by omega), r 33 (by omega) (by omega) (by omega) (by omega)]
        refine q_if_ne 44 dX8_isModel_16 (by decide) (fun g1 => ?_) (fun g1 => ?_)
        · exact skip (fun q => g1 ((hm f (by omega)).mp q).1) s hs
        · refine q_aload_n dX8_isModel_19 rfl ?_
          refine z_get 30 dX8_isModel_20 (by first | assumption | decide) (sh_20 _ _ _) rfl (by decide) fl_X8_81 rfl ?_
          refine q_iload_n dX8_isModel_23 rfl ?_
          refine z_zald dX8_isModel_24 (by first | assumption | decide) rfl (vp_in_nI (n := f) f10 (by omega)) ?_
          rw [nI_clamp (by omega), r 42 (by omega) (by omega) (by omega) (by omega)]
          refine q_if_ne 44 dX8_isModel_25 (by decide) (fun g2 => ?_) (fun g2 => ?_)
          · exact skip (fun q => g2 ((hm f (by omega)).mp q).2) s hs
          · have hbit : m.testBit f = true := (hm f (by omega)).mpr ⟨g1, g2⟩
            refine q_aload_n dX8_isModel_28 rfl ?_
            refine q_iload_n dX8_isModel_29 rfl ?_
            refine z_callV (j_is s ta A nT mo nt nc nf w f (MoOk_I hs hM) (RwM_at (r 37 (by omega) (by omega) (by omega) (by omega)) (r 38 (by omega) (by omega) (by omega) (by omega)) hW) (by omega)) kV_X8_155 dX8_isModel_30 (by first | assumption | decide) (sh_20 _ _ _) rfl rfl rfl (by omega) (Nat.le_of_ble_eq_true rfl) (Nat.le_refl _) (Nat.le_refl _) rfl (fun v s2 t2 h => ?_)
            obtain ⟨rfl, rfl, fr2⟩ := h
            dsimp only [Option.toList, List.cons_append, List.nil_append]
            have hs2 := frI_trans hs fr2
            rw [bC_iff (trM_I hs A nT mo w f)]
            refine q_aload_n dX8_isModel_33 rfl ?_
            refine z_get 17 dX8_isModel_34 (by first | assumption | decide) (sh_20 _ _ _) rfl (by decide) fl_X8_51 rfl ?_
            refine q_iload_n dX8_isModel_37 rfl ?_
            refine z_zald dX8_isModel_38 (by first | assumption | decide) rfl (vp_in_nI (n := f) f10 (by omega)) ?_
            rw [nI_clamp (by omega), frI_row hs2 (K := 32) (by omega) (by omega) (by omega) (by omega)]
            obtain ⟨-, -, -, -, -, -, -, -, -, h01, -⟩ := hM.2.2.2.2.2 f (by omega)
            refine q_icmp_ne 44 dX8_isModel_39 (by decide) (fun g3 => ?_) (fun g3 => ?_)
            · have hok : trM sg A nT mo w f ↔ sg 32 0 f = 0 := by
                by_cases q : trM sg A nT mo w f
                · rw [bC_t q] at g3
                  rcases h01 with z | z
                  · exact ⟨fun _ => z, fun _ => q⟩
                  · exact absurd z.symm g3
                · rw [bC_f q] at g3
                  rcases h01 with z | z
                  · exact absurd z.symm g3
                  · exact ⟨fun z => absurd z q, fun y => by rw [z] at y; exact absurd y (by decide)⟩
              refine q_iinc dX8_isModel_44 rfl (Nat.le_of_ble_eq_true rfl) rfl ?_
              dsimp only [List.set]
              refine q_goto 2 dX8_isModel_47 (by decide) ?_
              rw [nI_inc]
              refine ih (f + 1) s2 (by omega) hs2 (fun g h1 h2 => ?_)
              by_cases e : g = f
              · subst e; exact hok
              · exact hg g (by omega) h2
            · refine q_iconst (v := 0) dX8_isModel_42 rfl ?_
              refine z_zret dX8_isModel_43 rfl (Or.inl rfl) ⟨?_, rfl, hs2⟩
              rw [bC_f]
              intro q
              have hok := q f (by omega) hbit
              rw [← g3] at hok
              by_cases z : trM sg A nT mo w f
              · rw [bC_t z] at hok; exact absurd (hok.mp z) (by decide)
              · rw [bC_f z] at hok; exact z (hok.mpr rfl)
  refine q_iconst (v := 0) dX8_isModel_0 rfl ?_
  refine s_istore_n 1 dX8_isModel_1 rfl (Nat.le_of_ble_eq_true rfl) rfl ?_
  dsimp only [List.set]
  exact loop nf 0 sg (by omega) (frI_refl _) (fun g hg => absurd hg (by omega))
theorem ivt {f : Nat → Nat} (h01 : ∀ w, f w = 0 ∨ f w = 1) {a : Nat} : ∀ n, a < sumN f n → ∃ w, w < n ∧ f w = 1 ∧ sumN f w = a
  | 0, h => by simp [sumN] at h
  | n + 1, h => by
    by_cases g : a < sumN f n
    · obtain ⟨w, a1, a2, a3⟩ := ivt h01 n g
      exact ⟨w, by omega, a2, a3⟩
    · simp only [sumN] at h
      rcases h01 n with e | e
      · omega
      · exact ⟨n, by omega, e, by omega⟩
theorem mN_01 {mu : zI} {A nT : Nat} {mo : Nat → Nat} {nf m : Nat} (w : Nat) : mN mu A nT mo nf m w = 0 ∨ mN mu A nT mo nf m w = 1 := by
  by_cases g : mdlM mu A nT mo nf m w
  · exact Or.inr (mN_t g)
  · exact Or.inl (mN_f g)
theorem mN_1 {mu : zI} {A nT : Nat} {mo : Nat → Nat} {nf m w : Nat} (h : mN mu A nT mo nf m w = 1) : mdlM mu A nT mo nf m w := by
  by_cases g : mdlM mu A nT mo nf m w
  · exact g
  · rw [mN_f g] at h; omega
theorem sum_le {f : Nat → Nat} (h01 : ∀ w, f w = 0 ∨ f w = 1) : ∀ n, sumN f n ≤ n
  | 0 => by simp [sumN]
  | n + 1 => by
    have := sum_le h01 n
    simp only [sumN]
    rcases h01 n with e | e <;> omega
set_option maxRecDepth 100000 in
set_option maxHeartbeats 4000000 in
theorem j_search (sg : zI) (ta : zJ) (A nT : Nat) (mo : Nat → Nat) (nt nc nf m : Nat) (x : Int32) (hM : MoOk sg A nT mo nt nc nf) (hm : maskG sg nf m) : zP yX8_search mX8_search 4 [.ref (nm 20 0), .int x] sg ta (fun v s t => t = ta ∧ frS sg s ∧ ((∃ w, w < wSize A mo nT ∧ mdlM sg A nT mo nf m w ∧ x = nI (sumN (mN sg A nT mo nf m) w) ∧ v = some (.int (nI (sumN (mN sg A nT mo nf m) w + 1))) ∧ RwS s A nT mo w) ∨ ((∀ w, w < wSize A mo nT → mdlM sg A nT mo nf m w → ¬ x = nI (sumN (mN sg A nT mo nf m) w)) ∧ v = some (.int (nI (sumN (mN sg A nT mo nf m) (wSize A mo nT))))))) := by
  have hT := hM.1.2.1
  have hA := hM.1.1
  refine zP_of (lv := [some (.ref (nm 20 0)), some (.int x), none, none]) (by decide +kernel) rfl (fun h => by cases h) rfl (Nat.le_of_ble_eq_true rfl) ?_
  have loop : ∀ (k w : Nat) (s : zI), w + k = wSize A mo nT → 0 < k → frS sg s → RwS s A nT mo w → (∀ u, u < w → mdlM sg A nT mo nf m u → ¬ x = nI (sumN (mN sg A nT mo nf m) u)) → Zq mX8_search 4 (fun v s t => t = ta ∧ frS sg s ∧ ((∃ w, w < wSize A mo nT ∧ mdlM sg A nT mo nf m w ∧ x = nI (sumN (mN sg A nT mo nf m) w) ∧ v = some (.int (nI (sumN (mN sg A nT mo nf m) w + 1))) ∧ RwS s A nT mo w) ∨ ((∀ w, w < wSize A mo nT → mdlM sg A nT mo nf m w → ¬ x = nI (sumN (mN sg A nT mo nf m) w)) ∧ v = some (.int (nI (sumN (mN sg A nT mo nf m) (wSize A mo nT))))))) s ta 8 [some (.ref (nm 20 0)), some (.int x), some (.int (nI (sumN (mN sg A nT mo nf m) w))), some (.int 1)] [] := by
    intro k
    induction k with
    | zero => intro w s hk h0; omega
    | succ k ih =>
      intro w s hk _ hs hR hno
      have hp := perS_S hs
      have hM1 := MoOk_S hp hM
      have hm1 : maskG s nf m := by unfold maskG at *; rw [frS_row hs (by omega) (by omega), frS_row hs (K := 42) (by omega) (by omega)]; exact hm
      -- on to the next
      have on : ∀ (F : Int32) (s2 : zI), F = nI (sumN (mN sg A nT mo nf m) (w + 1)) → frS sg s2 → RwS s2 A nT mo w → (∀ u, u < w + 1 → mdlM sg A nT mo nf m u → ¬ x = nI (sumN (mN sg A nT mo nf m) u)) → Zq mX8_search 4 (fun v s t => t = ta ∧ frS sg s ∧ ((∃ w, w < wSize A mo nT ∧ mdlM sg A nT mo nf m w ∧ x = nI (sumN (mN sg A nT mo nf m) w) ∧ v = some (.int (nI (sumN (mN sg A nT mo nf m) w + 1))) ∧ RwS s A nT mo w) ∨ ((∀ w, w < wSize A mo nT → mdlM sg A nT mo nf m w → ¬ x = nI (sumN (mN sg A nT mo nf m) w)) ∧ v = some (.int (nI (sumN (mN sg A nT mo nf m) (wSize A mo nT))))))) s2 ta 31 [some (.ref (nm 20 0)), some (.int x), some (.int F), some (.int 1)] [] := by
        intro F s2 hF hs2 hR2 hno2
        subst hF
        refine q_aload_n dX8_search_31 rfl ?_
        refine z_callV (j_next s2 ta A nT mo w (MoOk_S (perS_S hs2) hM).1 hR2) kV_X8_164 dX8_search_32 (by first | assumption | decide) (sh_20 _ _ _) rfl rfl rfl (by omega) (Nat.le_of_ble_eq_true rfl) (Nat.le_refl _) (Nat.le_refl _) rfl (fun v s3 t3 h => ?_)
        obtain ⟨rfl, hf3, hh⟩ := h
        dsimp only [Option.toList, List.cons_append, List.nil_append]
        have hs3 : frS sg s3 := frS_trans hs2 (frS_frm hf3 (by intro q hq; simp at hq; rcases hq with h | h <;> subst h <;> simp))
        rcases hh with ⟨hlt, rfl, hR3⟩ | ⟨heq, rfl⟩
        · dsimp only [Option.toList, List.cons_append, List.nil_append]
          refine s_istore_n 3 dX8_search_35 rfl (Nat.le_of_ble_eq_true rfl) rfl ?_
          dsimp only [List.set]
          refine q_goto 8 dX8_search_36 (by decide) ?_
          exact ih (w + 1) s3 (by omega) (by omega) hs3 hR3 hno2
        · dsimp only [Option.toList, List.cons_append, List.nil_append]
          refine s_istore_n 3 dX8_search_35 rfl (Nat.le_of_ble_eq_true rfl) rfl ?_
          dsimp only [List.set]
          refine q_goto 8 dX8_search_36 (by decide) ?_
          refine q_iload_n dX8_search_8 rfl ?_
          refine q_if_eq 39 dX8_search_9 (by decide) (fun g => ?_) (fun g => ?_)
          · refine q_iload_n dX8_search_39 rfl ?_
            rw [heq]
            exact z_iret dX8_search_40 rfl ⟨rfl, hs3, Or.inr ⟨fun u hu => hno2 u (by omega), rfl⟩⟩
          · exact absurd rfl g
      refine q_iload_n dX8_search_8 rfl ?_
      refine q_if_eq 39 dX8_search_9 (by decide) (fun g => ?_) (fun g => ?_)
      · exact absurd g (by decide)
      · refine q_aload_n dX8_search_12 rfl ?_
        refine z_callV (j_isModel s ta A nT mo nt nc nf w m hM1 hR.2.1 hm1) kV_X8_161 dX8_search_13 (by first | assumption | decide) (sh_20 _ _ _) rfl rfl rfl (by omega) (Nat.le_of_ble_eq_true rfl) (Nat.le_refl _) (Nat.le_refl _) rfl (fun v s2 t2 h => ?_)
        obtain ⟨rfl, rfl, fr2⟩ := h
        dsimp only [Option.toList, List.cons_append, List.nil_append]
        have hs2 : frS sg s2 := frS_trans hs (frS_I fr2)
        have hR2 : RwS s2 A nT mo w := by
          have e37 : s2 37 = s 37 := frI_row fr2 (by omega) (by omega) (by omega) (by omega)
          have e38 : s2 38 = s 38 := frI_row fr2 (by omega) (by omega) (by omega) (by omega)
          exact ⟨hR.1, RwM_at e37 e38 hR.2.1, by have := hR.2.2; unfold ZerS at *; rw [e38]; exact this⟩
        rw [bC_iff (mdlM_S hp A nT mo nf m w)]
        have esum : sumN (mN sg A nT mo nf m) (w + 1) = sumN (mN sg A nT mo nf m) w + mN sg A nT mo nf m w := rfl
        refine q_if_eq 31 dX8_search_16 (by decide) (fun g2 => ?_) (fun g2 => ?_)
        · have hn := bC_z.mp g2
          rw [mN_f hn] at esum
          refine on _ s2 (congrArg nI esum.symm) hs2 hR2 (fun u hu hmu => ?_)
          by_cases e : u = w
          · subst e; exact absurd hmu hn
          · exact hno u (by omega) hmu
        · have hy := bC_nz.mp g2
          rw [mN_t hy] at esum
          refine q_iload_n dX8_search_19 rfl ?_
          refine q_iload_n dX8_search_20 rfl ?_
          refine q_icmp_ne 28 dX8_search_21 (by decide) (fun g3 => ?_) (fun g3 => ?_)
          · refine q_iinc dX8_search_28 rfl (Nat.le_of_ble_eq_true rfl) rfl ?_
            dsimp only [List.set]
            rw [nI_inc]
            refine on _ s2 (by rw [esum]) hs2 hR2 (fun u hu hmu => ?_)
            by_cases e : u = w
            · subst e; exact fun q => g3 q.symm
            · exact hno u (by omega) hmu
          · refine q_iload_n dX8_search_24 rfl ?_
            refine q_iconst (v := 1) dX8_search_25 rfl ?_
            refine q_iadd dX8_search_26 ?_
            rw [nI_1]
            exact z_iret dX8_search_27 rfl ⟨rfl, hs2, Or.inl ⟨w, hR.1, hy, g3.symm, rfl, hR2⟩⟩
  refine q_iconst (v := 0) dX8_search_0 rfl ?_
  refine s_istore_n 2 dX8_search_1 rfl (Nat.le_of_ble_eq_true rfl) rfl ?_
  dsimp only [List.set]
  refine q_aload_n dX8_search_2 rfl ?_
  refine z_callV (j_first sg ta) kV_X8_158 dX8_search_3 (by first | assumption | decide) (sh_20 _ _ _) rfl rfl rfl (by omega) (Nat.le_of_ble_eq_true rfl) (Nat.le_refl _) (Nat.le_refl _) rfl (fun v s1 t1 h => ?_)
  obtain ⟨rfl, rfl, hf, h37, h38⟩ := h
  dsimp only [Option.toList, List.cons_append, List.nil_append]
  refine q_iconst (v := 1) dX8_search_6 rfl ?_
  refine s_istore_n 3 dX8_search_7 rfl (Nat.le_of_ble_eq_true rfl) rfl ?_
  dsimp only [List.set]
  exact loop (wSize A mo nT) 0 s1 (by omega) (wSize_pos hA mo) (frS_frm hf (by intro q hq; simp at hq; rcases hq with h | h <;> subst h <;> simp)) (first_Rw hA hT h37 h38) (fun u hu => absurd hu (by omega))
set_option maxRecDepth 100000 in
set_option maxHeartbeats 4000000 in
theorem j_stayAll (sg : zI) (ta : zJ) : zP yX8_stayAll mX8_stayAll 0 [.ref (nm 20 0)] sg ta (fun v s t => v = none ∧ t = ta ∧ frm [(42, 0)] sg s ∧ ∀ q, q < 10 → s 42 0 q = 0) := by
  refine zP_of (lv := [some (.ref (nm 20 0)), none]) (by decide +kernel) rfl (fun h => by cases h) rfl (Nat.le_of_ble_eq_true rfl) ?_
  have loop : ∀ (k j : Nat) (s : zI), j + k = 10 → frm [(42, 0)] sg s → (∀ q, q < j → s 42 0 q = 0) → Zq mX8_stayAll 0 (fun v s t => v = none ∧ t = ta ∧ frm [(42, 0)] sg s ∧ ∀ q, q < 10 → s 42 0 q = 0) s ta 2 [some (.ref (nm 20 0)), some (.int (nI j))] [] := by
    intro k
    induction k with
    | zero =>
      intro j s hj hf h1
      have : j = 10 := by omega
      subst this
      refine q_iload_n dX8_stayAll_2 rfl ?_
      refine q_bipush (v := 10) dX8_stayAll_3 rfl ?_
      refine q_icmp_ge 21 dX8_stayAll_5 (by decide) (fun g => ?_) (fun g => ?_)
      · exact z_vret dX8_stayAll_21 rfl ⟨rfl, rfl, hf, h1⟩
      · exact absurd (nI_le (a := 10) (by omega) (by omega)) g
    | succ k ih =>
      intro j s hj hf h1
      refine q_iload_n dX8_stayAll_2 rfl ?_
      refine q_bipush (v := 10) dX8_stayAll_3 rfl ?_
      refine q_icmp_ge 21 dX8_stayAll_5 (by decide) (fun g => ?_) (fun g => ?_)
      · exact absurd g (nI_ge (b := 10) (by omega) (by omega))
      · refine q_aload_n dX8_stayAll_8 rfl ?_
        refine z_get 30 dX8_stayAll_9 (by first | assumption | decide) (sh_20 _ _ _) rfl (by decide) fl_X8_81 rfl ?_
        refine q_iload_n dX8_stayAll_12 rfl ?_
        refine q_iconst (v := 0) dX8_stayAll_13 rfl ?_
        refine z_zast dX8_stayAll_14 (by first | assumption | decide) (fun _ _ => rfl) (vp_in_nI (n := j) (by omega) (by omega)) (Or.inl rfl) ?_
        refine q_iinc dX8_stayAll_15 rfl (Nat.le_of_ble_eq_true rfl) rfl ?_
        dsimp only [List.set]
        refine q_goto 2 dX8_stayAll_18 (by decide) ?_
        rw [nI_clamp (by omega), nI_inc]
        refine ih (j + 1) _ (by omega) (frm_up3 (by simp) hf) (fun q hq => ?_)
        rw [up3_get]
        by_cases e : q = j
        · rw [if_pos ⟨rfl, rfl, e⟩]
        · rw [if_neg (by omega)]; exact h1 q (by omega)
  refine q_iconst (v := 0) dX8_stayAll_0 rfl ?_
  refine s_istore_n 1 dX8_stayAll_1 rfl (Nat.le_of_ble_eq_true rfl) rfl ?_
  dsimp only [List.set]
  exact loop 10 0 sg (by omega) (frm_refl _ _) (fun q hq => absurd hq (by omega))
theorem stay_mask {sg s : zI} {nf m : Nat} (hnf : nf ≤ 10) (hf : frm [(42, 0)] sg s) (h : ∀ q, q < 10 → s 42 0 q = 0) (hm : mask0 sg nf m) : maskG s nf m := fun f hlt => by
  rw [hf 33 0 (by simp), hm.2 f (by omega)]
  exact ⟨fun q => ⟨q.2, h f (by omega)⟩, fun q => ⟨hlt, q.1⟩⟩
