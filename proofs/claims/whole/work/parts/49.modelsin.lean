theorem lb_clr (x : Int64) {k : Nat} (hk : k < 64) {j : Nat} (hj : j < 64) : lb (x &&& ((1 <<< ((nI k).toInt64 &&& 63)) ^^^ (-1))) j = (lb x j && !decide (j = k)) := by
  rw [lb_and, lb_not _ hj, lb_one_shl hk hj]
theorem lb_shr0 (x : Int64) {k : Nat} (hk : k < 64) : (x.toUInt64 >>> ((nI k).toInt64.toUInt64 &&& Int64.toUInt64 63)).toInt64 = 0 ↔ ∀ j, k ≤ j → j < 64 → lb x j = false := by
  rw [lb_zero]
  constructor
  · intro h j h1 h2
    have := h (j - k) (by omega)
    rw [lb_ushr x hk, show k + (j - k) = j by omega] at this
    exact this
  · intro h j hj
    rw [lb_ushr x hk]
    by_cases g : k + j < 64
    · exact h _ (by omega) g
    · exact lb_big (by omega)
theorem prop_iff {p q : Prop} (h : ¬ (p ↔ ¬ q)) : p ↔ q := by
  by_cases hp : p <;> by_cases hq : q <;> simp [hp, hq] at h ⊢
set_option maxRecDepth 100000 in
set_option maxHeartbeats 8000000 in
theorem c_modelsIn (sg : zI) (ta : zJ) (A nT : Nat) (mo : Nat → Nat) (nf wd : Nat) (x : Int32) (hQ : QI sg ta A nT mo nf) (hw : wd < 125) : zP yX7_modelsIn mX7_modelsIn 4 [.ref (nm 0 0), .int (nI wd), .int x] sg ta (fun v s t => frm frQ sg s ∧ QI s t A nT mo nf ∧ ∃ y, v = some (.long y) ∧ ∀ j, j < 64 → (lb y j = true ↔ (wd * 64 + j < wSize A mo nT ∧ mdl sg A nT mo nf x (wd * 64 + j)))) := by
  have hnf := hQ.2.2.1
  have hn9 := hQ.2.2.2.1
  have hsz := hQ.1.2.2.2.1
  have dvd : ∀ j, j < 64 → (wd * 64 + j) / 64 = wd ∧ (wd * 64 + j) % 64 = j := fun j hj => by omega
  have jdE : ∀ f j, j < 64 → (jd ta f (wd * 64 + j) ↔ lb (ta 18 f wd) j = true) := fun f j hj => by unfold jd; rw [(dvd j hj).1, (dvd j hj).2]
  have soE : ∀ f j, j < 64 → (so ta f (wd * 64 + j) ↔ lb (ta 19 f wd) j = true) := fun f j hj => by unfold so; rw [(dvd j hj).1, (dvd j hj).2]
  -- the second loop
  have loop2 : ∀ (W O : Int64), (∀ j, j < 64 → lb W j = true → lb O j = false → mdl sg A nT mo nf x (wd * 64 + j)) → (∀ j, j < 64 → lb W j = false → ¬ (wd * 64 + j < wSize A mo nT ∧ mdl sg A nT mo nf x (wd * 64 + j))) → (∀ j, j < 64 → lb W j = true → wd * 64 + j < wSize A mo nT) → (∀ j, j < 64 → lb O j = true → lb W j = true) → ∀ (k i : Nat) (V : Int64) (s : zI) (t : zJ), i + k = 64 → frm frQ sg s → QI s t A nT mo nf → (∀ j, j < i → (lb V j = true ↔ (wd * 64 + j < wSize A mo nT ∧ mdl sg A nT mo nf x (wd * 64 + j)))) → (∀ j, i ≤ j → j < 64 → lb V j = lb W j) → Zq mX7_modelsIn 4 (fun v s t => frm frQ sg s ∧ QI s t A nT mo nf ∧ ∃ y, v = some (.long y) ∧ ∀ j, j < 64 → (lb y j = true ↔ (wd * 64 + j < wSize A mo nT ∧ mdl sg A nT mo nf x (wd * 64 + j)))) s t 85 [some (.ref (nm 0 0)), some (.int (nI wd)), some (.int x), some (.long V), none, some (.long O), none, some (.int (nI i))] [] := by
    intro W O F1 F2 F3 F4 k
    induction k with
    | zero =>
      intro i V s t hi hf hq h1 h2
      refine q_iload dX7_modelsIn_85 rfl ?_
      refine q_bipush (v := 64) dX7_modelsIn_87 rfl ?_
      refine q_icmp_ge 146 dX7_modelsIn_89 (by decide) (fun h => ?_) (fun h => ?_)
      · refine q_lload_n dX7_modelsIn_146 rfl ?_
        exact z_lret dX7_modelsIn_147 rfl ⟨hf, hq, _, rfl, fun j hj => h1 j (by omega)⟩
      · exact absurd (nI_le (a := 64) (by omega) (by omega)) h
    | succ k ih =>
      intro i V s t hi hf hq h1 h2
      have i64 : i < 64 := by omega
      refine q_iload dX7_modelsIn_85 rfl ?_
      refine q_bipush (v := 64) dX7_modelsIn_87 rfl ?_
      refine q_icmp_ge 146 dX7_modelsIn_89 (by decide) (fun h => ?_) (fun h => ?_)
      · exact absurd ((nI_leI (a := 64) (by omega) (by omega)).mp h) (by omega)
      · refine q_lload dX7_modelsIn_92 rfl ?_
        refine q_iload dX7_modelsIn_94 rfl ?_
        refine q_lushr dX7_modelsIn_96 ?_
        refine q_lconst (v := 0) dX7_modelsIn_97 rfl ?_
        refine q_lcmp dX7_modelsIn_98 ?_
        refine q_if_eq 146 dX7_modelsIn_99 (by decide) (fun h3 => ?_) (fun h3 => ?_)
        · rw [lcmp0, lb_shr0 O i64] at h3
          refine q_lload_n dX7_modelsIn_146 rfl ?_
          refine z_lret dX7_modelsIn_147 rfl ⟨hf, hq, _, rfl, fun j hj => ?_⟩
          rcases Nat.lt_or_ge j i with g | g
          · exact h1 j g
          · rw [h2 j g hj]
            cases hb : lb W j with
            | true => exact ⟨fun _ => ⟨F3 j hj hb, F1 j hj hb (h3 j g hj)⟩, fun _ => rfl⟩
            | false => exact ⟨fun q => absurd q (by decide), fun q => absurd q (F2 j hj hb)⟩
        · refine q_lload dX7_modelsIn_102 rfl ?_
          refine q_iload dX7_modelsIn_104 rfl ?_
          refine q_lushr dX7_modelsIn_106 ?_
          refine q_lconst (v := 1) dX7_modelsIn_107 rfl ?_
          refine q_land dX7_modelsIn_108 ?_
          refine q_lconst (v := 0) dX7_modelsIn_109 rfl ?_
          refine q_lcmp dX7_modelsIn_110 ?_
          -- what comes next
          have nxt : ∀ (V' : Int64) (s : zI) (t : zJ), frm frQ sg s → QI s t A nT mo nf → (lb V' i = true ↔ (wd * 64 + i < wSize A mo nT ∧ mdl sg A nT mo nf x (wd * 64 + i))) → (∀ j, j < 64 → j ≠ i → lb V' j = lb V j) → Zq mX7_modelsIn 4 (fun v s t => frm frQ sg s ∧ QI s t A nT mo nf ∧ ∃ y, v = some (.long y) ∧ ∀ j, j < 64 → (lb y j = true ↔ (wd * 64 + j < wSize A mo nT ∧ mdl sg A nT mo nf x (wd * 64 + j)))) s t 140 [some (.ref (nm 0 0)), some (.int (nI wd)), some (.int x), some (.long V'), none, some (.long O), none, some (.int (nI i))] [] := by
            intro V' s t hf hq hb hne
            refine q_iinc dX7_modelsIn_140 rfl (Nat.le_of_ble_eq_true rfl) rfl ?_
            dsimp only [List.set]
            refine q_goto 85 dX7_modelsIn_143 (by decide) ?_
            rw [nI_inc]
            refine ih (i + 1) V' s t (by omega) hf hq (fun j hj => ?_) (fun j hj hj2 => ?_)
            · by_cases e : j = i
              · subst e; exact hb
              · rw [hne j (by omega) e]; exact h1 j (by omega)
            · rw [hne j hj2 (by omega)]; exact h2 j (by omega) hj2
          refine q_if_eq 140 dX7_modelsIn_111 (by decide) (fun h4 => ?_) (fun h4 => ?_)
          · rw [lcmp0, lb_test O i64] at h4
            refine nxt V s t hf hq ?_ (fun _ _ _ => rfl)
            rw [h2 i (Nat.le_refl _) i64]
            cases hb : lb W i with
            | true => exact ⟨fun _ => ⟨F3 i i64 hb, F1 i i64 hb h4⟩, fun _ => rfl⟩
            | false => exact ⟨fun q => absurd q (by decide), fun q => absurd q (F2 i i64 hb)⟩
          · rw [lcmp0, lb_test O i64] at h4
            have hO : lb O i = true := by simpa using h4
            have hW := F4 i i64 hO
            have hin := F3 i i64 hW
            refine q_aload_n dX7_modelsIn_114 rfl ?_
            refine q_iload_n dX7_modelsIn_115 rfl ?_
            refine q_bipush (v := 64) dX7_modelsIn_116 rfl ?_
            refine q_imul dX7_modelsIn_118 ?_
            refine q_iload dX7_modelsIn_119 rfl ?_
            refine q_iadd dX7_modelsIn_121 ?_
            refine q_iload_n dX7_modelsIn_122 rfl ?_
            rw [show nI wd * 64 = nI (wd * 64) from pk_mul wd 64, nI_add]
            refine z_callV (c_isModel s t A nT mo nf (wd * 64 + i) x hq hin) kV_X7_249 dX7_modelsIn_123 (by first | assumption | decide) (sh_0 _ _ _) rfl rfl rfl (by omega) (Nat.le_of_ble_eq_true rfl) (Nat.le_refl _) (Nat.le_refl _) rfl (fun v s2 t2 h => ?_)
            obtain ⟨rfl, hf2, hq2⟩ := h
            dsimp only [Option.toList, List.cons_append, List.nil_append]
            refine q_if_ne 140 dX7_modelsIn_126 (by decide) (fun h5 => ?_) (fun h5 => ?_)
            · rw [bC_nz, mdl_frm hf] at h5
              refine nxt V s2 t2 (frm_trans hf hf2) hq2 ?_ (fun _ _ _ => rfl)
              rw [h2 i (Nat.le_refl _) i64, hW]
              exact ⟨fun _ => ⟨hin, h5⟩, fun _ => rfl⟩
            · rw [bC_z, mdl_frm hf] at h5
              refine q_lload_n dX7_modelsIn_129 rfl ?_
              refine q_lconst (v := 1) dX7_modelsIn_130 rfl ?_
              refine q_iload dX7_modelsIn_131 rfl ?_
              refine q_lshl dX7_modelsIn_133 ?_
              refine q_ldc2 dX7_modelsIn_134 cn_X7_237 ?_
              refine q_lxor dX7_modelsIn_137 ?_
              refine q_land dX7_modelsIn_138 ?_
              refine s_lstore_n 3 dX7_modelsIn_139 rfl (Nat.le_of_ble_eq_true rfl) rfl ?_
              dsimp only [List.set]
              refine nxt _ s2 t2 (frm_trans hf hf2) hq2 ?_ (fun j hj hne => ?_)
              · rw [lb_clr V i64 i64]
                simp
                exact fun _ => h5
              · rw [lb_clr V i64 hj]
                simp [hne]
  -- the first loop
  have loop1 : ∀ (k g : Nat) (W O : Int64), g + k = nf → (∀ j, j < 64 → (lb W j = true ↔ (wd * 64 + j < wSize A mo nT ∧ ∀ f, f < g → inM x (nI f) → ¬ (jd ta f (wd * 64 + j) ∧ (so ta f (wd * 64 + j) ↔ ¬ sg 17 f 7 = 0))))) → (∀ j, j < 64 → (lb O j = true ↔ ∃ f, f < g ∧ inM x (nI f) ∧ ¬ jd ta f (wd * 64 + j))) → Zq mX7_modelsIn 4 (fun v s t => frm frQ sg s ∧ QI s t A nT mo nf ∧ ∃ y, v = some (.long y) ∧ ∀ j, j < 64 → (lb y j = true ↔ (wd * 64 + j < wSize A mo nT ∧ mdl sg A nT mo nf x (wd * 64 + j)))) sg ta 12 [some (.ref (nm 0 0)), some (.int (nI wd)), some (.int x), some (.long W), none, some (.long O), none, some (.int (nI g))] [] := by
    have fin : ∀ (g : Nat) (W O : Int64), g ≤ nf → (g = nf ∨ W = 0) → (∀ j, j < 64 → (lb W j = true ↔ (wd * 64 + j < wSize A mo nT ∧ ∀ f, f < g → inM x (nI f) → ¬ (jd ta f (wd * 64 + j) ∧ (so ta f (wd * 64 + j) ↔ ¬ sg 17 f 7 = 0))))) → (∀ j, j < 64 → (lb O j = true ↔ ∃ f, f < g ∧ inM x (nI f) ∧ ¬ jd ta f (wd * 64 + j))) → Zq mX7_modelsIn 4 (fun v s t => frm frQ sg s ∧ QI s t A nT mo nf ∧ ∃ y, v = some (.long y) ∧ ∀ j, j < 64 → (lb y j = true ↔ (wd * 64 + j < wSize A mo nT ∧ mdl sg A nT mo nf x (wd * 64 + j)))) sg ta 76 [some (.ref (nm 0 0)), some (.int (nI wd)), some (.int x), some (.long W), none, some (.long O), none, some (.int (nI g))] [] := by
      intro g W O hg hor hW hO
      refine q_lload dX7_modelsIn_76 rfl ?_
      refine q_lload_n dX7_modelsIn_78 rfl ?_
      refine q_land dX7_modelsIn_79 ?_
      refine q_lstore dX7_modelsIn_80 (Nat.le_of_ble_eq_true rfl) rfl ?_
      dsimp only [List.set]
      refine q_iconst (v := 0) dX7_modelsIn_82 rfl ?_
      refine q_istore dX7_modelsIn_83 (Nat.le_of_ble_eq_true rfl) rfl ?_
      dsimp only [List.set]
      refine loop2 W (O &&& W) ?_ ?_ ?_ ?_ 64 0 W sg ta (by omega) (frm_refl _ _) hQ (fun j hj => absurd hj (by omega)) (fun _ _ _ => rfl)
      · intro j hj hb ho f hf hin
        rcases hor with e | e
        · subst e
          obtain ⟨q1, q2⟩ := (hW j hj).mp hb
          have hjd : jd ta f (wd * 64 + j) := by
            apply Classical.byContradiction
            intro hn
            have := (hO j hj).mpr ⟨f, hf, hin, hn⟩
            rw [lb_and, this, hb] at ho
            exact absurd ho (by decide)
          have := prop_iff (fun q => q2 f hf hin ⟨hjd, q⟩)
          rw [← (hQ.2.2.2.2.2 f hf (wd * 64 + j) (by omega)).2 hjd q1]
          exact this
        · rw [e, lb_0] at hb
          exact absurd hb (by decide)
      · intro j hj hb hq
        have : ¬ lb W j = true := by rw [hb]; decide
        refine this ((hW j hj).mpr ⟨hq.1, fun f hf hin hr => ?_⟩)
        have h1 := hq.2 f (by omega) hin
        rw [← (hQ.2.2.2.2.2 f (by omega) (wd * 64 + j) (by omega)).2 hr.1 hq.1] at h1
        have h2 := hr.2
        rw [h1] at h2
        exact (iff_not_self h2).elim
      · intro j hj hb
        exact ((hW j hj).mp hb).1
      · intro j hj hb
        rw [lb_and] at hb
        simp at hb
        exact hb.2
    intro k
    induction k with
    | zero =>
      intro g W O hg hW hO
      refine q_iload dX7_modelsIn_12 rfl ?_
      refine q_aload_n dX7_modelsIn_14 rfl ?_
      refine z_get 9 dX7_modelsIn_15 (by first | assumption | decide) (sh_0 _ _ _) rfl (by decide) fl_X7_58 rfl ?_
      rw [hn9]
      refine q_icmp_ge 76 dX7_modelsIn_18 (by decide) (fun h => ?_) (fun h => ?_)
      · exact fin g W O (by omega) (Or.inl (by omega)) hW hO
      · exact absurd (nI_le (by omega) (by omega)) h
    | succ k ih =>
      intro g W O hg hW hO
      have g10 : g < 10 := by omega
      have hgc := cnt17 g10
      refine q_iload dX7_modelsIn_12 rfl ?_
      refine q_aload_n dX7_modelsIn_14 rfl ?_
      refine z_get 9 dX7_modelsIn_15 (by first | assumption | decide) (sh_0 _ _ _) rfl (by decide) fl_X7_58 rfl ?_
      rw [hn9]
      refine q_icmp_ge 76 dX7_modelsIn_18 (by decide) (fun h => ?_) (fun h => ?_)
      · exact absurd h (nI_ge (by omega) (by omega))
      · refine q_lload_n dX7_modelsIn_21 rfl ?_
        refine q_lconst (v := 0) dX7_modelsIn_22 rfl ?_
        refine q_lcmp dX7_modelsIn_23 ?_
        refine q_if_eq 76 dX7_modelsIn_24 (by decide) (fun h2 => ?_) (fun h2 => ?_)
        · rw [lcmp0] at h2
          exact fin g W O (by omega) (Or.inr h2) hW hO
        · refine q_iload_n dX7_modelsIn_27 rfl ?_
          refine q_iload dX7_modelsIn_28 rfl ?_
          refine z_callS (c_isIn sg ta x (nI g)) kS_X7_204 dX7_modelsIn_30 rfl (by omega) (Nat.le_of_ble_eq_true rfl) (Nat.le_refl _) (Nat.le_refl _) rfl (fun v s2 t2 h => ?_)
          obtain ⟨rfl, rfl, rfl⟩ := h
          dsimp only [Option.toList, List.cons_append, List.nil_append]
          refine q_if_eq 70 dX7_modelsIn_33 (by decide) (fun h3 => ?_) (fun h3 => ?_)
          · have hni := bC_z.mp h3
            refine q_iinc dX7_modelsIn_70 rfl (Nat.le_of_ble_eq_true rfl) rfl ?_
            dsimp only [List.set]
            refine q_goto 12 dX7_modelsIn_73 (by decide) ?_
            rw [nI_inc]
            refine ih (g + 1) W O (by omega) (fun j hj => ?_) (fun j hj => ?_)
            · rw [hW j hj]
              constructor
              · rintro ⟨a, b⟩
                refine ⟨a, fun f hf hin => ?_⟩
                by_cases e : f = g
                · subst e; exact absurd hin hni
                · exact b f (by omega) hin
              · rintro ⟨a, b⟩
                exact ⟨a, fun f hf => b f (by omega)⟩
            · rw [hO j hj]
              constructor
              · rintro ⟨f, a, b⟩
                exact ⟨f, by omega, b⟩
              · rintro ⟨f, a, b, c⟩
                by_cases e : f = g
                · subst e; exact absurd b hni
                · exact ⟨f, by omega, b, c⟩
          · have hin := bC_nz.mp h3
            refine q_lload_n dX7_modelsIn_36 rfl ?_
            refine q_aload_n dX7_modelsIn_37 rfl ?_
            refine z_get 5 dX7_modelsIn_38 (by first | assumption | decide) (sh_0 _ _ _) rfl (by decide) fl_X7_42 rfl ?_
            refine q_iload dX7_modelsIn_41 rfl ?_
            refine z_aald dX7_modelsIn_43 (by first | assumption | decide) rfl (fun _ => rfl) (vp_in_nI (n := g) g10 (by omega)) (aal g10 (by omega)) ?_
            refine q_iload_n dX7_modelsIn_44 rfl ?_
            refine z_callV (c_Formula_ruledOut s2 t2 g wd hgc hw) kV_X7_243 dX7_modelsIn_45 (by first | assumption | decide) (sh_17 _ _ _) rfl rfl rfl (by omega) (Nat.le_of_ble_eq_true rfl) (Nat.le_refl _) (Nat.le_refl _) rfl (fun v s3 t3 h => ?_)
            obtain ⟨rfl, rfl, u, rfl, hu⟩ := h
            dsimp only [Option.toList, List.cons_append, List.nil_append]
            refine q_ldc2 dX7_modelsIn_48 cn_X7_237 ?_
            refine q_lxor dX7_modelsIn_51 ?_
            refine q_land dX7_modelsIn_52 ?_
            refine s_lstore_n 3 dX7_modelsIn_53 rfl (Nat.le_of_ble_eq_true rfl) rfl ?_
            dsimp only [List.set]
            refine q_lload dX7_modelsIn_54 rfl ?_
            refine q_aload_n dX7_modelsIn_56 rfl ?_
            refine z_get 5 dX7_modelsIn_57 (by first | assumption | decide) (sh_0 _ _ _) rfl (by decide) fl_X7_42 rfl ?_
            refine q_iload dX7_modelsIn_60 rfl ?_
            refine z_aald dX7_modelsIn_62 (by first | assumption | decide) rfl (fun _ => rfl) (vp_in_nI (n := g) g10 (by omega)) (aal g10 (by omega)) ?_
            refine q_iload_n dX7_modelsIn_63 rfl ?_
            refine z_callV (c_Formula_notJudged s3 t3 g wd hgc hw) kV_X7_246 dX7_modelsIn_64 (by first | assumption | decide) (sh_17 _ _ _) rfl rfl rfl (by omega) (Nat.le_of_ble_eq_true rfl) (Nat.le_refl _) (Nat.le_refl _) rfl (fun v s4 t4 h => ?_)
            obtain ⟨rfl, rfl, z, rfl, hz⟩ := h
            dsimp only [Option.toList, List.cons_append, List.nil_append]
            refine q_lor dX7_modelsIn_67 ?_
            refine q_lstore dX7_modelsIn_68 (Nat.le_of_ble_eq_true rfl) rfl ?_
            dsimp only [List.set]
            refine q_iinc dX7_modelsIn_70 rfl (Nat.le_of_ble_eq_true rfl) rfl ?_
            dsimp only [List.set]
            refine q_goto 12 dX7_modelsIn_73 (by decide) ?_
            rw [nI_inc]
            refine ih (g + 1) _ _ (by omega) (fun j hj => ?_) (fun j hj => ?_)
            · rw [lb_and, lb_not _ hj]
              simp only [Bool.and_eq_true, Bool.not_eq_true']
              rw [hW j hj]
              have hu2 := hu j hj
              rw [← jdE g j hj, ← soE g j hj] at hu2
              constructor
              · rintro ⟨⟨a, b⟩, c⟩
                refine ⟨a, fun f hf hin2 => ?_⟩
                by_cases e : f = g
                · subst e
                  intro q
                  rw [hu2.mpr q] at c
                  exact absurd c (by decide)
                · exact b f (by omega) hin2
              · rintro ⟨a, b⟩
                refine ⟨⟨a, fun f hf => b f (by omega)⟩, ?_⟩
                cases hc : lb u j with
                | false => rfl
                | true => exact absurd (hu2.mp hc) (b g (by omega) hin)
            · rw [lb_or, hz j hj]
              simp only [Bool.or_eq_true, Bool.not_eq_true']
              rw [hO j hj]
              have hj2 := jdE g j hj
              constructor
              · rintro (⟨f, a, b⟩ | a)
                · exact ⟨f, by omega, b⟩
                · exact ⟨g, by omega, hin, fun q => by rw [hj2.mp q] at a; exact absurd a (by decide)⟩
              · rintro ⟨f, a, b, c⟩
                by_cases e : f = g
                · subst e
                  right
                  cases hc : lb (t4 18 f wd) j with
                  | false => rfl
                  | true => exact absurd (hj2.mpr hc) c
                · exact Or.inl ⟨f, by omega, b, c⟩
  refine zP_of (lv := [some (.ref (nm 0 0)), some (.int (nI wd)), some (.int x), none, none, none, none, none]) (by decide +kernel) rfl (fun h => by cases h) rfl (Nat.le_of_ble_eq_true rfl) ?_
  refine q_aload_n dX7_modelsIn_0 rfl ?_
  refine q_iload_n dX7_modelsIn_1 rfl ?_
  refine z_callV (c_waysIn sg ta A nT wd mo hQ.1 hw) kV_X7_239 dX7_modelsIn_2 (by first | assumption | decide) (sh_0 _ _ _) rfl rfl rfl (by omega) (Nat.le_of_ble_eq_true rfl) (Nat.le_refl _) (Nat.le_refl _) rfl (fun v s2 t2 h => ?_)
  obtain ⟨rfl, rfl, y, rfl, hy⟩ := h
  dsimp only [Option.toList, List.cons_append, List.nil_append]
  refine s_lstore_n 3 dX7_modelsIn_5 rfl (Nat.le_of_ble_eq_true rfl) rfl ?_
  dsimp only [List.set]
  refine q_lconst (v := 0) dX7_modelsIn_6 rfl ?_
  refine q_lstore dX7_modelsIn_7 (Nat.le_of_ble_eq_true rfl) rfl ?_
  dsimp only [List.set]
  refine q_iconst (v := 0) dX7_modelsIn_9 rfl ?_
  refine q_istore dX7_modelsIn_10 (Nat.le_of_ble_eq_true rfl) rfl ?_
  dsimp only [List.set]
  refine loop1 nf 0 y 0 (by omega) (fun j hj => ?_) (fun j hj => ?_)
  · rw [hy j hj]
    exact ⟨fun q => ⟨q, fun f hf => absurd hf (by omega)⟩, fun q => q.1⟩
  · rw [lb_0]
    exact ⟨fun q => absurd q (by decide), fun ⟨f, hf, _⟩ => absurd hf (by omega)⟩
