/-! THE REFERENCE: calls that change what is held -/
theorem tk_in {n : Nat} (hn : n < 2 ^ 31) (x : Int32) : tk n x ↔ (0 ≤ x ∧ x ≤ nI n - 1) := by
  rw [tk_iff hn]
  cases n with
  | zero => 
    constructor
    · rintro ⟨h1, h2⟩; exact absurd h2 (Int32.not_lt.mpr h1)
    · rintro ⟨h1, h2⟩; exact absurd (Int32.le_trans h1 h2) (by decide)
  | succ n =>
    rw [nI_pred]
    constructor
    · rintro ⟨h1, h2⟩
      obtain ⟨q, hq, e⟩ := nI_of (Int32.not_lt.mpr h1)
      rw [e] at h2 ⊢
      have := (nI_ltI (by omega) (by omega)).mp h2
      exact ⟨nI_pos' (by omega), nI_le (by omega) (by omega)⟩
    · rintro ⟨h1, h2⟩
      obtain ⟨q, hq, e⟩ := nI_of (Int32.not_lt.mpr h1)
      rw [e] at h2 ⊢
      have := (nI_leI (by omega) (by omega)).mp h2
      exact ⟨nI_pos' (by omega), nI_lt (by omega) (by omega)⟩
theorem PV_in {A nT : Nat} (hA : A = 2 ∨ A = 3) (hT : nT ≤ 4) (y : Int32) : PV A nT y ↔ (0 ≤ y ∧ y ≤ nI A - 1) ∨ (8 ≤ y ∧ y ≤ 7 + nI nT) := by
  rw [← tk_in (by omega)]
  have e7 : (7 : Int32) + nI nT = nI (7 + nT) := nI_add 7 nT
  constructor
  · rintro (⟨a, ha, e⟩ | ⟨t, ht, e⟩)
    · exact Or.inl ⟨a, ha, e⟩
    · rw [e, e7]; exact Or.inr ⟨nI_le (a := 8) (by omega) (by omega), nI_le (by omega) (by omega)⟩
  · rintro (⟨a, ha, e⟩ | ⟨h1, h2⟩)
    · exact Or.inl ⟨a, ha, e⟩
    · obtain ⟨b, hb, e⟩ := nI_of (x := y) (Int32.not_lt.mpr (Int32.le_trans (by decide) h1))
      rw [e] at h1 h2
      rw [e7] at h2
      have a1 := (nI_leI (a := 8) (by omega) (by omega)).mp h1
      have a2 := (nI_leI (by omega) (by omega)).mp h2
      exact Or.inr ⟨b - 8, by omega, by rw [e]; congr 1; omega⟩
set_option maxRecDepth 100000 in
set_option maxHeartbeats 4000000 in
theorem j_in (sg : zI) (ta : zJ) (x y z : Int32) : zP yX8_in mX8_in 0 [.int x, .int y, .int z] sg ta (pI (bC (y ≤ x ∧ x ≤ z)) sg ta) := by
  refine zP_of (lv := [some (.int x), some (.int y), some (.int z)]) (by decide +kernel) rfl (fun h => by cases h) rfl (Nat.le_of_ble_eq_true rfl) ?_
  refine q_iload_n dX8_in_0 rfl ?_
  refine q_iload_n dX8_in_1 rfl ?_
  refine q_icmp_lt 14 dX8_in_2 (by decide) (fun h => ?_) (fun h => ?_)
  · refine q_iconst (v := 0) dX8_in_14 rfl ?_
    exact z_zret dX8_in_15 rfl (Or.inl rfl) ⟨by rw [bC_f (fun q => absurd h (Int32.not_lt.mpr q.1))], rfl, rfl⟩
  · refine q_iload_n dX8_in_5 rfl ?_
    refine q_iload_n dX8_in_6 rfl ?_
    refine q_icmp_gt 14 dX8_in_7 (by decide) (fun h2 => ?_) (fun h2 => ?_)
    · refine q_iconst (v := 0) dX8_in_14 rfl ?_
      exact z_zret dX8_in_15 rfl (Or.inl rfl) ⟨by rw [bC_f (fun q => absurd h2 (Int32.not_lt.mpr q.2))], rfl, rfl⟩
    · refine q_iconst (v := 1) dX8_in_10 rfl ?_
      refine q_goto 15 dX8_in_11 (by decide) ?_
      exact z_zret dX8_in_15 rfl (Or.inr rfl) ⟨by rw [bC_t ⟨Int32.not_lt.mp h, Int32.not_lt.mp h2⟩], rfl, rfl⟩
set_option maxRecDepth 100000 in
set_option maxHeartbeats 4000000 in
theorem j_changed (sg : zI) (ta : zJ) : zP yX8_changed mX8_changed 0 [.ref (nm 20 0)] sg ta (pV (uCh sg) ta) := by
  refine zP_of (lv := [some (.ref (nm 20 0))]) (by decide +kernel) rfl (fun h => by cases h) rfl (Nat.le_of_ble_eq_true rfl) ?_
  refine q_aload_n dX8_changed_0 rfl ?_
  refine q_iconst (v := 0) dX8_changed_1 rfl ?_
  refine z_putz 19 dX8_changed_2 (by first | assumption | decide) (sh_20 _ _ _) rfl (by decide) fl_X8_87 rfl pfZ (Nat.le_of_ble_eq_true rfl) (by first | exact Or.inl rfl | exact Or.inr rfl | assumption) rfl ?_
  refine q_aload_n dX8_changed_5 rfl ?_
  refine q_iconst (v := 0) dX8_changed_6 rfl ?_
  refine z_putz 22 dX8_changed_7 (by first | assumption | decide) (sh_20 _ _ _) rfl (by decide) fl_X8_91 rfl pfZ (Nat.le_of_ble_eq_true rfl) (by first | exact Or.inl rfl | exact Or.inr rfl | assumption) rfl ?_
  exact z_vret dX8_changed_10 rfl ⟨rfl, rfl, rfl⟩
set_option maxRecDepth 100000 in
set_option maxHeartbeats 4000000 in
theorem j_isTerm (sg : zI) (ta : zJ) (nt : Nat) (x : Int32) (h4 : sg 20 0 4 = nI nt) (hnt : nt ≤ 12) : zP yX8_isTerm mX8_isTerm 1 [.ref (nm 20 0), .int x] sg ta (pI (bC (tk nt x)) sg ta) := by
  refine zP_of (lv := [some (.ref (nm 20 0)), some (.int x)]) (by decide +kernel) rfl (fun h => by cases h) rfl (Nat.le_of_ble_eq_true rfl) ?_
  refine q_iload_n dX8_isTerm_0 rfl ?_
  refine q_iconst (v := 0) dX8_isTerm_1 rfl ?_
  refine q_aload_n dX8_isTerm_2 rfl ?_
  refine z_get 4 dX8_isTerm_3 (by first | assumption | decide) (sh_20 _ _ _) rfl (by decide) fl_X8_104 rfl ?_
  refine q_iconst (v := 1) dX8_isTerm_6 rfl ?_
  refine q_isub dX8_isTerm_7 ?_
  rw [h4]
  refine z_callS (j_in sg ta x 0 _) kS_X8_94 dX8_isTerm_8 rfl (by omega) (Nat.le_of_ble_eq_true rfl) (Nat.le_refl _) (Nat.le_refl _) rfl (fun v s1 t1 h => ?_)
  obtain ⟨rfl, rfl, rfl⟩ := h
  dsimp only [Option.toList, List.cons_append, List.nil_append]
  rw [← bC_iff (tk_in (n := nt) (by omega) x)]
  exact z_zret dX8_isTerm_11 rfl (bC_01 _) ⟨rfl, rfl, rfl⟩
set_option maxRecDepth 100000 in
set_option maxHeartbeats 4000000 in
theorem j_clear (sg : zI) (ta : zJ) (x : Int32) : zP yX8_clear mX8_clear 1 [.ref (nm 20 0), .int x] sg ta (fun v s t => t = ta ∧ ((2 ≤ x ∧ x ≤ 3) → v = some (.int (sg 20 0 11)) ∧ s = uClear sg x) ∧ (¬ (2 ≤ x ∧ x ≤ 3) → v = some (.int (-3)) ∧ s = sg)) := by
  refine zP_of (lv := [some (.ref (nm 20 0)), some (.int x), none]) (by decide +kernel) rfl (fun h => by cases h) rfl (Nat.le_of_ble_eq_true rfl) ?_
  refine q_iload_n dX8_clear_0 rfl ?_
  refine q_iconst (v := 2) dX8_clear_1 rfl ?_
  refine q_iconst (v := 3) dX8_clear_2 rfl ?_
  refine z_callS (j_in sg ta x 2 3) kS_X8_94 dX8_clear_3 rfl (by omega) (Nat.le_of_ble_eq_true rfl) (Nat.le_refl _) (Nat.le_refl _) rfl (fun v s1 t1 h => ?_)
  obtain ⟨rfl, rfl, rfl⟩ := h
  dsimp only [Option.toList, List.cons_append, List.nil_append]
  refine q_if_ne 12 dX8_clear_6 (by decide) (fun h => ?_) (fun h => ?_)
  · refine q_aload_n dX8_clear_12 rfl ?_
    refine z_get 11 dX8_clear_13 (by first | assumption | decide) (sh_20 _ _ _) rfl (by decide) fl_X8_98 rfl ?_
    refine s_istore_n 2 dX8_clear_16 rfl (Nat.le_of_ble_eq_true rfl) rfl ?_
    dsimp only [List.set]
    refine q_aload_n dX8_clear_17 rfl ?_
    refine q_iload_n dX8_clear_18 rfl ?_
    refine z_puti 0 dX8_clear_19 (by first | assumption | decide) (sh_20 _ _ _) rfl (by decide) fl_X8_7 rfl pfI (Nat.le_of_ble_eq_true rfl) rfl ?_
    refine q_aload_n dX8_clear_22 rfl ?_
    refine q_iconst (v := 0) dX8_clear_23 rfl ?_
    refine z_puti 1 dX8_clear_24 (by first | assumption | decide) (sh_20 _ _ _) rfl (by decide) fl_X8_101 rfl pfI (Nat.le_of_ble_eq_true rfl) rfl ?_
    refine q_aload_n dX8_clear_27 rfl ?_
    refine q_iconst (v := 1) dX8_clear_28 rfl ?_
    refine z_puti 3 dX8_clear_29 (by first | assumption | decide) (sh_20 _ _ _) rfl (by decide) fl_X8_17 rfl pfI (Nat.le_of_ble_eq_true rfl) rfl ?_
    refine q_aload_n dX8_clear_32 rfl ?_
    refine q_iconst (v := 0) dX8_clear_33 rfl ?_
    refine z_puti 4 dX8_clear_34 (by first | assumption | decide) (sh_20 _ _ _) rfl (by decide) fl_X8_104 rfl pfI (Nat.le_of_ble_eq_true rfl) rfl ?_
    refine q_aload_n dX8_clear_37 rfl ?_
    refine q_iconst (v := 0) dX8_clear_38 rfl ?_
    refine z_puti 7 dX8_clear_39 (by first | assumption | decide) (sh_20 _ _ _) rfl (by decide) fl_X8_107 rfl pfI (Nat.le_of_ble_eq_true rfl) rfl ?_
    refine q_aload_n dX8_clear_42 rfl ?_
    refine q_iconst (v := 0) dX8_clear_43 rfl ?_
    refine z_puti 11 dX8_clear_44 (by first | assumption | decide) (sh_20 _ _ _) rfl (by decide) fl_X8_98 rfl pfI (Nat.le_of_ble_eq_true rfl) rfl ?_
    refine q_aload_n dX8_clear_47 rfl ?_
    refine z_callV (j_changed _ t1) kV_X8_110 dX8_clear_48 (by first | assumption | decide) (sh_20 _ _ _) rfl rfl rfl (by omega) (Nat.le_of_ble_eq_true rfl) (Nat.le_refl _) (Nat.le_refl _) rfl (fun v s2 t2 h => ?_)
    obtain ⟨rfl, rfl, rfl⟩ := h
    dsimp only [Option.toList, List.cons_append, List.nil_append]
    refine q_iload_n dX8_clear_51 rfl ?_
    exact z_iret dX8_clear_52 rfl ⟨rfl, fun _ => ⟨rfl, rfl⟩, fun q => absurd (bC_nz.mp h) q⟩
  · refine q_bipush (v := (-3)) dX8_clear_9 rfl ?_
    exact z_iret dX8_clear_11 rfl ⟨rfl, fun q => absurd q (bC_z.mp h), fun _ => ⟨rfl, rfl⟩⟩
set_option maxRecDepth 100000 in
set_option maxHeartbeats 4000000 in
theorem j_text (sg : zI) (ta : zJ) (A nT : Nat) (mo : Nat → Nat) (x : Int32) (hS : SpM sg A nT mo) : zP yX8_text mX8_text 1 [.ref (nm 20 0), .int x] sg ta (fun v s t => t = ta ∧ ((x < 0 ∨ 5 < x) → v = some (.int (-3)) ∧ s = sg) ∧ ∀ m, m ≤ 5 → x = nI m → ((nT < 4 ∧ wSize A mo nT * rowsN A m ≤ 8000) → v = some (.int (nI nT)) ∧ s = uText sg nT m (wSize A mo nT * rowsN A m)) ∧ (¬ (nT < 4 ∧ wSize A mo nT * rowsN A m ≤ 8000) → v = some (.int (-5)) ∧ s = sg)) := by
  have hA := hS.1
  have hT := hS.2.1
  have h8 := hS.2.2.2.1
  have hnm : ∀ m, m ≤ 5 → ¬ nI m < 0 ∧ ¬ (5 : Int32) < nI m := fun m hm => ⟨nI_pos (by omega), nI_nlt (b := m) (a := 5) (by omega) (by omega)⟩
  refine zP_of (lv := [some (.ref (nm 20 0)), some (.int x), none, none, none]) (by decide +kernel) rfl (fun h => by cases h) rfl (Nat.le_of_ble_eq_true rfl) ?_
  refine q_iload_n dX8_text_0 rfl ?_
  refine q_iconst (v := 0) dX8_text_1 rfl ?_
  refine q_iconst (v := 5) dX8_text_2 rfl ?_
  refine z_callS (j_in sg ta x 0 5) kS_X8_94 dX8_text_3 rfl (by omega) (Nat.le_of_ble_eq_true rfl) (Nat.le_refl _) (Nat.le_refl _) rfl (fun v s1 t1 h => ?_)
  obtain ⟨rfl, rfl, rfl⟩ := h
  dsimp only [Option.toList, List.cons_append, List.nil_append]
  refine q_if_ne 12 dX8_text_6 (by decide) (fun h => ?_) (fun h => ?_)
  · obtain ⟨h1, h2⟩ := bC_nz.mp h
    obtain ⟨m, hm, rfl⟩ := i32_le (n := 5) (by omega) (Int32.not_lt.mpr h1) h2
    have hrow := rows_le hA hm
    have inj : ∀ m', m' ≤ 5 → nI m = nI m' → m' = m := fun m' hm' e => ((nI_eq (by omega) (by omega)).mp e).symm
    have nout : ¬ (nI m < 0 ∨ 5 < nI m) := fun q => q.elim (hnm m hm).1 (hnm m hm).2
    have hmul : wSize A mo nT * rowsN A m ≤ 8000 * 400 := Nat.mul_le_mul h8 hrow
    have no : ¬ (nT < 4 ∧ wSize A mo nT * rowsN A m ≤ 8000) → ∀ lv, Zq mX8_text 1 (fun v s t => t = t1 ∧ ((nI m < 0 ∨ 5 < nI m) → v = some (.int (-3)) ∧ s = s1) ∧ ∀ m', m' ≤ 5 → nI m = nI m' → ((nT < 4 ∧ wSize A mo nT * rowsN A m' ≤ 8000) → v = some (.int (nI nT)) ∧ s = uText s1 nT m' (wSize A mo nT * rowsN A m')) ∧ (¬ (nT < 4 ∧ wSize A mo nT * rowsN A m' ≤ 8000) → v = some (.int (-5)) ∧ s = s1)) s1 t1 62 lv [] := by
      intro hno lv
      refine q_bipush (v := (-5)) dX8_text_62 rfl ?_
      refine z_iret dX8_text_64 rfl ⟨rfl, fun q => absurd q nout, fun m' hm' e => ?_⟩
      have := inj m' hm' e
      subst this
      exact ⟨fun q => absurd q hno, fun _ => ⟨rfl, rfl⟩⟩
    have loop : ∀ (k l : Nat), l + k = m + 1 → Zq mX8_text 1 (fun v s t => t = t1 ∧ ((nI m < 0 ∨ 5 < nI m) → v = some (.int (-3)) ∧ s = s1) ∧ ∀ m', m' ≤ 5 → nI m = nI m' → ((nT < 4 ∧ wSize A mo nT * rowsN A m' ≤ 8000) → v = some (.int (nI nT)) ∧ s = uText s1 nT m' (wSize A mo nT * rowsN A m')) ∧ (¬ (nT < 4 ∧ wSize A mo nT * rowsN A m' ≤ 8000) → v = some (.int (-5)) ∧ s = s1)) s1 t1 19 [some (.ref (nm 20 0)), some (.int (nI m)), some (.int (nI (sumN (fun r => A ^ r) l))), some (.int (nI (A ^ l))), some (.int (nI l))] [] := by
      intro k
      induction k with
      | zero =>
        intro l hl
        have : l = m + 1 := by omega
        subst this
        rw [sumN_pow]
        refine q_iload dX8_text_19 rfl ?_
        refine q_iload_n dX8_text_21 rfl ?_
        refine q_icmp_gt 42 dX8_text_22 (by decide) (fun g => ?_) (fun g => ?_)
        · refine q_aload_n dX8_text_42 rfl ?_
          refine z_get 1 dX8_text_43 (by first | assumption | decide) (sh_20 _ _ _) rfl (by decide) fl_X8_101 rfl ?_
          refine q_iconst (v := 4) dX8_text_46 rfl ?_
          rw [hS.2.2.2.2.2.1]
          refine q_icmp_eq 62 dX8_text_47 (by decide) (fun g2 => ?_) (fun g2 => ?_)
          · have : nT = 4 := (nI_eq (b := 4) (by omega) (by omega)).mp g2
            exact no (by omega) _
          · have : nT ≠ 4 := fun q => g2 (by rw [q]; rfl)
            refine q_aload_n dX8_text_50 rfl ?_
            refine z_get 3 dX8_text_51 (by first | assumption | decide) (sh_20 _ _ _) rfl (by decide) fl_X8_17 rfl ?_
            refine q_iload_n dX8_text_54 rfl ?_
            refine q_imul dX8_text_55 ?_
            rw [hS.2.2.2.2.2.2.1, pk_mul]
            refine q_sipush (v := 8000) dX8_text_56 rfl ?_
            refine q_icmp_le 65 dX8_text_59 (by decide) (fun g3 => ?_) (fun g3 => ?_)
            · have hr : wSize A mo nT * rowsN A m ≤ 8000 := (nI_leI (b := 8000) (by omega) (by omega)).mp g3
              have hT4 : nT < 4 := by omega
              refine q_aload_n dX8_text_65 rfl ?_
              refine z_get 2 dX8_text_66 (by first | assumption | decide) (sh_20 _ _ _) rfl (by decide) fl_X8_13 rfl ?_
              refine q_aload_n dX8_text_69 rfl ?_
              refine z_get 1 dX8_text_70 (by first | assumption | decide) (sh_20 _ _ _) rfl (by decide) fl_X8_101 rfl ?_
              refine q_iload_n dX8_text_73 rfl ?_
              rw [hS.2.2.2.2.2.1]
              refine z_iast dX8_text_74 (by first | assumption | decide) (fun _ _ => rfl) (vp_in_nI (n := nT) hT4 (by omega)) ?_
              refine q_aload_n dX8_text_75 rfl ?_
              refine q_dup dX8_text_76 rfl ?_
              refine z_get 3 dX8_text_77 (by first | assumption | decide) (sh_20 _ _ _) rfl (by decide) fl_X8_17 rfl ?_
              rw [nI_clamp (by omega), up3_ne (by omega), hS.2.2.2.2.2.2.1]
              refine q_iload_n dX8_text_80 rfl ?_
              refine q_imul dX8_text_81 ?_
              rw [pk_mul]
              refine z_puti 3 dX8_text_82 (by first | assumption | decide) (sh_20 _ _ _) rfl (by decide) fl_X8_17 rfl pfI (Nat.le_of_ble_eq_true rfl) rfl ?_
              refine q_aload_n dX8_text_85 rfl ?_
              refine q_dup dX8_text_86 rfl ?_
              refine z_get 1 dX8_text_87 (by first | assumption | decide) (sh_20 _ _ _) rfl (by decide) fl_X8_101 rfl ?_
              rw [up3_get, if_neg (by omega), up3_ne (by omega), hS.2.2.2.2.2.1]
              refine q_iconst (v := 1) dX8_text_90 rfl ?_
              refine q_iadd dX8_text_91 ?_
              rw [nI_1]
              refine z_puti 1 dX8_text_92 (by first | assumption | decide) (sh_20 _ _ _) rfl (by decide) fl_X8_101 rfl pfI (Nat.le_of_ble_eq_true rfl) rfl ?_
              refine q_aload_n dX8_text_95 rfl ?_
              refine z_callV (j_changed _ t1) kV_X8_110 dX8_text_96 (by first | assumption | decide) (sh_20 _ _ _) rfl rfl rfl (by omega) (Nat.le_of_ble_eq_true rfl) (Nat.le_refl _) (Nat.le_refl _) rfl (fun v s2 t2 h => ?_)
              obtain ⟨rfl, rfl, rfl⟩ := h
              dsimp only [Option.toList, List.cons_append, List.nil_append]
              refine q_aload_n dX8_text_99 rfl ?_
              refine z_get 1 dX8_text_100 (by first | assumption | decide) (sh_20 _ _ _) rfl (by decide) fl_X8_101 rfl ?_
              rw [show uCh (up3 (up3 (up3 s1 21 0 nT (nI m)) 20 0 3 (nI (wSize A mo nT * rowsN A m))) 20 0 1 (nI (nT + 1))) 20 0 1 = nI (nT + 1) by rw [uCh_20 (by omega) (by omega)]; simp [up3_get]]
              refine q_iconst (v := 1) dX8_text_103 rfl ?_
              refine q_isub dX8_text_104 ?_
              rw [nI_pred]
              refine z_iret dX8_text_105 rfl ⟨rfl, fun q => absurd q nout, fun m' hm' e => ?_⟩
              have := inj m' hm' e
              subst this
              exact ⟨fun _ => ⟨rfl, rfl⟩, fun q => absurd ⟨hT4, hr⟩ q⟩
            · have hr : ¬ wSize A mo nT * rowsN A m ≤ 8000 := fun q => g3 (nI_le (b := 8000) q (by omega))
              exact no (fun q => hr q.2) _
        · exact absurd (nI_lt (by omega) (by omega)) g
      | succ k ih =>
        intro l hl
        refine q_iload dX8_text_19 rfl ?_
        refine q_iload_n dX8_text_21 rfl ?_
        refine q_icmp_gt 42 dX8_text_22 (by decide) (fun g => ?_) (fun g => ?_)
        · exact absurd g (nI_nlt (by omega) (by omega))
        · refine q_iload_n dX8_text_25 rfl ?_
          refine q_iload_n dX8_text_26 rfl ?_
          refine q_iadd dX8_text_27 ?_
          rw [nI_add]
          refine s_istore_n 2 dX8_text_28 rfl (Nat.le_of_ble_eq_true rfl) rfl ?_
          dsimp only [List.set]
          refine q_iload_n dX8_text_29 rfl ?_
          refine q_aload_n dX8_text_30 rfl ?_
          refine z_get 0 dX8_text_31 (by first | assumption | decide) (sh_20 _ _ _) rfl (by decide) fl_X8_7 rfl ?_
          rw [hS.2.2.2.2.1]
          refine q_imul dX8_text_34 ?_
          rw [pk_mul, ← Nat.pow_succ]
          refine s_istore_n 3 dX8_text_35 rfl (Nat.le_of_ble_eq_true rfl) rfl ?_
          dsimp only [List.set]
          refine q_iinc dX8_text_36 rfl (Nat.le_of_ble_eq_true rfl) rfl ?_
          dsimp only [List.set]
          refine q_goto 19 dX8_text_39 (by decide) ?_
          rw [nI_inc]
          exact ih (l + 1) (by omega)
    refine q_iconst (v := 0) dX8_text_12 rfl ?_
    refine s_istore_n 2 dX8_text_13 rfl (Nat.le_of_ble_eq_true rfl) rfl ?_
    dsimp only [List.set]
    refine q_iconst (v := 1) dX8_text_14 rfl ?_
    refine s_istore_n 3 dX8_text_15 rfl (Nat.le_of_ble_eq_true rfl) rfl ?_
    dsimp only [List.set]
    refine q_iconst (v := 0) dX8_text_16 rfl ?_
    refine q_istore dX8_text_17 (Nat.le_of_ble_eq_true rfl) rfl ?_
    dsimp only [List.set]
    exact loop (m + 1) 0 (by omega)
  · refine q_bipush (v := (-3)) dX8_text_9 rfl ?_
    have hn := bC_z.mp h
    refine z_iret dX8_text_11 rfl ⟨rfl, fun _ => ⟨rfl, rfl⟩, fun m hm e => absurd ?_ hn⟩
    rw [e]
    exact ⟨Int32.not_lt.mp (hnm m hm).1, Int32.not_lt.mp (hnm m hm).2⟩
set_option maxRecDepth 100000 in
set_option maxHeartbeats 4000000 in
theorem j_term (sg : zI) (ta : zJ) (nt : Nat) (h4 : sg 20 0 4 = nI nt) (hnt : nt ≤ 12) : zP yX8_term mX8_term 1 [.ref (nm 20 0)] sg ta (fun v s t => t = ta ∧ (nt < 12 → v = some (.int (nI nt)) ∧ s = uTerm sg nt) ∧ (nt = 12 → v = some (.int (-5)) ∧ s = sg)) := by
  refine zP_of (lv := [some (.ref (nm 20 0))]) (by decide +kernel) rfl (fun h => by cases h) rfl (Nat.le_of_ble_eq_true rfl) ?_
  refine q_aload_n dX8_term_0 rfl ?_
  refine z_get 4 dX8_term_1 (by first | assumption | decide) (sh_20 _ _ _) rfl (by decide) fl_X8_104 rfl ?_
  refine q_bipush (v := 12) dX8_term_4 rfl ?_
  rw [h4]
  refine q_icmp_ne 12 dX8_term_6 (by decide) (fun h => ?_) (fun h => ?_)
  · have h12 : nt < 12 := by
      have : nt ≠ 12 := fun q => h (by rw [q]; rfl)
      omega
    refine q_aload_n dX8_term_12 rfl ?_
    refine z_get 5 dX8_term_13 (by first | assumption | decide) (sh_20 _ _ _) rfl (by decide) fl_X8_20 rfl ?_
    refine q_aload_n dX8_term_16 rfl ?_
    refine z_get 4 dX8_term_17 (by first | assumption | decide) (sh_20 _ _ _) rfl (by decide) fl_X8_104 rfl ?_
    rw [h4]
    refine q_iconst (v := 0) dX8_term_20 rfl ?_
    refine z_iast dX8_term_21 (by first | assumption | decide) (fun _ _ => rfl) (vp_in_nI (n := nt) h12 (by omega)) ?_
    refine q_aload_n dX8_term_22 rfl ?_
    refine q_dup dX8_term_23 rfl ?_
    refine z_get 4 dX8_term_24 (by first | assumption | decide) (sh_20 _ _ _) rfl (by decide) fl_X8_104 rfl ?_
    rw [nI_clamp (by omega), up3_ne (by omega), h4]
    refine q_iconst (v := 1) dX8_term_27 rfl ?_
    refine q_iadd dX8_term_28 ?_
    rw [nI_1]
    refine z_puti 4 dX8_term_29 (by first | assumption | decide) (sh_20 _ _ _) rfl (by decide) fl_X8_104 rfl pfI (Nat.le_of_ble_eq_true rfl) rfl ?_
    refine q_aload_n dX8_term_32 rfl ?_
    refine z_callV (j_changed _ ta) kV_X8_110 dX8_term_33 (by first | assumption | decide) (sh_20 _ _ _) rfl rfl rfl (by omega) (Nat.le_of_ble_eq_true rfl) (Nat.le_refl _) (Nat.le_refl _) rfl (fun v s2 t2 h => ?_)
    obtain ⟨rfl, rfl, rfl⟩ := h
    dsimp only [Option.toList, List.cons_append, List.nil_append]
    refine q_aload_n dX8_term_36 rfl ?_
    refine z_get 4 dX8_term_37 (by first | assumption | decide) (sh_20 _ _ _) rfl (by decide) fl_X8_104 rfl ?_
    rw [show uCh (up3 (up3 sg 22 0 nt 0) 20 0 4 (nI (nt + 1))) 20 0 4 = nI (nt + 1) by rw [uCh_20 (by omega) (by omega)]; simp [up3_get]]
    refine q_iconst (v := 1) dX8_term_40 rfl ?_
    refine q_isub dX8_term_41 ?_
    rw [nI_pred]
    exact z_iret dX8_term_42 rfl ⟨rfl, fun _ => ⟨rfl, rfl⟩, fun q => absurd q (by omega)⟩
  · have h12 : nt = 12 := (nI_eq (b := 12) (by omega) (by omega)).mp h
    refine q_bipush (v := (-5)) dX8_term_9 rfl ?_
    exact z_iret dX8_term_11 rfl ⟨rfl, fun q => absurd q (by omega), fun _ => ⟨rfl, rfl⟩⟩
set_option maxRecDepth 100000 in
set_option maxHeartbeats 4000000 in
theorem j_part (sg : zI) (ta : zJ) (A nT nt : Nat) (mo : Nat → Nat) (x y : Int32) (hS : SpM sg A nT mo) (hE : TeM sg A nT nt) : zP yX8_part mX8_part 1 [.ref (nm 20 0), .int x, .int y] sg ta (fun v s t => t = ta ∧ (¬ tk nt x → v = some (.int (-2)) ∧ s = sg) ∧ (tk nt x → ¬ PV A nT y → v = some (.int (-3)) ∧ s = sg) ∧ ∀ q n, q < nt → x = nI q → PV A nT y → sg 22 0 q = nI n → n ≤ 6 → ((n = 6 → v = some (.int (-5)) ∧ s = sg) ∧ (n < 6 → v = some (.int (nI (n + 1))) ∧ s = uPart sg q n y))) := by
  have hnt := hE.1
  have hA := hS.1
  have pvE := PV_in hS.1 hS.2.1 y
  have go : tk nt x → PV A nT y → Zq mX8_part 1 (fun v s t => t = ta ∧ (¬ tk nt x → v = some (.int (-2)) ∧ s = sg) ∧ (tk nt x → ¬ PV A nT y → v = some (.int (-3)) ∧ s = sg) ∧ ∀ q n, q < nt → x = nI q → PV A nT y → sg 22 0 q = nI n → n ≤ 6 → ((n = 6 → v = some (.int (-5)) ∧ s = sg) ∧ (n < 6 → v = some (.int (nI (n + 1))) ∧ s = uPart sg q n y))) sg ta 50 [some (.ref (nm 20 0)), some (.int x), some (.int y)] [] := by
    intro htk hpv
    obtain ⟨q, hq, rfl⟩ := id htk
    obtain ⟨n, hn6, hn, -⟩ := hE.2.2 q hq
    have q12 : q < 12 := by omega
    have inj : ∀ q' n', q' < nt → nI q = nI q' → sg 22 0 q' = nI n' → n' ≤ 6 → q' = q ∧ n' = n := fun q' n' h1 h2 h3 h4 => by
      have e := ((nI_eq (by omega) (by omega)).mp h2).symm
      subst e
      rw [hn] at h3
      exact ⟨rfl, ((nI_eq (by omega) (by omega)).mp h3).symm⟩
    refine q_aload_n dX8_part_50 rfl ?_
    refine z_get 5 dX8_part_51 (by first | assumption | decide) (sh_20 _ _ _) rfl (by decide) fl_X8_20 rfl ?_
    refine q_iload_n dX8_part_54 rfl ?_
    refine z_iald dX8_part_55 (by first | assumption | decide) rfl (vp_in_nI (n := q) q12 (by omega)) ?_
    refine q_bipush (v := 6) dX8_part_56 rfl ?_
    rw [nI_clamp (by omega), hn]
    refine q_icmp_ne 64 dX8_part_58 (by decide) (fun h => ?_) (fun h => ?_)
    · have h6 : n < 6 := by
        have : n ≠ 6 := fun e => h (by rw [e]; rfl)
        omega
      refine q_aload_n dX8_part_64 rfl ?_
      refine z_get 6 dX8_part_65 (by first | assumption | decide) (sh_20 _ _ _) rfl (by decide) fl_X8_23 rfl ?_
      refine q_bipush (v := 6) dX8_part_68 rfl ?_
      refine q_iload_n dX8_part_70 rfl ?_
      refine q_imul dX8_part_71 ?_
      refine q_aload_n dX8_part_72 rfl ?_
      refine z_get 5 dX8_part_73 (by first | assumption | decide) (sh_20 _ _ _) rfl (by decide) fl_X8_20 rfl ?_
      refine q_iload_n dX8_part_76 rfl ?_
      refine z_iald dX8_part_77 (by first | assumption | decide) rfl (vp_in_nI (n := q) q12 (by omega)) ?_
      rw [nI_clamp (by omega), hn, show (6 : Int32) * nI q = nI (6 * q) from pk_mul 6 q]
      refine q_iadd dX8_part_78 ?_
      rw [nI_add]
      refine q_iload_n dX8_part_79 rfl ?_
      refine z_iast dX8_part_80 (by first | assumption | decide) (fun _ _ => rfl) (vp_in_nI (n := 6 * q + n) (by omega) (by omega)) ?_
      refine q_aload_n dX8_part_81 rfl ?_
      refine z_get 5 dX8_part_82 (by first | assumption | decide) (sh_20 _ _ _) rfl (by decide) fl_X8_20 rfl ?_
      refine q_iload_n dX8_part_85 rfl ?_
      refine q_dup2 dX8_part_86 rfl rfl ?_
      rw [nI_clamp (by omega)]
      refine z_iald dX8_part_87 (by first | assumption | decide) rfl (vp_in_nI (n := q) q12 (by omega)) ?_
      rw [nI_clamp (by omega), up3_ne (by omega), hn]
      refine q_iconst (v := 1) dX8_part_88 rfl ?_
      refine q_iadd dX8_part_89 ?_
      rw [nI_1]
      refine z_iast dX8_part_90 (by first | assumption | decide) (fun _ _ => rfl) (vp_in_nI (n := q) q12 (by omega)) ?_
      refine q_aload_n dX8_part_91 rfl ?_
      rw [nI_clamp (by omega)]
      refine z_callV (j_changed _ ta) kV_X8_110 dX8_part_92 (by first | assumption | decide) (sh_20 _ _ _) rfl rfl rfl (by omega) (Nat.le_of_ble_eq_true rfl) (Nat.le_refl _) (Nat.le_refl _) rfl (fun v s2 t2 h => ?_)
      obtain ⟨rfl, rfl, rfl⟩ := h
      dsimp only [Option.toList, List.cons_append, List.nil_append]
      refine q_aload_n dX8_part_95 rfl ?_
      refine z_get 5 dX8_part_96 (by first | assumption | decide) (sh_20 _ _ _) rfl (by decide) fl_X8_20 rfl ?_
      refine q_iload_n dX8_part_99 rfl ?_
      refine z_iald dX8_part_100 (by first | assumption | decide) rfl (vp_in_nI (n := q) q12 (by omega)) ?_
      rw [nI_clamp (by omega), show uCh (up3 (up3 sg 23 0 (6 * q + n) y) 22 0 q (nI (n + 1))) 22 0 q = nI (n + 1) by rw [uCh_ne (by omega)]; simp [up3_get]]
      refine z_iret dX8_part_101 rfl ⟨rfl, fun z => absurd htk z, fun _ z => absurd hpv z, fun q' n' h1 h2 _ h3 h4 => ?_⟩
      obtain ⟨rfl, rfl⟩ := inj q' n' h1 h2 h3 h4
      exact ⟨fun z => absurd z (by omega), fun _ => ⟨rfl, rfl⟩⟩
    · have h6 : n = 6 := (nI_eq (b := 6) (by omega) (by omega)).mp h
      refine q_bipush (v := (-5)) dX8_part_61 rfl ?_
      refine z_iret dX8_part_63 rfl ⟨rfl, fun z => absurd htk z, fun _ z => absurd hpv z, fun q' n' h1 h2 _ h3 h4 => ?_⟩
      obtain ⟨rfl, rfl⟩ := inj q' n' h1 h2 h3 h4
      exact ⟨fun _ => ⟨rfl, rfl⟩, fun z => absurd z (by omega)⟩
  refine zP_of (lv := [some (.ref (nm 20 0)), some (.int x), some (.int y)]) (by decide +kernel) rfl (fun h => by cases h) rfl (Nat.le_of_ble_eq_true rfl) ?_
  refine q_iload_n dX8_part_0 rfl ?_
  refine q_iconst (v := 0) dX8_part_1 rfl ?_
  refine q_aload_n dX8_part_2 rfl ?_
  refine z_get 4 dX8_part_3 (by first | assumption | decide) (sh_20 _ _ _) rfl (by decide) fl_X8_104 rfl ?_
  refine q_iconst (v := 1) dX8_part_6 rfl ?_
  refine q_isub dX8_part_7 ?_
  rw [hE.2.1]
  refine z_callS (j_in sg ta x 0 _) kS_X8_94 dX8_part_8 rfl (by omega) (Nat.le_of_ble_eq_true rfl) (Nat.le_refl _) (Nat.le_refl _) rfl (fun v s1 t1 h => ?_)
  obtain ⟨rfl, rfl, rfl⟩ := h
  dsimp only [Option.toList, List.cons_append, List.nil_append]
  refine q_if_ne 17 dX8_part_11 (by decide) (fun h => ?_) (fun h => ?_)
  · have htk : tk nt x := (tk_in (by omega) x).mpr (bC_nz.mp h)
    refine q_iload_n dX8_part_17 rfl ?_
    refine q_iconst (v := 0) dX8_part_18 rfl ?_
    refine q_aload_n dX8_part_19 rfl ?_
    refine z_get 0 dX8_part_20 (by first | assumption | decide) (sh_20 _ _ _) rfl (by decide) fl_X8_7 rfl ?_
    refine q_iconst (v := 1) dX8_part_23 rfl ?_
    refine q_isub dX8_part_24 ?_
    rw [hS.2.2.2.2.1]
    refine z_callS (j_in s1 t1 y 0 _) kS_X8_94 dX8_part_25 rfl (by omega) (Nat.le_of_ble_eq_true rfl) (Nat.le_refl _) (Nat.le_refl _) rfl (fun v s2 t2 h => ?_)
    obtain ⟨rfl, rfl, rfl⟩ := h
    dsimp only [Option.toList, List.cons_append, List.nil_append]
    refine q_if_ne 50 dX8_part_28 (by decide) (fun h2 => ?_) (fun h2 => ?_)
    · exact go htk (pvE.mpr (Or.inl (bC_nz.mp h2)))
    · refine q_iload_n dX8_part_31 rfl ?_
      refine q_bipush (v := 8) dX8_part_32 rfl ?_
      refine q_bipush (v := 7) dX8_part_34 rfl ?_
      refine q_aload_n dX8_part_36 rfl ?_
      refine z_get 1 dX8_part_37 (by first | assumption | decide) (sh_20 _ _ _) rfl (by decide) fl_X8_101 rfl ?_
      refine q_iadd dX8_part_40 ?_
      rw [hS.2.2.2.2.2.1]
      refine z_callS (j_in s2 t2 y 8 _) kS_X8_94 dX8_part_41 rfl (by omega) (Nat.le_of_ble_eq_true rfl) (Nat.le_refl _) (Nat.le_refl _) rfl (fun v s3 t3 h => ?_)
      obtain ⟨rfl, rfl, rfl⟩ := h
      dsimp only [Option.toList, List.cons_append, List.nil_append]
      refine q_if_ne 50 dX8_part_44 (by decide) (fun h3 => ?_) (fun h3 => ?_)
      · exact go htk (pvE.mpr (Or.inr (bC_nz.mp h3)))
      · refine q_bipush (v := (-3)) dX8_part_47 rfl ?_
        have hn : ¬ PV A nT y := fun z => (pvE.mp z).elim (bC_z.mp h2) (bC_z.mp h3)
        exact z_iret dX8_part_49 rfl ⟨rfl, fun z => absurd htk z, fun _ _ => ⟨rfl, rfl⟩, fun _ _ _ _ z => absurd z hn⟩
  · refine q_bipush (v := (-2)) dX8_part_14 rfl ?_
    have hno : ¬ tk nt x := fun z => bC_z.mp h ((tk_in (by omega) x).mp z)
    exact z_iret dX8_part_16 rfl ⟨rfl, fun _ => ⟨rfl, rfl⟩, fun z => absurd z hno, fun q n h1 h2 => absurd ⟨q, h1, h2⟩ hno⟩
