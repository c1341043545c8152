theorem up3_upR {sg : zI} {K i : Nat} {r r' : Nat → Int32} {j : Nat} {x : Int32} (h : ∀ q, r' q = if q = j then x else r q) : up3 (upR sg K i r) K i j x = upR sg K i r' := by
  funext K' i' q
  rw [up3_get]
  by_cases e : K' = K ∧ i' = i
  · obtain ⟨rfl, rfl⟩ := e
    simp only [upR, and_self, if_true, true_and]
    rw [h]
  · rw [if_neg (fun z => e ⟨z.1, z.2.1⟩)]
    simp only [upR, if_neg e]
theorem upR_same {sg : zI} {K i : Nat} : upR sg K i (sg K i) = sg := by
  funext K' i'
  by_cases e : K' = K ∧ i' = i
  · obtain ⟨rfl, rfl⟩ := e; simp [upR]
  · simp only [upR, if_neg e]
set_option maxRecDepth 100000 in
set_option maxHeartbeats 4000000 in
theorem j_machine (sg : zI) (ta : zJ) (nc : Nat) (x : Int32) (h7 : sg 20 0 7 = nI nc) (hnc : nc ≤ 3) : zP yX8_machine mX8_machine 1 [.ref (nm 20 0), .int x] sg ta (fun v s t => t = ta ∧ (¬ (1 ≤ x ∧ x ≤ 6) → v = some (.int (-3)) ∧ s = sg) ∧ ((1 ≤ x ∧ x ≤ 6) → (nc = 3 → v = some (.int (-5)) ∧ s = sg) ∧ (nc < 3 → v = some (.int (nI nc)) ∧ s = uMach sg nc x))) := by
  refine zP_of (lv := [some (.ref (nm 20 0)), some (.int x), none]) (by decide +kernel) rfl (fun h => by cases h) rfl (Nat.le_of_ble_eq_true rfl) ?_
  refine q_iload_n dX8_machine_0 rfl ?_
  refine q_iconst (v := 1) dX8_machine_1 rfl ?_
  refine q_bipush (v := 6) dX8_machine_2 rfl ?_
  refine z_callS (j_in sg ta x 1 6) kS_X8_94 dX8_machine_4 rfl (by omega) (Nat.le_of_ble_eq_true rfl) (Nat.le_refl _) (Nat.le_refl _) rfl (fun v s1 t1 h => ?_)
  obtain ⟨rfl, rfl, rfl⟩ := h
  dsimp only [Option.toList, List.cons_append, List.nil_append]
  refine q_if_ne 13 dX8_machine_7 (by decide) (fun h => ?_) (fun h => ?_)
  · have hx := bC_nz.mp h
    refine q_aload_n dX8_machine_13 rfl ?_
    refine z_get 7 dX8_machine_14 (by first | assumption | decide) (sh_20 _ _ _) rfl (by decide) fl_X8_107 rfl ?_
    refine q_iconst (v := 3) dX8_machine_17 rfl ?_
    rw [h7]
    refine q_icmp_ne 24 dX8_machine_18 (by decide) (fun h2 => ?_) (fun h2 => ?_)
    · have h3 : nc < 3 := by
        have : nc ≠ 3 := fun q => h2 (by rw [q]; rfl)
        omega
      refine q_aload_n dX8_machine_24 rfl ?_
      refine z_get 8 dX8_machine_25 (by first | assumption | decide) (sh_20 _ _ _) rfl (by decide) fl_X8_26 rfl ?_
      refine q_aload_n dX8_machine_28 rfl ?_
      refine z_get 7 dX8_machine_29 (by first | assumption | decide) (sh_20 _ _ _) rfl (by decide) fl_X8_107 rfl ?_
      rw [h7]
      refine q_iload_n dX8_machine_32 rfl ?_
      refine z_iast dX8_machine_33 (by first | assumption | decide) (fun _ _ => rfl) (vp_in_nI (n := nc) h3 (by omega)) ?_
      refine q_iconst (v := 0) dX8_machine_34 rfl ?_
      refine s_istore_n 2 dX8_machine_35 rfl (Nat.le_of_ble_eq_true rfl) rfl ?_
      dsimp only [List.set]
      rw [nI_clamp (by omega)]
      -- the steps
      have e7 : ∀ r r', (upR (upR (up3 s1 24 0 nc x) 25 0 r) 26 0 r') 20 0 7 = nI nc := fun r r' => by rw [upR_ne (by omega), upR_ne (by omega), up3_ne (by omega)]; exact h7
      have e7' : ∀ r, (upR (up3 s1 24 0 nc x) 25 0 r) 20 0 7 = nI nc := fun r => by rw [upR_ne (by omega), up3_ne (by omega)]; exact h7
      have loop2 : ∀ (k j : Nat), j + k = 6 → Zq mX8_machine 1 (fun v s t => t = t1 ∧ (¬ (1 ≤ x ∧ x ≤ 6) → v = some (.int (-3)) ∧ s = s1) ∧ ((1 ≤ x ∧ x ≤ 6) → (nc = 3 → v = some (.int (-5)) ∧ s = s1) ∧ (nc < 3 → v = some (.int (nI nc)) ∧ s = uMach s1 nc x))) (upR (upR (up3 s1 24 0 nc x) 25 0 (fun j => if 18 * nc ≤ j ∧ j < 18 * nc + 18 then 0 else s1 25 0 j)) 26 0 (fun q => if 6 * nc ≤ q ∧ q < 6 * nc + j then 0 else s1 26 0 q)) t1 65 [some (.ref (nm 20 0)), some (.int x), some (.int (nI j))] [] := by
        intro k
        induction k with
        | zero =>
          intro j hj
          have : j = 6 := by omega
          subst this
          refine q_iload_n dX8_machine_65 rfl ?_
          refine q_bipush (v := 6) dX8_machine_66 rfl ?_
          refine q_icmp_ge 92 dX8_machine_68 (by decide) (fun g => ?_) (fun g => ?_)
          · refine q_aload_n dX8_machine_92 rfl ?_
            refine q_dup dX8_machine_93 rfl ?_
            refine z_get 7 dX8_machine_94 (by first | assumption | decide) (sh_20 _ _ _) rfl (by decide) fl_X8_107 rfl ?_
            rw [e7]
            refine q_iconst (v := 1) dX8_machine_97 rfl ?_
            refine q_iadd dX8_machine_98 ?_
            rw [nI_1]
            refine z_puti 7 dX8_machine_99 (by first | assumption | decide) (sh_20 _ _ _) rfl (by decide) fl_X8_107 rfl pfI (Nat.le_of_ble_eq_true rfl) rfl ?_
            refine q_aload_n dX8_machine_102 rfl ?_
            refine z_callV (j_changed _ t1) kV_X8_110 dX8_machine_103 (by first | assumption | decide) (sh_20 _ _ _) rfl rfl rfl (by omega) (Nat.le_of_ble_eq_true rfl) (Nat.le_refl _) (Nat.le_refl _) rfl (fun v s2 t2 h => ?_)
            obtain ⟨rfl, rfl, rfl⟩ := h
            dsimp only [Option.toList, List.cons_append, List.nil_append]
            refine q_aload_n dX8_machine_106 rfl ?_
            refine z_get 7 dX8_machine_107 (by first | assumption | decide) (sh_20 _ _ _) rfl (by decide) fl_X8_107 rfl ?_
            have e : uCh (up3 (upR (upR (up3 s1 24 0 nc x) 25 0 (fun j => if 18 * nc ≤ j ∧ j < 18 * nc + 18 then 0 else s1 25 0 j)) 26 0 (fun q => if 6 * nc ≤ q ∧ q < 6 * nc + 6 then 0 else s1 26 0 q)) 20 0 7 (nI (nc + 1))) 20 0 7 = nI (nc + 1) := by rw [uCh_20 (by omega) (by omega)]; simp [up3_get]
            rw [e]
            refine q_iconst (v := 1) dX8_machine_110 rfl ?_
            refine q_isub dX8_machine_111 ?_
            rw [nI_pred]
            exact z_iret dX8_machine_112 rfl ⟨rfl, fun q => absurd hx q, fun _ => ⟨fun q => absurd q (by omega), fun _ => ⟨rfl, rfl⟩⟩⟩
          · exact absurd (nI_le (a := 6) (by omega) (by omega)) g
        | succ k ih =>
          intro j hj
          refine q_iload_n dX8_machine_65 rfl ?_
          refine q_bipush (v := 6) dX8_machine_66 rfl ?_
          refine q_icmp_ge 92 dX8_machine_68 (by decide) (fun g => ?_) (fun g => ?_)
          · exact absurd g (nI_ge (b := 6) (by omega) (by omega))
          · refine q_aload_n dX8_machine_71 rfl ?_
            refine z_get 10 dX8_machine_72 (by first | assumption | decide) (sh_20 _ _ _) rfl (by decide) fl_X8_32 rfl ?_
            refine q_bipush (v := 6) dX8_machine_75 rfl ?_
            refine q_aload_n dX8_machine_77 rfl ?_
            refine z_get 7 dX8_machine_78 (by first | assumption | decide) (sh_20 _ _ _) rfl (by decide) fl_X8_107 rfl ?_
            rw [e7]
            refine q_imul dX8_machine_81 ?_
            rw [show (6 : Int32) * nI nc = nI (6 * nc) from pk_mul 6 nc]
            refine q_iload_n dX8_machine_82 rfl ?_
            refine q_iadd dX8_machine_83 ?_
            rw [nI_add]
            refine q_iconst (v := 0) dX8_machine_84 rfl ?_
            refine z_zast dX8_machine_85 (by first | assumption | decide) (fun _ _ => rfl) (vp_in_nI (n := 6 * nc + j) (by omega) (by omega)) (by first | exact Or.inl rfl | exact Or.inr rfl | assumption) ?_
            rw [nI_clamp (by omega), up3_upR (r' := fun q => if 6 * nc ≤ q ∧ q < 6 * nc + (j + 1) then 0 else s1 26 0 q) (fun q => by
              by_cases e : q = 6 * nc + j
              · rw [if_pos (by omega), if_pos e]
              · rw [if_neg e]
                by_cases e2 : 6 * nc ≤ q ∧ q < 6 * nc + j
                · rw [if_pos e2, if_pos (by omega)]
                · rw [if_neg e2, if_neg (by omega)])]
            refine q_iinc dX8_machine_86 rfl (Nat.le_of_ble_eq_true rfl) rfl ?_
            dsimp only [List.set]
            refine q_goto 65 dX8_machine_89 (by decide) ?_
            rw [nI_inc]
            exact ih (j + 1) (by omega)
      have loop : ∀ (k j : Nat), j + k = 18 → Zq mX8_machine 1 (fun v s t => t = t1 ∧ (¬ (1 ≤ x ∧ x ≤ 6) → v = some (.int (-3)) ∧ s = s1) ∧ ((1 ≤ x ∧ x ≤ 6) → (nc = 3 → v = some (.int (-5)) ∧ s = s1) ∧ (nc < 3 → v = some (.int (nI nc)) ∧ s = uMach s1 nc x))) (upR (up3 s1 24 0 nc x) 25 0 (fun q => if 18 * nc ≤ q ∧ q < 18 * nc + j then 0 else s1 25 0 q)) t1 36 [some (.ref (nm 20 0)), some (.int x), some (.int (nI j))] [] := by
        intro k
        induction k with
        | zero =>
          intro j hj
          have : j = 18 := by omega
          subst this
          refine q_iload_n dX8_machine_36 rfl ?_
          refine q_bipush (v := 18) dX8_machine_37 rfl ?_
          refine q_icmp_ge 63 dX8_machine_39 (by decide) (fun g => ?_) (fun g => ?_)
          · refine q_iconst (v := 0) dX8_machine_63 rfl ?_
            refine s_istore_n 2 dX8_machine_64 rfl (Nat.le_of_ble_eq_true rfl) rfl ?_
            dsimp only [List.set]
            have e : upR (up3 s1 24 0 nc x) 25 0 (fun q => if 18 * nc ≤ q ∧ q < 18 * nc + 18 then 0 else s1 25 0 q) = upR (upR (up3 s1 24 0 nc x) 25 0 (fun q => if 18 * nc ≤ q ∧ q < 18 * nc + 18 then 0 else s1 25 0 q)) 26 0 (fun q => if 6 * nc ≤ q ∧ q < 6 * nc + 0 then 0 else s1 26 0 q) := by
              have e1 : (fun q => if 6 * nc ≤ q ∧ q < 6 * nc + 0 then 0 else s1 26 0 q) = (upR (up3 s1 24 0 nc x) 25 0 (fun q => if 18 * nc ≤ q ∧ q < 18 * nc + 18 then 0 else s1 25 0 q)) 26 0 := by
                funext q
                rw [if_neg (by omega), upR_ne (by omega), up3_ne (by omega)]
              rw [e1, upR_same]
            rw [e]
            exact loop2 6 0 (by omega)
          · exact absurd (nI_le (a := 18) (by omega) (by omega)) g
        | succ k ih =>
          intro j hj
          refine q_iload_n dX8_machine_36 rfl ?_
          refine q_bipush (v := 18) dX8_machine_37 rfl ?_
          refine q_icmp_ge 63 dX8_machine_39 (by decide) (fun g => ?_) (fun g => ?_)
          · exact absurd g (nI_ge (b := 18) (by omega) (by omega))
          · refine q_aload_n dX8_machine_42 rfl ?_
            refine z_get 9 dX8_machine_43 (by first | assumption | decide) (sh_20 _ _ _) rfl (by decide) fl_X8_29 rfl ?_
            refine q_bipush (v := 18) dX8_machine_46 rfl ?_
            refine q_aload_n dX8_machine_48 rfl ?_
            refine z_get 7 dX8_machine_49 (by first | assumption | decide) (sh_20 _ _ _) rfl (by decide) fl_X8_107 rfl ?_
            rw [e7']
            refine q_imul dX8_machine_52 ?_
            rw [show (18 : Int32) * nI nc = nI (18 * nc) from pk_mul 18 nc]
            refine q_iload_n dX8_machine_53 rfl ?_
            refine q_iadd dX8_machine_54 ?_
            rw [nI_add]
            refine q_iconst (v := 0) dX8_machine_55 rfl ?_
            refine z_iast dX8_machine_56 (by first | assumption | decide) (fun _ _ => rfl) (vp_in_nI (n := 18 * nc + j) (by omega) (by omega)) ?_
            rw [nI_clamp (by omega), up3_upR (r' := fun q => if 18 * nc ≤ q ∧ q < 18 * nc + (j + 1) then 0 else s1 25 0 q) (fun q => by
              by_cases e : q = 18 * nc + j
              · rw [if_pos (by omega), if_pos e]
              · rw [if_neg e]
                by_cases e2 : 18 * nc ≤ q ∧ q < 18 * nc + j
                · rw [if_pos e2, if_pos (by omega)]
                · rw [if_neg e2, if_neg (by omega)])]
            refine q_iinc dX8_machine_57 rfl (Nat.le_of_ble_eq_true rfl) rfl ?_
            dsimp only [List.set]
            refine q_goto 36 dX8_machine_60 (by decide) ?_
            rw [nI_inc]
            exact ih (j + 1) (by omega)
      have e0 : up3 s1 24 0 nc x = upR (up3 s1 24 0 nc x) 25 0 (fun q => if 18 * nc ≤ q ∧ q < 18 * nc + 0 then 0 else s1 25 0 q) := by
        have e1 : (fun q => if 18 * nc ≤ q ∧ q < 18 * nc + 0 then 0 else s1 25 0 q) = (up3 s1 24 0 nc x) 25 0 := by
          funext q
          rw [if_neg (by omega), up3_ne (by omega)]
        rw [e1, upR_same]
      rw [e0]
      exact loop 18 0 (by omega)
    · have h3 : nc = 3 := (nI_eq (b := 3) (by omega) (by omega)).mp h2
      refine q_bipush (v := (-5)) dX8_machine_21 rfl ?_
      exact z_iret dX8_machine_23 rfl ⟨rfl, fun q => absurd hx q, fun _ => ⟨fun _ => ⟨rfl, rfl⟩, fun q => absurd q (by omega)⟩⟩
  · refine q_bipush (v := (-3)) dX8_machine_10 rfl ?_
    exact z_iret dX8_machine_12 rfl ⟨rfl, fun _ => ⟨rfl, rfl⟩, fun q => absurd q (bC_z.mp h)⟩
set_option maxRecDepth 100000 in
set_option maxHeartbeats 4000000 in
theorem j_step (sg : zI) (ta : zJ) (A nc : Nat) (x y z w : Int32) (hA : A = 2 ∨ A = 3) (h0 : sg 20 0 0 = nI A) (hC : MaM sg nc) : zP yX8_step mX8_step 1 [.ref (nm 20 0), .int x, .int y, .int z, .int w] sg ta (fun v s t => t = ta ∧ (¬ tk nc x → v = some (.int (-2)) ∧ s = sg) ∧ ∀ i q, i < nc → x = nI i → sg 24 0 i = nI q → q ≤ 6 → ((¬ (tk q y ∧ tk A z ∧ tk q w) → v = some (.int (-3)) ∧ s = sg) ∧ ∀ st a u, st < q → a < A → u < q → y = nI st → z = nI a → w = nI u → v = some (.int (sg 25 0 (18 * i + 3 * st + a))) ∧ s = uStep sg i st a w)) := by
  have hnc := hC.1
  refine zP_of (lv := [some (.ref (nm 20 0)), some (.int x), some (.int y), some (.int z), some (.int w), none, none]) (by decide +kernel) rfl (fun h => by cases h) rfl (Nat.le_of_ble_eq_true rfl) ?_
  refine q_iload_n dX8_step_0 rfl ?_
  refine q_iconst (v := 0) dX8_step_1 rfl ?_
  refine q_aload_n dX8_step_2 rfl ?_
  refine z_get 7 dX8_step_3 (by first | assumption | decide) (sh_20 _ _ _) rfl (by decide) fl_X8_107 rfl ?_
  refine q_iconst (v := 1) dX8_step_6 rfl ?_
  refine q_isub dX8_step_7 ?_
  rw [hC.2.1]
  refine z_callS (j_in sg ta x 0 _) kS_X8_94 dX8_step_8 rfl (by omega) (Nat.le_of_ble_eq_true rfl) (Nat.le_refl _) (Nat.le_refl _) rfl (fun v s1 t1 h => ?_)
  obtain ⟨rfl, rfl, rfl⟩ := h
  dsimp only [Option.toList, List.cons_append, List.nil_append]
  refine q_if_ne 17 dX8_step_11 (by decide) (fun h => ?_) (fun h => ?_)
  · obtain ⟨i, hi, rfl⟩ := (tk_in (n := nc) (by omega) x).mpr (bC_nz.mp h)
    have htk : tk nc (nI i) := ⟨i, hi, rfl⟩
    have i3 : i < 3 := by omega
    obtain ⟨⟨q, q1, q6, hq⟩, hst, hgd⟩ := hC.2.2 i hi
    have inj : ∀ i' q', i' < nc → nI i = nI i' → s1 24 0 i' = nI q' → q' ≤ 6 → i' = i ∧ q' = q := fun i' q' a b c d => by
      have e := ((nI_eq (by omega) (by omega)).mp b).symm
      subst e
      rw [hq] at c
      exact ⟨rfl, ((nI_eq (by omega) (by omega)).mp c).symm⟩
    have no : ¬ (tk q y ∧ tk A z ∧ tk q w) → Zq mX8_step 1 (fun v s t => t = t1 ∧ (¬ tk nc (nI i) → v = some (.int (-2)) ∧ s = s1) ∧ ∀ i' q, i' < nc → nI i = nI i' → s1 24 0 i' = nI q → q ≤ 6 → ((¬ (tk q y ∧ tk A z ∧ tk q w) → v = some (.int (-3)) ∧ s = s1) ∧ ∀ st a u, st < q → a < A → u < q → y = nI st → z = nI a → w = nI u → v = some (.int (s1 25 0 (18 * i' + 3 * st + a))) ∧ s = uStep s1 i' st a w)) s1 t1 64 [some (.ref (nm 20 0)), some (.int (nI i)), some (.int y), some (.int z), some (.int w), none, none] [] := by
      intro hno
      refine q_bipush (v := (-3)) dX8_step_64 rfl ?_
      refine z_iret dX8_step_66 rfl ⟨rfl, fun k => absurd htk k, fun i' q' a b c d => ?_⟩
      obtain ⟨rfl, rfl⟩ := inj i' q' a b c d
      exact ⟨fun _ => ⟨rfl, rfl⟩, fun st a u g1 g2 g3 g4 g5 g6 => absurd ⟨⟨st, g1, g4⟩, ⟨a, g2, g5⟩, ⟨u, g3, g6⟩⟩ hno⟩
    refine q_iload_n dX8_step_17 rfl ?_
    refine q_iconst (v := 0) dX8_step_18 rfl ?_
    refine q_aload_n dX8_step_19 rfl ?_
    refine z_get 8 dX8_step_20 (by first | assumption | decide) (sh_20 _ _ _) rfl (by decide) fl_X8_26 rfl ?_
    refine q_iload_n dX8_step_23 rfl ?_
    refine z_iald dX8_step_24 (by first | assumption | decide) rfl (vp_in_nI (n := i) i3 (by omega)) ?_
    rw [nI_clamp (by omega), hq]
    refine q_iconst (v := 1) dX8_step_25 rfl ?_
    refine q_isub dX8_step_26 ?_
    refine z_callS (j_in s1 t1 y 0 _) kS_X8_94 dX8_step_27 rfl (by omega) (Nat.le_of_ble_eq_true rfl) (Nat.le_refl _) (Nat.le_refl _) rfl (fun v s2 t2 h => ?_)
    obtain ⟨rfl, rfl, rfl⟩ := h
    dsimp only [Option.toList, List.cons_append, List.nil_append]
    refine q_if_eq 64 dX8_step_30 (by decide) (fun h2 => ?_) (fun h2 => ?_)
    · exact no (fun k => bC_z.mp h2 ((tk_in (by omega) y).mp k.1))
    · refine q_iload_n dX8_step_33 rfl ?_
      refine q_iconst (v := 0) dX8_step_34 rfl ?_
      refine q_aload_n dX8_step_35 rfl ?_
      refine z_get 0 dX8_step_36 (by first | assumption | decide) (sh_20 _ _ _) rfl (by decide) fl_X8_7 rfl ?_
      refine q_iconst (v := 1) dX8_step_39 rfl ?_
      refine q_isub dX8_step_40 ?_
      rw [h0]
      refine z_callS (j_in s2 t2 z 0 _) kS_X8_94 dX8_step_41 rfl (by omega) (Nat.le_of_ble_eq_true rfl) (Nat.le_refl _) (Nat.le_refl _) rfl (fun v s3 t3 h => ?_)
      obtain ⟨rfl, rfl, rfl⟩ := h
      dsimp only [Option.toList, List.cons_append, List.nil_append]
      refine q_if_eq 64 dX8_step_44 (by decide) (fun h3 => ?_) (fun h3 => ?_)
      · exact no (fun k => bC_z.mp h3 ((tk_in (by omega) z).mp k.2.1))
      · refine q_iload dX8_step_47 rfl ?_
        refine q_iconst (v := 0) dX8_step_49 rfl ?_
        refine q_aload_n dX8_step_50 rfl ?_
        refine z_get 8 dX8_step_51 (by first | assumption | decide) (sh_20 _ _ _) rfl (by decide) fl_X8_26 rfl ?_
        refine q_iload_n dX8_step_54 rfl ?_
        refine z_iald dX8_step_55 (by first | assumption | decide) rfl (vp_in_nI (n := i) i3 (by omega)) ?_
        rw [nI_clamp (by omega), hq]
        refine q_iconst (v := 1) dX8_step_56 rfl ?_
        refine q_isub dX8_step_57 ?_
        refine z_callS (j_in s3 t3 w 0 _) kS_X8_94 dX8_step_58 rfl (by omega) (Nat.le_of_ble_eq_true rfl) (Nat.le_refl _) (Nat.le_refl _) rfl (fun v s4 t4 h => ?_)
        obtain ⟨rfl, rfl, rfl⟩ := h
        dsimp only [Option.toList, List.cons_append, List.nil_append]
        refine q_if_ne 67 dX8_step_61 (by decide) (fun h4 => ?_) (fun h4 => ?_)
        · obtain ⟨st, g1, rfl⟩ := (tk_in (by omega) y).mpr (bC_nz.mp h2)
          obtain ⟨a, g2, rfl⟩ := (tk_in (by omega) z).mpr (bC_nz.mp h3)
          obtain ⟨u, g3, rfl⟩ := (tk_in (by omega) w).mpr (bC_nz.mp h4)
          refine q_bipush (v := 18) dX8_step_67 rfl ?_
          refine q_iload_n dX8_step_69 rfl ?_
          refine q_imul dX8_step_70 ?_
          refine q_iconst (v := 3) dX8_step_71 rfl ?_
          refine q_iload_n dX8_step_72 rfl ?_
          refine q_imul dX8_step_73 ?_
          refine q_iadd dX8_step_74 ?_
          refine q_iload_n dX8_step_75 rfl ?_
          refine q_iadd dX8_step_76 ?_
          have eI : (18 : Int32) * nI i + 3 * nI st + nI a = nI (18 * i + 3 * st + a) := by rw [show (18 : Int32) * nI i = nI (18 * i) from pk_mul 18 i, show (3 : Int32) * nI st = nI (3 * st) from pk_mul 3 st, nI_add, nI_add]
          rw [eI]
          refine q_istore dX8_step_77 (Nat.le_of_ble_eq_true rfl) rfl ?_
          dsimp only [List.set]
          refine q_aload_n dX8_step_79 rfl ?_
          refine z_get 9 dX8_step_80 (by first | assumption | decide) (sh_20 _ _ _) rfl (by decide) fl_X8_29 rfl ?_
          refine q_iload dX8_step_83 rfl ?_
          refine z_iald dX8_step_85 (by first | assumption | decide) rfl (vp_in_nI (n := 18 * i + 3 * st + a) (by omega) (by omega)) ?_
          rw [nI_clamp (by omega)]
          refine q_istore dX8_step_86 (Nat.le_of_ble_eq_true rfl) rfl ?_
          dsimp only [List.set]
          refine q_aload_n dX8_step_88 rfl ?_
          refine z_get 9 dX8_step_89 (by first | assumption | decide) (sh_20 _ _ _) rfl (by decide) fl_X8_29 rfl ?_
          refine q_iload dX8_step_92 rfl ?_
          refine q_iload dX8_step_94 rfl ?_
          refine z_iast dX8_step_96 (by first | assumption | decide) (fun _ _ => rfl) (vp_in_nI (n := 18 * i + 3 * st + a) (by omega) (by omega)) ?_
          refine q_aload_n dX8_step_97 rfl ?_
          rw [nI_clamp (by omega)]
          refine z_callV (j_changed _ t4) kV_X8_110 dX8_step_98 (by first | assumption | decide) (sh_20 _ _ _) rfl rfl rfl (by omega) (Nat.le_of_ble_eq_true rfl) (Nat.le_refl _) (Nat.le_refl _) rfl (fun v s5 t5 h => ?_)
          obtain ⟨rfl, rfl, rfl⟩ := h
          dsimp only [Option.toList, List.cons_append, List.nil_append]
          refine q_iload dX8_step_101 rfl ?_
          refine z_iret dX8_step_103 rfl ⟨rfl, fun k => absurd htk k, fun i' q' a1 b1 c1 d1 => ?_⟩
          obtain ⟨rfl, rfl⟩ := inj i' q' a1 b1 c1 d1
          refine ⟨fun k => absurd ⟨⟨st, g1, rfl⟩, ⟨a, g2, rfl⟩, ⟨u, g3, rfl⟩⟩ k, fun st' a' u' k1 k2 k3 k4 k5 k6 => ?_⟩
          have z1 := (nI_eq (by omega) (by omega)).mp k4
          have z2 := (nI_eq (by omega) (by omega)).mp k5
          subst z1; subst z2
          exact ⟨rfl, rfl⟩
        · exact no (fun k => bC_z.mp h4 ((tk_in (by omega) w).mp k.2.2))
  · have hno : ¬ tk nc x := fun k => bC_z.mp h ((tk_in (by omega) x).mp k)
    refine q_bipush (v := (-2)) dX8_step_14 rfl ?_
    exact z_iret dX8_step_16 rfl ⟨rfl, fun _ => ⟨rfl, rfl⟩, fun i q a b => absurd ⟨i, a, b⟩ hno⟩
theorem b01 {x : Int32} (h : x = 0 ∨ x = 1) (g : ¬ x = 0) : x = 1 := h.resolve_left g
set_option maxRecDepth 100000 in
set_option maxHeartbeats 4000000 in
theorem j_good (sg : zI) (ta : zJ) (nc : Nat) (x y z : Int32) (hz : z = 0 ∨ z = 1) (hC : MaM sg nc) : zP yX8_good mX8_good 1 [.ref (nm 20 0), .int x, .int y, .int z] sg ta (fun v s t => t = ta ∧ (¬ tk nc x → v = some (.int (-2)) ∧ s = sg) ∧ ∀ i q, i < nc → x = nI i → sg 24 0 i = nI q → q ≤ 6 → ((¬ tk q y → v = some (.int (-3)) ∧ s = sg) ∧ ∀ st, st < q → y = nI st → v = some (.int (sg 26 0 (6 * i + st))) ∧ s = uGood sg i st z)) := by
  have hnc := hC.1
  refine zP_of (lv := [some (.ref (nm 20 0)), some (.int x), some (.int y), some (.int z), none]) (by decide +kernel) rfl (fun h => by cases h) rfl (Nat.le_of_ble_eq_true rfl) ?_
  refine q_iload_n dX8_good_0 rfl ?_
  refine q_iconst (v := 0) dX8_good_1 rfl ?_
  refine q_aload_n dX8_good_2 rfl ?_
  refine z_get 7 dX8_good_3 (by first | assumption | decide) (sh_20 _ _ _) rfl (by decide) fl_X8_107 rfl ?_
  refine q_iconst (v := 1) dX8_good_6 rfl ?_
  refine q_isub dX8_good_7 ?_
  rw [hC.2.1]
  refine z_callS (j_in sg ta x 0 _) kS_X8_94 dX8_good_8 rfl (by omega) (Nat.le_of_ble_eq_true rfl) (Nat.le_refl _) (Nat.le_refl _) rfl (fun v s1 t1 h => ?_)
  obtain ⟨rfl, rfl, rfl⟩ := h
  dsimp only [Option.toList, List.cons_append, List.nil_append]
  refine q_if_ne 17 dX8_good_11 (by decide) (fun h => ?_) (fun h => ?_)
  · obtain ⟨i, hi, rfl⟩ := (tk_in (n := nc) (by omega) x).mpr (bC_nz.mp h)
    have htk : tk nc (nI i) := ⟨i, hi, rfl⟩
    have i3 : i < 3 := by omega
    obtain ⟨⟨q, q1, q6, hq⟩, hst, hgd⟩ := hC.2.2 i hi
    have inj : ∀ i' q', i' < nc → nI i = nI i' → s1 24 0 i' = nI q' → q' ≤ 6 → i' = i ∧ q' = q := fun i' q' a b c d => by
      have e := ((nI_eq (by omega) (by omega)).mp b).symm
      subst e
      rw [hq] at c
      exact ⟨rfl, ((nI_eq (by omega) (by omega)).mp c).symm⟩
    refine q_iload_n dX8_good_17 rfl ?_
    refine q_iconst (v := 0) dX8_good_18 rfl ?_
    refine q_aload_n dX8_good_19 rfl ?_
    refine z_get 8 dX8_good_20 (by first | assumption | decide) (sh_20 _ _ _) rfl (by decide) fl_X8_26 rfl ?_
    refine q_iload_n dX8_good_23 rfl ?_
    refine z_iald dX8_good_24 (by first | assumption | decide) rfl (vp_in_nI (n := i) i3 (by omega)) ?_
    rw [nI_clamp (by omega), hq]
    refine q_iconst (v := 1) dX8_good_25 rfl ?_
    refine q_isub dX8_good_26 ?_
    refine z_callS (j_in s1 t1 y 0 _) kS_X8_94 dX8_good_27 rfl (by omega) (Nat.le_of_ble_eq_true rfl) (Nat.le_refl _) (Nat.le_refl _) rfl (fun v s2 t2 h => ?_)
    obtain ⟨rfl, rfl, rfl⟩ := h
    dsimp only [Option.toList, List.cons_append, List.nil_append]
    refine q_if_ne 36 dX8_good_30 (by decide) (fun h2 => ?_) (fun h2 => ?_)
    · obtain ⟨st, g1, rfl⟩ := (tk_in (by omega) y).mpr (bC_nz.mp h2)
      have eI : (6 : Int32) * nI i + nI st = nI (6 * i + st) := by rw [show (6 : Int32) * nI i = nI (6 * i) from pk_mul 6 i, nI_add]
      refine q_aload_n dX8_good_36 rfl ?_
      refine z_get 10 dX8_good_37 (by first | assumption | decide) (sh_20 _ _ _) rfl (by decide) fl_X8_32 rfl ?_
      refine q_bipush (v := 6) dX8_good_40 rfl ?_
      refine q_iload_n dX8_good_42 rfl ?_
      refine q_imul dX8_good_43 ?_
      refine q_iload_n dX8_good_44 rfl ?_
      refine q_iadd dX8_good_45 ?_
      rw [eI]
      refine z_zald dX8_good_46 (by first | assumption | decide) rfl (vp_in_nI (n := 6 * i + st) (by omega) (by omega)) ?_
      rw [nI_clamp (by omega)]
      refine q_istore dX8_good_47 (Nat.le_of_ble_eq_true rfl) rfl ?_
      dsimp only [List.set]
      refine q_aload_n dX8_good_49 rfl ?_
      refine z_get 10 dX8_good_50 (by first | assumption | decide) (sh_20 _ _ _) rfl (by decide) fl_X8_32 rfl ?_
      refine q_bipush (v := 6) dX8_good_53 rfl ?_
      refine q_iload_n dX8_good_55 rfl ?_
      refine q_imul dX8_good_56 ?_
      refine q_iload_n dX8_good_57 rfl ?_
      refine q_iadd dX8_good_58 ?_
      rw [eI]
      refine q_iload_n dX8_good_59 rfl ?_
      refine z_zast dX8_good_60 (by first | assumption | decide) (fun _ _ => rfl) (vp_in_nI (n := 6 * i + st) (by omega) (by omega)) hz ?_
      refine q_aload_n dX8_good_61 rfl ?_
      rw [nI_clamp (by omega)]
      refine z_callV (j_changed _ t2) kV_X8_110 dX8_good_62 (by first | assumption | decide) (sh_20 _ _ _) rfl rfl rfl (by omega) (Nat.le_of_ble_eq_true rfl) (Nat.le_refl _) (Nat.le_refl _) rfl (fun v s5 t5 h => ?_)
      obtain ⟨rfl, rfl, rfl⟩ := h
      dsimp only [Option.toList, List.cons_append, List.nil_append]
      refine q_iload dX8_good_65 rfl ?_
      have h01 := hgd st (by omega)
      refine q_if_eq 74 dX8_good_67 (by decide) (fun h5 => ?_) (fun h5 => ?_)
      · refine q_iconst (v := 0) dX8_good_74 rfl ?_
        refine z_iret dX8_good_75 rfl ⟨rfl, fun k => absurd htk k, fun i' q' a1 b1 c1 d1 => ?_⟩
        obtain ⟨rfl, rfl⟩ := inj i' q' a1 b1 c1 d1
        refine ⟨fun k => absurd ⟨st, g1, rfl⟩ k, fun st' k1 k4 => ?_⟩
        have z1 := (nI_eq (by omega) (by omega)).mp k4
        subst z1
        exact ⟨by rw [h5], rfl⟩
      · refine q_iconst (v := 1) dX8_good_70 rfl ?_
        refine q_goto 75 dX8_good_71 (by decide) ?_
        refine z_iret dX8_good_75 rfl ⟨rfl, fun k => absurd htk k, fun i' q' a1 b1 c1 d1 => ?_⟩
        obtain ⟨rfl, rfl⟩ := inj i' q' a1 b1 c1 d1
        refine ⟨fun k => absurd ⟨st, g1, rfl⟩ k, fun st' k1 k4 => ?_⟩
        have z1 := (nI_eq (by omega) (by omega)).mp k4
        subst z1
        exact ⟨by rw [b01 h01 h5], rfl⟩
    · refine q_bipush (v := (-3)) dX8_good_33 rfl ?_
      refine z_iret dX8_good_35 rfl ⟨rfl, fun k => absurd htk k, fun i' q' a b c d => ?_⟩
      obtain ⟨rfl, rfl⟩ := inj i' q' a b c d
      have hn : ¬ tk q' y := fun k => bC_z.mp h2 ((tk_in (by omega) y).mp k)
      exact ⟨fun _ => ⟨rfl, rfl⟩, fun st g1 g4 => absurd ⟨st, g1, g4⟩ hn⟩
  · have hno : ¬ tk nc x := fun k => bC_z.mp h ((tk_in (by omega) x).mp k)
    refine q_bipush (v := (-2)) dX8_good_14 rfl ?_
    exact z_iret dX8_good_16 rfl ⟨rfl, fun _ => ⟨rfl, rfl⟩, fun i q a b => absurd ⟨i, a, b⟩ hno⟩
set_option maxRecDepth 100000 in
set_option maxHeartbeats 4000000 in
theorem j_deny (sg : zI) (ta : zJ) (nf : Nat) (x z : Int32) (hz : z = 0 ∨ z = 1) (hnf : nf ≤ 10) (h11 : sg 20 0 11 = nI nf) (h01 : ∀ f, f < nf → sg 32 0 f = 0 ∨ sg 32 0 f = 1) : zP yX8_deny mX8_deny 1 [.ref (nm 20 0), .int x, .int z] sg ta (fun v s t => t = ta ∧ (¬ tk nf x → v = some (.int (-2)) ∧ s = sg) ∧ ∀ f, f < nf → x = nI f → v = some (.int (sg 32 0 f)) ∧ s = uDeny sg f z) := by
  refine zP_of (lv := [some (.ref (nm 20 0)), some (.int x), some (.int z), none]) (by decide +kernel) rfl (fun h => by cases h) rfl (Nat.le_of_ble_eq_true rfl) ?_
  refine q_iload_n dX8_deny_0 rfl ?_
  refine q_iconst (v := 0) dX8_deny_1 rfl ?_
  refine q_aload_n dX8_deny_2 rfl ?_
  refine z_get 11 dX8_deny_3 (by first | assumption | decide) (sh_20 _ _ _) rfl (by decide) fl_X8_98 rfl ?_
  refine q_iconst (v := 1) dX8_deny_6 rfl ?_
  refine q_isub dX8_deny_7 ?_
  rw [h11]
  refine z_callS (j_in sg ta x 0 _) kS_X8_94 dX8_deny_8 rfl (by omega) (Nat.le_of_ble_eq_true rfl) (Nat.le_refl _) (Nat.le_refl _) rfl (fun v s1 t1 h => ?_)
  obtain ⟨rfl, rfl, rfl⟩ := h
  dsimp only [Option.toList, List.cons_append, List.nil_append]
  refine q_if_ne 17 dX8_deny_11 (by decide) (fun h => ?_) (fun h => ?_)
  · obtain ⟨i, hi, rfl⟩ := (tk_in (n := nf) (by omega) x).mpr (bC_nz.mp h)
    have htk : tk nf (nI i) := ⟨i, hi, rfl⟩
    refine q_aload_n dX8_deny_17 rfl ?_
    refine z_get 17 dX8_deny_18 (by first | assumption | decide) (sh_20 _ _ _) rfl (by decide) fl_X8_51 rfl ?_
    refine q_iload_n dX8_deny_21 rfl ?_
    refine z_zald dX8_deny_22 (by first | assumption | decide) rfl (vp_in_nI (n := i) (by omega) (by omega)) ?_
    rw [nI_clamp (by omega)]
    refine s_istore_n 3 dX8_deny_23 rfl (Nat.le_of_ble_eq_true rfl) rfl ?_
    dsimp only [List.set]
    refine q_aload_n dX8_deny_24 rfl ?_
    refine z_get 17 dX8_deny_25 (by first | assumption | decide) (sh_20 _ _ _) rfl (by decide) fl_X8_51 rfl ?_
    refine q_iload_n dX8_deny_28 rfl ?_
    refine q_iload_n dX8_deny_29 rfl ?_
    refine z_zast dX8_deny_30 (by first | assumption | decide) (fun _ _ => rfl) (vp_in_nI (n := i) (by omega) (by omega)) hz ?_
    refine q_aload_n dX8_deny_31 rfl ?_
    rw [nI_clamp (by omega)]
    refine z_callV (j_changed _ t1) kV_X8_110 dX8_deny_32 (by first | assumption | decide) (sh_20 _ _ _) rfl rfl rfl (by omega) (Nat.le_of_ble_eq_true rfl) (Nat.le_refl _) (Nat.le_refl _) rfl (fun v s5 t5 h => ?_)
    obtain ⟨rfl, rfl, rfl⟩ := h
    dsimp only [Option.toList, List.cons_append, List.nil_append]
    refine q_iload_n dX8_deny_35 rfl ?_
    refine q_if_eq 43 dX8_deny_36 (by decide) (fun h5 => ?_) (fun h5 => ?_)
    · refine q_iconst (v := 0) dX8_deny_43 rfl ?_
      refine z_iret dX8_deny_44 rfl ⟨rfl, fun k => absurd htk k, fun f a b => ?_⟩
      have z1 := (nI_eq (by omega) (by omega)).mp b
      subst z1
      exact ⟨by rw [h5], rfl⟩
    · refine q_iconst (v := 1) dX8_deny_39 rfl ?_
      refine q_goto 44 dX8_deny_40 (by decide) ?_
      refine z_iret dX8_deny_44 rfl ⟨rfl, fun k => absurd htk k, fun f a b => ?_⟩
      have z1 := (nI_eq (by omega) (by omega)).mp b
      subst z1
      exact ⟨by rw [b01 (h01 i hi) h5], rfl⟩
  · have hno : ¬ tk nf x := fun k => bC_z.mp h ((tk_in (by omega) x).mp k)
    refine q_bipush (v := (-2)) dX8_deny_14 rfl ?_
    exact z_iret dX8_deny_16 rfl ⟨rfl, fun _ => ⟨rfl, rfl⟩, fun f a b => absurd ⟨f, a, b⟩ hno⟩
set_option maxRecDepth 100000 in
set_option maxHeartbeats 4000000 in
theorem j_leave (sg : zI) (ta : zJ) (nf : Nat) (x z : Int32) (hz : z = 0 ∨ z = 1) (hnf : nf ≤ 10) (h11 : sg 20 0 11 = nI nf) (h01 : ∀ f, f < nf → sg 33 0 f = 0 ∨ sg 33 0 f = 1) : zP yX8_leave mX8_leave 1 [.ref (nm 20 0), .int x, .int z] sg ta (fun v s t => t = ta ∧ (¬ tk nf x → v = some (.int (-2)) ∧ s = sg) ∧ ∀ f, f < nf → x = nI f → v = some (.int (sg 33 0 f)) ∧ s = uLeave sg f z) := by
  refine zP_of (lv := [some (.ref (nm 20 0)), some (.int x), some (.int z), none]) (by decide +kernel) rfl (fun h => by cases h) rfl (Nat.le_of_ble_eq_true rfl) ?_
  refine q_iload_n dX8_leave_0 rfl ?_
  refine q_iconst (v := 0) dX8_leave_1 rfl ?_
  refine q_aload_n dX8_leave_2 rfl ?_
  refine z_get 11 dX8_leave_3 (by first | assumption | decide) (sh_20 _ _ _) rfl (by decide) fl_X8_98 rfl ?_
  refine q_iconst (v := 1) dX8_leave_6 rfl ?_
  refine q_isub dX8_leave_7 ?_
  rw [h11]
  refine z_callS (j_in sg ta x 0 _) kS_X8_94 dX8_leave_8 rfl (by omega) (Nat.le_of_ble_eq_true rfl) (Nat.le_refl _) (Nat.le_refl _) rfl (fun v s1 t1 h => ?_)
  obtain ⟨rfl, rfl, rfl⟩ := h
  dsimp only [Option.toList, List.cons_append, List.nil_append]
  refine q_if_ne 17 dX8_leave_11 (by decide) (fun h => ?_) (fun h => ?_)
  · obtain ⟨i, hi, rfl⟩ := (tk_in (n := nf) (by omega) x).mpr (bC_nz.mp h)
    have htk : tk nf (nI i) := ⟨i, hi, rfl⟩
    refine q_aload_n dX8_leave_17 rfl ?_
    refine z_get 18 dX8_leave_18 (by first | assumption | decide) (sh_20 _ _ _) rfl (by decide) fl_X8_54 rfl ?_
    refine q_iload_n dX8_leave_21 rfl ?_
    refine z_zald dX8_leave_22 (by first | assumption | decide) rfl (vp_in_nI (n := i) (by omega) (by omega)) ?_
    rw [nI_clamp (by omega)]
    refine s_istore_n 3 dX8_leave_23 rfl (Nat.le_of_ble_eq_true rfl) rfl ?_
    dsimp only [List.set]
    refine q_aload_n dX8_leave_24 rfl ?_
    refine z_get 18 dX8_leave_25 (by first | assumption | decide) (sh_20 _ _ _) rfl (by decide) fl_X8_54 rfl ?_
    refine q_iload_n dX8_leave_28 rfl ?_
    refine q_iload_n dX8_leave_29 rfl ?_
    refine z_zast dX8_leave_30 (by first | assumption | decide) (fun _ _ => rfl) (vp_in_nI (n := i) (by omega) (by omega)) hz ?_
    refine q_aload_n dX8_leave_31 rfl ?_
    rw [nI_clamp (by omega)]
    refine z_callV (j_changed _ t1) kV_X8_110 dX8_leave_32 (by first | assumption | decide) (sh_20 _ _ _) rfl rfl rfl (by omega) (Nat.le_of_ble_eq_true rfl) (Nat.le_refl _) (Nat.le_refl _) rfl (fun v s5 t5 h => ?_)
    obtain ⟨rfl, rfl, rfl⟩ := h
    dsimp only [Option.toList, List.cons_append, List.nil_append]
    refine q_iload_n dX8_leave_35 rfl ?_
    refine q_if_eq 43 dX8_leave_36 (by decide) (fun h5 => ?_) (fun h5 => ?_)
    · refine q_iconst (v := 0) dX8_leave_43 rfl ?_
      refine z_iret dX8_leave_44 rfl ⟨rfl, fun k => absurd htk k, fun f a b => ?_⟩
      have z1 := (nI_eq (by omega) (by omega)).mp b
      subst z1
      exact ⟨by rw [h5], rfl⟩
    · refine q_iconst (v := 1) dX8_leave_39 rfl ?_
      refine q_goto 44 dX8_leave_40 (by decide) ?_
      refine z_iret dX8_leave_44 rfl ⟨rfl, fun k => absurd htk k, fun f a b => ?_⟩
      have z1 := (nI_eq (by omega) (by omega)).mp b
      subst z1
      exact ⟨by rw [b01 (h01 i hi) h5], rfl⟩
  · have hno : ¬ tk nf x := fun k => bC_z.mp h ((tk_in (by omega) x).mp k)
    refine q_bipush (v := (-2)) dX8_leave_14 rfl ?_
    exact z_iret dX8_leave_16 rfl ⟨rfl, fun _ => ⟨rfl, rfl⟩, fun f a b => absurd ⟨f, a, b⟩ hno⟩
