theorem tk_iff {n : Nat} (hn : n < 2 ^ 31) (x : Int32) : tk n x ↔ (0 ≤ x ∧ x < nI n) := by
  constructor
  · rintro ⟨q, hq, rfl⟩; exact ⟨nI_pos' (by omega), nI_lt hq (by omega)⟩
  · rintro ⟨h1, h2⟩
    obtain ⟨q, hq, e⟩ := nI_of (Int32.not_lt.mpr h1)
    rw [e] at h2
    exact ⟨q, (nI_ltI (by omega) (by omega)).mp h2, e⟩
def uStep (mu : zI) (i s a : Nat) (w : Int32) : zI := uCh (up3 mu 25 0 (18 * i + 3 * s + a) w)
set_option maxRecDepth 100000 in
set_option maxHeartbeats 4000000 in
theorem k_step (sg : zI) (ta : zJ) (mu : zI) (A nT : Nat) (mo : Nat → Nat) (nt nc nf : Nat) (x y z w : Int32) (hM : MoOk mu A nT mo nt nc nf) (hR : RcOk sg ta mu A nT mo nt nc nf) : zP yX7_step mX7_step 3 [.ref (nm 0 0), .int x, .int y, .int z, .int w] sg ta (fun v s t => (¬ tk nc x → v = some (.int (-2)) ∧ s = sg ∧ t = ta) ∧ ∀ i q, i < nc → x = nI i → mu 24 0 i = nI q → q ≤ 6 → ((¬ (tk q y ∧ tk A z ∧ tk q w) → v = some (.int (-3)) ∧ s = sg ∧ t = ta) ∧ ∀ st a u, st < q → a < A → u < q → y = nI st → z = nI a → w = nI u → v = some (.int (mu 25 0 (18 * i + 3 * st + a))) ∧ okR (uStep mu i st a w) sg s t)) := by
  have hQ := QI_of hM hR
  obtain ⟨r1, r2, r3, r4, r5, r6⟩ := hR
  have hnc := hM.2.2.1.1
  have hA := r1.1
  refine zP_of (lv := [some (.ref (nm 0 0)), some (.int x), some (.int y), some (.int z), some (.int w), none, none]) (by decide +kernel) rfl (fun h => by cases h) rfl (Nat.le_of_ble_eq_true rfl) ?_
  refine q_aload_n dX7_step_0 rfl ?_
  refine q_iload_n dX7_step_1 rfl ?_
  refine z_callV (c_isMachine sg ta x) kV_X7_111 dX7_step_2 (by first | assumption | decide) (sh_0 _ _ _) rfl rfl rfl (by omega) (Nat.le_of_ble_eq_true rfl) (Nat.le_refl _) (Nat.le_refl _) rfl (fun v s1 t1 h => ?_)
  obtain ⟨rfl, rfl, rfl⟩ := h
  dsimp only [Option.toList, List.cons_append, List.nil_append]
  refine q_if_ne 11 dX7_step_5 (by decide) (fun h => ?_) (fun h => ?_)
  · obtain ⟨i, hi, rfl⟩ := (tk_iff (n := nc) (by omega) x).mpr (by rw [← r4.1]; exact bC_nz.mp h)
    have htk : tk nc (nI i) := ⟨i, hi, rfl⟩
    have i3 : i < 3 := by omega
    have hic : i < cnt 15 := i3
    obtain ⟨⟨q, q1, q6, hq⟩, hst, hgd⟩ := hM.2.2.1.2.2 i hi
    obtain ⟨e1, e2, e3⟩ := r4.2 i hi
    have inj : ∀ i' q', i' < nc → nI i = nI i' → mu 24 0 i' = nI q' → q' ≤ 6 → i' = i ∧ q' = q := fun i' q' a b c d => by
      have e := ((nI_eq (by omega) (by omega)).mp b).symm
      subst e
      rw [hq] at c
      exact ⟨rfl, ((nI_eq (by omega) (by omega)).mp c).symm⟩
    have sE : ∀ y : Int32, tk q y ↔ (0 ≤ y ∧ y < s1 15 i 1) := fun y => by rw [e1, hq]; exact tk_iff (by omega) y
    have lE : ∀ z : Int32, tk A z ↔ (0 ≤ z ∧ z < s1 1 0 1) := fun z => by rw [r1.2.2.2.2.1]; exact tk_iff (by omega) z
    have no : ¬ (tk q y ∧ tk A z ∧ tk q w) → Zq mX7_step 3 (fun v s t => (¬ tk nc (nI i) → v = some (.int (-2)) ∧ s = s1 ∧ t = t1) ∧ ∀ i' q, i' < nc → nI i = nI i' → mu 24 0 i' = nI q → q ≤ 6 → ((¬ (tk q y ∧ tk A z ∧ tk q w) → v = some (.int (-3)) ∧ s = s1 ∧ t = t1) ∧ ∀ st a u, st < q → a < A → u < q → y = nI st → z = nI a → w = nI u → v = some (.int (mu 25 0 (18 * i' + 3 * st + a))) ∧ okR (uStep mu i' st a w) s1 s t)) s1 t1 49 [some (.ref (nm 0 0)), some (.int (nI i)), some (.int y), some (.int z), some (.int w), some (.ref (nm 15 i)), none] [] := by
      intro hno
      refine q_bipush (v := (-3)) dX7_step_49 rfl ?_
      refine z_iret dX7_step_51 rfl ⟨fun k => absurd htk k, fun i' q' a b c d => ?_⟩
      obtain ⟨rfl, rfl⟩ := inj i' q' a b c d
      exact ⟨fun _ => ⟨rfl, rfl, rfl⟩, fun st a u g1 g2 g3 g4 g5 g6 => absurd ⟨⟨st, g1, g4⟩, ⟨a, g2, g5⟩, ⟨u, g3, g6⟩⟩ hno⟩
    refine q_aload_n dX7_step_11 rfl ?_
    refine z_get 4 dX7_step_12 (by first | assumption | decide) (sh_0 _ _ _) rfl (by decide) fl_X7_36 rfl ?_
    refine q_iload_n dX7_step_15 rfl ?_
    refine z_aald dX7_step_16 (by first | assumption | decide) rfl (fun _ => rfl) (vp_in_nI (n := i) i3 (by omega)) (aal i3 (by omega)) ?_
    refine q_astore dX7_step_17 (Nat.le_of_ble_eq_true rfl) rfl ?_
    dsimp only [List.set]
    refine q_aload dX7_step_19 rfl ?_
    refine q_iload_n dX7_step_21 rfl ?_
    refine z_callV (c_Machine_isState s1 t1 i y hic) kV_X7_114 dX7_step_22 (by first | assumption | decide) (sh_15 _ _ _) rfl rfl rfl (by omega) (Nat.le_of_ble_eq_true rfl) (Nat.le_refl _) (Nat.le_refl _) rfl (fun v s2 t2 h => ?_)
    obtain ⟨rfl, rfl, rfl⟩ := h
    dsimp only [Option.toList, List.cons_append, List.nil_append]
    refine q_if_eq 49 dX7_step_25 (by decide) (fun h2 => ?_) (fun h2 => ?_)
    · exact no (fun k => bI_z.mp h2 ((sE y).mp k.1))
    · refine q_aload_n dX7_step_28 rfl ?_
      refine z_get 0 dX7_step_29 (by first | assumption | decide) (sh_0 _ _ _) rfl (by decide) fl_X7_12 rfl ?_
      refine q_iload_n dX7_step_32 rfl ?_
      refine z_callV (c_Space_isLetter s2 t2 z) kV_X7_93 dX7_step_33 (by first | assumption | decide) (sh_1 _ _ _) rfl rfl rfl (by omega) (Nat.le_of_ble_eq_true rfl) (Nat.le_refl _) (Nat.le_refl _) rfl (fun v s3 t3 h => ?_)
      obtain ⟨rfl, rfl, rfl⟩ := h
      dsimp only [Option.toList, List.cons_append, List.nil_append]
      refine q_if_eq 49 dX7_step_36 (by decide) (fun h3 => ?_) (fun h3 => ?_)
      · exact no (fun k => bI_z.mp h3 ((lE z).mp k.2.1))
      · refine q_aload dX7_step_39 rfl ?_
        refine q_iload dX7_step_41 rfl ?_
        refine z_callV (c_Machine_isState s3 t3 i w hic) kV_X7_114 dX7_step_43 (by first | assumption | decide) (sh_15 _ _ _) rfl rfl rfl (by omega) (Nat.le_of_ble_eq_true rfl) (Nat.le_refl _) (Nat.le_refl _) rfl (fun v s4 t4 h => ?_)
        obtain ⟨rfl, rfl, rfl⟩ := h
        dsimp only [Option.toList, List.cons_append, List.nil_append]
        refine q_if_ne 52 dX7_step_46 (by decide) (fun h4 => ?_) (fun h4 => ?_)
        · obtain ⟨st, g1, rfl⟩ := (sE y).mpr (bI_nz.mp h2)
          obtain ⟨a, g2, rfl⟩ := (lE z).mpr (bI_nz.mp h3)
          obtain ⟨u, g3, rfl⟩ := (sE w).mpr (bI_nz.mp h4)
          have eI : nI st * 3 + nI a = nI (3 * st + a) := by rw [show nI st * 3 = nI (st * 3) from pk_mul st 3, nI_add, Nat.mul_comm]
          refine q_aload dX7_step_52 rfl ?_
          refine q_iload_n dX7_step_54 rfl ?_
          refine q_iload_n dX7_step_55 rfl ?_
          refine z_callV (c_Machine_next s4 t4 i (nI st) (nI a) hic) kV_X7_117 dX7_step_56 (by first | assumption | decide) (sh_15 _ _ _) rfl rfl rfl (by omega) (Nat.le_of_ble_eq_true rfl) (Nat.le_refl _) (Nat.le_refl _) rfl (fun v s5 t5 h => ?_)
          obtain ⟨rfl, rfl, rfl⟩ := h
          dsimp only [Option.toList, List.cons_append, List.nil_append]
          have eN : mnx (s5 16 i) (nI st) (nI a) = mu 25 0 (18 * i + 3 * st + a) := by
            unfold mnx
            rw [eI, sel_t (vp_in_nI (by omega) (by omega)), nI_clamp (by omega)]
            exact e2 st a (by omega) (by omega)
          rw [eN]
          refine q_istore dX7_step_59 (Nat.le_of_ble_eq_true rfl) rfl ?_
          dsimp only [List.set]
          refine q_aload dX7_step_61 rfl ?_
          refine q_iload_n dX7_step_63 rfl ?_
          refine q_iload_n dX7_step_64 rfl ?_
          refine q_iload dX7_step_65 rfl ?_
          refine z_callV (c_Machine_lead s5 t5 i (nI st) (nI a) (nI u) hic (by rw [eI]; exact vp_in_nI (by omega) (by omega))) kV_X7_121 dX7_step_67 (by first | assumption | decide) (sh_15 _ _ _) rfl rfl rfl (by omega) (Nat.le_of_ble_eq_true rfl) (Nat.le_refl _) (Nat.le_refl _) rfl (fun v s6 t6 h => ?_)
          obtain ⟨rfl, rfl, rfl⟩ := h
          dsimp only [Option.toList, List.cons_append, List.nil_append]
          rw [eI, nI_clamp (by omega)]
          have s_ne : ∀ K, K ≠ 16 → (up3 s5 16 i (3 * st + a) (nI u)) K = s5 K := fun K b => by rw [up3_ne b]
          refine q_aload_n dX7_step_70 rfl ?_
          refine q_iload_n dX7_step_71 rfl ?_
          refine z_callV (c_dropFindingsOfMachine _ t6 nf (nI i) (by rw [s_ne 0 (by omega)]; exact r5.1) hM.2.2.2.1) kV_X7_125 dX7_step_72 (by first | assumption | decide) (sh_0 _ _ _) rfl rfl rfl (by omega) (Nat.le_of_ble_eq_true rfl) (Nat.le_refl _) (Nat.le_refl _) rfl (fun v s7 t7 h => ?_)
          obtain ⟨rfl, rfl, hfg⟩ := h
          dsimp only [Option.toList, List.cons_append, List.nil_append]
          rw [s_ne 17 (by omega)] at hfg
          refine q_iload dX7_step_75 rfl ?_
          refine z_iret dX7_step_77 rfl ⟨fun k => absurd htk k, fun i' q' a1 b1 c1 d1 => ?_⟩
          obtain ⟨rfl, rfl⟩ := inj i' q' a1 b1 c1 d1
          refine ⟨fun k => absurd ⟨⟨st, g1, rfl⟩, ⟨a, g2, rfl⟩, ⟨u, g3, rfl⟩⟩ k, fun st' a' u' k1 k2 k3 k4 k5 k6 => ?_⟩
          have z1 := (nI_eq (by omega) (by omega)).mp k4
          have z2 := (nI_eq (by omega) (by omega)).mp k5
          have z3 := (nI_eq (by omega) (by omega)).mp k6
          subst z1; subst z2; subst z3
          refine ⟨rfl, ?_⟩
          have un : ∀ K, K ≠ 20 → K ≠ 25 → uStep mu i' st a (nI u) K = mu K := fun K a b => by unfold uStep; rw [uCh_ne a, up3_ne b]
          have u20 : ∀ j, j ≠ 19 → j ≠ 22 → uStep mu i' st a (nI u) 20 0 j = mu 20 0 j := fun j b c => by unfold uStep; rw [uCh_20 b c, up3_ne (by omega)]
          have u25 : ∀ j, uStep mu i' st a (nI u) 25 0 j = if j = 18 * i' + 3 * st + a then nI u else mu 25 0 j := fun j => by unfold uStep; rw [uCh_ne (by omega)]; simp [up3_get]
          refine okR_drop (A := A) (nT := nT) (mo := mo) (nt := nt) (nc := nc) (nf := nf) (keepM_up3 (by omega) (keepM_refl _)) (uCh_19 _) (uCh_22 _) ⟨SpM_at (u20 0 (by omega) (by omega)) (u20 1 (by omega) (by omega)) (u20 3 (by omega) (by omega)) (by rw [un 21 (by omega) (by omega)]) hM.1, TeM_at (u20 4 (by omega) (by omega)) (by rw [un 22 (by omega) (by omega)]) (by rw [un 23 (by omega) (by omega)]) hM.2.1, ⟨hnc, by rw [u20 7 (by omega) (by omega)]; exact hM.2.2.1.2.1, fun k hk => ?_⟩, FoM_at (u20 11 (by omega) (by omega)) (fun K a b => by rw [un K (by omega) (by omega)]) hM.2.2.2⟩ ⟨SpaceOk_at (s_ne 1 (by omega)) (s_ne 2 (by omega)) r1, WaR_at (s_ne 3 (by omega)) (s_ne 4 (by omega)) (s_ne 5 (by omega)) r2, TeR_at (by rw [s_ne 0 (by omega)]) (s_ne 11 (by omega)) (s_ne 12 (by omega)) (by rw [un 22 (by omega) (by omega)]) (by rw [un 23 (by omega) (by omega)]) r3, ⟨by rw [s_ne 0 (by omega)]; exact r4.1, fun k hk => ?_⟩, FoR_at (by rw [s_ne 0 (by omega)]) (s_ne 17 (by omega)) (fun K a b => by rw [un K (by omega) (by omega)]) r5, Cache_loc r6 hfg hM.2.2.2.1 (fun f hf => (hQ.2.2.2.2.1 f hf).1) (fun f hf hnp => ⟨same17_of (by rw [s_ne 17 (by omega)]), fun x hx => by rw [s_ne 11 (by omega), s_ne 12 (by omega)]; exact ⟨rfl, rfl⟩, fun m k2 km hm3 => ?_⟩)⟩
          · obtain ⟨b1, b2, b3⟩ := hM.2.2.1.2.2 k hk
            refine ⟨by rw [un 24 (by omega) (by omega)]; exact b1, fun s c hs hc => ?_, fun s hs => by rw [un 26 (by omega) (by omega)]; exact b3 s hs⟩
            rw [u25]
            by_cases e : 18 * k + 3 * s + c = 18 * i' + 3 * st + a
            · rw [if_pos e]; exact ⟨u, by omega, rfl⟩
            · rw [if_neg e]; exact b2 s c hs hc
          · obtain ⟨b1, b2, b3⟩ := r4.2 k hk
            rw [s_ne 15 (by omega)]
            refine ⟨by rw [un 24 (by omega) (by omega)]; exact b1, fun s c hs hc => ?_, fun s hs => by rw [un 26 (by omega) (by omega)]; exact b3 s hs⟩
            rw [u25, up3_get]
            by_cases e : 18 * k + 3 * s + c = 18 * i' + 3 * st + a
            · rw [if_pos e, if_pos ⟨rfl, by omega, by omega⟩]
            · rw [if_neg e, if_neg (by omega)]; exact b2 s c hs hc
          · have : m ≠ i' := fun e => hnp ⟨hf, k2, by rw [km, e]⟩
            rw [s_ne 15 (by omega), up3_off (by omega)]
            exact ⟨rfl, rfl⟩
        · exact no (fun k => bI_z.mp h4 ((sE w).mp k.2.2))
  · have hno : ¬ tk nc x := fun k => bC_z.mp h (by rw [r4.1]; exact (tk_iff (by omega) x).mp k)
    refine q_bipush (v := (-2)) dX7_step_8 rfl ?_
    exact z_iret dX7_step_10 rfl ⟨fun _ => ⟨rfl, rfl, rfl⟩, fun i q a b => absurd ⟨i, a, b⟩ hno⟩
def uGood (mu : zI) (i s : Nat) (b : Int32) : zI := uCh (up3 mu 26 0 (6 * i + s) b)
set_option maxRecDepth 100000 in
set_option maxHeartbeats 4000000 in
theorem k_good (sg : zI) (ta : zJ) (mu : zI) (A nT : Nat) (mo : Nat → Nat) (nt nc nf : Nat) (x y z : Int32) (hz : z = 0 ∨ z = 1) (hM : MoOk mu A nT mo nt nc nf) (hR : RcOk sg ta mu A nT mo nt nc nf) : zP yX7_good mX7_good 3 [.ref (nm 0 0), .int x, .int y, .int z] sg ta (fun v s t => (¬ tk nc x → v = some (.int (-2)) ∧ s = sg ∧ t = ta) ∧ ∀ i q, i < nc → x = nI i → mu 24 0 i = nI q → q ≤ 6 → ((¬ tk q y → v = some (.int (-3)) ∧ s = sg ∧ t = ta) ∧ ∀ st, st < q → y = nI st → v = some (.int (mu 26 0 (6 * i + st))) ∧ okR (uGood mu i st z) sg s t)) := by
  have hQ := QI_of hM hR
  obtain ⟨r1, r2, r3, r4, r5, r6⟩ := hR
  have hnc := hM.2.2.1.1
  refine zP_of (lv := [some (.ref (nm 0 0)), some (.int x), some (.int y), some (.int z), none, none]) (by decide +kernel) rfl (fun h => by cases h) rfl (Nat.le_of_ble_eq_true rfl) ?_
  refine q_aload_n dX7_good_0 rfl ?_
  refine q_iload_n dX7_good_1 rfl ?_
  refine z_callV (c_isMachine sg ta x) kV_X7_111 dX7_good_2 (by first | assumption | decide) (sh_0 _ _ _) rfl rfl rfl (by omega) (Nat.le_of_ble_eq_true rfl) (Nat.le_refl _) (Nat.le_refl _) rfl (fun v s1 t1 h => ?_)
  obtain ⟨rfl, rfl, rfl⟩ := h
  dsimp only [Option.toList, List.cons_append, List.nil_append]
  refine q_if_ne 11 dX7_good_5 (by decide) (fun h => ?_) (fun h => ?_)
  · obtain ⟨i, hi, rfl⟩ := (tk_iff (n := nc) (by omega) x).mpr (by rw [← r4.1]; exact bC_nz.mp h)
    have htk : tk nc (nI i) := ⟨i, hi, rfl⟩
    have i3 : i < 3 := by omega
    have hic : i < cnt 15 := i3
    obtain ⟨⟨q, q1, q6, hq⟩, hst, hgd⟩ := hM.2.2.1.2.2 i hi
    obtain ⟨e1, e2, e3⟩ := r4.2 i hi
    have inj : ∀ i' q', i' < nc → nI i = nI i' → mu 24 0 i' = nI q' → q' ≤ 6 → i' = i ∧ q' = q := fun i' q' a b c d => by
      have e := ((nI_eq (by omega) (by omega)).mp b).symm
      subst e
      rw [hq] at c
      exact ⟨rfl, ((nI_eq (by omega) (by omega)).mp c).symm⟩
    have sE : ∀ y : Int32, tk q y ↔ (0 ≤ y ∧ y < s1 15 i 1) := fun y => by rw [e1, hq]; exact tk_iff (by omega) y
    refine q_aload_n dX7_good_11 rfl ?_
    refine z_get 4 dX7_good_12 (by first | assumption | decide) (sh_0 _ _ _) rfl (by decide) fl_X7_36 rfl ?_
    refine q_iload_n dX7_good_15 rfl ?_
    refine z_aald dX7_good_16 (by first | assumption | decide) rfl (fun _ => rfl) (vp_in_nI (n := i) i3 (by omega)) (aal i3 (by omega)) ?_
    refine q_astore dX7_good_17 (Nat.le_of_ble_eq_true rfl) rfl ?_
    dsimp only [List.set]
    refine q_aload dX7_good_19 rfl ?_
    refine q_iload_n dX7_good_21 rfl ?_
    refine z_callV (c_Machine_isState s1 t1 i y hic) kV_X7_114 dX7_good_22 (by first | assumption | decide) (sh_15 _ _ _) rfl rfl rfl (by omega) (Nat.le_of_ble_eq_true rfl) (Nat.le_refl _) (Nat.le_refl _) rfl (fun v s2 t2 h => ?_)
    obtain ⟨rfl, rfl, rfl⟩ := h
    dsimp only [Option.toList, List.cons_append, List.nil_append]
    refine q_if_ne 31 dX7_good_25 (by decide) (fun h2 => ?_) (fun h2 => ?_)
    · obtain ⟨st, g1, rfl⟩ := (sE y).mpr (bI_nz.mp h2)
      refine q_aload dX7_good_31 rfl ?_
      refine q_iload_n dX7_good_33 rfl ?_
      refine z_callV (c_Machine_isGood s2 t2 i (nI st) hic) kV_X7_128 dX7_good_34 (by first | assumption | decide) (sh_15 _ _ _) rfl rfl rfl (by omega) (Nat.le_of_ble_eq_true rfl) (Nat.le_refl _) (Nat.le_refl _) rfl (fun v s3 t3 h => ?_)
      obtain ⟨rfl, rfl, rfl⟩ := h
      dsimp only [Option.toList, List.cons_append, List.nil_append]
      refine z_callS (c_asNumber s3 t3 _) kS_X7_131 dX7_good_37 rfl (by omega) (Nat.le_of_ble_eq_true rfl) (Nat.le_refl _) (Nat.le_refl _) rfl (fun v s4 t4 h => ?_)
      obtain ⟨rfl, rfl, rfl⟩ := h
      dsimp only [Option.toList, List.cons_append, List.nil_append]
      have eN : bC (¬ bC (mgd (s4 15 i 2) (nI st)) = 0) = mu 26 0 (6 * i + st) := by
        have e4 := e3 st (by omega)
        rcases hgd st (by omega) with g | g
        · have : ¬ mgd (s4 15 i 2) (nI st) := fun k => by rw [e4.mp k] at g; exact absurd g (by decide)
          rw [g, bC_f this]
          exact bC_f (fun k => k rfl)
        · have : mgd (s4 15 i 2) (nI st) := e4.mpr g
          rw [g, bC_t this]
          exact bC_t (by decide)
      rw [eN]
      refine q_istore dX7_good_40 (Nat.le_of_ble_eq_true rfl) rfl ?_
      dsimp only [List.set]
      refine q_aload dX7_good_42 rfl ?_
      refine q_iload_n dX7_good_44 rfl ?_
      refine q_iload_n dX7_good_45 rfl ?_
      refine z_callV (c_Machine_setGood s4 t4 i (nI st) z hic) kV_X7_135 dX7_good_46 (by first | assumption | decide) (sh_15 _ _ _) rfl rfl rfl (by omega) (Nat.le_of_ble_eq_true rfl) (Nat.le_refl _) (Nat.le_refl _) rfl (fun v s5 t5 h => ?_)
      obtain ⟨rfl, rfl, rfl⟩ := h
      dsimp only [Option.toList, List.cons_append, List.nil_append]
      have s_ne : ∀ (X : Int32) K, K ≠ 15 → (up3 s4 15 i 2 X) K = s4 K := fun X K b => by rw [up3_ne b]
      refine q_aload_n dX7_good_49 rfl ?_
      refine q_iload_n dX7_good_50 rfl ?_
      refine z_callV (c_dropFindingsOfMachine _ t5 nf (nI i) (by rw [s_ne _ 0 (by omega)]; exact r5.1) hM.2.2.2.1) kV_X7_125 dX7_good_51 (by first | assumption | decide) (sh_0 _ _ _) rfl rfl rfl (by omega) (Nat.le_of_ble_eq_true rfl) (Nat.le_refl _) (Nat.le_refl _) rfl (fun v s7 t7 h => ?_)
      obtain ⟨rfl, rfl, hfg⟩ := h
      dsimp only [Option.toList, List.cons_append, List.nil_append]
      rw [s_ne _ 17 (by omega)] at hfg
      refine q_iload dX7_good_54 rfl ?_
      refine z_iret dX7_good_56 rfl ⟨fun k => absurd htk k, fun i' q' a1 b1 c1 d1 => ?_⟩
      obtain ⟨rfl, rfl⟩ := inj i' q' a1 b1 c1 d1
      refine ⟨fun k => absurd ⟨st, g1, rfl⟩ k, fun st' k1 k4 => ?_⟩
      have z1 := (nI_eq (by omega) (by omega)).mp k4
      subst z1
      refine ⟨rfl, ?_⟩
      have un : ∀ K, K ≠ 20 → K ≠ 26 → uGood mu i' st z K = mu K := fun K a b => by unfold uGood; rw [uCh_ne a, up3_ne b]
      have u20 : ∀ j, j ≠ 19 → j ≠ 22 → uGood mu i' st z 20 0 j = mu 20 0 j := fun j b c => by unfold uGood; rw [uCh_20 b c, up3_ne (by omega)]
      have u26 : ∀ j, uGood mu i' st z 26 0 j = if j = 6 * i' + st then z else mu 26 0 j := fun j => by unfold uGood; rw [uCh_ne (by omega)]; simp [up3_get]
      refine okR_drop (A := A) (nT := nT) (mo := mo) (nt := nt) (nc := nc) (nf := nf) (keepM_up3 (by omega) (keepM_refl _)) (uCh_19 _) (uCh_22 _) ⟨SpM_at (u20 0 (by omega) (by omega)) (u20 1 (by omega) (by omega)) (u20 3 (by omega) (by omega)) (by rw [un 21 (by omega) (by omega)]) hM.1, TeM_at (u20 4 (by omega) (by omega)) (by rw [un 22 (by omega) (by omega)]) (by rw [un 23 (by omega) (by omega)]) hM.2.1, ⟨hnc, by rw [u20 7 (by omega) (by omega)]; exact hM.2.2.1.2.1, fun k hk => ?_⟩, FoM_at (u20 11 (by omega) (by omega)) (fun K a b => by rw [un K (by omega) (by omega)]) hM.2.2.2⟩ ⟨SpaceOk_at (s_ne _ 1 (by omega)) (s_ne _ 2 (by omega)) r1, WaR_at (s_ne _ 3 (by omega)) (s_ne _ 4 (by omega)) (s_ne _ 5 (by omega)) r2, TeR_at (by rw [s_ne _ 0 (by omega)]) (s_ne _ 11 (by omega)) (s_ne _ 12 (by omega)) (by rw [un 22 (by omega) (by omega)]) (by rw [un 23 (by omega) (by omega)]) r3, ⟨by rw [s_ne _ 0 (by omega)]; exact r4.1, fun k hk => ?_⟩, FoR_at (by rw [s_ne _ 0 (by omega)]) (s_ne _ 17 (by omega)) (fun K a b => by rw [un K (by omega) (by omega)]) r5, Cache_loc r6 hfg hM.2.2.2.1 (fun f hf => (hQ.2.2.2.2.1 f hf).1) (fun f hf hnp => ⟨same17_of (by rw [s_ne _ 17 (by omega)]), fun x hx => by rw [s_ne _ 11 (by omega), s_ne _ 12 (by omega)]; exact ⟨rfl, rfl⟩, fun m k2 km hm3 => ?_⟩)⟩
      · obtain ⟨b1, b2, b3⟩ := hM.2.2.1.2.2 k hk
        refine ⟨by rw [un 24 (by omega) (by omega)]; exact b1, fun s c hs hc => by rw [un 25 (by omega) (by omega)]; exact b2 s c hs hc, fun s hs => ?_⟩
        rw [u26]
        by_cases e : 6 * k + s = 6 * i' + st
        · rw [if_pos e]; exact hz
        · rw [if_neg e]; exact b3 s hs
      · obtain ⟨b1, b2, b3⟩ := r4.2 k hk
        rw [s_ne _ 16 (by omega)]
        refine ⟨by rw [un 24 (by omega) (by omega), up3_get, if_neg (by omega)]; exact b1, fun s c hs hc => by rw [un 25 (by omega) (by omega)]; exact b2 s c hs hc, fun s hs => ?_⟩
        rw [u26, up3_get]
        by_cases ek : k = i'
        · subst ek
          rw [if_pos ⟨rfl, rfl, rfl⟩, mgd_set _ (by omega) hs z]
          by_cases e : s = st
          · subst e
            rw [if_pos rfl]
            rcases hz with g | g
            · rw [g]; exact ⟨fun k => k.elim (fun k => absurd rfl k.2) (fun k => absurd rfl k.1), fun k => absurd k (by decide)⟩
            · rw [g]; exact ⟨fun _ => rfl, fun _ => Or.inl ⟨rfl, by decide⟩⟩
          · rw [if_neg (by omega), ← b3 s hs]
            exact ⟨fun k => k.elim (fun k => absurd k.1 e) (fun k => k.2), fun k => Or.inr ⟨e, k⟩⟩
        · rw [if_neg (by omega), if_neg (by omega)]; exact b3 s hs
      · have : m ≠ i' := fun e => hnp ⟨hf, k2, by rw [km, e]⟩
        rw [s_ne _ 16 (by omega), up3_get, if_neg (by omega)]
        exact ⟨rfl, rfl⟩
    · refine q_bipush (v := (-3)) dX7_good_28 rfl ?_
      refine z_iret dX7_good_30 rfl ⟨fun k => absurd htk k, fun i' q' a b c d => ?_⟩
      obtain ⟨rfl, rfl⟩ := inj i' q' a b c d
      have hn : ¬ tk q' y := fun k => bI_z.mp h2 ((sE y).mp k)
      exact ⟨fun _ => ⟨rfl, rfl, rfl⟩, fun st g1 g4 => absurd ⟨st, g1, g4⟩ hn⟩
  · have hno : ¬ tk nc x := fun k => bC_z.mp h (by rw [r4.1]; exact (tk_iff (by omega) x).mp k)
    refine q_bipush (v := (-2)) dX7_good_8 rfl ?_
    exact z_iret dX7_good_10 rfl ⟨fun _ => ⟨rfl, rfl, rfl⟩, fun i q a b => absurd ⟨i, a, b⟩ hno⟩
def uDeny (mu : zI) (f : Nat) (b : Int32) : zI := uCh (up3 mu 32 0 f b)
set_option maxRecDepth 100000 in
set_option maxHeartbeats 4000000 in
theorem k_deny (sg : zI) (ta : zJ) (mu : zI) (A nT : Nat) (mo : Nat → Nat) (nt nc nf : Nat) (x z : Int32) (hz : z = 0 ∨ z = 1) (hM : MoOk mu A nT mo nt nc nf) (hR : RcOk sg ta mu A nT mo nt nc nf) : zP yX7_deny mX7_deny 3 [.ref (nm 0 0), .int x, .int z] sg ta (fun v s t => (¬ tk nf x → v = some (.int (-2)) ∧ s = sg ∧ t = ta) ∧ ∀ f, f < nf → x = nI f → v = some (.int (mu 32 0 f)) ∧ okR (uDeny mu f z) sg s t) := by
  have hQ := QI_of hM hR
  obtain ⟨r1, r2, r3, r4, r5, r6⟩ := hR
  have hnf := hM.2.2.2.1
  refine zP_of (lv := [some (.ref (nm 0 0)), some (.int x), some (.int z), none]) (by decide +kernel) rfl (fun h => by cases h) rfl (Nat.le_of_ble_eq_true rfl) ?_
  refine q_aload_n dX7_deny_0 rfl ?_
  refine q_iload_n dX7_deny_1 rfl ?_
  refine z_callV (c_isFormula sg ta x) kV_X7_150 dX7_deny_2 (by first | assumption | decide) (sh_0 _ _ _) rfl rfl rfl (by omega) (Nat.le_of_ble_eq_true rfl) (Nat.le_refl _) (Nat.le_refl _) rfl (fun v s1 t1 h => ?_)
  obtain ⟨rfl, rfl, rfl⟩ := h
  dsimp only [Option.toList, List.cons_append, List.nil_append]
  refine q_if_ne 11 dX7_deny_5 (by decide) (fun h => ?_) (fun h => ?_)
  · obtain ⟨f, hf, rfl⟩ := (tk_iff (n := nf) (by omega) x).mpr (by rw [← r5.1]; exact bC_nz.mp h)
    have htk : tk nf (nI f) := ⟨f, hf, rfl⟩
    have f10 : f < 10 := by omega
    have hfc := cnt17 f10
    have h01 : mu 32 0 f = 0 ∨ mu 32 0 f = 1 := by
      obtain ⟨kd, g1, g2, g3, g4, g5, g6, g7, g8, g9, g10⟩ := hM.2.2.2.2.2 f hf
      first | exact g9
    have eS : s1 17 f 7 = mu 32 0 f := by
      obtain ⟨e2, e3, e4, e5, e6, e7, e8⟩ := r5.2 f hf
      exact e7
    refine q_aload_n dX7_deny_11 rfl ?_
    refine z_get 5 dX7_deny_12 (by first | assumption | decide) (sh_0 _ _ _) rfl (by decide) fl_X7_42 rfl ?_
    refine q_iload_n dX7_deny_15 rfl ?_
    refine z_aald dX7_deny_16 (by first | assumption | decide) rfl (fun _ => rfl) (vp_in_nI (n := f) f10 (by omega)) (aal f10 (by omega)) ?_
    refine z_get 7 dX7_deny_17 (by first | assumption | decide) (sh_17 _ _ _) rfl (by decide) fl_X7_153 rfl ?_
    refine z_callS (c_asNumber s1 t1 _) kS_X7_131 dX7_deny_20 rfl (by omega) (Nat.le_of_ble_eq_true rfl) (Nat.le_refl _) (Nat.le_refl _) rfl (fun v s2 t2 h => ?_)
    obtain ⟨rfl, rfl, rfl⟩ := h
    dsimp only [Option.toList, List.cons_append, List.nil_append]
    have eN : bC (¬ s2 17 f 7 = 0) = mu 32 0 f := by
      rw [eS]
      rcases h01 with g | g
      · rw [g]; exact bC_f (fun k => k rfl)
      · rw [g]; exact bC_t (by decide)
    rw [eN]
    refine s_istore_n 3 dX7_deny_23 rfl (Nat.le_of_ble_eq_true rfl) rfl ?_
    dsimp only [List.set]
    refine q_aload_n dX7_deny_24 rfl ?_
    refine z_get 5 dX7_deny_25 (by first | assumption | decide) (sh_0 _ _ _) rfl (by decide) fl_X7_42 rfl ?_
    refine q_iload_n dX7_deny_28 rfl ?_
    refine z_aald dX7_deny_29 (by first | assumption | decide) rfl (fun _ => rfl) (vp_in_nI (n := f) f10 (by omega)) (aal f10 (by omega)) ?_
    refine q_iload_n dX7_deny_30 rfl ?_
    refine z_putz 7 dX7_deny_31 (by first | assumption | decide) (sh_17 _ _ _) rfl (by decide) fl_X7_153 rfl pfZ (Nat.le_of_ble_eq_true rfl) hz rfl ?_
    refine q_aload_n dX7_deny_34 rfl ?_
    refine z_callV (c_dropFindings _ t2) kV_X7_75 dX7_deny_35 (by first | assumption | decide) (sh_0 _ _ _) rfl rfl rfl (by omega) (Nat.le_of_ble_eq_true rfl) (Nat.le_refl _) (Nat.le_refl _) rfl (fun v s3 t3 h => ?_)
    obtain ⟨rfl, rfl, rfl⟩ := h
    dsimp only [Option.toList, List.cons_append, List.nil_append]
    refine q_iload_n dX7_deny_38 rfl ?_
    refine z_iret dX7_deny_39 rfl ⟨fun k => absurd htk k, fun f' h1 h2 => ?_⟩
    have z1 := (nI_eq (by omega) (by omega)).mp h2
    subst z1
    refine ⟨rfl, ?_⟩
    have un : ∀ K, K ≠ 20 → K ≠ 32 → uDeny mu f z K = mu K := fun K a b => by unfold uDeny; rw [uCh_ne a, up3_ne b]
    have u20 : ∀ j, j ≠ 19 → j ≠ 22 → uDeny mu f z 20 0 j = mu 20 0 j := fun j b c => by unfold uDeny; rw [uCh_20 b c, up3_ne (by omega)]
    have uK : ∀ j, uDeny mu f z 32 0 j = if j = f then z else mu 32 0 j := fun j => by unfold uDeny; rw [uCh_ne (by omega)]; simp [up3_get]
    have s_ne : ∀ K, K ≠ 17 → (up3 s2 17 f 7 z) K = s2 K := fun K b => by rw [up3_ne b]
    have s17 : ∀ g j, (up3 s2 17 f 7 z) 17 g j = if g = f ∧ j = 7 then z else s2 17 g j := fun g j => by simp [up3_get]
    refine okR_drop (A := A) (nT := nT) (mo := mo) (nt := nt) (nc := nc) (nf := nf) (keepM_up3 (by omega) (keepM_refl _)) (uCh_19 _) (uCh_22 _) ⟨SpM_at (u20 0 (by omega) (by omega)) (u20 1 (by omega) (by omega)) (u20 3 (by omega) (by omega)) (by rw [un 21 (by omega) (by omega)]) hM.1, TeM_at (u20 4 (by omega) (by omega)) (by rw [un 22 (by omega) (by omega)]) (by rw [un 23 (by omega) (by omega)]) hM.2.1, MaM_at (u20 7 (by omega) (by omega)) (by rw [un 24 (by omega) (by omega)]) (by rw [un 25 (by omega) (by omega)]) (by rw [un 26 (by omega) (by omega)]) hM.2.2.1, ⟨hnf, by rw [u20 11 (by omega) (by omega)]; exact hM.2.2.2.2.1, fun g hg => ?_⟩⟩ ⟨SpaceOk_at (s_ne 1 (by omega)) (s_ne 2 (by omega)) r1, WaR_at (s_ne 3 (by omega)) (s_ne 4 (by omega)) (s_ne 5 (by omega)) r2, TeR_at (by rw [s_ne 0 (by omega)]) (s_ne 11 (by omega)) (s_ne 12 (by omega)) (by rw [un 22 (by omega) (by omega)]) (by rw [un 23 (by omega) (by omega)]) r3, MaR_at (by rw [s_ne 0 (by omega)]) (s_ne 15 (by omega)) (s_ne 16 (by omega)) (by rw [un 24 (by omega) (by omega)]) (by rw [un 25 (by omega) (by omega)]) (by rw [un 26 (by omega) (by omega)]) r4, ⟨by rw [s_ne 0 (by omega)]; exact r5.1, fun g hg => ?_⟩, Cache_loc (P := fun _ => False) r6 (forgS_refl (fun f q => q)) hM.2.2.2.1 (fun f hf => (hQ.2.2.2.2.1 f hf).1) (fun g hg _ => ⟨⟨?_, ?_, ?_, ?_, ?_⟩, fun x hx => by rw [s_ne 11 (by omega), s_ne 12 (by omega)]; exact ⟨rfl, rfl⟩, fun m _ _ _ => by rw [s_ne 15 (by omega), s_ne 16 (by omega)]; exact ⟨rfl, rfl⟩⟩)⟩
    · obtain ⟨kd, g1, g2, g3, g4, g5, g6, g7, g8, g9, g10⟩ := hM.2.2.2.2.2 g hg
      unfold FM
      rw [un 27 (by omega) (by omega), un 28 (by omega) (by omega), un 29 (by omega) (by omega), un 30 (by omega) (by omega), un 31 (by omega) (by omega), un 33 (by omega) (by omega), uK]
      by_cases e : g = f
      · rw [if_pos e]; exact ⟨kd, g1, g2, g3, g4, g5, g6, g7, g8, hz, g10⟩
      · rw [if_neg e]; exact ⟨kd, g1, g2, g3, g4, g5, g6, g7, g8, g9, g10⟩
    · obtain ⟨e2, e3, e4, e5, e6, e7, e8⟩ := r5.2 g hg
      rw [un 27 (by omega) (by omega), un 28 (by omega) (by omega), un 29 (by omega) (by omega), un 30 (by omega) (by omega), un 31 (by omega) (by omega), un 33 (by omega) (by omega), uK]
      refine ⟨by rw [s17, if_neg (by omega)]; exact e2, by rw [s17, if_neg (by omega)]; exact e3, by rw [s17, if_neg (by omega)]; exact e4, by rw [s17, if_neg (by omega)]; exact e5, by rw [s17, if_neg (by omega)]; exact e6, ?_, ?_⟩
      · rw [s17]
        by_cases e : g = f
        · rw [if_pos ⟨e, rfl⟩, if_pos e]
        · rw [if_neg (by omega), if_neg e]; exact e7
      · rw [s17]
        by_cases e : g = f
        · rw [if_neg (by omega)]; exact e8
        · rw [if_neg (by omega)]; exact e8
    · rw [s17, if_neg (by omega)]
    · rw [s17, if_neg (by omega)]
    · rw [s17, if_neg (by omega)]
    · rw [s17, if_neg (by omega)]
    · rw [s17, if_neg (by omega)]
  · have hno : ¬ tk nf x := fun k => bC_z.mp h (by rw [r5.1]; exact (tk_iff (by omega) x).mp k)
    refine q_bipush (v := (-2)) dX7_deny_8 rfl ?_
    exact z_iret dX7_deny_10 rfl ⟨fun _ => ⟨rfl, rfl, rfl⟩, fun f a b => absurd ⟨f, a, b⟩ hno⟩
def uLeave (mu : zI) (f : Nat) (b : Int32) : zI := uCh (up3 mu 33 0 f b)
set_option maxRecDepth 100000 in
set_option maxHeartbeats 4000000 in
theorem k_leave (sg : zI) (ta : zJ) (mu : zI) (A nT : Nat) (mo : Nat → Nat) (nt nc nf : Nat) (x z : Int32) (hz : z = 0 ∨ z = 1) (hM : MoOk mu A nT mo nt nc nf) (hR : RcOk sg ta mu A nT mo nt nc nf) : zP yX7_leave mX7_leave 3 [.ref (nm 0 0), .int x, .int z] sg ta (fun v s t => (¬ tk nf x → v = some (.int (-2)) ∧ s = sg ∧ t = ta) ∧ ∀ f, f < nf → x = nI f → v = some (.int (mu 33 0 f)) ∧ okR (uLeave mu f z) sg s t) := by
  have hQ := QI_of hM hR
  obtain ⟨r1, r2, r3, r4, r5, r6⟩ := hR
  have hnf := hM.2.2.2.1
  refine zP_of (lv := [some (.ref (nm 0 0)), some (.int x), some (.int z), none]) (by decide +kernel) rfl (fun h => by cases h) rfl (Nat.le_of_ble_eq_true rfl) ?_
  refine q_aload_n dX7_leave_0 rfl ?_
  refine q_iload_n dX7_leave_1 rfl ?_
  refine z_callV (c_isFormula sg ta x) kV_X7_150 dX7_leave_2 (by first | assumption | decide) (sh_0 _ _ _) rfl rfl rfl (by omega) (Nat.le_of_ble_eq_true rfl) (Nat.le_refl _) (Nat.le_refl _) rfl (fun v s1 t1 h => ?_)
  obtain ⟨rfl, rfl, rfl⟩ := h
  dsimp only [Option.toList, List.cons_append, List.nil_append]
  refine q_if_ne 11 dX7_leave_5 (by decide) (fun h => ?_) (fun h => ?_)
  · obtain ⟨f, hf, rfl⟩ := (tk_iff (n := nf) (by omega) x).mpr (by rw [← r5.1]; exact bC_nz.mp h)
    have htk : tk nf (nI f) := ⟨f, hf, rfl⟩
    have f10 : f < 10 := by omega
    have hfc := cnt17 f10
    have h01 : mu 33 0 f = 0 ∨ mu 33 0 f = 1 := by
      obtain ⟨kd, g1, g2, g3, g4, g5, g6, g7, g8, g9, g10⟩ := hM.2.2.2.2.2 f hf
      first | exact g10
    have eS : s1 17 f 8 = mu 33 0 f := by
      obtain ⟨e2, e3, e4, e5, e6, e7, e8⟩ := r5.2 f hf
      exact e8
    refine q_aload_n dX7_leave_11 rfl ?_
    refine z_get 5 dX7_leave_12 (by first | assumption | decide) (sh_0 _ _ _) rfl (by decide) fl_X7_42 rfl ?_
    refine q_iload_n dX7_leave_15 rfl ?_
    refine z_aald dX7_leave_16 (by first | assumption | decide) rfl (fun _ => rfl) (vp_in_nI (n := f) f10 (by omega)) (aal f10 (by omega)) ?_
    refine z_get 8 dX7_leave_17 (by first | assumption | decide) (sh_17 _ _ _) rfl (by decide) fl_X7_157 rfl ?_
    refine z_callS (c_asNumber s1 t1 _) kS_X7_131 dX7_leave_20 rfl (by omega) (Nat.le_of_ble_eq_true rfl) (Nat.le_refl _) (Nat.le_refl _) rfl (fun v s2 t2 h => ?_)
    obtain ⟨rfl, rfl, rfl⟩ := h
    dsimp only [Option.toList, List.cons_append, List.nil_append]
    have eN : bC (¬ s2 17 f 8 = 0) = mu 33 0 f := by
      rw [eS]
      rcases h01 with g | g
      · rw [g]; exact bC_f (fun k => k rfl)
      · rw [g]; exact bC_t (by decide)
    rw [eN]
    refine s_istore_n 3 dX7_leave_23 rfl (Nat.le_of_ble_eq_true rfl) rfl ?_
    dsimp only [List.set]
    refine q_aload_n dX7_leave_24 rfl ?_
    refine z_get 5 dX7_leave_25 (by first | assumption | decide) (sh_0 _ _ _) rfl (by decide) fl_X7_42 rfl ?_
    refine q_iload_n dX7_leave_28 rfl ?_
    refine z_aald dX7_leave_29 (by first | assumption | decide) rfl (fun _ => rfl) (vp_in_nI (n := f) f10 (by omega)) (aal f10 (by omega)) ?_
    refine q_iload_n dX7_leave_30 rfl ?_
    refine z_putz 8 dX7_leave_31 (by first | assumption | decide) (sh_17 _ _ _) rfl (by decide) fl_X7_157 rfl pfZ (Nat.le_of_ble_eq_true rfl) hz rfl ?_
    refine q_aload_n dX7_leave_34 rfl ?_
    refine z_callV (c_dropFindings _ t2) kV_X7_75 dX7_leave_35 (by first | assumption | decide) (sh_0 _ _ _) rfl rfl rfl (by omega) (Nat.le_of_ble_eq_true rfl) (Nat.le_refl _) (Nat.le_refl _) rfl (fun v s3 t3 h => ?_)
    obtain ⟨rfl, rfl, rfl⟩ := h
    dsimp only [Option.toList, List.cons_append, List.nil_append]
    refine q_iload_n dX7_leave_38 rfl ?_
    refine z_iret dX7_leave_39 rfl ⟨fun k => absurd htk k, fun f' h1 h2 => ?_⟩
    have z1 := (nI_eq (by omega) (by omega)).mp h2
    subst z1
    refine ⟨rfl, ?_⟩
    have un : ∀ K, K ≠ 20 → K ≠ 33 → uLeave mu f z K = mu K := fun K a b => by unfold uLeave; rw [uCh_ne a, up3_ne b]
    have u20 : ∀ j, j ≠ 19 → j ≠ 22 → uLeave mu f z 20 0 j = mu 20 0 j := fun j b c => by unfold uLeave; rw [uCh_20 b c, up3_ne (by omega)]
    have uK : ∀ j, uLeave mu f z 33 0 j = if j = f then z else mu 33 0 j := fun j => by unfold uLeave; rw [uCh_ne (by omega)]; simp [up3_get]
    have s_ne : ∀ K, K ≠ 17 → (up3 s2 17 f 8 z) K = s2 K := fun K b => by rw [up3_ne b]
    have s17 : ∀ g j, (up3 s2 17 f 8 z) 17 g j = if g = f ∧ j = 8 then z else s2 17 g j := fun g j => by simp [up3_get]
    refine okR_drop (A := A) (nT := nT) (mo := mo) (nt := nt) (nc := nc) (nf := nf) (keepM_up3 (by omega) (keepM_refl _)) (uCh_19 _) (uCh_22 _) ⟨SpM_at (u20 0 (by omega) (by omega)) (u20 1 (by omega) (by omega)) (u20 3 (by omega) (by omega)) (by rw [un 21 (by omega) (by omega)]) hM.1, TeM_at (u20 4 (by omega) (by omega)) (by rw [un 22 (by omega) (by omega)]) (by rw [un 23 (by omega) (by omega)]) hM.2.1, MaM_at (u20 7 (by omega) (by omega)) (by rw [un 24 (by omega) (by omega)]) (by rw [un 25 (by omega) (by omega)]) (by rw [un 26 (by omega) (by omega)]) hM.2.2.1, ⟨hnf, by rw [u20 11 (by omega) (by omega)]; exact hM.2.2.2.2.1, fun g hg => ?_⟩⟩ ⟨SpaceOk_at (s_ne 1 (by omega)) (s_ne 2 (by omega)) r1, WaR_at (s_ne 3 (by omega)) (s_ne 4 (by omega)) (s_ne 5 (by omega)) r2, TeR_at (by rw [s_ne 0 (by omega)]) (s_ne 11 (by omega)) (s_ne 12 (by omega)) (by rw [un 22 (by omega) (by omega)]) (by rw [un 23 (by omega) (by omega)]) r3, MaR_at (by rw [s_ne 0 (by omega)]) (s_ne 15 (by omega)) (s_ne 16 (by omega)) (by rw [un 24 (by omega) (by omega)]) (by rw [un 25 (by omega) (by omega)]) (by rw [un 26 (by omega) (by omega)]) r4, ⟨by rw [s_ne 0 (by omega)]; exact r5.1, fun g hg => ?_⟩, Cache_loc (P := fun _ => False) r6 (forgS_refl (fun f q => q)) hM.2.2.2.1 (fun f hf => (hQ.2.2.2.2.1 f hf).1) (fun g hg _ => ⟨⟨?_, ?_, ?_, ?_, ?_⟩, fun x hx => by rw [s_ne 11 (by omega), s_ne 12 (by omega)]; exact ⟨rfl, rfl⟩, fun m _ _ _ => by rw [s_ne 15 (by omega), s_ne 16 (by omega)]; exact ⟨rfl, rfl⟩⟩)⟩
    · obtain ⟨kd, g1, g2, g3, g4, g5, g6, g7, g8, g9, g10⟩ := hM.2.2.2.2.2 g hg
      unfold FM
      rw [un 27 (by omega) (by omega), un 28 (by omega) (by omega), un 29 (by omega) (by omega), un 30 (by omega) (by omega), un 31 (by omega) (by omega), un 32 (by omega) (by omega), uK]
      by_cases e : g = f
      · rw [if_pos e]; exact ⟨kd, g1, g2, g3, g4, g5, g6, g7, g8, g9, hz⟩
      · rw [if_neg e]; exact ⟨kd, g1, g2, g3, g4, g5, g6, g7, g8, g9, g10⟩
    · obtain ⟨e2, e3, e4, e5, e6, e7, e8⟩ := r5.2 g hg
      rw [un 27 (by omega) (by omega), un 28 (by omega) (by omega), un 29 (by omega) (by omega), un 30 (by omega) (by omega), un 31 (by omega) (by omega), un 32 (by omega) (by omega), uK]
      refine ⟨by rw [s17, if_neg (by omega)]; exact e2, by rw [s17, if_neg (by omega)]; exact e3, by rw [s17, if_neg (by omega)]; exact e4, by rw [s17, if_neg (by omega)]; exact e5, by rw [s17, if_neg (by omega)]; exact e6, ?_, ?_⟩
      · rw [s17]
        by_cases e : g = f
        · rw [if_neg (by omega)]; exact e7
        · rw [if_neg (by omega)]; exact e7
      · rw [s17]
        by_cases e : g = f
        · rw [if_pos ⟨e, rfl⟩, if_pos e]
        · rw [if_neg (by omega), if_neg e]; exact e8
    · rw [s17, if_neg (by omega)]
    · rw [s17, if_neg (by omega)]
    · rw [s17, if_neg (by omega)]
    · rw [s17, if_neg (by omega)]
    · rw [s17, if_neg (by omega)]
  · have hno : ¬ tk nf x := fun k => bC_z.mp h (by rw [r5.1]; exact (tk_iff (by omega) x).mp k)
    refine q_bipush (v := (-2)) dX7_leave_8 rfl ?_
    exact z_iret dX7_leave_10 rfl ⟨fun _ => ⟨rfl, rfl, rfl⟩, fun f a b => absurd ⟨f, a, b⟩ hno⟩
