def bt (x : Int32) (i : Nat) : Bool := x.toBitVec.getLsbD i
theorem b_ext {x y : Int32} (h : ∀ i, i < 32 → bt x i = bt y i) : x = y := Int32.toBitVec_inj.mp (BitVec.eq_of_getLsbD_eq (fun i hi => h i hi))
theorem b_or (x y : Int32) (i : Nat) : bt (x ||| y) i = (bt x i || bt y i) := by unfold bt; rw [Int32.toBitVec_or, BitVec.getLsbD_or]
theorem b_and (x y : Int32) (i : Nat) : bt (x &&& y) i = (bt x i && bt y i) := by unfold bt; rw [Int32.toBitVec_and, BitVec.getLsbD_and]
theorem b_xor (x y : Int32) (i : Nat) : bt (x ^^^ y) i = (bt x i ^^ bt y i) := by unfold bt; rw [Int32.toBitVec_xor, BitVec.getLsbD_xor]
theorem b_big {x : Int32} {i : Nat} (h : 32 ≤ i) : bt x i = false := BitVec.getLsbD_of_ge _ _ h
theorem b_m1 : ∀ i, i < 32 → bt (-1) i = true := by decide +kernel
theorem b_0 (i : Nat) : bt 0 i = false := BitVec.getLsbD_zero
theorem s_l : ∀ n, n < 32 → ((nI n &&& 31).toBitVec.smod 32).toNat = n := by decide +kernel
theorem s_u : ∀ n, n < 32 → (((nI n).toUInt32 &&& Int32.toUInt32 31).toBitVec % 32).toNat = n := by decide +kernel
theorem b_shl (n : Nat) (hn : n < 32) (x : Int32) {i : Nat} (hi : i < 32) : bt (x <<< (nI n &&& 31)) i = (decide (n ≤ i) && bt x (i - n)) := by
  unfold bt
  rw [Int32.toBitVec_shiftLeft]
  show (x.toBitVec <<< ((nI n &&& 31).toBitVec.smod 32).toNat).getLsbD i = _
  rw [s_l n hn, BitVec.getLsbD_shiftLeft]
  rcases Nat.lt_or_ge i n with h | h
  · simp [h, Nat.not_le.mpr h]
  · simp [hi, h, Nat.not_lt.mpr h]
theorem b_ushr (n : Nat) (hn : n < 32) (x : Int32) (i : Nat) : bt ((x.toUInt32 >>> ((nI n).toUInt32 &&& Int32.toUInt32 31)).toInt32) i = bt x (n + i) := by
  show (x.toUInt32 >>> ((nI n).toUInt32 &&& Int32.toUInt32 31)).toBitVec.getLsbD i = x.toUInt32.toBitVec.getLsbD (n + i)
  rw [UInt32.toBitVec_shiftRight]
  show (x.toUInt32.toBitVec >>> (((nI n).toUInt32 &&& Int32.toUInt32 31).toBitVec % 32).toNat).getLsbD i = _
  rw [s_u n hn, BitVec.getLsbD_ushiftRight]
theorem b_sshr (n : Nat) (hn : n < 32) (x : Int32) {i : Nat} (hi : i < 32) : bt (x >>> (nI n &&& 31)) i = if n + i < 32 then bt x (n + i) else bt x 31 := by
  unfold bt
  rw [Int32.toBitVec_shiftRight]
  show (x.toBitVec.sshiftRight ((nI n &&& 31).toBitVec.smod 32).toNat).getLsbD i = _
  rw [s_l n hn, BitVec.getLsbD_sshiftRight, BitVec.msb_eq_getLsbD_last]
  simp [hi]
theorem mgd_bt (g : Int32) {s : Nat} (hs : s < 32) : mgd g (nI s) ↔ bt g s = true := by
  unfold mgd
  have h1 : ((g >>> (nI s &&& 31)) &&& 1) = 0 ↔ bt (g >>> (nI s &&& 31)) 0 = false := by
    constructor
    · intro h
      have := congrArg (fun x => bt x 0) h
      simp only [b_and, b_0] at this
      have e : bt 1 0 = true := by decide
      rw [e, Bool.and_true] at this
      exact this
    · intro h
      apply b_ext
      intro i hi
      rw [b_and, b_0]
      by_cases e : i = 0
      · subst e; rw [h]; rfl
      · have : bt 1 i = false := by
          unfold bt
          show (1#32).getLsbD i = false
          rw [BitVec.getLsbD_one]
          simp [e]
        rw [this, Bool.and_false]
  rw [h1, b_sshr s hs g (by omega), Nat.add_zero, if_pos hs]
  cases bt g s <;> simp
theorem bt_one (i : Nat) : bt 1 i = decide (i = 0) := by
  unfold bt
  show (1#32).getLsbD i = _
  rw [BitVec.getLsbD_one]
  simp
theorem mgd_set (g : Int32) {s q : Nat} (hs : s < 6) (hq : q < 6) (y : Int32) : mgd (sel (y = 0) (g &&& ((1 <<< (nI s &&& 31)) ^^^ (-1))) (g ||| (1 <<< (nI s &&& 31)))) (nI q) ↔ (q = s ∧ ¬ y = 0) ∨ (q ≠ s ∧ mgd g (nI q)) := by
  rw [mgd_bt _ (by omega), mgd_bt _ (by omega)]
  have e1 : bt ((1 : Int32) <<< (nI s &&& 31)) q = decide (q = s) := by
    rw [b_shl s (by omega) 1 (by omega), bt_one]
    by_cases e : q = s
    · subst e; simp
    · by_cases h : s ≤ q
      · have : ¬ q - s = 0 := by omega
        simp [e, this]
      · simp [e, h]
  by_cases hy : y = 0
  · rw [sel_t hy, b_and, b_xor, b_m1 q (by omega), e1]
    by_cases e : q = s
    · simp [e, hy]
    · simp [e]
  · rw [sel_f hy, b_or, e1]
    by_cases e : q = s
    · simp [e, hy]
    · simp [e]
theorem mgd_0 {q : Nat} (hq : q < 6) : ¬ mgd 0 (nI q) := by rw [mgd_bt _ (by omega), b_0]; decide
def uMach (mu : zI) (nc : Nat) (x : Int32) : zI := uCh (up3 (upR (upR (up3 mu 24 0 nc x) 25 0 (fun j => if 18 * nc ≤ j ∧ j < 18 * nc + 18 then 0 else mu 25 0 j)) 26 0 (fun j => if 6 * nc ≤ j ∧ j < 6 * nc + 6 then 0 else mu 26 0 j)) 20 0 7 (nI (nc + 1)))
set_option maxRecDepth 100000 in
set_option maxHeartbeats 4000000 in
theorem k_machine (sg : zI) (ta : zJ) (mu : zI) (A nT : Nat) (mo : Nat → Nat) (nt nc nf : Nat) (x : Int32) (hM : MoOk mu A nT mo nt nc nf) (hR : RcOk sg ta mu A nT mo nt nc nf) : zP yX7_machine mX7_machine 3 [.ref (nm 0 0), .int x] sg ta (fun v s t => (¬ (1 ≤ x ∧ x ≤ 6) → v = some (.int (-3)) ∧ s = sg ∧ t = ta) ∧ ((1 ≤ x ∧ x ≤ 6) → (nc = 3 → v = some (.int (-5)) ∧ s = sg ∧ t = ta) ∧ (nc < 3 → v = some (.int (nI nc)) ∧ okR (uMach mu nc x) sg s t))) := by
  have hQ := QI_of hM hR
  obtain ⟨r1, r2, r3, r4, r5, r6⟩ := hR
  have hnc := hM.2.2.1.1
  refine zP_of (lv := [some (.ref (nm 0 0)), some (.int x)]) (by decide +kernel) rfl (fun h => by cases h) rfl (Nat.le_of_ble_eq_true rfl) ?_
  refine q_iload_n dX7_machine_0 rfl ?_
  refine q_iconst (v := 1) dX7_machine_1 rfl ?_
  refine q_icmp_lt 11 dX7_machine_2 (by decide) (fun h => ?_) (fun h => ?_)
  · refine q_bipush (v := (-3)) dX7_machine_11 rfl ?_
    exact z_iret dX7_machine_13 rfl ⟨fun _ => ⟨rfl, rfl, rfl⟩, fun q => absurd h (Int32.not_lt.mpr q.1)⟩
  · refine q_iload_n dX7_machine_5 rfl ?_
    refine q_bipush (v := 6) dX7_machine_6 rfl ?_
    refine q_icmp_le 14 dX7_machine_8 (by decide) (fun h2 => ?_) (fun h2 => ?_)
    · have hx : 1 ≤ x ∧ x ≤ 6 := ⟨Int32.not_lt.mp h, h2⟩
      refine q_aload_n dX7_machine_14 rfl ?_
      refine z_get 8 dX7_machine_15 (by first | assumption | decide) (sh_0 _ _ _) rfl (by decide) fl_X7_69 rfl ?_
      refine q_iconst (v := 3) dX7_machine_18 rfl ?_
      rw [r4.1]
      refine q_icmp_lt 25 dX7_machine_19 (by decide) (fun h3 => ?_) (fun h3 => ?_)
      · have h12 : nc < 3 := (nI_ltI (b := 3) (by omega) (by omega)).mp h3
        have hc : nc < cnt 15 := h12
        refine q_aload_n dX7_machine_25 rfl ?_
        refine z_get 4 dX7_machine_26 (by first | assumption | decide) (sh_0 _ _ _) rfl (by decide) fl_X7_36 rfl ?_
        refine q_aload_n dX7_machine_29 rfl ?_
        refine z_get 8 dX7_machine_30 (by first | assumption | decide) (sh_0 _ _ _) rfl (by decide) fl_X7_69 rfl ?_
        rw [r4.1]
        refine z_aald dX7_machine_33 (by first | assumption | decide) rfl (fun _ => rfl) (vp_in_nI (n := nc) h12 (by omega)) (aal h12 (by omega)) ?_
        refine q_iload_n dX7_machine_34 rfl ?_
        refine z_callV (c_Machine_restart sg ta nc x hc) kV_X7_110 dX7_machine_35 (by first | assumption | decide) (sh_15 _ _ _) rfl rfl rfl (by omega) (Nat.le_of_ble_eq_true rfl) (Nat.le_refl _) (Nat.le_refl _) rfl (fun v s1 t1 h => ?_)
        obtain ⟨rfl, rfl, rfl⟩ := h
        dsimp only [Option.toList, List.cons_append, List.nil_append]
        refine q_aload_n dX7_machine_38 rfl ?_
        refine q_dup dX7_machine_39 rfl ?_
        refine z_get 8 dX7_machine_40 (by first | assumption | decide) (sh_0 _ _ _) rfl (by decide) fl_X7_69 rfl ?_
        refine q_iconst (v := 1) dX7_machine_43 rfl ?_
        have e7 : upR (up3 (up3 sg 15 nc 1 x) 15 nc 2 0) 16 nc (fun j => if j < 18 then 0 else sg 16 nc j) 0 0 8 = nI nc := by rw [upR_ne (by omega), up3_ne (by omega), up3_ne (by omega)]; exact r4.1
        rw [e7]
        refine q_iadd dX7_machine_44 ?_
        rw [nI_1]
        refine z_puti 8 dX7_machine_45 (by first | assumption | decide) (sh_0 _ _ _) rfl (by decide) fl_X7_69 rfl pfI (Nat.le_of_ble_eq_true rfl) rfl ?_
        refine q_aload_n dX7_machine_48 rfl ?_
        refine z_callV (c_dropFindings _ t1) kV_X7_75 dX7_machine_49 (by first | assumption | decide) (sh_0 _ _ _) rfl rfl rfl (by omega) (Nat.le_of_ble_eq_true rfl) (Nat.le_refl _) (Nat.le_refl _) rfl (fun v s2 t2 h => ?_)
        obtain ⟨rfl, rfl, rfl⟩ := h
        dsimp only [Option.toList, List.cons_append, List.nil_append]
        refine q_aload_n dX7_machine_52 rfl ?_
        refine z_get 8 dX7_machine_53 (by first | assumption | decide) (sh_0 _ _ _) rfl (by decide) fl_X7_69 rfl ?_
        rw [show (up3 (up3 (up3 (upR (up3 (up3 sg 15 nc 1 x) 15 nc 2 0) 16 nc (fun j => if j < 18 then 0 else sg 16 nc j)) 0 0 8 (nI (nc + 1))) 0 0 10 0) 0 0 11 0) 0 0 8 = nI (nc + 1) by simp [up3_get]]
        refine q_iconst (v := 1) dX7_machine_56 rfl ?_
        refine q_isub dX7_machine_57 ?_
        rw [nI_pred]
        refine z_iret dX7_machine_58 rfl ⟨fun q => absurd hx q, fun _ => ⟨fun q => absurd q (by omega), fun _ => ⟨rfl, ?_⟩⟩⟩
        have un : ∀ K, K ≠ 20 → K ≠ 24 → K ≠ 25 → K ≠ 26 → uMach mu nc x K = mu K := fun K a b c d => by unfold uMach; rw [uCh_ne a, up3_ne a, upR_ne d, upR_ne c, up3_ne b]
        have u20 : ∀ j, j ≠ 7 → j ≠ 19 → j ≠ 22 → uMach mu nc x 20 0 j = mu 20 0 j := fun j a b c => by unfold uMach; rw [uCh_20 b c, up3_get, if_neg (by omega), upR_ne (by omega), upR_ne (by omega), up3_ne (by omega)]
        have u24 : ∀ j, uMach mu nc x 24 0 j = if j = nc then x else mu 24 0 j := fun j => by unfold uMach; rw [uCh_ne (by omega), up3_ne (by omega), upR_ne (by omega), upR_ne (by omega)]; simp [up3_get]
        have u25 : ∀ j, uMach mu nc x 25 0 j = if 18 * nc ≤ j ∧ j < 18 * nc + 18 then 0 else mu 25 0 j := fun j => by unfold uMach; rw [uCh_ne (by omega), up3_ne (by omega), upR_ne (by omega), upR_eq]
        have u26 : ∀ j, uMach mu nc x 26 0 j = if 6 * nc ≤ j ∧ j < 6 * nc + 6 then 0 else mu 26 0 j := fun j => by unfold uMach; rw [uCh_ne (by omega), up3_ne (by omega), upR_eq]
        have s_ne : ∀ K, K ≠ 0 → K ≠ 15 → K ≠ 16 → (up3 (upR (up3 (up3 sg 15 nc 1 x) 15 nc 2 0) 16 nc (fun j => if j < 18 then 0 else sg 16 nc j)) 0 0 8 (nI (nc + 1))) K = sg K := fun K a b c => by rw [up3_ne a, upR_ne c, up3_ne b, up3_ne b]
        have s0 : ∀ j, j ≠ 8 → (up3 (upR (up3 (up3 sg 15 nc 1 x) 15 nc 2 0) 16 nc (fun j => if j < 18 then 0 else sg 16 nc j)) 0 0 8 (nI (nc + 1))) 0 0 j = sg 0 0 j := fun j a => by rw [up3_get, if_neg (by omega), upR_ne (by omega), up3_ne (by omega), up3_ne (by omega)]
        have s15 : ∀ i, i ≠ nc → (up3 (upR (up3 (up3 sg 15 nc 1 x) 15 nc 2 0) 16 nc (fun j => if j < 18 then 0 else sg 16 nc j)) 0 0 8 (nI (nc + 1))) 15 i = sg 15 i := fun i hi => by rw [up3_ne (by omega), upR_ne (by omega), up3_off (by omega), up3_off (by omega)]
        have s16 : ∀ i, i ≠ nc → (up3 (upR (up3 (up3 sg 15 nc 1 x) 15 nc 2 0) 16 nc (fun j => if j < 18 then 0 else sg 16 nc j)) 0 0 8 (nI (nc + 1))) 16 i = sg 16 i := fun i hi => by rw [up3_ne (by omega), upR_ni hi, up3_ne (by omega), up3_ne (by omega)]
        refine okR_drop (A := A) (nT := nT) (mo := mo) (nt := nt) (nc := nc + 1) (nf := nf) (keepM_up3 (by omega) (keepM_upR (by omega) (keepM_up3 (by omega) (keepM_up3 (by omega) (keepM_refl _))))) (uCh_19 _) (uCh_22 _) ⟨SpM_at (u20 0 (by omega) (by omega) (by omega)) (u20 1 (by omega) (by omega) (by omega)) (u20 3 (by omega) (by omega) (by omega)) (by rw [un 21 (by omega) (by omega) (by omega) (by omega)]) hM.1, TeM_at (u20 4 (by omega) (by omega) (by omega)) (by rw [un 22 (by omega) (by omega) (by omega) (by omega)]) (by rw [un 23 (by omega) (by omega) (by omega) (by omega)]) hM.2.1, ⟨by omega, ?_, fun i hi => ?_⟩, FoM_at (u20 11 (by omega) (by omega) (by omega)) (fun K a b => by rw [un K (by omega) (by omega) (by omega) (by omega)]) (FoM_mono (Nat.le_refl _) (by omega) hM.2.2.2)⟩ ⟨SpaceOk_at (s_ne 1 (by omega) (by omega) (by omega)) (s_ne 2 (by omega) (by omega) (by omega)) r1, WaR_at (s_ne 3 (by omega) (by omega) (by omega)) (s_ne 4 (by omega) (by omega) (by omega)) (s_ne 5 (by omega) (by omega) (by omega)) r2, TeR_at (s0 7 (by omega)) (s_ne 11 (by omega) (by omega) (by omega)) (s_ne 12 (by omega) (by omega) (by omega)) (by rw [un 22 (by omega) (by omega) (by omega) (by omega)]) (by rw [un 23 (by omega) (by omega) (by omega) (by omega)]) r3, ⟨?_, fun i hi => ?_⟩, FoR_at (s0 9 (by omega)) (s_ne 17 (by omega) (by omega) (by omega)) (fun K a b => by rw [un K (by omega) (by omega) (by omega) (by omega)]) r5, Cache_loc (P := fun _ => False) r6 (forgS_refl (fun f q => q)) hM.2.2.2.1 (fun f hf => (hQ.2.2.2.2.1 f hf).1) (fun f hf _ => ⟨same17_of (by rw [s_ne 17 (by omega) (by omega) (by omega)]), fun x hx => ?_, fun m k2 km hm3 => ?_⟩)⟩
        · unfold uMach; rw [uCh_20 (by omega) (by omega)]; simp [up3_get]
        · rw [u24]
          by_cases e : i = nc
          · subst e
            refine ⟨?_, fun s a hs ha => ⟨0, by omega, by rw [u25, if_pos (by omega)]; rfl⟩, fun s hs => Or.inl (by rw [u26, if_pos (by omega)])⟩
            obtain ⟨q, hq, rfl⟩ := i32_le (n := 6) (by omega) (fun z => absurd hx.1 (Int32.not_le.mpr (by rw [Int32.lt_iff_toInt_lt] at z ⊢; have : (0 : Int32).toInt = 0 := rfl; have : (1 : Int32).toInt = 1 := rfl; omega))) hx.2
            exact ⟨q, (nI_leI (a := 1) (by omega) (by omega)).mp hx.1, hq, by rw [if_pos rfl]⟩
          · obtain ⟨a, b, c⟩ := hM.2.2.1.2.2 i (by omega)
            exact ⟨by rw [if_neg e]; exact a, fun s a hs ha => by rw [u25, if_neg (by omega)]; exact b s a hs ha, fun s hs => by rw [u26, if_neg (by omega)]; exact c s hs⟩
        · simp [up3_get]
        · rw [u24]
          by_cases e : i = nc
          · subst e
            refine ⟨by rw [if_pos rfl, up3_ne (by omega), upR_ne (by omega)]; simp [up3_get], fun s a hs ha => ?_, fun s hs => ?_⟩
            · rw [u25, if_pos (by omega), up3_ne (by omega), upR_eq, if_pos (by omega)]
            · rw [u26, if_pos (by omega), up3_ne (by omega), upR_ne (by omega), up3_get, if_pos ⟨rfl, rfl, rfl⟩]
              exact ⟨fun z => absurd z (mgd_0 hs), fun z => absurd z (by decide)⟩
          · obtain ⟨a, b, c⟩ := r4.2 i (by omega)
            rw [s15 i e, s16 i e]
            exact ⟨by rw [if_neg e]; exact a, fun s a hs ha => by rw [u25, if_neg (by omega)]; exact b s a hs ha, fun s hs => by rw [u26, if_neg (by omega)]; exact c s hs⟩
        · rw [s_ne 11 (by omega) (by omega) (by omega), s_ne 12 (by omega) (by omega) (by omega)]
          exact ⟨rfl, rfl⟩
        · obtain ⟨e2, -, e4, -⟩ := r5.2 f hf
          obtain ⟨kd, g1, g2, -, -, -, g6, -⟩ := hM.2.2.2.2.2 f hf
          have hk : kd = 2 := (nI_eq (b := 2) (by omega) (by omega)).mp (by rw [← g2, ← e2]; exact k2)
          obtain ⟨m', hm', e⟩ := g6 hk
          rw [e4, e] at km
          have : m' = m := (nI_eq (by omega) (by omega)).mp km
          subst this
          rw [s15 m' (by omega), s16 m' (by omega)]
          exact ⟨rfl, rfl⟩
      · have h12 : nc = 3 := by
          have : ¬ nc < 3 := fun q => h3 (nI_lt (b := 3) q (by omega))
          omega
        refine q_bipush (v := (-5)) dX7_machine_22 rfl ?_
        exact z_iret dX7_machine_24 rfl ⟨fun q => absurd hx q, fun _ => ⟨fun _ => ⟨rfl, rfl, rfl⟩, fun q => absurd q (by omega)⟩⟩
    · refine q_bipush (v := (-3)) dX7_machine_11 rfl ?_
      exact z_iret dX7_machine_13 rfl ⟨fun _ => ⟨rfl, rfl, rfl⟩, fun q => absurd q.2 h2⟩
