theorem up3_ne {sg : zI} {K i j : Nat} {x : Int32} {K' : Nat} (h : K' ≠ K) : up3 sg K i j x K' = sg K' := by funext q; rw [up3_off (by omega)]
theorem upR_ne {sg : zI} {K i : Nat} {r : Nat → Int32} {K' : Nat} (h : K' ≠ K) : upR sg K i r K' = sg K' := by
  funext q
  have : ¬ (K' = K ∧ q = i) := by omega
  simp only [upR, if_neg this]
theorem upR_ni {sg : zI} {K i : Nat} {r : Nat → Int32} {i' : Nat} (h : i' ≠ i) : upR sg K i r K i' = sg K i' := by
  simp [upR, h]
theorem upR_eq {sg : zI} {K i : Nat} {r : Nat → Int32} : upR sg K i r K i = r := by simp [upR]
theorem uCh_ne {mu : zI} {K : Nat} (h : K ≠ 20) : uCh mu K = mu K := by unfold uCh; rw [up3_ne h, up3_ne h]
theorem uCh_20 {mu : zI} {j : Nat} (h1 : j ≠ 19) (h2 : j ≠ 22) : uCh mu 20 0 j = mu 20 0 j := uCh_get mu 20 0 j (by omega)
theorem SpM_at {a b : zI} {A nT : Nat} {mo : Nat → Nat} (h0 : b 20 0 0 = a 20 0 0) (h1 : b 20 0 1 = a 20 0 1) (h3 : b 20 0 3 = a 20 0 3) (h21 : b 21 0 = a 21 0) (h : SpM a A nT mo) : SpM b A nT mo := by unfold SpM at *; rw [h0, h1, h3, h21]; exact h
theorem TeM_at {a b : zI} {A nT nt : Nat} (h4 : b 20 0 4 = a 20 0 4) (h22 : b 22 0 = a 22 0) (h23 : b 23 0 = a 23 0) (h : TeM a A nT nt) : TeM b A nT nt := by unfold TeM at *; rw [h4, h22, h23]; exact h
theorem MaM_at {a b : zI} {nc : Nat} (h7 : b 20 0 7 = a 20 0 7) (h24 : b 24 0 = a 24 0) (h25 : b 25 0 = a 25 0) (h26 : b 26 0 = a 26 0) (h : MaM a nc) : MaM b nc := by unfold MaM at *; rw [h7, h24, h25, h26]; exact h
theorem FM_at {a b : zI} {nt nc f : Nat} (h : ∀ K, 27 ≤ K → K ≤ 33 → b K 0 = a K 0) (hf : FM a nt nc f) : FM b nt nc f := by
  unfold FM at *
  rw [h 27 (by omega) (by omega), h 28 (by omega) (by omega), h 29 (by omega) (by omega), h 30 (by omega) (by omega), h 31 (by omega) (by omega), h 32 (by omega) (by omega), h 33 (by omega) (by omega)]
  exact hf
theorem FoM_at {a b : zI} {nt nc nf : Nat} (h11 : b 20 0 11 = a 20 0 11) (h : ∀ K, 27 ≤ K → K ≤ 33 → b K 0 = a K 0) (hf : FoM a nt nc nf) : FoM b nt nc nf := ⟨hf.1, h11.trans hf.2.1, fun f q => FM_at h (hf.2.2 f q)⟩
theorem tk_mono {n n' : Nat} (h : n ≤ n') {x : Int32} (ht : tk n x) : tk n' x := by obtain ⟨t, a, b⟩ := ht; exact ⟨t, by omega, b⟩
theorem FM_mono {mu : zI} {nt nt' nc nc' f : Nat} (h : nt ≤ nt') (h2 : nc ≤ nc') (hf : FM mu nt nc f) : FM mu nt' nc' f := by
  obtain ⟨kd, h1, h2', h3, h4, h5, h6, h7, h8, h9, h10⟩ := hf
  exact ⟨kd, h1, h2', tk_mono h h3, fun a b c => tk_mono h (h4 a b c), fun a => ⟨(h5 a).1.elim Or.inl (fun q => Or.inr (tk_mono h q)), (h5 a).2⟩, fun a => tk_mono h2 (h6 a), h7, fun a => ⟨tk_mono h (h8 a).1, tk_mono h (h8 a).2⟩, h9, h10⟩
theorem FoM_mono {mu : zI} {nt nt' nc nc' nf : Nat} (h : nt ≤ nt') (h2 : nc ≤ nc') (hf : FoM mu nt nc nf) : FoM mu nt' nc' nf := ⟨hf.1, hf.2.1, fun f q => FM_mono h h2 (hf.2.2 f q)⟩
theorem WaR_at {a b : zI} {A nT : Nat} {mo : Nat → Nat} (h3 : b 3 = a 3) (h4 : b 4 = a 4) (h5 : b 5 = a 5) (h : WaR a A nT mo) : WaR b A nT mo := by unfold WaR WayOk at *; rw [h3, h4, h5]; exact h
theorem SpaceOk_at {a b : zI} {A nT : Nat} {mo : Nat → Nat} (h1 : b 1 = a 1) (h2 : b 2 = a 2) (h : SpaceOk a A nT mo) : SpaceOk b A nT mo := by unfold SpaceOk at *; rw [h1, h2]; exact h
theorem TeR_at {a b mu mu' : zI} {nt : Nat} (h7 : b 0 0 7 = a 0 0 7) (h11 : b 11 = a 11) (h12 : b 12 = a 12) (h22 : mu' 22 0 = mu 22 0) (h23 : mu' 23 0 = mu 23 0) (h : TeR a mu nt) : TeR b mu' nt := by unfold TeR at *; rw [h7, h11, h12, h22, h23]; exact h
theorem MaR_at {a b mu mu' : zI} {nc : Nat} (h8 : b 0 0 8 = a 0 0 8) (h15 : b 15 = a 15) (h16 : b 16 = a 16) (h24 : mu' 24 0 = mu 24 0) (h25 : mu' 25 0 = mu 25 0) (h26 : mu' 26 0 = mu 26 0) (h : MaR a mu nc) : MaR b mu' nc := by unfold MaR at *; rw [h8, h15, h16, h24, h25, h26]; exact h
theorem FoR_at {a b mu mu' : zI} {nf : Nat} (h9 : b 0 0 9 = a 0 0 9) (h17 : b 17 = a 17) (h : ∀ K, 27 ≤ K → K ≤ 33 → mu' K 0 = mu K 0) (hf : FoR a mu nf) : FoR b mu' nf := by
  unfold FoR at *
  rw [h9, h17, h 27 (by omega) (by omega), h 28 (by omega) (by omega), h 29 (by omega) (by omega), h 30 (by omega) (by omega), h 31 (by omega) (by omega), h 32 (by omega) (by omega), h 33 (by omega) (by omega)]
  exact hf
def uTerm (mu : zI) (nt : Nat) : zI := uCh (up3 (up3 mu 22 0 nt 0) 20 0 4 (nI (nt + 1)))
set_option maxRecDepth 100000 in
set_option maxHeartbeats 4000000 in
theorem k_term (sg : zI) (ta : zJ) (mu : zI) (A nT : Nat) (mo : Nat → Nat) (nt nc nf : Nat) (hM : MoOk mu A nT mo nt nc nf) (hR : RcOk sg ta mu A nT mo nt nc nf) : zP yX7_term mX7_term 3 [.ref (nm 0 0)] sg ta (fun v s t => (nt < 12 → v = some (.int (nI nt)) ∧ okR (uTerm mu nt) sg s t) ∧ (nt = 12 → v = some (.int (-5)) ∧ s = sg ∧ t = ta)) := by
  have hQ := QI_of hM hR
  obtain ⟨r1, r2, r3, r4, r5, r6⟩ := hR
  have hnt := hM.2.1.1
  refine zP_of (lv := [some (.ref (nm 0 0))]) (by decide +kernel) rfl (fun h => by cases h) rfl (Nat.le_of_ble_eq_true rfl) ?_
  refine q_aload_n dX7_term_0 rfl ?_
  refine z_get 7 dX7_term_1 (by first | assumption | decide) (sh_0 _ _ _) rfl (by decide) fl_X7_66 rfl ?_
  refine q_bipush (v := 12) dX7_term_4 rfl ?_
  rw [r3.1]
  refine q_icmp_lt 12 dX7_term_6 (by decide) (fun h => ?_) (fun h => ?_)
  · have h12 : nt < 12 := (nI_ltI (b := 12) (by omega) (by omega)).mp h
    have hc11 : nt < cnt 11 := show nt < 13 by omega
    refine q_aload_n dX7_term_12 rfl ?_
    refine z_get 3 dX7_term_13 (by first | assumption | decide) (sh_0 _ _ _) rfl (by decide) fl_X7_30 rfl ?_
    refine q_aload_n dX7_term_16 rfl ?_
    refine z_get 7 dX7_term_17 (by first | assumption | decide) (sh_0 _ _ _) rfl (by decide) fl_X7_66 rfl ?_
    rw [r3.1]
    refine z_aald dX7_term_20 (by first | assumption | decide) rfl (fun _ => rfl) (vp_in_nI (n := nt) h12 (by omega)) (aal h12 (by omega)) ?_
    refine z_callV (c_Term_restart sg ta nt hc11) kV_X7_88 dX7_term_21 (by first | assumption | decide) (sh_11 _ _ _) rfl rfl rfl (by omega) (Nat.le_of_ble_eq_true rfl) (Nat.le_refl _) (Nat.le_refl _) rfl (fun v s1 t1 h => ?_)
    obtain ⟨rfl, rfl, rfl⟩ := h
    dsimp only [Option.toList, List.cons_append, List.nil_append]
    refine q_aload_n dX7_term_24 rfl ?_
    refine q_dup dX7_term_25 rfl ?_
    refine z_get 7 dX7_term_26 (by first | assumption | decide) (sh_0 _ _ _) rfl (by decide) fl_X7_66 rfl ?_
    refine q_iconst (v := 1) dX7_term_29 rfl ?_
    have e7 : up3 sg 11 nt 1 0 0 0 7 = nI nt := by rw [up3_off (by omega)]; exact r3.1
    rw [e7]
    refine q_iadd dX7_term_30 ?_
    rw [nI_1]
    refine z_puti 7 dX7_term_31 (by first | assumption | decide) (sh_0 _ _ _) rfl (by decide) fl_X7_66 rfl pfI (Nat.le_of_ble_eq_true rfl) rfl ?_
    refine q_aload_n dX7_term_34 rfl ?_
    refine z_callV (c_dropFindings _ t1) kV_X7_75 dX7_term_35 (by first | assumption | decide) (sh_0 _ _ _) rfl rfl rfl (by omega) (Nat.le_of_ble_eq_true rfl) (Nat.le_refl _) (Nat.le_refl _) rfl (fun v s2 t2 h => ?_)
    obtain ⟨rfl, rfl, rfl⟩ := h
    dsimp only [Option.toList, List.cons_append, List.nil_append]
    refine q_aload_n dX7_term_38 rfl ?_
    refine z_get 7 dX7_term_39 (by first | assumption | decide) (sh_0 _ _ _) rfl (by decide) fl_X7_66 rfl ?_
    rw [show (up3 (up3 (up3 (up3 sg 11 nt 1 0) 0 0 7 (nI (nt + 1))) 0 0 10 0) 0 0 11 0) 0 0 7 = nI (nt + 1) by simp [up3_get]]
    refine q_iconst (v := 1) dX7_term_42 rfl ?_
    refine q_isub dX7_term_43 ?_
    rw [nI_pred]
    refine z_iret dX7_term_44 rfl ⟨fun _ => ⟨rfl, ?_⟩, fun q => absurd q (by omega)⟩
    have un : ∀ K, K ≠ 20 → K ≠ 22 → uTerm mu nt K = mu K := fun K a b => by unfold uTerm; rw [uCh_ne a, up3_ne a, up3_ne b]
    have u20 : ∀ j, j ≠ 4 → j ≠ 19 → j ≠ 22 → uTerm mu nt 20 0 j = mu 20 0 j := fun j a b c => by unfold uTerm; rw [uCh_20 b c]; simp [up3_get, a]
    have u22 : ∀ j, uTerm mu nt 22 0 j = if j = nt then 0 else mu 22 0 j := fun j => by unfold uTerm; rw [uCh_ne (by omega)]; simp [up3_get]
    have s_ne : ∀ K, K ≠ 0 → K ≠ 11 → (up3 (up3 sg 11 nt 1 0) 0 0 7 (nI (nt + 1))) K = sg K := fun K a b => by rw [up3_ne a, up3_ne b]
    have s11 : ∀ t, t ≠ nt → (up3 (up3 sg 11 nt 1 0) 0 0 7 (nI (nt + 1))) 11 t = sg 11 t := fun t ht => by rw [up3_ne (by omega), up3_off (by omega)]
    refine okR_drop (A := A) (nT := nT) (mo := mo) (nt := nt + 1) (nc := nc) (nf := nf) (keepM_up3 (by omega) (keepM_up3 (by omega) (keepM_refl _))) (uCh_19 _) (uCh_22 _) ⟨SpM_at (u20 0 (by omega) (by omega) (by omega)) (u20 1 (by omega) (by omega) (by omega)) (u20 3 (by omega) (by omega) (by omega)) (by rw [un 21 (by omega) (by omega)]) hM.1, ⟨by omega, ?_, fun t ht => ?_⟩, MaM_at (u20 7 (by omega) (by omega) (by omega)) (by rw [un 24 (by omega) (by omega)]) (by rw [un 25 (by omega) (by omega)]) (by rw [un 26 (by omega) (by omega)]) hM.2.2.1, FoM_at (u20 11 (by omega) (by omega) (by omega)) (fun K a b => by rw [un K (by omega) (by omega)]) (FoM_mono (by omega) (Nat.le_refl _) hM.2.2.2)⟩ ⟨SpaceOk_at (s_ne 1 (by omega) (by omega)) (s_ne 2 (by omega) (by omega)) r1, WaR_at (s_ne 3 (by omega) (by omega)) (s_ne 4 (by omega) (by omega)) (s_ne 5 (by omega) (by omega)) r2, ⟨?_, ?_, fun t ht => ?_⟩, MaR_at (by simp [up3_get]) (s_ne 15 (by omega) (by omega)) (s_ne 16 (by omega) (by omega)) (by rw [un 24 (by omega) (by omega)]) (by rw [un 25 (by omega) (by omega)]) (by rw [un 26 (by omega) (by omega)]) r4, FoR_at (by simp [up3_get]) (s_ne 17 (by omega) (by omega)) (fun K a b => by rw [un K (by omega) (by omega)]) r5, Cache_loc (P := fun _ => False) r6 (forgS_refl (fun f q => q)) hM.2.2.2.1 (fun f hf => (hQ.2.2.2.2.1 f hf).1) (fun f hf _ => ⟨same17_of (by rw [s_ne 17 (by omega) (by omega)]), fun x hx => ?_, fun m _ _ _ => ?_⟩)⟩
    · unfold uTerm; rw [uCh_20 (by omega) (by omega)]; simp [up3_get]
    · rw [u22]
      by_cases e : t = nt
      · subst e
        exact ⟨0, by omega, by simp; rfl, fun j hj => absurd hj (by omega)⟩
      · obtain ⟨n, a, b, c⟩ := hM.2.1.2.2 t (by omega)
        exact ⟨n, a, by rw [if_neg e]; exact b, fun j hj => by rw [un 23 (by omega) (by omega)]; exact c j hj⟩
    · simp [up3_get]
    · rw [s11 12 (by omega)]; exact r3.2.1
    · rw [u22]
      by_cases e : t = nt
      · subst e
        refine ⟨by simp [up3_get], fun n hn hn6 j hj => ?_⟩
        rw [if_pos rfl] at hn
        have : n = 0 := ((nI_eq (a := 0) (by omega) (by omega)).mp hn).symm
        omega
      · obtain ⟨a, b⟩ := r3.2.2 t (by omega)
        exact ⟨by rw [s11 t e, if_neg e]; exact a, fun n hn hn6 j hj => by rw [s_ne 12 (by omega) (by omega), un 23 (by omega) (by omega)]; rw [if_neg e] at hn; exact b n hn hn6 j hj⟩
    · have htk := tIdx_tk hnt (abT_tk r5 hf (hM.2.2.2.2.2 f hf) hx)
      rw [s11 _ (by omega), s_ne 12 (by omega) (by omega)]
      exact ⟨rfl, rfl⟩
    · rw [s_ne 15 (by omega) (by omega), s_ne 16 (by omega) (by omega)]
      exact ⟨rfl, rfl⟩
  · have h12 : nt = 12 := by
      have : ¬ nt < 12 := fun q => h (nI_lt (b := 12) q (by omega))
      omega
    refine q_bipush (v := (-5)) dX7_term_9 rfl ?_
    exact z_iret dX7_term_11 rfl ⟨fun q => absurd q (by omega), fun _ => ⟨rfl, rfl, rfl⟩⟩
def uPart (mu : zI) (t n : Nat) (y : Int32) : zI := uCh (up3 (up3 mu 23 0 (6 * t + n) y) 22 0 t (nI (n + 1)))
theorem PV_iff {A nT : Nat} (hA : A = 2 ∨ A = 3) (hT : nT ≤ 4) (y : Int32) : PV A nT y ↔ (0 ≤ y ∧ y < nI A) ∨ (8 ≤ y ∧ 0 ≤ y - 8 ∧ y - 8 < nI nT) := by
  constructor
  · rintro (⟨a, ha, rfl⟩ | ⟨t, ht, rfl⟩)
    · exact Or.inl ⟨nI_pos' (by omega), nI_lt ha (by omega)⟩
    · rw [PV_text]
      exact Or.inr ⟨nI_le (a := 8) (by omega) (by omega), nI_pos' (by omega), nI_lt ht (by omega)⟩
  · rintro (⟨h1, h2⟩ | ⟨h0, h1, h2⟩)
    · obtain ⟨a, ha, e⟩ := nI_of (Int32.not_lt.mpr h1)
      rw [e] at h2
      exact Or.inl ⟨a, (nI_ltI (by omega) (by omega)).mp h2, e⟩
    · obtain ⟨b, hb, e⟩ := nI_of (Int32.not_lt.mpr h1)
      rw [e] at h2
      have hb4 := (nI_ltI (by omega) (by omega)).mp h2
      refine Or.inr ⟨b, hb4, ?_⟩
      have : y = (y - 8) + 8 := by rw [Int32.sub_add_cancel]
      rw [this, e, show nI b + 8 = nI (b + 8) from nI_add b 8, Nat.add_comm]
set_option maxRecDepth 100000 in
set_option maxHeartbeats 8000000 in
theorem k_part (sg : zI) (ta : zJ) (mu : zI) (A nT : Nat) (mo : Nat → Nat) (nt nc nf : Nat) (x y : Int32) (hM : MoOk mu A nT mo nt nc nf) (hR : RcOk sg ta mu A nT mo nt nc nf) : zP yX7_part mX7_part 3 [.ref (nm 0 0), .int x, .int y] sg ta (fun v s t => (¬ tk nt x → v = some (.int (-2)) ∧ s = sg ∧ t = ta) ∧ (tk nt x → ¬ PV A nT y → v = some (.int (-3)) ∧ s = sg ∧ t = ta) ∧ ∀ q n, q < nt → x = nI q → PV A nT y → mu 22 0 q = nI n → n ≤ 6 → ((n = 6 → v = some (.int (-5)) ∧ s = sg ∧ t = ta) ∧ (n < 6 → v = some (.int (nI (n + 1))) ∧ okR (uPart mu q n y) sg s t))) := by
  have hQ := QI_of hM hR
  obtain ⟨r1, r2, r3, r4, r5, r6⟩ := hR
  have hnt := hM.2.1.1
  have hnf := hM.2.2.2.1
  have tkE : tk nt x ↔ (0 ≤ x ∧ x < sg 0 0 7) := by
    rw [r3.1]
    constructor
    · rintro ⟨q, hq, rfl⟩; exact ⟨nI_pos' (by omega), nI_lt hq (by omega)⟩
    · rintro ⟨h1, h2⟩
      obtain ⟨q, hq, e⟩ := nI_of (Int32.not_lt.mpr h1)
      rw [e] at h2
      exact ⟨q, (nI_ltI (by omega) (by omega)).mp h2, e⟩
  have pvE := PV_iff r1.1 r1.2.1 y
  rw [← r1.2.2.2.2.1, ← r1.2.2.2.2.2.1] at pvE
  -- behind the tests
  have go : tk nt x → PV A nT y → Zq mX7_part 3 (fun v s t => (¬ tk nt x → v = some (.int (-2)) ∧ s = sg ∧ t = ta) ∧ (tk nt x → ¬ PV A nT y → v = some (.int (-3)) ∧ s = sg ∧ t = ta) ∧ ∀ q n, q < nt → x = nI q → PV A nT y → mu 22 0 q = nI n → n ≤ 6 → ((n = 6 → v = some (.int (-5)) ∧ s = sg ∧ t = ta) ∧ (n < 6 → v = some (.int (nI (n + 1))) ∧ okR (uPart mu q n y) sg s t))) sg ta 45 [some (.ref (nm 0 0)), some (.int x), some (.int y), none] [] := by
    intro htk hpv
    obtain ⟨q, hq, rfl⟩ := id htk
    obtain ⟨n, hn6, hn, -⟩ := hM.2.1.2.2 q hq
    obtain ⟨rs, rp⟩ := r3.2.2 q hq
    have q12 : q < 12 := by omega
    have hqc : q < cnt 11 := show q < 13 by omega
    have inj : ∀ q' n', q' < nt → nI q = nI q' → mu 22 0 q' = nI n' → n' ≤ 6 → q' = q ∧ n' = n := fun q' n' h1 h2 h3 h4 => by
      have e := ((nI_eq (by omega) (by omega)).mp h2).symm
      subst e
      rw [hn] at h3
      exact ⟨rfl, ((nI_eq (by omega) (by omega)).mp h3).symm⟩
    refine q_aload_n dX7_part_45 rfl ?_
    refine z_get 3 dX7_part_46 (by first | assumption | decide) (sh_0 _ _ _) rfl (by decide) fl_X7_30 rfl ?_
    refine q_iload_n dX7_part_49 rfl ?_
    refine z_aald dX7_part_50 (by first | assumption | decide) rfl (fun _ => rfl) (vp_in_nI (n := q) q12 (by omega)) (aal q12 (by omega)) ?_
    refine q_iload_n dX7_part_51 rfl ?_
    refine z_callV (c_Term_add sg ta q n y hqc (rs.trans hn) hn6) kV_X7_99 dX7_part_52 (by first | assumption | decide) (sh_11 _ _ _) rfl rfl rfl (by omega) (Nat.le_of_ble_eq_true rfl) (Nat.le_refl _) (Nat.le_refl _) rfl (fun v s1 t1 h => ?_)
    obtain ⟨rfl, hlt, heq⟩ := h
    dsimp only [Option.toList, List.cons_append, List.nil_append]
    rcases (show n < 6 ∨ n = 6 by omega) with h6 | h6
    · obtain ⟨rfl, rfl⟩ := hlt h6
      dsimp only [Option.toList, List.cons_append, List.nil_append]
      have s_ne : ∀ K, K ≠ 11 → K ≠ 12 → (up3 (up3 sg 12 q n y) 11 q 1 (nI (n + 1))) K = sg K := fun K a b => by rw [up3_ne a, up3_ne b]
      have s11 : ∀ t, t ≠ q → (up3 (up3 sg 12 q n y) 11 q 1 (nI (n + 1))) 11 t = sg 11 t := fun t ht => by rw [up3_off (by omega), up3_ne (by omega)]
      have s12 : ∀ t, t ≠ q → (up3 (up3 sg 12 q n y) 11 q 1 (nI (n + 1))) 12 t = sg 12 t := fun t ht => by rw [up3_ne (by omega), up3_off (by omega)]
      refine q_if_ne 61 dX7_part_55 (by decide) (fun h => ?_) (fun h => ?_)
      · have abE : ∀ f, abT (up3 (up3 sg 12 q n y) 11 q 1 (nI (n + 1))) f (nI q) ↔ abT sg f (nI q) := fun f => by unfold abT; rw [s_ne 17 (by omega) (by omega)]
        have e9 : (up3 (up3 sg 12 q n y) 11 q 1 (nI (n + 1))) 0 0 9 = nI nf := by rw [s_ne 0 (by omega) (by omega)]; exact r5.1
        have loop : ∀ (k j : Nat) (t : zJ), j + k = nf → forgS (fun f => f < j ∧ abT sg f (nI q)) t1 t → Zq mX7_part 3 (fun v s t => (¬ tk nt (nI q) → v = some (.int (-2)) ∧ s = sg ∧ t = t1) ∧ (tk nt (nI q) → ¬ PV A nT y → v = some (.int (-3)) ∧ s = sg ∧ t = t1) ∧ ∀ q' n, q' < nt → nI q = nI q' → PV A nT y → mu 22 0 q' = nI n → n ≤ 6 → ((n = 6 → v = some (.int (-5)) ∧ s = sg ∧ t = t1) ∧ (n < 6 → v = some (.int (nI (n + 1))) ∧ okR (uPart mu q' n y) sg s t))) (up3 (up3 sg 12 q n y) 11 q 1 (nI (n + 1))) t 63 [some (.ref (nm 0 0)), some (.int (nI q)), some (.int y), some (.int (nI j))] [] := by
          intro k
          induction k with
          | zero =>
            intro j t hj ht
            refine q_iload_n dX7_part_63 rfl ?_
            refine q_aload_n dX7_part_64 rfl ?_
            refine z_get 9 dX7_part_65 (by first | assumption | decide) (sh_0 _ _ _) rfl (by decide) fl_X7_58 rfl ?_
            rw [e9]
            refine q_icmp_ge 99 dX7_part_68 (by decide) (fun g => ?_) (fun g => ?_)
            · refine q_aload_n dX7_part_99 rfl ?_
              refine z_callV (c_dropFindings _ t) kV_X7_75 dX7_part_100 (by first | assumption | decide) (sh_0 _ _ _) rfl rfl rfl (by omega) (Nat.le_of_ble_eq_true rfl) (Nat.le_refl _) (Nat.le_refl _) rfl (fun v s2 t2 h => ?_)
              obtain ⟨rfl, rfl, rfl⟩ := h
              dsimp only [Option.toList, List.cons_append, List.nil_append]
              refine q_aload_n dX7_part_103 rfl ?_
              refine z_get 3 dX7_part_104 (by first | assumption | decide) (sh_0 _ _ _) rfl (by decide) fl_X7_30 rfl ?_
              refine q_iload_n dX7_part_107 rfl ?_
              refine z_aald dX7_part_108 (by first | assumption | decide) rfl (fun _ => rfl) (vp_in_nI (n := q) q12 (by omega)) (aal q12 (by omega)) ?_
              refine z_get 1 dX7_part_109 (by first | assumption | decide) (sh_11 _ _ _) rfl (by decide) fl_X7_107 rfl ?_
              rw [show (up3 (up3 (up3 (up3 sg 12 q n y) 11 q 1 (nI (n + 1))) 0 0 10 0) 0 0 11 0) 11 q 1 = nI (n + 1) by simp [up3_get]]
              refine z_iret dX7_part_112 rfl ⟨fun z => absurd htk z, fun _ z => absurd hpv z, fun q' n' h1 h2 _ h3 h4 => ?_⟩
              obtain ⟨rfl, rfl⟩ := inj q' n' h1 h2 h3 h4
              refine ⟨fun z => absurd z (by omega), fun _ => ⟨rfl, ?_⟩⟩
              have un : ∀ K, K ≠ 20 → K ≠ 22 → K ≠ 23 → uPart mu q' n' y K = mu K := fun K a b c => by unfold uPart; rw [uCh_ne a, up3_ne b, up3_ne c]
              have u20 : ∀ j, j ≠ 19 → j ≠ 22 → uPart mu q' n' y 20 0 j = mu 20 0 j := fun j b c => by unfold uPart; rw [uCh_20 b c, up3_ne (by omega), up3_ne (by omega)]
              have u22 : ∀ j, uPart mu q' n' y 22 0 j = if j = q' then nI (n' + 1) else mu 22 0 j := fun j => by unfold uPart; rw [uCh_ne (by omega)]; simp [up3_get]
              have u23 : ∀ j, uPart mu q' n' y 23 0 j = if j = 6 * q' + n' then y else mu 23 0 j := fun j => by unfold uPart; rw [uCh_ne (by omega)]; simp [up3_get]
              have ht' := forgS_congr (P' := fun f => f < nf ∧ abT sg f (nI q')) ht (fun f _ => by rw [show j = nf by omega])
              refine okR_drop (A := A) (nT := nT) (mo := mo) (nt := nt) (nc := nc) (nf := nf) (keepM_up3 (by omega) (keepM_up3 (by omega) (keepM_refl _))) (uCh_19 _) (uCh_22 _) ⟨SpM_at (u20 0 (by omega) (by omega)) (u20 1 (by omega) (by omega)) (u20 3 (by omega) (by omega)) (by rw [un 21 (by omega) (by omega) (by omega)]) hM.1, ⟨hnt, by rw [u20 4 (by omega) (by omega)]; exact hM.2.1.2.1, fun t ht2 => ?_⟩, MaM_at (u20 7 (by omega) (by omega)) (by rw [un 24 (by omega) (by omega) (by omega)]) (by rw [un 25 (by omega) (by omega) (by omega)]) (by rw [un 26 (by omega) (by omega) (by omega)]) hM.2.2.1, FoM_at (u20 11 (by omega) (by omega)) (fun K a b => by rw [un K (by omega) (by omega) (by omega)]) hM.2.2.2⟩ ⟨SpaceOk_at (s_ne 1 (by omega) (by omega)) (s_ne 2 (by omega) (by omega)) r1, WaR_at (s_ne 3 (by omega) (by omega)) (s_ne 4 (by omega) (by omega)) (s_ne 5 (by omega) (by omega)) r2, ⟨by rw [s_ne 0 (by omega) (by omega)]; exact r3.1, by rw [s11 12 (by omega)]; exact r3.2.1, fun t ht2 => ?_⟩, MaR_at (by rw [s_ne 0 (by omega) (by omega)]) (s_ne 15 (by omega) (by omega)) (s_ne 16 (by omega) (by omega)) (by rw [un 24 (by omega) (by omega) (by omega)]) (by rw [un 25 (by omega) (by omega) (by omega)]) (by rw [un 26 (by omega) (by omega) (by omega)]) r4, FoR_at (by rw [s_ne 0 (by omega) (by omega)]) (s_ne 17 (by omega) (by omega)) (fun K a b => by rw [un K (by omega) (by omega) (by omega)]) r5, Cache_loc r6 ht' hnf (fun f hf => (hQ.2.2.2.2.1 f hf).1) (fun f hf hnp => ⟨same17_of (by rw [s_ne 17 (by omega) (by omega)]), fun x hx => ?_, fun m _ _ _ => ?_⟩)⟩
              · rw [u22]
                by_cases e : t = q'
                · subst e
                  refine ⟨n' + 1, by omega, by rw [if_pos rfl], fun j hj => ?_⟩
                  rw [u23]
                  by_cases e2 : j = n'
                  · subst e2; rw [if_pos rfl]; exact hpv
                  · rw [if_neg (by omega)]
                    obtain ⟨n2, a, b, c⟩ := hM.2.1.2.2 t ht2
                    rw [hn] at b
                    have := (nI_eq (by omega) (by omega)).mp b
                    exact c j (by omega)
                · obtain ⟨n2, a, b, c⟩ := hM.2.1.2.2 t ht2
                  exact ⟨n2, a, by rw [if_neg e]; exact b, fun j hj => by rw [u23, if_neg (by omega)]; exact c j hj⟩
              · rw [u22]
                by_cases e : t = q'
                · subst e
                  refine ⟨by rw [if_pos rfl, up3_get, if_pos ⟨rfl, rfl, rfl⟩], fun n2 hn2 hn26 j hj => ?_⟩
                  rw [if_pos rfl] at hn2
                  have := (nI_eq (by omega) (by omega)).mp hn2
                  rw [u23, up3_ne (by omega), up3_get]
                  by_cases e2 : j = n'
                  · subst e2; rw [if_pos ⟨rfl, rfl, rfl⟩, if_pos rfl]
                  · rw [if_neg (by omega), if_neg (by omega)]
                    exact rp n' hn (by omega) j (by omega)
                · obtain ⟨a, b⟩ := r3.2.2 t ht2
                  exact ⟨by rw [s11 t e, if_neg e]; exact a, fun n2 hn2 hn26 j hj => by rw [s12 t e, u23, if_neg (by omega)]; rw [if_neg e] at hn2; exact b n2 hn2 hn26 j hj⟩
              · have hxq : tIdx x ≠ q' := by
                  rcases abT_tk r5 hf (hM.2.2.2.2.2 f hf) hx with e | ⟨t, ht2, e⟩
                  · rw [e, tIdx_m1]; omega
                  · rw [e, tIdx_nI (by omega)]
                    intro e2
                    subst e2
                    rw [e] at hx
                    exact hnp ⟨hf, hx⟩
                rw [s11 _ hxq, s12 _ hxq]
                exact ⟨rfl, rfl⟩
              · rw [s_ne 15 (by omega) (by omega), s_ne 16 (by omega) (by omega)]
                exact ⟨rfl, rfl⟩
            · exact absurd (nI_le (by omega) (by omega)) g
          | succ k ih =>
            intro j t hj ht
            have j10 : j < 10 := by omega
            have hjc := cnt17 j10
            refine q_iload_n dX7_part_63 rfl ?_
            refine q_aload_n dX7_part_64 rfl ?_
            refine z_get 9 dX7_part_65 (by first | assumption | decide) (sh_0 _ _ _) rfl (by decide) fl_X7_58 rfl ?_
            rw [e9]
            refine q_icmp_ge 99 dX7_part_68 (by decide) (fun g => ?_) (fun g => ?_)
            · exact absurd g (nI_ge (by omega) (by omega))
            · refine q_aload_n dX7_part_71 rfl ?_
              refine z_get 5 dX7_part_72 (by first | assumption | decide) (sh_0 _ _ _) rfl (by decide) fl_X7_42 rfl ?_
              refine q_iload_n dX7_part_75 rfl ?_
              refine z_aald dX7_part_76 (by first | assumption | decide) rfl (fun _ => rfl) (vp_in_nI (n := j) j10 (by omega)) (aal j10 (by omega)) ?_
              refine q_iload_n dX7_part_77 rfl ?_
              refine z_callV (c_Formula_isAboutTerm _ t j (nI q) hjc) kV_X7_101 dX7_part_78 (by first | assumption | decide) (sh_17 _ _ _) rfl rfl rfl (by omega) (Nat.le_of_ble_eq_true rfl) (Nat.le_refl _) (Nat.le_refl _) rfl (fun v s2 t2 h => ?_)
              obtain ⟨rfl, rfl, rfl⟩ := h
              dsimp only [Option.toList, List.cons_append, List.nil_append]
              refine q_if_eq 93 dX7_part_81 (by decide) (fun g2 => ?_) (fun g2 => ?_)
              · rw [bC_z, abE] at g2
                refine q_iinc dX7_part_93 rfl (Nat.le_of_ble_eq_true rfl) rfl ?_
                dsimp only [List.set]
                refine q_goto 63 dX7_part_96 (by decide) ?_
                rw [nI_inc]
                refine ih (j + 1) t2 (by omega) (forgS_congr ht (fun f _ => ?_))
                constructor
                · rintro ⟨a, b⟩
                  by_cases e : f = j
                  · subst e; exact absurd b g2
                  · exact ⟨by omega, b⟩
                · rintro ⟨a, b⟩; exact ⟨by omega, b⟩
              · rw [bC_nz, abE] at g2
                refine q_aload_n dX7_part_84 rfl ?_
                refine z_get 5 dX7_part_85 (by first | assumption | decide) (sh_0 _ _ _) rfl (by decide) fl_X7_42 rfl ?_
                refine q_iload_n dX7_part_88 rfl ?_
                refine z_aald dX7_part_89 (by first | assumption | decide) rfl (fun _ => rfl) (vp_in_nI (n := j) j10 (by omega)) (aal j10 (by omega)) ?_
                refine z_callV (c_Formula_forget _ t2 j hjc) kV_X7_104 dX7_part_90 (by first | assumption | decide) (sh_17 _ _ _) rfl rfl rfl (by omega) (Nat.le_of_ble_eq_true rfl) (Nat.le_refl _) (Nat.le_refl _) rfl (fun v s3 t3 h => ?_)
                obtain ⟨rfl, rfl, rfl⟩ := h
                dsimp only [Option.toList, List.cons_append, List.nil_append]
                refine q_iinc dX7_part_93 rfl (Nat.le_of_ble_eq_true rfl) rfl ?_
                dsimp only [List.set]
                refine q_goto 63 dX7_part_96 (by decide) ?_
                rw [nI_inc]
                refine ih (j + 1) _ (by omega) (forgS_step ht (fun f => ?_))
                constructor
                · rintro ⟨a, b⟩
                  by_cases e : f = j
                  · exact Or.inr e
                  · exact Or.inl ⟨by omega, b⟩
                · rintro (⟨a, b⟩ | a)
                  · exact ⟨by omega, b⟩
                  · subst a; exact ⟨by omega, g2⟩
        refine q_iconst (v := 0) dX7_part_61 rfl ?_
        refine s_istore_n 3 dX7_part_62 rfl (Nat.le_of_ble_eq_true rfl) rfl ?_
        dsimp only [List.set]
        exact loop nf 0 t1 (by omega) (forgS_refl (fun f z => absurd z.1 (by omega)))
      · exact absurd h (by decide)
    · obtain ⟨rfl, rfl⟩ := heq h6
      dsimp only [Option.toList, List.cons_append, List.nil_append]
      refine q_if_ne 61 dX7_part_55 (by decide) (fun h => ?_) (fun h => ?_)
      · exact absurd rfl h
      · refine q_bipush (v := (-5)) dX7_part_58 rfl ?_
        refine z_iret dX7_part_60 rfl ⟨fun z => absurd htk z, fun _ z => absurd hpv z, fun q' n' h1 h2 _ h3 h4 => ?_⟩
        obtain ⟨rfl, rfl⟩ := inj q' n' h1 h2 h3 h4
        exact ⟨fun _ => ⟨rfl, rfl, rfl⟩, fun z => absurd z (by omega)⟩
  have no3 : tk nt x → ¬ PV A nT y → Zq mX7_part 3 (fun v s t => (¬ tk nt x → v = some (.int (-2)) ∧ s = sg ∧ t = ta) ∧ (tk nt x → ¬ PV A nT y → v = some (.int (-3)) ∧ s = sg ∧ t = ta) ∧ ∀ q n, q < nt → x = nI q → PV A nT y → mu 22 0 q = nI n → n ≤ 6 → ((n = 6 → v = some (.int (-5)) ∧ s = sg ∧ t = ta) ∧ (n < 6 → v = some (.int (nI (n + 1))) ∧ okR (uPart mu q n y) sg s t))) sg ta 42 [some (.ref (nm 0 0)), some (.int x), some (.int y), none] [] := by
    intro htk hpv
    refine q_bipush (v := (-3)) dX7_part_42 rfl ?_
    exact z_iret dX7_part_44 rfl ⟨fun z => absurd htk z, fun _ _ => ⟨rfl, rfl, rfl⟩, fun _ _ _ _ z => absurd z hpv⟩
  refine zP_of (lv := [some (.ref (nm 0 0)), some (.int x), some (.int y), none]) (by decide +kernel) rfl (fun h => by cases h) rfl (Nat.le_of_ble_eq_true rfl) ?_
  refine q_aload_n dX7_part_0 rfl ?_
  refine q_iload_n dX7_part_1 rfl ?_
  refine z_callV (c_isTerm sg ta x) kV_X7_90 dX7_part_2 (by first | assumption | decide) (sh_0 _ _ _) rfl rfl rfl (by omega) (Nat.le_of_ble_eq_true rfl) (Nat.le_refl _) (Nat.le_refl _) rfl (fun v s1 t1 h => ?_)
  obtain ⟨rfl, rfl, rfl⟩ := h
  dsimp only [Option.toList, List.cons_append, List.nil_append]
  refine q_if_ne 11 dX7_part_5 (by decide) (fun h => ?_) (fun h => ?_)
  · have htk := tkE.mpr (bC_nz.mp h)
    refine q_aload_n dX7_part_11 rfl ?_
    refine z_get 0 dX7_part_12 (by first | assumption | decide) (sh_0 _ _ _) rfl (by decide) fl_X7_12 rfl ?_
    refine q_iload_n dX7_part_15 rfl ?_
    refine z_callV (c_Space_isLetter s1 t1 y) kV_X7_93 dX7_part_16 (by first | assumption | decide) (sh_1 _ _ _) rfl rfl rfl (by omega) (Nat.le_of_ble_eq_true rfl) (Nat.le_refl _) (Nat.le_refl _) rfl (fun v s2 t2 h => ?_)
    obtain ⟨rfl, rfl, rfl⟩ := h
    dsimp only [Option.toList, List.cons_append, List.nil_append]
    refine q_if_ne 45 dX7_part_19 (by decide) (fun h2 => ?_) (fun h2 => ?_)
    · exact go htk (pvE.mpr (Or.inl (bI_nz.mp h2)))
    · refine q_iload_n dX7_part_22 rfl ?_
      refine q_bipush (v := 8) dX7_part_23 rfl ?_
      refine q_icmp_lt 42 dX7_part_25 (by decide) (fun h3 => ?_) (fun h3 => ?_)
      · exact no3 htk (fun z => (pvE.mp z).elim (bI_z.mp h2) (fun w => absurd h3 (Int32.not_lt.mpr w.1)))
      · refine q_aload_n dX7_part_28 rfl ?_
        refine z_get 0 dX7_part_29 (by first | assumption | decide) (sh_0 _ _ _) rfl (by decide) fl_X7_12 rfl ?_
        refine q_iload_n dX7_part_32 rfl ?_
        refine q_bipush (v := 8) dX7_part_33 rfl ?_
        refine q_isub dX7_part_35 ?_
        refine z_callV (c_Space_isText s2 t2 (y - 8)) kV_X7_96 dX7_part_36 (by first | assumption | decide) (sh_1 _ _ _) rfl rfl rfl (by omega) (Nat.le_of_ble_eq_true rfl) (Nat.le_refl _) (Nat.le_refl _) rfl (fun v s3 t3 h => ?_)
        obtain ⟨rfl, rfl, rfl⟩ := h
        dsimp only [Option.toList, List.cons_append, List.nil_append]
        refine q_if_ne 45 dX7_part_39 (by decide) (fun h4 => ?_) (fun h4 => ?_)
        · exact go htk (pvE.mpr (Or.inr ⟨Int32.not_lt.mp h3, bI_nz.mp h4⟩))
        · exact no3 htk (fun z => (pvE.mp z).elim (bI_z.mp h2) (fun w => bI_z.mp h4 w.2))
  · have hno : ¬ tk nt x := fun z => bC_z.mp h (tkE.mp z)
    refine q_bipush (v := (-2)) dX7_part_8 rfl ?_
    exact z_iret dX7_part_10 rfl ⟨fun _ => ⟨rfl, rfl, rfl⟩, fun z => absurd z hno, fun q n h1 h2 => absurd ⟨q, h1, h2⟩ hno⟩
