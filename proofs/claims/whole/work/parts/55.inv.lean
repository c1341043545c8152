/-! THE INVARIANT: mu is the reference's memory (kinds 20 to 36), sg and ta the class's -/
def tk (nt : Nat) (x : Int32) : Prop := ∃ t, t < nt ∧ x = nI t
def FM (mu : zI) (nt nc f : Nat) : Prop := ∃ kd, kd ≤ 6 ∧ mu 27 0 f = nI kd ∧ tk nt (mu 28 0 f) ∧ (kd ≠ 1 → kd ≠ 2 → kd ≠ 5 → tk nt (mu 29 0 f)) ∧ (kd = 1 → (mu 29 0 f = -1 ∨ tk nt (mu 29 0 f)) ∧ -40 ≤ (mu 30 0 f).toInt ∧ (mu 30 0 f).toInt ≤ 40) ∧ (kd = 2 → tk nc (mu 29 0 f)) ∧ (kd = 5 → ∃ p q, 2 ≤ p ∧ p ≤ 16 ∧ q < p ∧ mu 29 0 f = nI p ∧ mu 30 0 f = nI q) ∧ (kd = 6 → tk nt (mu 30 0 f) ∧ tk nt (mu 31 0 f)) ∧ (mu 32 0 f = 0 ∨ mu 32 0 f = 1) ∧ (mu 33 0 f = 0 ∨ mu 33 0 f = 1)
def SpM (mu : zI) (A nT : Nat) (mo : Nat → Nat) : Prop := (A = 2 ∨ A = 3) ∧ nT ≤ 4 ∧ (∀ t, t < nT → mo t ≤ 5) ∧ wSize A mo nT ≤ 8000 ∧ mu 20 0 0 = nI A ∧ mu 20 0 1 = nI nT ∧ mu 20 0 3 = nI (wSize A mo nT) ∧ ∀ t, t < nT → mu 21 0 t = nI (mo t)
def TeM (mu : zI) (A nT nt : Nat) : Prop := nt ≤ 12 ∧ mu 20 0 4 = nI nt ∧ ∀ t, t < nt → ∃ n, n ≤ 6 ∧ mu 22 0 t = nI n ∧ ∀ j, j < n → PV A nT (mu 23 0 (6 * t + j))
def MaM (mu : zI) (nc : Nat) : Prop := nc ≤ 3 ∧ mu 20 0 7 = nI nc ∧ ∀ i, i < nc → (∃ q, 1 ≤ q ∧ q ≤ 6 ∧ mu 24 0 i = nI q) ∧ (∀ s a, s < 6 → a < 3 → ∃ r, r < 6 ∧ mu 25 0 (18 * i + 3 * s + a) = nI r) ∧ ∀ s, s < 6 → mu 26 0 (6 * i + s) = 0 ∨ mu 26 0 (6 * i + s) = 1
def FoM (mu : zI) (nt nc nf : Nat) : Prop := nf ≤ 10 ∧ mu 20 0 11 = nI nf ∧ ∀ f, f < nf → FM mu nt nc f
def MoOk (mu : zI) (A nT : Nat) (mo : Nat → Nat) (nt nc nf : Nat) : Prop := SpM mu A nT mo ∧ TeM mu A nT nt ∧ MaM mu nc ∧ FoM mu nt nc nf
def TeR (sg mu : zI) (nt : Nat) : Prop := sg 0 0 7 = nI nt ∧ sg 11 12 1 = nI 0 ∧ ∀ t, t < nt → sg 11 t 1 = mu 22 0 t ∧ ∀ n, mu 22 0 t = nI n → n ≤ 6 → ∀ j, j < n → sg 12 t j = mu 23 0 (6 * t + j)
def MaR (sg mu : zI) (nc : Nat) : Prop := sg 0 0 8 = nI nc ∧ ∀ i, i < nc → sg 15 i 1 = mu 24 0 i ∧ (∀ s a, s < 6 → a < 3 → sg 16 i (3 * s + a) = mu 25 0 (18 * i + 3 * s + a)) ∧ ∀ s, s < 6 → (mgd (sg 15 i 2) (nI s) ↔ mu 26 0 (6 * i + s) = 1)
def FoR (sg mu : zI) (nf : Nat) : Prop := sg 0 0 9 = nI nf ∧ ∀ f, f < nf → sg 17 f 2 = mu 27 0 f ∧ sg 17 f 3 = mu 28 0 f ∧ sg 17 f 4 = mu 29 0 f ∧ sg 17 f 5 = mu 30 0 f ∧ sg 17 f 6 = mu 31 0 f ∧ sg 17 f 7 = mu 32 0 f ∧ sg 17 f 8 = mu 33 0 f
def WaR (sg : zI) (A nT : Nat) (mo : Nat → Nat) : Prop := (∃ k, WayOk sg 0 A nT mo k) ∧ ∃ k, WayOk sg 1 A nT mo k
def RcOk (sg : zI) (ta : zJ) (mu : zI) (A nT : Nat) (mo : Nat → Nat) (nt nc nf : Nat) : Prop := SpaceOk sg A nT mo ∧ WaR sg A nT mo ∧ TeR sg mu nt ∧ MaR sg mu nc ∧ FoR sg mu nf ∧ CacheOk sg ta A nT mo nf
theorem tk_TV {sg mu : zI} {A nT nt : Nat} {x : Int32} (hT : TeM mu A nT nt) (hR : TeR sg mu nt) (h : tk nt x) : TV sg A nT x := by
  obtain ⟨t, ht, rfl⟩ := h
  obtain ⟨n, h1, h2, h3⟩ := hT.2.2 t ht
  obtain ⟨r1, r2⟩ := hR.2.2 t ht
  have h12 := hT.1
  refine ⟨n, h1, by rw [tIdx_nI (by omega), r1, h2], fun j hj => ?_⟩
  rw [tIdx_nI (by omega), r2 n h2 h1 j hj]
  exact h3 j hj
theorem none_TV {sg mu : zI} {A nT nt : Nat} (hR : TeR sg mu nt) : TV sg A nT (-1) := by
  have e : tIdx (-1) = 12 := tIdx_out (vin_not (Or.inl (by decide)) (by omega))
  exact ⟨0, by omega, by rw [e]; exact hR.2.1, fun j hj => absurd hj (by omega)⟩
theorem FM_FV {sg mu : zI} {A nT nt nc nf f : Nat} (hT : TeM mu A nT nt) (hR : TeR sg mu nt) (hc : nc ≤ 3) (hF : FoR sg mu nf) (hf : f < nf) (h : FM mu nt nc f) : FV sg A nT f ∧ (sg 17 f 7 = 0 ∨ sg 17 f 7 = 1) := by
  obtain ⟨kd, h1, h2, h3, h4, h5, h6, h7, h8, h9, h10⟩ := h
  obtain ⟨e2, e3, e4, e5, e6, e7, e8⟩ := hF.2 f hf
  refine ⟨⟨kd, h1, e2.trans h2, by rw [e3]; exact tk_TV hT hR h3, fun p q => ?_, fun p => ?_, fun p => ?_, fun p => ?_⟩, by rw [e7]; exact h9⟩
  · rw [e4]
    by_cases k1 : kd = 1
    · rcases (h5 k1).1 with g | g
      · rw [g]; exact none_TV hR
      · exact tk_TV hT hR g
    · exact tk_TV hT hR (h4 k1 p q)
  · obtain ⟨m, a, b⟩ := h6 p
    exact ⟨m, by omega, e4.trans b⟩
  · rw [e4, e5]; exact h7 p
  · rw [e5, e6]; exact ⟨tk_TV hT hR (h8 p).1, tk_TV hT hR (h8 p).2⟩
theorem QI_of {sg : zI} {ta : zJ} {mu : zI} {A nT : Nat} {mo : Nat → Nat} {nt nc nf : Nat} (hM : MoOk mu A nT mo nt nc nf) (hR : RcOk sg ta mu A nT mo nt nc nf) : QI sg ta A nT mo nf := by
  obtain ⟨r1, r2, r3, r4, r5, r6⟩ := hR
  obtain ⟨m1, m2, m3, m4⟩ := hM
  exact ⟨r1, r2.1, m4.1, r5.1, fun f hf => FM_FV m2 r3 m3.1 r5 hf (m4.2.2 f hf), r6⟩
/-- nothing of the reference's memory is touched -/
def keepM (sg s : zI) : Prop := ∀ K, 20 ≤ K → s K = sg K
def uCh (mu : zI) : zI := up3 (up3 mu 20 0 19 0) 20 0 22 0
def uClear (mu : zI) (x : Int32) : zI := uCh (up3 (up3 (up3 (up3 (up3 (up3 mu 20 0 0 x) 20 0 1 0) 20 0 3 1) 20 0 4 0) 20 0 7 0) 20 0 11 0)
theorem uCh_get (mu : zI) (K i j : Nat) (h : ¬ (K = 20 ∧ i = 0 ∧ (j = 19 ∨ j = 22))) : uCh mu K i j = mu K i j := by
  unfold uCh
  rw [up3_get, if_neg (by omega), up3_get, if_neg (by omega)]
theorem keepM_up3 {sg s : zI} {K i j : Nat} {x : Int32} (hK : K < 20) (h : keepM sg s) : keepM sg (up3 s K i j x) := fun K' hK' => by
  funext q
  rw [up3_off (by omega)]
  exact congrFun (h K' hK') q
theorem keepM_upR {sg s : zI} {K i : Nat} {r : Nat → Int32} (hK : K < 20) (h : keepM sg s) : keepM sg (upR s K i r) := fun K' hK' => by
  funext q
  have : ¬ (K' = K ∧ q = i) := by omega
  simp only [upR, if_neg this]
  exact congrFun (h K' hK') q
theorem keepM_frm {sg s s2 : zI} {ks : List (Nat × Nat)} (hk : ∀ q ∈ ks, q.1 < 20) (h : keepM sg s) (hf : frm ks s s2) : keepM sg s2 := fun K hK => by
  funext q
  rw [hf K q (fun z => absurd (hk _ z) (by show ¬ K < 20; omega))]
  exact congrFun (h K hK) q
theorem keepM_refl (sg : zI) : keepM sg sg := fun _ _ => rfl
/-- the class behind a call that is not refused -/
def okR (mu' : zI) (sg s : zI) (t : zJ) : Prop := keepM sg s ∧ s 0 0 10 = 0 ∧ s 0 0 11 = 0 ∧ mu' 20 0 19 = 0 ∧ mu' 20 0 22 = 0 ∧ ∃ (A nT : Nat) (mo : Nat → Nat) (nt nc nf : Nat), MoOk mu' A nT mo nt nc nf ∧ RcOk s t mu' A nT mo nt nc nf
theorem i32_23 {x : Int32} (h1 : ¬ x < 2) (h2 : x ≤ 3) : ∃ A : Nat, (A = 2 ∨ A = 3) ∧ x = nI A := by
  have a : (2 : Int) ≤ x.toInt := by
    have := Int32.not_lt.mp h1
    rw [Int32.le_iff_toInt_le] at this
    exact this
  have b : x.toInt ≤ 3 := by
    rw [Int32.le_iff_toInt_le] at h2
    exact h2
  rcases (show x.toInt = 2 ∨ x.toInt = 3 by omega) with e | e
  · exact ⟨2, Or.inl rfl, Int32.toInt_inj.mp (by rw [e]; rfl)⟩
  · exact ⟨3, Or.inr rfl, Int32.toInt_inj.mp (by rw [e]; rfl)⟩
set_option maxRecDepth 100000 in
set_option maxHeartbeats 4000000 in
theorem k_clear (sg : zI) (ta : zJ) (mu : zI) (A nT : Nat) (mo : Nat → Nat) (nt nc nf : Nat) (x : Int32) (hM : MoOk mu A nT mo nt nc nf) (hR : RcOk sg ta mu A nT mo nt nc nf) : zP yX7_clear mX7_clear 3 [.ref (nm 0 0), .int x] sg ta (fun v s t => ((2 ≤ x ∧ x ≤ 3) → v = some (.int (mu 20 0 11)) ∧ okR (uClear mu x) sg s t) ∧ (¬ (2 ≤ x ∧ x ≤ 3) → v = some (.int (-3)) ∧ s = sg ∧ t = ta)) := by
  obtain ⟨r1, r2, r3, r4, r5, r6⟩ := hR
  have hm11 := hM.2.2.2.2.1
  refine zP_of (lv := [some (.ref (nm 0 0)), some (.int x), none]) (by decide +kernel) rfl (fun h => by cases h) rfl (Nat.le_of_ble_eq_true rfl) ?_
  refine q_iload_n dX7_clear_0 rfl ?_
  refine q_iconst (v := 2) dX7_clear_1 rfl ?_
  refine q_icmp_lt 10 dX7_clear_2 (by decide) (fun h => ?_) (fun h => ?_)
  · refine q_bipush (v := (-3)) dX7_clear_10 rfl ?_
    exact z_iret dX7_clear_12 rfl ⟨fun q => absurd h (Int32.not_lt.mpr q.1), fun _ => ⟨rfl, rfl, rfl⟩⟩
  · refine q_iload_n dX7_clear_5 rfl ?_
    refine q_iconst (v := 3) dX7_clear_6 rfl ?_
    refine q_icmp_le 13 dX7_clear_7 (by decide) (fun h2 => ?_) (fun h2 => ?_)
    · obtain ⟨A', hA', rfl⟩ := i32_23 h h2
      refine q_aload_n dX7_clear_13 rfl ?_
      refine z_get 9 dX7_clear_14 (by first | assumption | decide) (sh_0 _ _ _) rfl (by decide) fl_X7_58 rfl ?_
      refine s_istore_n 2 dX7_clear_17 rfl (Nat.le_of_ble_eq_true rfl) rfl ?_
      dsimp only [List.set]
      refine q_aload_n dX7_clear_18 rfl ?_
      refine z_get 0 dX7_clear_19 (by first | assumption | decide) (sh_0 _ _ _) rfl (by decide) fl_X7_12 rfl ?_
      refine q_iload_n dX7_clear_22 rfl ?_
      rw [r5.1]
      refine z_callV (c_Space_restart sg ta (nI A')) kV_X7_62 dX7_clear_23 (by first | assumption | decide) (sh_1 _ _ _) rfl rfl rfl (by omega) (Nat.le_of_ble_eq_true rfl) (Nat.le_refl _) (Nat.le_refl _) rfl (fun v s1 t1 h => ?_)
      obtain ⟨rfl, rfl, rfl⟩ := h
      dsimp only [Option.toList, List.cons_append, List.nil_append]
      refine q_aload_n dX7_clear_26 rfl ?_
      refine q_iconst (v := 0) dX7_clear_27 rfl ?_
      refine z_puti 7 dX7_clear_28 (by first | assumption | decide) (sh_0 _ _ _) rfl (by decide) fl_X7_66 rfl pfI (Nat.le_of_ble_eq_true rfl) rfl ?_
      refine q_aload_n dX7_clear_31 rfl ?_
      refine q_iconst (v := 0) dX7_clear_32 rfl ?_
      refine z_puti 8 dX7_clear_33 (by first | assumption | decide) (sh_0 _ _ _) rfl (by decide) fl_X7_69 rfl pfI (Nat.le_of_ble_eq_true rfl) rfl ?_
      refine q_aload_n dX7_clear_36 rfl ?_
      refine q_iconst (v := 0) dX7_clear_37 rfl ?_
      refine z_puti 9 dX7_clear_38 (by first | assumption | decide) (sh_0 _ _ _) rfl (by decide) fl_X7_58 rfl pfI (Nat.le_of_ble_eq_true rfl) rfl ?_
      refine q_aload_n dX7_clear_41 rfl ?_
      have hS : SpaceOk (up3 (up3 (up3 (up3 (up3 (up3 sg 1 0 1 (nI A')) 1 0 2 0) 1 0 3 1) 0 0 7 0) 0 0 8 0) 0 0 9 0) A' 0 mo := by
        refine ⟨hA', by omega, fun t ht => absurd ht (by omega), by simp [wSize], ?_, ?_, ?_, fun t ht => absurd ht (by omega)⟩ <;> simp [up3_get] <;> rfl
      refine z_callV (c_dropWays _ t1 A' 0 0 mo hS (by simp [up3_get]; rfl) (by omega)) kV_X7_72 dX7_clear_42 (by first | assumption | decide) (sh_0 _ _ _) rfl rfl rfl (by omega) (Nat.le_of_ble_eq_true rfl) (Nat.le_refl _) (Nat.le_refl _) rfl (fun v s2 t2 h => ?_)
      obtain ⟨rfl, hf2, hw0, hw1, -⟩ := h
      dsimp only [Option.toList, List.cons_append, List.nil_append]
      refine q_aload_n dX7_clear_45 rfl ?_
      refine z_callV (c_dropFindings s2 t2) kV_X7_75 dX7_clear_46 (by first | assumption | decide) (sh_0 _ _ _) rfl rfl rfl (by omega) (Nat.le_of_ble_eq_true rfl) (Nat.le_refl _) (Nat.le_refl _) rfl (fun v s3 t3 h => ?_)
      obtain ⟨rfl, rfl, rfl⟩ := h
      dsimp only [Option.toList, List.cons_append, List.nil_append]
      refine q_iload_n dX7_clear_49 rfl ?_
      refine z_iret dX7_clear_50 rfl ⟨fun _ => ⟨by rw [hm11], ?_, ?_, ?_, ?_, ?_, A', 0, mo, 0, 0, 0, ?_, ?_⟩, fun q => absurd ⟨Int32.not_lt.mp h, h2⟩ q⟩
      · exact keepM_up3 (by omega) (keepM_up3 (by omega) (keepM_frm (by intro q hq; simp at hq; rcases hq with h | h | h | h | h | h <;> subst h <;> simp) (keepM_up3 (by omega) (keepM_up3 (by omega) (keepM_up3 (by omega) (keepM_up3 (by omega) (keepM_up3 (by omega) (keepM_up3 (by omega) (keepM_refl _))))))) hf2))
      · simp [up3_get]
      · simp [up3_get]
      · unfold uClear uCh; simp [up3_get]
      · unfold uClear uCh; simp [up3_get]
      · refine ⟨⟨hA', by omega, fun t ht => absurd ht (by omega), by simp [wSize], ?_, ?_, ?_, fun t ht => absurd ht (by omega)⟩, ⟨by omega, ?_, fun t ht => absurd ht (by omega)⟩, ⟨by omega, ?_, fun t ht => absurd ht (by omega)⟩, ⟨by omega, ?_, fun t ht => absurd ht (by omega)⟩⟩ <;> unfold uClear uCh <;> simp [up3_get] <;> rfl
      · have g : ∀ K i, K ≠ 3 → K ≠ 4 → K ≠ 5 → s2 K i = (up3 (up3 (up3 (up3 (up3 (up3 sg 1 0 1 (nI A')) 1 0 2 0) 1 0 3 1) 0 0 7 0) 0 0 8 0) 0 0 9 0) K i := fun K i a b c => hf2 K i (by simp; omega)
        have hS3 : SpaceOk (up3 (up3 s2 0 0 10 0) 0 0 11 0) A' 0 mo := by
          have := SpaceOk_frm hS hf2 (by simp) (by simp)
          unfold SpaceOk at *
          rw [up3_off (by omega), up3_off (by omega), up3_off (by omega), up3_off (by omega)]
          exact this
        refine ⟨hS3, ⟨⟨0, WayOk_at (by rw [up3_off (by omega), up3_off (by omega)]) (by rw [up3_off (by omega), up3_off (by omega)]) (by rw [up3_off (by omega), up3_off (by omega)]) hw0⟩, ⟨0, WayOk_at (by rw [up3_off (by omega), up3_off (by omega)]) (by rw [up3_off (by omega), up3_off (by omega)]) (by rw [up3_off (by omega), up3_off (by omega)]) hw1⟩⟩, ⟨?_, ?_, fun t ht => absurd ht (by omega)⟩, ⟨?_, fun t ht => absurd ht (by omega)⟩, ⟨?_, fun t ht => absurd ht (by omega)⟩, fun f hf => absurd hf (by omega)⟩
        · rw [up3_get, if_neg (by omega), up3_get, if_neg (by omega), g 0 0 (by omega) (by omega) (by omega)]; simp [up3_get]; rfl
        · rw [up3_off (by omega), up3_off (by omega), g 11 12 (by omega) (by omega) (by omega)]; simp [up3_get]; exact r3.2.1
        · rw [up3_get, if_neg (by omega), up3_get, if_neg (by omega), g 0 0 (by omega) (by omega) (by omega)]; simp [up3_get]; rfl
        · rw [up3_get, if_neg (by omega), up3_get, if_neg (by omega), g 0 0 (by omega) (by omega) (by omega)]; simp [up3_get]; rfl
    · refine q_bipush (v := (-3)) dX7_clear_10 rfl ?_
      exact z_iret dX7_clear_12 rfl ⟨fun q => absurd q.2 h2, fun _ => ⟨rfl, rfl, rfl⟩⟩
