theorem Cache_loc {a b : zI} {ta t : zJ} {A nT nf : Nat} {mo : Nat → Nat} {P : Nat → Prop} (hC : CacheOk a ta A nT mo nf) (hfs : forgS P ta t) (hnf : nf ≤ 10) (hF : ∀ f, f < nf → FV a A nT f) (h : ∀ f, f < nf → ¬ P f → same17 a b f ∧ (∀ x, abT a f x → b 11 (tIdx x) 1 = a 11 (tIdx x) 1 ∧ b 12 (tIdx x) = a 12 (tIdx x)) ∧ ∀ m, a 17 f 2 = 2 → a 17 f 4 = nI m → m < 3 → b 15 m 2 = a 15 m 2 ∧ b 16 m = a 16 m) : CacheOk b t A nT mo nf := by
  intro f hf w hw
  obtain ⟨j1, s1⟩ := hfs f (by omega) w hw
  obtain ⟨c1, c2⟩ := hC f hf w hw
  refine ⟨fun q => ?_, fun q hs => ?_⟩
  · rw [j1]; have := s1.mp q; exact ⟨this.1, c1 this.2⟩
  · obtain ⟨q1, q2⟩ := j1.mp q
    obtain ⟨h1, h2, h3⟩ := h f hf q1
    rw [trW_loc (hF f hf) h1 h2 h3 w, ← c2 q2 hs, s1]
    exact ⟨fun z => z.2, fun z => ⟨q1, z⟩⟩
theorem Cache_none {b : zI} {ta t : zJ} {A nT nf : Nat} {mo : Nat → Nat} (hfs : forgS (fun f => f < nf) ta t) (hnf : nf ≤ 10) : CacheOk b t A nT mo nf := by
  intro f hf w hw
  obtain ⟨j1, s1⟩ := hfs f (by omega) w hw
  exact ⟨fun q => absurd hf (s1.mp q).1, fun q => absurd hf (j1.mp q).1⟩
theorem abT_tk {sg mu : zI} {nt nc nf f : Nat} (hF : FoR sg mu nf) (hf : f < nf) (h : FM mu nt nc f) {x : Int32} (hx : abT sg f x) : x = -1 ∨ tk nt x := by
  obtain ⟨kd, h1, h2, h3, h4, h5, h6, h7, h8, h9, h10⟩ := h
  obtain ⟨e2, e3, e4, e5, e6, e7, e8⟩ := hF.2 f hf
  rw [abT_k (e2.trans h2) h1] at hx
  rcases hx with q | ⟨p, q, r⟩ | ⟨p, q | q⟩
  · rw [← q, e3]; exact Or.inr h3
  · rw [← r, e4]
    by_cases k1 : kd = 1
    · exact (h5 k1).1
    · exact Or.inr (h4 k1 p q)
  · rw [← q, e5]; exact Or.inr (h8 p).1
  · rw [← q, e6]; exact Or.inr (h8 p).2
theorem tIdx_m1 : tIdx (-1) = 12 := tIdx_out (vin_not (Or.inl (by decide)) (by omega))
theorem tIdx_tk {nt : Nat} {x : Int32} (hnt : nt ≤ 12) (h : x = -1 ∨ tk nt x) : tIdx x = 12 ∨ tIdx x < nt := by
  rcases h with e | ⟨t, ht, e⟩
  · rw [e]; exact Or.inl tIdx_m1
  · rw [e, tIdx_nI (by omega)]; exact Or.inr ht
theorem same17_of {a b : zI} {f : Nat} (h : b 17 f = a 17 f) : same17 a b f := by unfold same17; rw [h]; exact ⟨rfl, rfl, rfl, rfl, rfl⟩
theorem wSize_congr {A : Nat} {mo mo' : Nat → Nat} : ∀ n, (∀ t, t < n → mo t = mo' t) → wSize A mo n = wSize A mo' n
  | 0, _ => rfl
  | n + 1, h => by simp only [wSize]; rw [wSize_congr n (fun t ht => h t (by omega)), h n (by omega)]
theorem PV_mono {A nT nT' : Nat} (h : nT ≤ nT') {x : Int32} (hp : PV A nT x) : PV A nT' x := by
  rcases hp with p | ⟨t, p, q⟩
  · exact Or.inl p
  · exact Or.inr ⟨t, by omega, q⟩
def uText (mu : zI) (nT m sz : Nat) : zI := uCh (up3 (up3 (up3 mu 21 0 nT (nI m)) 20 0 3 (nI sz)) 20 0 1 (nI (nT + 1)))
theorem rows_le {A m : Nat} (hA : A = 2 ∨ A = 3) (hm : m ≤ 5) : rowsN A m ≤ 400 := by
  rcases (show m = 0 ∨ m = 1 ∨ m = 2 ∨ m = 3 ∨ m = 4 ∨ m = 5 by omega) with rfl | rfl | rfl | rfl | rfl | rfl <;> rcases hA with rfl | rfl <;> decide
theorem i32_le {x : Int32} {n : Nat} (hn : n < 2 ^ 31) (h1 : ¬ x < 0) (h2 : x ≤ nI n) : ∃ m, m ≤ n ∧ x = nI m := nI_of2 (nI_toInt hn) h1 h2
/-- behind dropFindings: what RcOk reads is as it was -/
theorem RcOk_drop {s : zI} {t : zJ} {mu : zI} {A nT : Nat} {mo : Nat → Nat} {nt nc nf : Nat} (h : RcOk s t mu A nT mo nt nc nf) : RcOk (up3 (up3 s 0 0 10 0) 0 0 11 0) t mu A nT mo nt nc nf := by
  have row : ∀ K, K ≠ 0 → (up3 (up3 s 0 0 10 0) 0 0 11 0) K = s K := fun K hK => by
    funext q
    rw [up3_off (by omega), up3_off (by omega)]
  have e0 : ∀ j, j ≠ 10 → j ≠ 11 → (up3 (up3 s 0 0 10 0) 0 0 11 0) 0 0 j = s 0 0 j := fun j a b => by rw [up3_get, if_neg (by omega), up3_get, if_neg (by omega)]
  obtain ⟨r1, r2, r3, r4, r5, r6⟩ := h
  refine ⟨?_, ?_, ?_, ?_, ?_, ?_⟩
  · unfold SpaceOk at *; rw [row 1 (by omega), row 2 (by omega)]; exact r1
  · unfold WaR WayOk at *; rw [row 3 (by omega), row 4 (by omega), row 5 (by omega)]; exact r2
  · unfold TeR at *; rw [e0 7 (by omega) (by omega), row 11 (by omega), row 12 (by omega)]; exact r3
  · unfold MaR at *; rw [e0 8 (by omega) (by omega), row 15 (by omega), row 16 (by omega)]; exact r4
  · unfold FoR at *; rw [e0 9 (by omega) (by omega), row 17 (by omega)]; exact r5
  · intro f hf w hw
    obtain ⟨c1, c2⟩ := r6 f hf w hw
    exact ⟨c1, fun j hs => by rw [mdl_at (row 11 (by omega)) (row 12 (by omega)) (row 15 (by omega)) (row 16 (by omega)) (row 17 (by omega))]; exact c2 j hs⟩
theorem okR_drop {mu' sg s : zI} {t : zJ} {A nT : Nat} {mo : Nat → Nat} {nt nc nf : Nat} (hk : keepM sg s) (h1 : mu' 20 0 19 = 0) (h2 : mu' 20 0 22 = 0) (hM : MoOk mu' A nT mo nt nc nf) (hR : RcOk s t mu' A nT mo nt nc nf) : okR mu' sg (up3 (up3 s 0 0 10 0) 0 0 11 0) t :=
  ⟨keepM_up3 (by omega) (keepM_up3 (by omega) hk), by rw [up3_get, if_neg (by omega), up3_get, if_pos ⟨rfl, rfl, rfl⟩], by rw [up3_get, if_pos ⟨rfl, rfl, rfl⟩], h1, h2, A, nT, mo, nt, nc, nf, hM, RcOk_drop hR⟩
theorem uCh_19 (mu : zI) : uCh mu 20 0 19 = 0 := by unfold uCh; rw [up3_get, if_neg (by omega), up3_get, if_pos ⟨rfl, rfl, rfl⟩]
theorem uCh_22 (mu : zI) : uCh mu 20 0 22 = 0 := by unfold uCh; rw [up3_get, if_pos ⟨rfl, rfl, rfl⟩]
set_option maxRecDepth 100000 in
set_option maxHeartbeats 4000000 in
theorem k_text (sg : zI) (ta : zJ) (mu : zI) (A nT : Nat) (mo : Nat → Nat) (nt nc nf : Nat) (x : Int32) (hM : MoOk mu A nT mo nt nc nf) (hR : RcOk sg ta mu A nT mo nt nc nf) : zP yX7_text mX7_text 3 [.ref (nm 0 0), .int x] sg ta (fun v s t => ((x < 0 ∨ 5 < x) → v = some (.int (-3)) ∧ s = sg ∧ t = ta) ∧ ∀ m, m ≤ 5 → x = nI m → ((nT < 4 ∧ wSize A mo nT * rowsN A m ≤ 8000) → v = some (.int (nI nT)) ∧ okR (uText mu nT m (wSize A mo nT * rowsN A m)) sg s t) ∧ (¬ (nT < 4 ∧ wSize A mo nT * rowsN A m ≤ 8000) → v = some (.int (-5)) ∧ s = sg ∧ t = ta)) := by
  obtain ⟨r1, r2, r3, r4, r5, r6⟩ := hR
  have hA := r1.1
  have hnm : ∀ m, m ≤ 5 → ¬ nI m < 0 ∧ ¬ (5 : Int32) < nI m := fun m hm => ⟨nI_pos (by omega), nI_nlt (b := m) (a := 5) (by omega) (by omega)⟩
  refine zP_of (lv := [some (.ref (nm 0 0)), some (.int x)]) (by decide +kernel) rfl (fun h => by cases h) rfl (Nat.le_of_ble_eq_true rfl) ?_
  refine q_iload_n dX7_text_0 rfl ?_
  refine q_if_lt 9 dX7_text_1 (by decide) (fun h => ?_) (fun h => ?_)
  · refine q_bipush (v := (-3)) dX7_text_9 rfl ?_
    exact z_iret dX7_text_11 rfl ⟨fun _ => ⟨rfl, rfl, rfl⟩, fun m hm e => absurd h (by rw [e]; exact (hnm m hm).1)⟩
  · refine q_iload_n dX7_text_4 rfl ?_
    refine q_iconst (v := 5) dX7_text_5 rfl ?_
    refine q_icmp_le 12 dX7_text_6 (by decide) (fun h2 => ?_) (fun h2 => ?_)
    · obtain ⟨m, hm, rfl⟩ := i32_le (n := 5) (by omega) h h2
      have hrow := rows_le hA hm
      have inj : ∀ m', m' ≤ 5 → nI m = nI m' → m' = m := fun m' hm' e => ((nI_eq (by omega) (by omega)).mp e).symm
      have nout : ¬ (nI m < 0 ∨ 5 < nI m) := fun q => q.elim (hnm m hm).1 (hnm m hm).2
      refine q_aload_n dX7_text_12 rfl ?_
      refine z_get 0 dX7_text_13 (by first | assumption | decide) (sh_0 _ _ _) rfl (by decide) fl_X7_12 rfl ?_
      refine q_iload_n dX7_text_16 rfl ?_
      refine z_callV (c_Space_hasRoomFor sg ta A m nT _ r1.2.2.2.2.1 r1.2.2.2.2.2.1 r1.2.2.2.2.2.2.1 (by omega) r1.2.1 r1.2.2.2.1 hrow) kV_X7_78 dX7_text_17 (by first | assumption | decide) (sh_1 _ _ _) rfl rfl rfl (by omega) (Nat.le_of_ble_eq_true rfl) (Nat.le_refl _) (Nat.le_refl _) rfl (fun v s1 t1 h => ?_)
      obtain ⟨rfl, rfl, rfl⟩ := h
      dsimp only [Option.toList, List.cons_append, List.nil_append]
      refine q_if_ne 26 dX7_text_20 (by decide) (fun h3 => ?_) (fun h3 => ?_)
      · have hroom := bI_nz.mp h3
        refine q_aload_n dX7_text_26 rfl ?_
        refine z_get 0 dX7_text_27 (by first | assumption | decide) (sh_0 _ _ _) rfl (by decide) fl_X7_12 rfl ?_
        refine q_iload_n dX7_text_30 rfl ?_
        refine z_callV (c_Space_add s1 t1 A m nT _ r1.2.2.2.2.1 r1.2.2.2.2.2.1 r1.2.2.2.2.2.2.1 (by omega) hroom.1) kV_X7_82 dX7_text_31 (by first | assumption | decide) (sh_1 _ _ _) rfl rfl rfl (by omega) (Nat.le_of_ble_eq_true rfl) (Nat.le_refl _) (Nat.le_refl _) rfl (fun v s2 t2 h => ?_)
        obtain ⟨rfl, rfl, rfl⟩ := h
        dsimp only [Option.toList, List.cons_append, List.nil_append]
        have hwz : wSize A (fun t => if t = nT then m else mo t) (nT + 1) = wSize A mo nT * rowsN A m := by
          simp only [wSize, if_true]
          rw [wSize_congr nT (mo' := mo) (fun t ht => by rw [if_neg (by omega)])]
        have hS : SpaceOk (up3 (up3 (up3 s1 2 0 nT (nI m)) 1 0 2 (nI (nT + 1))) 1 0 3 (nI (wSize A mo nT * rowsN A m))) A (nT + 1) (fun t => if t = nT then m else mo t) := by
          refine ⟨hA, by omega, fun t ht => ?_, by rw [hwz]; exact hroom.2, ?_, ?_, ?_, fun t ht => ?_⟩
          · by_cases e : t = nT
            · simp [e]; exact hm
            · simp only [e, if_false]; exact r1.2.2.1 t (by omega)
          · simp [up3_get]; exact r1.2.2.2.2.1
          · simp [up3_get]
          · rw [hwz]; simp [up3_get]
          · by_cases e : t = nT
            · subst e; simp [up3_get]
            · simp [up3_get, e]; exact r1.2.2.2.2.2.2.2 t (by omega)
        refine q_aload_n dX7_text_34 rfl ?_
        refine z_callV (c_dropWays _ t2 A (nT + 1) nf _ hS (by simp [up3_get]; exact r5.1) hM.2.2.2.1) kV_X7_72 dX7_text_35 (by first | assumption | decide) (sh_0 _ _ _) rfl rfl rfl (by omega) (Nat.le_of_ble_eq_true rfl) (Nat.le_refl _) (Nat.le_refl _) rfl (fun v s3 t3 h => ?_)
        obtain ⟨rfl, hf3, hw0, hw1, hfg⟩ := h
        dsimp only [Option.toList, List.cons_append, List.nil_append]
        have g : ∀ K i, K ≠ 3 → K ≠ 4 → K ≠ 5 → s3 K i = (up3 (up3 (up3 s1 2 0 nT (nI m)) 1 0 2 (nI (nT + 1))) 1 0 3 (nI (wSize A mo nT * rowsN A m))) K i := fun K i a b c => hf3 K i (by simp; omega)
        have g2 : ∀ K i, K ≠ 1 → K ≠ 2 → K ≠ 3 → K ≠ 4 → K ≠ 5 → s3 K i = s1 K i := fun K i a b c d e => by rw [g K i c d e, up3_off (by omega), up3_off (by omega), up3_off (by omega)]
        refine q_aload_n dX7_text_38 rfl ?_
        refine z_callV (c_dropFindings s3 t3) kV_X7_75 dX7_text_39 (by first | assumption | decide) (sh_0 _ _ _) rfl rfl rfl (by omega) (Nat.le_of_ble_eq_true rfl) (Nat.le_refl _) (Nat.le_refl _) rfl (fun v s4 t4 h => ?_)
        obtain ⟨rfl, rfl, rfl⟩ := h
        dsimp only [Option.toList, List.cons_append, List.nil_append]
        refine q_aload_n dX7_text_42 rfl ?_
        refine z_get 0 dX7_text_43 (by first | assumption | decide) (sh_0 _ _ _) rfl (by decide) fl_X7_12 rfl ?_
        refine z_get 2 dX7_text_46 (by first | assumption | decide) (sh_1 _ _ _) rfl (by decide) fl_X7_85 rfl ?_
        have e2 : up3 (up3 s3 0 0 10 0) 0 0 11 0 1 0 2 = nI (nT + 1) := by rw [up3_off (by omega), up3_off (by omega), g 1 0 (by omega) (by omega) (by omega)]; simp [up3_get]
        rw [e2]
        refine q_iconst (v := 1) dX7_text_49 rfl ?_
        refine q_isub dX7_text_50 ?_
        rw [nI_pred]
        refine z_iret dX7_text_51 rfl ⟨fun q => absurd q nout, fun m' hm' e => ?_⟩
        have := inj m' hm' e
        subst this
        refine ⟨fun _ => ⟨rfl, ?_⟩, fun q => absurd hroom q⟩
        refine okR_drop (A := A) (nT := nT + 1) (mo := fun t => if t = nT then m' else mo t) (nt := nt) (nc := nc) (nf := nf) (keepM_frm (by intro q hq; simp at hq; rcases hq with h | h | h | h | h | h <;> subst h <;> simp) (keepM_up3 (by omega) (keepM_up3 (by omega) (keepM_up3 (by omega) (keepM_refl _)))) hf3) (uCh_19 _) (uCh_22 _) ?_ ?_
        · obtain ⟨m1, m2, m3, m4⟩ := hM
          have u : ∀ K i j, K ≠ 20 → K ≠ 21 → uText mu nT m' (wSize A mo nT * rowsN A m') K i j = mu K i j := fun K i j a b => by unfold uText uCh; simp [up3_get, a, b]
          have u20 : ∀ j, j ≠ 1 → j ≠ 3 → j ≠ 19 → j ≠ 22 → uText mu nT m' (wSize A mo nT * rowsN A m') 20 0 j = mu 20 0 j := fun j a b c d => by unfold uText uCh; simp [up3_get, a, b, c, d]
          refine ⟨⟨hA, by omega, hS.2.2.1, by rw [hwz]; exact hroom.2, ?_, ?_, ?_, fun t ht => ?_⟩, ⟨m2.1, ?_, fun t ht => ?_⟩, ⟨m3.1, ?_, fun i hi => ?_⟩, ⟨m4.1, ?_, fun f hf => ?_⟩⟩
          · rw [u20 0 (by omega) (by omega) (by omega) (by omega)]; exact m1.2.2.2.2.1
          · unfold uText uCh; simp [up3_get]
          · rw [hwz]; unfold uText uCh; simp [up3_get]
          · unfold uText uCh
            by_cases e : t = nT
            · subst e; simp [up3_get]
            · simp [up3_get, e]; exact m1.2.2.2.2.2.2.2 t (by omega)
          · rw [u20 4 (by omega) (by omega) (by omega) (by omega)]; exact m2.2.1
          · obtain ⟨n, a, b, c⟩ := m2.2.2 t ht
            exact ⟨n, a, by rw [u 22 _ _ (by omega) (by omega)]; exact b, fun j hj => by rw [u 23 _ _ (by omega) (by omega)]; exact PV_mono (by omega) (c j hj)⟩
          · rw [u20 7 (by omega) (by omega) (by omega) (by omega)]; exact m3.2.1
          · obtain ⟨⟨q, a⟩, b, c⟩ := m3.2.2 i hi
            exact ⟨⟨q, by rw [u 24 _ _ (by omega) (by omega)]; exact a⟩, fun s a hs ha => by rw [u 25 _ _ (by omega) (by omega)]; exact b s a hs ha, fun s hs => by rw [u 26 _ _ (by omega) (by omega)]; exact c s hs⟩
          · rw [u20 11 (by omega) (by omega) (by omega) (by omega)]; exact m4.2.1
          · have := m4.2.2 f hf
            unfold FM at *
            rw [u 27 _ _ (by omega) (by omega), u 28 _ _ (by omega) (by omega), u 29 _ _ (by omega) (by omega), u 30 _ _ (by omega) (by omega), u 31 _ _ (by omega) (by omega), u 32 _ _ (by omega) (by omega), u 33 _ _ (by omega) (by omega)]
            exact this
        · have u : ∀ K i j, K ≠ 20 → K ≠ 21 → uText mu nT m' (wSize A mo nT * rowsN A m') K i j = mu K i j := fun K i j a b => by unfold uText uCh; simp [up3_get, a, b]
          refine ⟨SpaceOk_frm hS hf3 (by simp) (by simp), ⟨⟨0, hw0⟩, ⟨0, hw1⟩⟩, ⟨?_, ?_, fun t ht => ?_⟩, ⟨?_, fun i hi => ?_⟩, ⟨?_, fun f hf => ?_⟩, Cache_none hfg hM.2.2.2.1⟩
          · rw [g2 0 0 (by omega) (by omega) (by omega) (by omega) (by omega)]; exact r3.1
          · rw [g2 11 12 (by omega) (by omega) (by omega) (by omega) (by omega)]; exact r3.2.1
          · rw [g2 11 t (by omega) (by omega) (by omega) (by omega) (by omega), g2 12 t (by omega) (by omega) (by omega) (by omega) (by omega), u 22 _ _ (by omega) (by omega)]
            obtain ⟨a, b⟩ := r3.2.2 t ht
            exact ⟨a, fun n hn hn6 j hj => by rw [u 23 _ _ (by omega) (by omega)]; exact b n hn hn6 j hj⟩
          · rw [g2 0 0 (by omega) (by omega) (by omega) (by omega) (by omega)]; exact r4.1
          · rw [g2 15 i (by omega) (by omega) (by omega) (by omega) (by omega), g2 16 i (by omega) (by omega) (by omega) (by omega) (by omega), u 24 _ _ (by omega) (by omega)]
            obtain ⟨a, b, c⟩ := r4.2 i hi
            exact ⟨a, fun s a hs ha => by rw [u 25 _ _ (by omega) (by omega)]; exact b s a hs ha, fun s hs => by rw [u 26 _ _ (by omega) (by omega)]; exact c s hs⟩
          · rw [g2 0 0 (by omega) (by omega) (by omega) (by omega) (by omega)]; exact r5.1
          · rw [g2 17 f (by omega) (by omega) (by omega) (by omega) (by omega), u 27 _ _ (by omega) (by omega), u 28 _ _ (by omega) (by omega), u 29 _ _ (by omega) (by omega), u 30 _ _ (by omega) (by omega), u 31 _ _ (by omega) (by omega), u 32 _ _ (by omega) (by omega), u 33 _ _ (by omega) (by omega)]
            exact r5.2 f hf
      · have hroom := bI_z.mp h3
        refine q_bipush (v := (-5)) dX7_text_23 rfl ?_
        refine z_iret dX7_text_25 rfl ⟨fun q => absurd q nout, fun m' hm' e => ?_⟩
        have := inj m' hm' e
        subst this
        exact ⟨fun q => absurd q hroom, fun _ => ⟨rfl, rfl, rfl⟩⟩
    · refine q_bipush (v := (-3)) dX7_text_9 rfl ?_
      exact z_iret dX7_text_11 rfl ⟨fun _ => ⟨rfl, rfl, rfl⟩, fun m hm e => absurd (nI_le (b := 5) hm (by omega)) (by rw [← e]; exact h2)⟩
