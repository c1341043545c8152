def uForm (mu : zI) (f : Nat) (k a b c d : Int32) : zI := uCh (up3 (up3 (up3 (up3 (up3 (up3 (up3 (up3 mu 27 0 f k) 28 0 f a) 29 0 f b) 30 0 f c) 31 0 f d) 32 0 f 0) 33 0 f 0) 20 0 11 (nI (f + 1)))
theorem uForm_20 {mu : zI} {f : Nat} {k a b c d : Int32} {j : Nat} (h1 : j ≠ 11) (h2 : j ≠ 19) (h3 : j ≠ 22) : uForm mu f k a b c d 20 0 j = mu 20 0 j := by
  unfold uForm
  rw [uCh_20 h2 h3]
  simp [up3_get, h1]
theorem uForm_ne {mu : zI} {f : Nat} {k a b c d : Int32} {K : Nat} (h : K ≠ 20) (h2 : K < 27 ∨ 33 < K) : uForm mu f k a b c d K = mu K := by
  unfold uForm
  rw [uCh_ne h, up3_ne h, up3_ne (by omega), up3_ne (by omega), up3_ne (by omega), up3_ne (by omega), up3_ne (by omega), up3_ne (by omega), up3_ne (by omega)]
theorem uForm_11 {mu : zI} {f : Nat} {k a b c d : Int32} : uForm mu f k a b c d 20 0 11 = nI (f + 1) := by
  unfold uForm
  rw [uCh_20 (by omega) (by omega)]
  simp [up3_get]
theorem uForm_at {mu : zI} {f : Nat} {k a b c d : Int32} (g : Nat) : uForm mu f k a b c d 27 0 g = (if g = f then k else mu 27 0 g) ∧ uForm mu f k a b c d 28 0 g = (if g = f then a else mu 28 0 g) ∧ uForm mu f k a b c d 29 0 g = (if g = f then b else mu 29 0 g) ∧ uForm mu f k a b c d 30 0 g = (if g = f then c else mu 30 0 g) ∧ uForm mu f k a b c d 31 0 g = (if g = f then d else mu 31 0 g) ∧ uForm mu f k a b c d 32 0 g = (if g = f then 0 else mu 32 0 g) ∧ uForm mu f k a b c d 33 0 g = (if g = f then 0 else mu 33 0 g) := by
  unfold uForm
  refine ⟨?_, ?_, ?_, ?_, ?_, ?_, ?_⟩ <;> rw [uCh_ne (by omega)] <;> simp [up3_get]
theorem i32_rng {x : Int32} (h1 : -40 ≤ x) (h2 : x ≤ 40) : -40 ≤ x.toInt ∧ x.toInt ≤ 40 := by
  rw [Int32.le_iff_toInt_le] at h1 h2
  exact ⟨h1, h2⟩
theorem FM_new {mu : zI} {nt nc f kd : Nat} {a b c d : Int32} (hnt : nt ≤ 12) (hnc : nc ≤ 3) (hk : kd ≤ 6) (ha : tk nt a) (ho : othOk (nI nt) (nI nc) (nI kd) b c d) (hn : numOk (nI kd) b c) : FM (uForm mu f (nI kd) a b c d) nt nc f := by
  obtain ⟨e1, e2, e3, e4, e5, e6, e7⟩ := uForm_at (mu := mu) (f := f) (k := nI kd) (a := a) (b := b) (c := c) (d := d) f
  rw [if_pos rfl] at e1 e2 e3 e4 e5 e6 e7
  have T : ∀ x : Int32, (0 ≤ x ∧ x < nI nt) → tk nt x := fun x h => (tk_iff (by omega) x).mpr h
  obtain ⟨o1, o2, o3, o4⟩ := ho
  obtain ⟨n1, n2⟩ := hn
  refine ⟨kd, hk, e1, by rw [e2]; exact ha, fun p q r => ?_, fun p => ?_, fun p => ?_, fun p => ?_, fun p => ?_, Or.inl e6, Or.inl e7⟩
  · rw [e3]
    refine T _ (o3 ?_)
    rcases (show kd = 0 ∨ kd = 3 ∨ kd = 4 ∨ kd = 6 by omega) with rfl | rfl | rfl | rfl
    · exact Or.inl rfl
    · exact Or.inr (Or.inl rfl)
    · exact Or.inr (Or.inr (Or.inl rfl))
    · exact Or.inr (Or.inr (Or.inr rfl))
  · subst p
    rw [e3, e4]
    exact ⟨(o1 rfl).elim Or.inl (fun q => Or.inr (T _ q)), i32_rng (n1 rfl).1 (n1 rfl).2⟩
  · subst p
    rw [e3]
    exact (tk_iff (by omega) b).mpr (o2 rfl)
  · subst p
    obtain ⟨g1, g2, g3, g4⟩ := n2 rfl
    rw [e3, e4]
    obtain ⟨p, hp, rfl⟩ := nI_of (x := b) (Int32.not_lt.mpr (Int32.le_trans (by decide) g1))
    obtain ⟨q, hq, rfl⟩ := nI_of (x := c) (Int32.not_lt.mpr g3)
    have a1 : 2 ≤ p := by
      by_cases h : 2 ≤ p
      · exact h
      · exact absurd g1 (Int32.not_le.mpr (nI_lt (a := p) (b := 2) (by omega) (by omega)))
    have a2 : p ≤ 16 := by
      by_cases h : p ≤ 16
      · exact h
      · exact absurd g2 (Int32.not_le.mpr (nI_lt (a := 16) (b := p) (by omega) (by omega)))
    exact ⟨p, q, a1, a2, (nI_ltI (by omega) (by omega)).mp g4, rfl, rfl⟩
  · subst p
    rw [e4, e5]
    exact ⟨T _ (o4 rfl).1, T _ (o4 rfl).2⟩
theorem Cache_ext {b : zI} {ta t : zJ} {A nT nf : Nat} {mo : Nat → Nat} {P : Nat → Prop} (h : CacheOk b t A nT mo nf) (hfs : forgS P ta t) (hp : P nf) (hnf : nf < 10) : CacheOk b t A nT mo (nf + 1) := by
  intro f hf w hw
  by_cases e : f = nf
  · subst e
    obtain ⟨j1, s1⟩ := hfs f (by omega) w hw
    exact ⟨fun q => absurd hp (s1.mp q).1, fun q => absurd hp (j1.mp q).1⟩
  · exact h f (by omega) w hw
set_option maxRecDepth 100000 in
set_option maxHeartbeats 8000000 in
theorem k_formula (sg : zI) (ta : zJ) (mu : zI) (A nT : Nat) (mo : Nat → Nat) (nt nc nf : Nat) (x a b c d : Int32) (hM : MoOk mu A nT mo nt nc nf) (hR : RcOk sg ta mu A nT mo nt nc nf) : zP yX7_formula mX7_formula 3 [.ref (nm 0 0), .int x, .int a, .int b, .int c, .int d] sg ta (fun v s t => (¬ (0 ≤ x ∧ x ≤ 6) → v = some (.int (-3)) ∧ s = sg ∧ t = ta) ∧ ((0 ≤ x ∧ x ≤ 6) → (¬ (tk nt a ∧ othOk (nI nt) (nI nc) x b c d) → v = some (.int (-2)) ∧ s = sg ∧ t = ta) ∧ (tk nt a → othOk (nI nt) (nI nc) x b c d → (¬ numOk x b c → v = some (.int (-3)) ∧ s = sg ∧ t = ta) ∧ (numOk x b c → (nf = 10 → v = some (.int (-5)) ∧ s = sg ∧ t = ta) ∧ (nf < 10 → v = some (.int (nI nf)) ∧ okR (uForm mu nf x a b c d) sg s t))))) := by
  have hQ := QI_of hM hR
  obtain ⟨r1, r2, r3, r4, r5, r6⟩ := hR
  have hnt := hM.2.1.1
  have hnc := hM.2.2.1.1
  have hnf := hM.2.2.2.1
  refine zP_of (lv := [some (.ref (nm 0 0)), some (.int x), some (.int a), some (.int b), some (.int c), some (.int d)]) (by decide +kernel) rfl (fun h => by cases h) rfl (Nat.le_of_ble_eq_true rfl) ?_
  refine q_iload_n dX7_formula_0 rfl ?_
  refine q_if_lt 10 dX7_formula_1 (by decide) (fun h => ?_) (fun h => ?_)
  · refine q_bipush (v := (-3)) dX7_formula_10 rfl ?_
    exact z_iret dX7_formula_12 rfl ⟨fun _ => ⟨rfl, rfl, rfl⟩, fun q => absurd h (Int32.not_lt.mpr q.1)⟩
  · refine q_iload_n dX7_formula_4 rfl ?_
    refine q_bipush (v := 6) dX7_formula_5 rfl ?_
    refine q_icmp_le 13 dX7_formula_7 (by decide) (fun h2 => ?_) (fun h2 => ?_)
    · have hx : 0 ≤ x ∧ x ≤ 6 := ⟨Int32.not_lt.mp h, h2⟩
      obtain ⟨kd, hkd, rfl⟩ := i32_le (n := 6) (by omega) h h2
      refine q_aload_n dX7_formula_13 rfl ?_
      refine q_iload_n dX7_formula_14 rfl ?_
      refine z_callV (c_isTerm sg ta a) kV_X7_90 dX7_formula_15 (by first | assumption | decide) (sh_0 _ _ _) rfl rfl rfl (by omega) (Nat.le_of_ble_eq_true rfl) (Nat.le_refl _) (Nat.le_refl _) rfl (fun v s1 t1 h => ?_)
      obtain ⟨rfl, rfl, rfl⟩ := h
      dsimp only [Option.toList, List.cons_append, List.nil_append]
      refine q_if_eq 34 dX7_formula_18 (by decide) (fun h3 => ?_) (fun h3 => ?_)
      · have hno : ¬ tk nt a := fun k => bC_z.mp h3 (by rw [r3.1]; exact (tk_iff (by omega) a).mp k)
        refine q_bipush (v := (-2)) dX7_formula_34 rfl ?_
        exact z_iret dX7_formula_36 rfl ⟨fun q => absurd hx q, fun _ => ⟨fun _ => ⟨rfl, rfl, rfl⟩, fun q => absurd q hno⟩⟩
      · have hta : tk nt a := (tk_iff (by omega) a).mpr (by rw [← r3.1]; exact bC_nz.mp h3)
        refine q_aload_n dX7_formula_21 rfl ?_
        refine q_iload_n dX7_formula_22 rfl ?_
        refine q_iload_n dX7_formula_23 rfl ?_
        refine q_iload dX7_formula_24 rfl ?_
        refine q_iload dX7_formula_26 rfl ?_
        refine z_callV (c_areOthersKnown s1 t1 kd b c d hkd) kV_X7_139 dX7_formula_28 (by first | assumption | decide) (sh_0 _ _ _) rfl rfl rfl (by omega) (Nat.le_of_ble_eq_true rfl) (Nat.le_refl _) (Nat.le_refl _) rfl (fun v s2 t2 h => ?_)
        obtain ⟨rfl, rfl, rfl⟩ := h
        dsimp only [Option.toList, List.cons_append, List.nil_append]
        rw [r3.1, r4.1]
        refine q_if_ne 37 dX7_formula_31 (by decide) (fun h4 => ?_) (fun h4 => ?_)
        · have hot := bC_nz.mp h4
          refine q_iload_n dX7_formula_37 rfl ?_
          refine q_iload_n dX7_formula_38 rfl ?_
          refine q_iload dX7_formula_39 rfl ?_
          refine z_callS (c_areNumbersInside s2 t2 kd b c hkd) kS_X7_143 dX7_formula_41 rfl (by omega) (Nat.le_of_ble_eq_true rfl) (Nat.le_refl _) (Nat.le_refl _) rfl (fun v s3 t3 h => ?_)
          obtain ⟨rfl, rfl, rfl⟩ := h
          dsimp only [Option.toList, List.cons_append, List.nil_append]
          refine q_if_ne 50 dX7_formula_44 (by decide) (fun h5 => ?_) (fun h5 => ?_)
          · have hnu := bC_nz.mp h5
            refine q_aload_n dX7_formula_50 rfl ?_
            refine z_get 9 dX7_formula_51 (by first | assumption | decide) (sh_0 _ _ _) rfl (by decide) fl_X7_58 rfl ?_
            refine q_bipush (v := 10) dX7_formula_54 rfl ?_
            rw [r5.1]
            refine q_icmp_lt 62 dX7_formula_56 (by decide) (fun h6 => ?_) (fun h6 => ?_)
            · have h10 : nf < 10 := (nI_ltI (b := 10) (by omega) (by omega)).mp h6
              have hfc := cnt17 h10
              refine q_aload_n dX7_formula_62 rfl ?_
              refine z_get 5 dX7_formula_63 (by first | assumption | decide) (sh_0 _ _ _) rfl (by decide) fl_X7_42 rfl ?_
              refine q_aload_n dX7_formula_66 rfl ?_
              refine z_get 9 dX7_formula_67 (by first | assumption | decide) (sh_0 _ _ _) rfl (by decide) fl_X7_58 rfl ?_
              rw [r5.1]
              refine z_aald dX7_formula_70 (by first | assumption | decide) rfl (fun _ => rfl) (vp_in_nI (n := nf) h10 (by omega)) (aal h10 (by omega)) ?_
              refine q_iload_n dX7_formula_71 rfl ?_
              refine q_iload_n dX7_formula_72 rfl ?_
              refine q_iload_n dX7_formula_73 rfl ?_
              refine q_iload dX7_formula_74 rfl ?_
              refine q_iload dX7_formula_76 rfl ?_
              refine z_callV (c_Formula_restart s3 t3 nf (nI kd) a b c d hfc) kV_X7_147 dX7_formula_78 (by first | assumption | decide) (sh_17 _ _ _) rfl rfl rfl (by omega) (Nat.le_of_ble_eq_true rfl) (Nat.le_refl _) (Nat.le_refl _) rfl (fun v s4 t4 h => ?_)
              obtain ⟨rfl, rfl, rfl⟩ := h
              dsimp only [Option.toList, List.cons_append, List.nil_append]
              refine q_aload_n dX7_formula_81 rfl ?_
              refine q_dup dX7_formula_82 rfl ?_
              refine z_get 9 dX7_formula_83 (by first | assumption | decide) (sh_0 _ _ _) rfl (by decide) fl_X7_58 rfl ?_
              have e9 : up3 (up3 (up3 (up3 (up3 (up3 (up3 s3 17 nf 2 (nI kd)) 17 nf 3 a) 17 nf 4 b) 17 nf 5 c) 17 nf 6 d) 17 nf 7 0) 17 nf 8 0 0 0 9 = nI nf := by simp [up3_get]; exact r5.1
              rw [e9]
              refine q_iconst (v := 1) dX7_formula_86 rfl ?_
              refine q_iadd dX7_formula_87 ?_
              rw [nI_1]
              refine z_puti 9 dX7_formula_88 (by first | assumption | decide) (sh_0 _ _ _) rfl (by decide) fl_X7_58 rfl pfI (Nat.le_of_ble_eq_true rfl) rfl ?_
              refine q_aload_n dX7_formula_91 rfl ?_
              refine z_callV (c_dropFindings _ _) kV_X7_75 dX7_formula_92 (by first | assumption | decide) (sh_0 _ _ _) rfl rfl rfl (by omega) (Nat.le_of_ble_eq_true rfl) (Nat.le_refl _) (Nat.le_refl _) rfl (fun v s5 t5 h => ?_)
              obtain ⟨rfl, rfl, rfl⟩ := h
              dsimp only [Option.toList, List.cons_append, List.nil_append]
              refine q_aload_n dX7_formula_95 rfl ?_
              refine z_get 9 dX7_formula_96 (by first | assumption | decide) (sh_0 _ _ _) rfl (by decide) fl_X7_58 rfl ?_
              rw [show (up3 (up3 (up3 (up3 (up3 (up3 (up3 (up3 (up3 (up3 s3 17 nf 2 (nI kd)) 17 nf 3 a) 17 nf 4 b) 17 nf 5 c) 17 nf 6 d) 17 nf 7 0) 17 nf 8 0) 0 0 9 (nI (nf + 1))) 0 0 10 0) 0 0 11 0) 0 0 9 = nI (nf + 1) by simp [up3_get]]
              refine q_iconst (v := 1) dX7_formula_99 rfl ?_
              refine q_isub dX7_formula_100 ?_
              rw [nI_pred]
              refine z_iret dX7_formula_101 rfl ⟨fun q => absurd hx q, fun _ => ⟨fun q => absurd ⟨hta, hot⟩ q, fun _ _ => ⟨fun q => absurd hnu q, fun _ => ⟨fun q => absurd q (by omega), fun _ => ⟨rfl, ?_⟩⟩⟩⟩⟩
              have s_ne : ∀ K, K ≠ 17 → K ≠ 0 → (up3 (up3 (up3 (up3 (up3 (up3 (up3 (up3 s3 17 nf 2 (nI kd)) 17 nf 3 a) 17 nf 4 b) 17 nf 5 c) 17 nf 6 d) 17 nf 7 0) 17 nf 8 0) 0 0 9 (nI (nf + 1))) K = s3 K := fun K h1 h2 => by rw [up3_ne h2, up3_ne h1, up3_ne h1, up3_ne h1, up3_ne h1, up3_ne h1, up3_ne h1, up3_ne h1]
              have s0 : ∀ j, j ≠ 9 → (up3 (up3 (up3 (up3 (up3 (up3 (up3 (up3 s3 17 nf 2 (nI kd)) 17 nf 3 a) 17 nf 4 b) 17 nf 5 c) 17 nf 6 d) 17 nf 7 0) 17 nf 8 0) 0 0 9 (nI (nf + 1))) 0 0 j = s3 0 0 j := fun j hj => by simp [up3_get, hj]
              have s17 : ∀ g j, g ≠ nf → (up3 (up3 (up3 (up3 (up3 (up3 (up3 (up3 s3 17 nf 2 (nI kd)) 17 nf 3 a) 17 nf 4 b) 17 nf 5 c) 17 nf 6 d) 17 nf 7 0) 17 nf 8 0) 0 0 9 (nI (nf + 1))) 17 g j = s3 17 g j := fun g j hg => by simp [up3_get, hg]
              have hfs : forgS (fun f => f = nf) t3 (forg t3 nf) := forgS_step (P := fun _ => False) (forgS_refl (fun _ q => q)) (fun f => by simp)
              refine okR_drop (A := A) (nT := nT) (mo := mo) (nt := nt) (nc := nc) (nf := nf + 1) (keepM_up3 (by omega) (keepM_up3 (by omega) (keepM_up3 (by omega) (keepM_up3 (by omega) (keepM_up3 (by omega) (keepM_up3 (by omega) (keepM_up3 (by omega) (keepM_up3 (by omega) (keepM_refl _))))))))) (uCh_19 _) (uCh_22 _) ⟨SpM_at (uForm_20 (by omega) (by omega) (by omega)) (uForm_20 (by omega) (by omega) (by omega)) (uForm_20 (by omega) (by omega) (by omega)) (by rw [uForm_ne (by omega) (by omega)]) hM.1, TeM_at (uForm_20 (by omega) (by omega) (by omega)) (by rw [uForm_ne (by omega) (by omega)]) (by rw [uForm_ne (by omega) (by omega)]) hM.2.1, MaM_at (uForm_20 (by omega) (by omega) (by omega)) (by rw [uForm_ne (by omega) (by omega)]) (by rw [uForm_ne (by omega) (by omega)]) (by rw [uForm_ne (by omega) (by omega)]) hM.2.2.1, ⟨by omega, uForm_11, fun g hg => ?_⟩⟩ ⟨SpaceOk_at (s_ne 1 (by omega) (by omega)) (s_ne 2 (by omega) (by omega)) r1, WaR_at (s_ne 3 (by omega) (by omega)) (s_ne 4 (by omega) (by omega)) (s_ne 5 (by omega) (by omega)) r2, TeR_at (s0 7 (by omega)) (s_ne 11 (by omega) (by omega)) (s_ne 12 (by omega) (by omega)) (by rw [uForm_ne (by omega) (by omega)]) (by rw [uForm_ne (by omega) (by omega)]) r3, MaR_at (s0 8 (by omega)) (s_ne 15 (by omega) (by omega)) (s_ne 16 (by omega) (by omega)) (by rw [uForm_ne (by omega) (by omega)]) (by rw [uForm_ne (by omega) (by omega)]) (by rw [uForm_ne (by omega) (by omega)]) r4, ⟨by simp [up3_get], fun g hg => ?_⟩, Cache_ext (Cache_loc r6 hfs hnf (fun f hf => (hQ.2.2.2.2.1 f hf).1) (fun g hg hng => ⟨⟨s17 _ _ hng, s17 _ _ hng, s17 _ _ hng, s17 _ _ hng, s17 _ _ hng⟩, fun x hx => by rw [s_ne 11 (by omega) (by omega), s_ne 12 (by omega) (by omega)]; exact ⟨rfl, rfl⟩, fun m _ _ _ => by rw [s_ne 15 (by omega) (by omega), s_ne 16 (by omega) (by omega)]; exact ⟨rfl, rfl⟩⟩)) hfs rfl h10⟩
              · by_cases e : g = nf
                · subst e; exact FM_new hnt hnc hkd hta hot hnu
                · obtain ⟨e1, e2, e3, e4, e5, e6, e7⟩ := uForm_at (mu := mu) (f := nf) (k := nI kd) (a := a) (b := b) (c := c) (d := d) g
                  have := hM.2.2.2.2.2 g (by omega)
                  unfold FM at *
                  rw [e1, e2, e3, e4, e5, e6, e7, if_neg e, if_neg e, if_neg e, if_neg e, if_neg e, if_neg e, if_neg e]
                  exact this
              · obtain ⟨e1, e2, e3, e4, e5, e6, e7⟩ := uForm_at (mu := mu) (f := nf) (k := nI kd) (a := a) (b := b) (c := c) (d := d) g
                rw [e1, e2, e3, e4, e5, e6, e7]
                by_cases e : g = nf
                · subst e
                  simp [up3_get]
                · rw [if_neg e, if_neg e, if_neg e, if_neg e, if_neg e, if_neg e, if_neg e, s17 _ _ e, s17 _ _ e, s17 _ _ e, s17 _ _ e, s17 _ _ e, s17 _ _ e, s17 _ _ e]
                  exact r5.2 g (by omega)
            · have h10 : nf = 10 := by
                have : ¬ nf < 10 := fun q => h6 (nI_lt (b := 10) q (by omega))
                omega
              refine q_bipush (v := (-5)) dX7_formula_59 rfl ?_
              exact z_iret dX7_formula_61 rfl ⟨fun q => absurd hx q, fun _ => ⟨fun q => absurd ⟨hta, hot⟩ q, fun _ _ => ⟨fun q => absurd hnu q, fun _ => ⟨fun _ => ⟨rfl, rfl, rfl⟩, fun q => absurd q (by omega)⟩⟩⟩⟩
          · have hnu := bC_z.mp h5
            refine q_bipush (v := (-3)) dX7_formula_47 rfl ?_
            exact z_iret dX7_formula_49 rfl ⟨fun q => absurd hx q, fun _ => ⟨fun q => absurd ⟨hta, hot⟩ q, fun _ _ => ⟨fun _ => ⟨rfl, rfl, rfl⟩, fun q => absurd q hnu⟩⟩⟩
        · have hot := bC_z.mp h4
          refine q_bipush (v := (-2)) dX7_formula_34 rfl ?_
          exact z_iret dX7_formula_36 rfl ⟨fun q => absurd hx q, fun _ => ⟨fun _ => ⟨rfl, rfl, rfl⟩, fun _ q => absurd q hot⟩⟩
    · refine q_bipush (v := (-3)) dX7_formula_10 rfl ?_
      exact z_iret dX7_formula_12 rfl ⟨fun _ => ⟨rfl, rfl, rfl⟩, fun q => absurd q.2 h2⟩
