/-! what a formula's truth rests on -/
theorem abT_k {sg : zI} {f kd : Nat} (h : sg 17 f 2 = nI kd) (hk : kd ≤ 6) {x : Int32} : abT sg f x ↔ (sg 17 f 3 = x ∨ (kd ≠ 2 ∧ kd ≠ 5 ∧ sg 17 f 4 = x) ∨ (kd = 6 ∧ (sg 17 f 5 = x ∨ sg 17 f 6 = x))) := by
  unfold abT
  rw [h]
  have e2 : nI kd = 2 ↔ kd = 2 := nI_eq (b := 2) (by omega) (by omega)
  have e5 : nI kd = 5 ↔ kd = 5 := nI_eq (b := 5) (by omega) (by omega)
  have e6 : nI kd = 6 ↔ kd = 6 := nI_eq (b := 6) (by omega) (by omega)
  rw [e2, e5, e6]
  constructor
  · rintro (a | ⟨⟨a, b⟩, c⟩ | a)
    · exact Or.inl a
    · exact Or.inr (Or.inl ⟨a, b, c⟩)
    · exact Or.inr (Or.inr a)
  · rintro (a | ⟨a, b, c⟩ | a)
    · exact Or.inl a
    · exact Or.inr (Or.inl ⟨⟨a, b⟩, c⟩)
    · exact Or.inr (Or.inr a)
def same17 (a b : zI) (f : Nat) : Prop := b 17 f 2 = a 17 f 2 ∧ b 17 f 3 = a 17 f 3 ∧ b 17 f 4 = a 17 f 4 ∧ b 17 f 5 = a 17 f 5 ∧ b 17 f 6 = a 17 f 6
theorem FV_loc {a b : zI} {A nT nT' f : Nat} (hn : nT ≤ nT') (hF : FV a A nT f) (h17 : same17 a b f) (hT : ∀ x, abT a f x → b 11 (tIdx x) 1 = a 11 (tIdx x) 1 ∧ ∀ n, a 11 (tIdx x) 1 = nI n → n ≤ 6 → ∀ j, j < n → b 12 (tIdx x) j = a 12 (tIdx x) j) : FV b A nT' f := by
  obtain ⟨kd, h1, h2, h3, h4, h5, h6, h7⟩ := hF
  obtain ⟨e2, e3, e4, e5, e6⟩ := h17
  have tv : ∀ x, abT a f x → TV a A nT x → TV b A nT' x := by
    intro x hx ⟨n, g1, g2, g3⟩
    obtain ⟨q1, q2⟩ := hT x hx
    refine ⟨n, g1, q1.trans g2, fun j hj => ?_⟩
    rw [q2 n g2 g1 j hj]
    rcases g3 j hj with p | ⟨t, p, q⟩
    · exact Or.inl p
    · exact Or.inr ⟨t, by omega, q⟩
  refine ⟨kd, h1, e2.trans h2, ?_, fun p q => ?_, fun p => ?_, fun p => ?_, fun p => ⟨?_, ?_⟩⟩
  · rw [e3]; exact tv _ ((abT_k h2 h1).mpr (Or.inl rfl)) h3
  · rw [e4]; exact tv _ ((abT_k h2 h1).mpr (Or.inr (Or.inl ⟨p, q, rfl⟩))) (h4 p q)
  · rw [e4]; exact h5 p
  · rw [e4, e5]; exact h6 p
  · rw [e5]; exact tv _ ((abT_k h2 h1).mpr (Or.inr (Or.inr ⟨p, Or.inl rfl⟩))) (h7 p).1
  · rw [e6]; exact tv _ ((abT_k h2 h1).mpr (Or.inr (Or.inr ⟨p, Or.inr rfl⟩))) (h7 p).2
theorem trW_loc {a b : zI} {A nT f : Nat} {mo : Nat → Nat} (hF : FV a A nT f) (h17 : same17 a b f) (hT : ∀ x, abT a f x → b 11 (tIdx x) 1 = a 11 (tIdx x) 1 ∧ b 12 (tIdx x) = a 12 (tIdx x)) (hM : ∀ m, a 17 f 2 = 2 → a 17 f 4 = nI m → m < 3 → b 15 m 2 = a 15 m 2 ∧ b 16 m = a 16 m) (w : Nat) : trW b A nT mo w f ↔ trW a A nT mo w f := by
  obtain ⟨kd, h1, h2, h3, h4, h5, h6, h7⟩ := hF
  obtain ⟨e2, e3, e4, e5, e6⟩ := h17
  have sp : ∀ x, abT a f x → spW b A nT mo w x = spW a A nT mo w x := fun x hx => by
    unfold spW
    rw [(hT x hx).1, (hT x hx).2]
  have sa := sp _ ((abT_k h2 h1).mpr (Or.inl rfl))
  have sb : kd ≠ 2 → kd ≠ 5 → _ := fun p q => sp _ ((abT_k h2 h1).mpr (Or.inr (Or.inl ⟨p, q, rfl⟩)))
  unfold trW
  rw [e2, e3, e4, e5, e6, h2]
  rcases (show kd = 0 ∨ kd = 1 ∨ kd = 2 ∨ kd = 3 ∨ kd = 4 ∨ kd = 5 ∨ kd = 6 by omega) with rfl | rfl | rfl | rfl | rfl | rfl | rfl
  · rw [trP_0, trP_0, sa, sb (by omega) (by omega)]
  · rw [trP_1, trP_1, sa, sb (by omega) (by omega)]
  · obtain ⟨m, m1, m2⟩ := h5 rfl
    obtain ⟨q1, q2⟩ := hM m h2 m2 m1
    rw [trP_2, trP_2, sa]
    unfold mxC
    rw [m2, nI_clamp (by omega), q1, q2]
  · rw [trP_3, trP_3, sa, sb (by omega) (by omega)]
  · rw [trP_4, trP_4, sa, sb (by omega) (by omega)]
  · rw [trP_5, trP_5, sa]
  · rw [trP_6, trP_6, sa, sb (by omega) (by omega), sp _ ((abT_k h2 h1).mpr (Or.inr (Or.inr ⟨rfl, Or.inl rfl⟩))), sp _ ((abT_k h2 h1).mpr (Or.inr (Or.inr ⟨rfl, Or.inr rfl⟩)))]
/-! forgetting -/
def forg (ta : zJ) (f : Nat) : zJ := upRl (upRl ta 18 f (zer 125 (ta 18 f))) 19 f (zer 125 (ta 19 f))
theorem forg_jd {ta : zJ} {f g w : Nat} (hw : w < 8000) : jd (forg ta f) g w ↔ g ≠ f ∧ jd ta g w := by
  unfold jd forg
  by_cases h : g = f
  · subst h
    have e : upRl (upRl ta 18 g (zer 125 (ta 18 g))) 19 g (zer 125 (ta 19 g)) 18 g (w / 64) = 0 := by
      simp only [upRl]
      simp
      unfold zer
      rw [if_pos (by omega)]
    rw [e, lb_0]
    simp
  · have e : upRl (upRl ta 18 f (zer 125 (ta 18 f))) 19 f (zer 125 (ta 19 f)) 18 g = ta 18 g := by
      simp only [upRl]
      simp [h]
    rw [e]
    simp [h]
theorem forg_so {ta : zJ} {f g w : Nat} (hw : w < 8000) : so (forg ta f) g w ↔ g ≠ f ∧ so ta g w := by
  unfold so forg
  by_cases h : g = f
  · subst h
    have e : upRl (upRl ta 18 g (zer 125 (ta 18 g))) 19 g (zer 125 (ta 19 g)) 19 g (w / 64) = 0 := by
      simp only [upRl]
      simp
      unfold zer
      rw [if_pos (by omega)]
    rw [e, lb_0]
    simp
  · have e : upRl (upRl ta 18 f (zer 125 (ta 18 f))) 19 f (zer 125 (ta 19 f)) 19 g = ta 19 g := by
      simp only [upRl]
      simp [h]
    rw [e]
    simp [h]
/-- the bits of some formulas are gone, those of others as they were -/
def forgS (P : Nat → Prop) (ta t : zJ) : Prop := ∀ f, f < 10 → ∀ w, w < 8000 → (jd t f w ↔ ¬ P f ∧ jd ta f w) ∧ (so t f w ↔ ¬ P f ∧ so ta f w)
theorem forgS_step {P P' : Nat → Prop} {ta t : zJ} {j : Nat} (h : forgS P ta t) (hp : ∀ f, P' f ↔ P f ∨ f = j) : forgS P' ta (forg t j) := by
  intro f hf w hw
  rw [forg_jd hw, forg_so hw, (h f hf w hw).1, (h f hf w hw).2, hp f]
  constructor
  · constructor
    · rintro ⟨a, b, c⟩; exact ⟨fun q => q.elim b a, c⟩
    · rintro ⟨a, b⟩; exact ⟨fun q => a (Or.inr q), fun q => a (Or.inl q), b⟩
  · constructor
    · rintro ⟨a, b, c⟩; exact ⟨fun q => q.elim b a, c⟩
    · rintro ⟨a, b⟩; exact ⟨fun q => a (Or.inr q), fun q => a (Or.inl q), b⟩
theorem forgS_refl {P : Nat → Prop} {ta : zJ} (h : ∀ f, ¬ P f) : forgS P ta ta := fun f _ w _ => ⟨⟨fun q => ⟨h f, q⟩, fun q => q.2⟩, ⟨fun q => ⟨h f, q⟩, fun q => q.2⟩⟩
theorem forgS_congr {P P' : Nat → Prop} {ta t : zJ} (h : forgS P ta t) (hp : ∀ f, f < 10 → (P' f ↔ P f)) : forgS P' ta t := fun f hf w hw => by rw [hp f hf]; exact h f hf w hw
set_option maxRecDepth 100000 in
set_option maxHeartbeats 4000000 in
theorem c_dropFindingsOfMachine (sg : zI) (ta : zJ) (nf : Nat) (x : Int32) (hn : sg 0 0 9 = nI nf) (hnf : nf ≤ 10) : zP yX7_dropFindingsOfMachine mX7_dropFindingsOfMachine 2 [.ref (nm 0 0), .int x] sg ta (fun v s t => v = none ∧ s = up3 (up3 sg 0 0 10 0) 0 0 11 0 ∧ forgS (fun f => f < nf ∧ sg 17 f 2 = 2 ∧ sg 17 f 4 = x) ta t) := by
  refine zP_of (lv := [some (.ref (nm 0 0)), some (.int x), none]) (by decide +kernel) rfl (fun h => by cases h) rfl (Nat.le_of_ble_eq_true rfl) ?_
  have loop : ∀ (k j : Nat) (t : zJ), j + k = nf → forgS (fun f => f < j ∧ sg 17 f 2 = 2 ∧ sg 17 f 4 = x) ta t → Zq mX7_dropFindingsOfMachine 2 (fun v s t => v = none ∧ s = up3 (up3 sg 0 0 10 0) 0 0 11 0 ∧ forgS (fun f => f < nf ∧ sg 17 f 2 = 2 ∧ sg 17 f 4 = x) ta t) sg t 2 [some (.ref (nm 0 0)), some (.int x), some (.int (nI j))] [] := by
    intro k
    induction k with
    | zero =>
      intro j t hj ht
      refine q_iload_n dX7_dropFindingsOfMachine_2 rfl ?_
      refine q_aload_n dX7_dropFindingsOfMachine_3 rfl ?_
      refine z_get 9 dX7_dropFindingsOfMachine_4 (by first | assumption | decide) (sh_0 _ _ _) rfl (by decide) fl_X7_58 rfl ?_
      rw [hn]
      refine q_icmp_ge 38 dX7_dropFindingsOfMachine_7 (by decide) (fun h => ?_) (fun h => ?_)
      · refine q_aload_n dX7_dropFindingsOfMachine_38 rfl ?_
        refine z_callV (c_dropFindings sg t) kV_X7_75 dX7_dropFindingsOfMachine_39 (by first | assumption | decide) (sh_0 _ _ _) rfl rfl rfl (by omega) (Nat.le_of_ble_eq_true rfl) (Nat.le_refl _) (Nat.le_refl _) rfl (fun v s2 t2 h => ?_)
        obtain ⟨rfl, rfl, rfl⟩ := h
        dsimp only [Option.toList, List.cons_append, List.nil_append]
        exact z_vret dX7_dropFindingsOfMachine_42 rfl ⟨rfl, rfl, by rw [show nf = j by omega]; exact ht⟩
      · exact absurd (nI_le (by omega) (by omega)) h
    | succ k ih =>
      intro j t hj ht
      have j10 : j < 10 := by omega
      have hjc := cnt17 j10
      refine q_iload_n dX7_dropFindingsOfMachine_2 rfl ?_
      refine q_aload_n dX7_dropFindingsOfMachine_3 rfl ?_
      refine z_get 9 dX7_dropFindingsOfMachine_4 (by first | assumption | decide) (sh_0 _ _ _) rfl (by decide) fl_X7_58 rfl ?_
      rw [hn]
      refine q_icmp_ge 38 dX7_dropFindingsOfMachine_7 (by decide) (fun h => ?_) (fun h => ?_)
      · exact absurd h (nI_ge (by omega) (by omega))
      · refine q_aload_n dX7_dropFindingsOfMachine_10 rfl ?_
        refine z_get 5 dX7_dropFindingsOfMachine_11 (by first | assumption | decide) (sh_0 _ _ _) rfl (by decide) fl_X7_42 rfl ?_
        refine q_iload_n dX7_dropFindingsOfMachine_14 rfl ?_
        refine z_aald dX7_dropFindingsOfMachine_15 (by first | assumption | decide) rfl (fun _ => rfl) (vp_in_nI (n := j) j10 (by omega)) (aal j10 (by omega)) ?_
        refine q_iload_n dX7_dropFindingsOfMachine_16 rfl ?_
        refine z_callV (c_Formula_isAboutMachine sg t j x hjc) kV_X7_227 dX7_dropFindingsOfMachine_17 (by first | assumption | decide) (sh_17 _ _ _) rfl rfl rfl (by omega) (Nat.le_of_ble_eq_true rfl) (Nat.le_refl _) (Nat.le_refl _) rfl (fun v s2 t2 h => ?_)
        obtain ⟨rfl, rfl, rfl⟩ := h
        dsimp only [Option.toList, List.cons_append, List.nil_append]
        refine q_if_eq 32 dX7_dropFindingsOfMachine_20 (by decide) (fun h2 => ?_) (fun h2 => ?_)
        · rw [bC_z] at h2
          refine q_iinc dX7_dropFindingsOfMachine_32 rfl (Nat.le_of_ble_eq_true rfl) rfl ?_
          dsimp only [List.set]
          refine q_goto 2 dX7_dropFindingsOfMachine_35 (by decide) ?_
          rw [nI_inc]
          refine ih (j + 1) t2 (by omega) (forgS_congr ht (fun f _ => ?_))
          constructor
          · rintro ⟨a, b⟩
            by_cases e : f = j
            · subst e; exact absurd b h2
            · exact ⟨by omega, b⟩
          · rintro ⟨a, b⟩; exact ⟨by omega, b⟩
        · rw [bC_nz] at h2
          refine q_aload_n dX7_dropFindingsOfMachine_23 rfl ?_
          refine z_get 5 dX7_dropFindingsOfMachine_24 (by first | assumption | decide) (sh_0 _ _ _) rfl (by decide) fl_X7_42 rfl ?_
          refine q_iload_n dX7_dropFindingsOfMachine_27 rfl ?_
          refine z_aald dX7_dropFindingsOfMachine_28 (by first | assumption | decide) rfl (fun _ => rfl) (vp_in_nI (n := j) j10 (by omega)) (aal j10 (by omega)) ?_
          refine z_callV (c_Formula_forget s2 t2 j hjc) kV_X7_104 dX7_dropFindingsOfMachine_29 (by first | assumption | decide) (sh_17 _ _ _) rfl rfl rfl (by omega) (Nat.le_of_ble_eq_true rfl) (Nat.le_refl _) (Nat.le_refl _) rfl (fun v s3 t3 h => ?_)
          obtain ⟨rfl, rfl, rfl⟩ := h
          dsimp only [Option.toList, List.cons_append, List.nil_append]
          refine q_iinc dX7_dropFindingsOfMachine_32 rfl (Nat.le_of_ble_eq_true rfl) rfl ?_
          dsimp only [List.set]
          refine q_goto 2 dX7_dropFindingsOfMachine_35 (by decide) ?_
          rw [nI_inc]
          refine ih (j + 1) _ (by omega) (forgS_step ht (fun f => ?_))
          constructor
          · rintro ⟨a, b⟩
            by_cases e : f = j
            · exact Or.inr e
            · exact Or.inl ⟨by omega, b⟩
          · rintro (⟨a, b⟩ | a)
            · exact ⟨by omega, b⟩
            · subst a; exact ⟨by omega, h2⟩
  refine q_iconst (v := 0) dX7_dropFindingsOfMachine_0 rfl ?_
  refine s_istore_n 2 dX7_dropFindingsOfMachine_1 rfl (Nat.le_of_ble_eq_true rfl) rfl ?_
  dsimp only [List.set]
  exact loop nf 0 ta (by omega) (forgS_refl (fun f q => absurd q.1 (by omega)))
set_option maxRecDepth 100000 in
set_option maxHeartbeats 4000000 in
theorem c_dropWays (sg : zI) (ta : zJ) (A nT nf : Nat) (mo : Nat → Nat) (hS : SpaceOk sg A nT mo) (hn : sg 0 0 9 = nI nf) (hnf : nf ≤ 10) : zP yX7_dropWays mX7_dropWays 2 [.ref (nm 0 0)] sg ta (fun v s t => v = none ∧ frm [(3, 0), (4, 0), (5, 0), (3, 1), (4, 1), (5, 1)] sg s ∧ WayOk s 0 A nT mo 0 ∧ WayOk s 1 A nT mo 0 ∧ forgS (fun f => f < nf) ta t) := by
  have i0 : 0 < cnt 3 := by decide
  have i1 : 1 < cnt 3 := by decide
  refine zP_of (lv := [some (.ref (nm 0 0)), none]) (by decide +kernel) rfl (fun h => by cases h) rfl (Nat.le_of_ble_eq_true rfl) ?_
  refine q_aload_n dX7_dropWays_0 rfl ?_
  refine z_get 1 dX7_dropWays_1 (by first | assumption | decide) (sh_0 _ _ _) rfl (by decide) fl_X7_21 rfl ?_
  refine z_callV (c_Way_restart sg ta 0 A nT mo i0 hS) kV_X7_208 dX7_dropWays_4 (by first | assumption | decide) (sh_3 _ _ _) rfl rfl rfl (by omega) (Nat.le_of_ble_eq_true rfl) (Nat.le_refl _) (Nat.le_refl _) rfl (fun v s1 t1 h => ?_)
  obtain ⟨rfl, rfl, hf1, hw1⟩ := h
  dsimp only [Option.toList, List.cons_append, List.nil_append]
  have hS1 := SpaceOk_frm hS hf1 (by simp) (by simp)
  refine q_aload_n dX7_dropWays_7 rfl ?_
  refine z_get 2 dX7_dropWays_8 (by first | assumption | decide) (sh_0 _ _ _) rfl (by decide) fl_X7_25 rfl ?_
  refine z_callV (c_Way_restart s1 t1 1 A nT mo i1 hS1) kV_X7_208 dX7_dropWays_11 (by first | assumption | decide) (sh_3 _ _ _) rfl rfl rfl (by omega) (Nat.le_of_ble_eq_true rfl) (Nat.le_refl _) (Nat.le_refl _) rfl (fun v s2 t2 h => ?_)
  obtain ⟨rfl, rfl, hf2, hw2⟩ := h
  dsimp only [Option.toList, List.cons_append, List.nil_append]
  have hF : frm [(3, 0), (4, 0), (5, 0), (3, 1), (4, 1), (5, 1)] sg s2 := frm_trans (frm_mono (by intro q hq; simp at hq ⊢; rcases hq with h | h | h <;> simp [h]) hf1) (frm_mono (by intro q hq; simp at hq ⊢; rcases hq with h | h | h <;> simp [h]) hf2)
  have hw0 : WayOk s2 0 A nT mo 0 := WayOk_at (hf2 3 0 (by simp)) (hf2 4 0 (by simp)) (hf2 5 0 (by simp)) hw1
  have hn2 : s2 0 0 9 = nI nf := by rw [hF 0 0 (by simp)]; exact hn
  have loop : ∀ (k j : Nat) (t : zJ), j + k = nf → forgS (fun f => f < j) t2 t → Zq mX7_dropWays 2 (fun v s t => v = none ∧ frm [(3, 0), (4, 0), (5, 0), (3, 1), (4, 1), (5, 1)] sg s ∧ WayOk s 0 A nT mo 0 ∧ WayOk s 1 A nT mo 0 ∧ forgS (fun f => f < nf) t2 t) s2 t 16 [some (.ref (nm 0 0)), some (.int (nI j))] [] := by
    intro k
    induction k with
    | zero =>
      intro j t hj ht
      refine q_iload_n dX7_dropWays_16 rfl ?_
      refine q_aload_n dX7_dropWays_17 rfl ?_
      refine z_get 9 dX7_dropWays_18 (by first | assumption | decide) (sh_0 _ _ _) rfl (by decide) fl_X7_58 rfl ?_
      rw [hn2]
      refine q_icmp_ge 39 dX7_dropWays_21 (by decide) (fun h => ?_) (fun h => ?_)
      · exact z_vret dX7_dropWays_39 rfl ⟨rfl, hF, hw0, hw2, by rw [show nf = j by omega]; exact ht⟩
      · exact absurd (nI_le (by omega) (by omega)) h
    | succ k ih =>
      intro j t hj ht
      have j10 : j < 10 := by omega
      have hjc := cnt17 j10
      refine q_iload_n dX7_dropWays_16 rfl ?_
      refine q_aload_n dX7_dropWays_17 rfl ?_
      refine z_get 9 dX7_dropWays_18 (by first | assumption | decide) (sh_0 _ _ _) rfl (by decide) fl_X7_58 rfl ?_
      rw [hn2]
      refine q_icmp_ge 39 dX7_dropWays_21 (by decide) (fun h => ?_) (fun h => ?_)
      · exact absurd h (nI_ge (by omega) (by omega))
      · refine q_aload_n dX7_dropWays_24 rfl ?_
        refine z_get 5 dX7_dropWays_25 (by first | assumption | decide) (sh_0 _ _ _) rfl (by decide) fl_X7_42 rfl ?_
        refine q_iload_n dX7_dropWays_28 rfl ?_
        refine z_aald dX7_dropWays_29 (by first | assumption | decide) rfl (fun _ => rfl) (vp_in_nI (n := j) j10 (by omega)) (aal j10 (by omega)) ?_
        refine z_callV (c_Formula_forget s2 t j hjc) kV_X7_104 dX7_dropWays_30 (by first | assumption | decide) (sh_17 _ _ _) rfl rfl rfl (by omega) (Nat.le_of_ble_eq_true rfl) (Nat.le_refl _) (Nat.le_refl _) rfl (fun v s3 t3 h => ?_)
        obtain ⟨rfl, rfl, rfl⟩ := h
        dsimp only [Option.toList, List.cons_append, List.nil_append]
        refine q_iinc dX7_dropWays_33 rfl (Nat.le_of_ble_eq_true rfl) rfl ?_
        dsimp only [List.set]
        refine q_goto 16 dX7_dropWays_36 (by decide) ?_
        rw [nI_inc]
        refine ih (j + 1) _ (by omega) (forgS_step ht (fun f => ?_))
        omega
  refine q_iconst (v := 0) dX7_dropWays_14 rfl ?_
  refine s_istore_n 1 dX7_dropWays_15 rfl (Nat.le_of_ble_eq_true rfl) rfl ?_
  dsimp only [List.set]
  exact loop nf 0 t2 (by omega) (forgS_refl (fun f q => absurd q (by omega)))
