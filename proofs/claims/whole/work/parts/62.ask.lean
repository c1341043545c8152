/-! the class's questions, in words of mu -/
def stillH (sg s : zI) : Prop := (∀ j, s 0 0 j = sg 0 0 j) ∧ s 3 1 = sg 3 1 ∧ s 4 1 = sg 4 1 ∧ s 5 1 = sg 5 1 ∧ s 6 1 = sg 6 1
def HCw (s : zI) (A nT : Nat) (mo : Nat → Nat) (w : Nat) : Prop := WayOk s 1 A nT mo (kOf A mo nT w) ∧ ∀ j, j < wTot mo nT (kOf A mo nT w) → s 6 1 j = nI (wLet A mo nT w j)
theorem frQ_1 {K : Nat} : (K, 1) ∈ frQ ↔ K = 13 ∨ K = 14 := by unfold frQ; simp
theorem frQ_still {sg s : zI} (h : frm frQ sg s) : stillH sg s :=
  ⟨fun j => by rw [frQ_0 h], h 3 1 (fun q => by rw [frQ_1] at q; omega), h 4 1 (fun q => by rw [frQ_1] at q; omega), h 5 1 (fun q => by rw [frQ_1] at q; omega), h 6 1 (fun q => by rw [frQ_1] at q; omega)⟩
theorem frQ_keep {sg s : zI} (h : frm frQ sg s) : keepM sg s := fun K hK => by funext q; exact h K q (frQ_not (by omega))
theorem frH_keep {sg s : zI} (h : frm frH sg s) : keepM sg s := fun K hK => by funext q; exact h K q (frH_not (by omega))
theorem frC_not {K j : Nat} (h : K ≠ 0 ∧ K ≠ 3 ∧ K ≠ 4 ∧ K ≠ 5 ∧ K ≠ 6 ∧ K ≠ 13 ∧ K ≠ 14) : (K, j) ∉ frC := by
  unfold frC frQ
  simp
  omega
theorem frC_keep {sg s : zI} (h : frm frC sg s) : keepM sg s := fun K hK => by funext q; exact h K q (frC_not (by omega))
theorem RcOk_Q {sg s : zI} {ta t : zJ} {mu : zI} {A nT : Nat} {mo : Nat → Nat} {nt nc nf : Nat} (hR : RcOk sg ta mu A nT mo nt nc nf) (hQ : QI s t A nT mo nf) (hw : ∃ k, WayOk s 1 A nT mo k) (h7 : s 0 0 7 = sg 0 0 7) (h8 : s 0 0 8 = sg 0 0 8) (h11 : s 11 = sg 11) (h12 : s 12 = sg 12) (h15 : s 15 = sg 15) (h16 : s 16 = sg 16) (h17 : s 17 = sg 17) : RcOk s t mu A nT mo nt nc nf := by
  obtain ⟨r1, r2, r3, r4, r5, r6⟩ := hR
  obtain ⟨q1, q2, q3, q4, q5, q6⟩ := hQ
  exact ⟨q1, ⟨q2, hw⟩, TeR_at h7 h11 h12 rfl rfl r3, MaR_at h8 h15 h16 rfl rfl rfl r4, FoR_at (q4.trans r5.1.symm) h17 (fun _ _ _ => rfl) r5, q6⟩
theorem frm_K {ks : List (Nat × Nat)} {sg s : zI} (h : frm ks sg s) {K : Nat} (hk : ∀ j, (K, j) ∉ ks) : s K = sg K := by funext q; exact h K q (hk q)
theorem RcOk_frQ {sg s : zI} {ta t : zJ} {mu : zI} {A nT : Nat} {mo : Nat → Nat} {nt nc nf : Nat} (hR : RcOk sg ta mu A nT mo nt nc nf) (hQ : QI s t A nT mo nf) (h : frm frQ sg s) : RcOk s t mu A nT mo nt nc nf := by
  have hs := frQ_still h
  obtain ⟨k, hk⟩ := hR.2.1.2
  exact RcOk_Q hR hQ ⟨k, WayOk_at hs.2.1 hs.2.2.1 hs.2.2.2.1 hk⟩ (hs.1 7) (hs.1 8) (frm_K h (fun _ => frQ_not (by omega))) (frm_K h (fun _ => frQ_not (by omega))) (frm_K h (fun _ => frQ_not (by omega))) (frm_K h (fun _ => frQ_not (by omega))) (frm_K h (fun _ => frQ_not (by omega)))
theorem mask_R {sg : zI} {ta : zJ} {mu : zI} {A nT : Nat} {mo : Nat → Nat} {nt nc nf m : Nat} (hR : RcOk sg ta mu A nT mo nt nc nf) (hm : m < 1024) (h : ∀ f, f < 10 → (m.testBit f = true ↔ f < nf ∧ sg 17 f 8 = 0)) : mask0 mu nf m :=
  ⟨hm, fun f hf => (h f hf).trans ⟨fun q => ⟨q.1, (hR.2.2.2.2.1.2 f q.1).2.2.2.2.2.2.symm.trans q.2⟩, fun q => ⟨q.1, (hR.2.2.2.2.1.2 f q.1).2.2.2.2.2.2.trans q.2⟩⟩⟩
/-- what taking the x-th model in hand does -/
def takeC (sg mu : zI) (A nT : Nat) (mo : Nat → Nat) (nt nc nf : Nat) (x : Int32) (v : Option Value) (s : zI) (t : zJ) : Prop :=
  RcOk s t mu A nT mo nt nc nf ∧ keepM sg s ∧ ∃ m, mask0 mu nf m ∧ ((v = some (.int 1) ∧ (∀ j, j ≠ 10 → s 0 0 j = sg 0 0 j) ∧ s 0 0 10 = 1 ∧ ∃ a w, x = nI a ∧ a < 8000 ∧ w < wSize A mo nT ∧ mdlM mu A nT mo nf m w ∧ sumN (mN mu A nT mo nf m) w = a ∧ HCw s A nT mo w) ∨ (v = some (.int 0) ∧ stillH sg s ∧ (x < 0 ∨ ∃ a, a < 2 ^ 31 ∧ x = nI a ∧ sumN (mN mu A nT mo nf m) (wSize A mo nT) ≤ a)))
theorem takeC_of {sg : zI} {ta : zJ} {mu : zI} {A nT : Nat} {mo : Nat → Nat} {nt nc nf : Nat} {x : Int32} (hM : MoOk mu A nT mo nt nc nf) (hR : RcOk sg ta mu A nT mo nt nc nf) {v : Option Value} {s : zI} {t : zJ} (h : QI s t A nT mo nf ∧ ∃ m, m < 1024 ∧ (∀ f, f < 10 → (m.testBit f = true ↔ f < nf ∧ sg 17 f 8 = 0)) ∧ ((v = some (.int 1) ∧ frm frH sg s ∧ (∀ j, j ≠ 10 → s 0 0 j = sg 0 0 j) ∧ s 0 0 10 = 1 ∧ ∃ a w, x = nI a ∧ a < 8000 ∧ w < wSize A mo nT ∧ mdl sg A nT mo nf (nI m) w ∧ sumN (isMn sg A nT mo nf (nI m)) w = a ∧ WayOk s 1 A nT mo (kOf A mo nT w) ∧ ∀ j, j < wTot mo nT (kOf A mo nT w) → s 6 1 j = nI (wLet A mo nT w j)) ∨ (v = some (.int 0) ∧ frm frQ sg s ∧ (x < 0 ∨ ∃ a, a < 2 ^ 31 ∧ x = nI a ∧ sumN (isMn sg A nT mo nf (nI m)) 8000 ≤ a)))) : takeC sg mu A nT mo nt nc nf x v s t := by
  obtain ⟨hQ, m, hm, hb, h⟩ := h
  have hmask := mask_R hR hm hb
  rcases h with ⟨rfl, hf, h0, h10, a, w, ha, ha8, hw, hmd, hsum, hway, hlet⟩ | ⟨rfl, hf, hx⟩
  · refine ⟨RcOk_Q hR hQ ⟨_, hway⟩ (h0 7 (by omega)) (h0 8 (by omega)) (frm_K hf (fun _ => frH_not (by omega))) (frm_K hf (fun _ => frH_not (by omega))) (frm_K hf (fun _ => frH_not (by omega))) (frm_K hf (fun _ => frH_not (by omega))) (frm_K hf (fun _ => frH_not (by omega))), frH_keep hf, m, hmask, Or.inl ⟨rfl, h0, h10, a, w, ha, ha8, hw, (mdl_M hM hR hm).mp hmd, ?_, hway, hlet⟩⟩
    rw [← (sumMn hM hR hm).1 w (by omega)]; exact hsum
  · refine ⟨RcOk_frQ hR hQ hf, frQ_keep hf, m, hmask, Or.inr ⟨rfl, frQ_still hf, ?_⟩⟩
    rcases hx with q | ⟨a, h31, q1, q2⟩
    · exact Or.inl q
    · rw [(sumMn hM hR hm).2] at q2
      exact Or.inr ⟨a, h31, q1, q2⟩
set_option maxRecDepth 100000 in
set_option maxHeartbeats 4000000 in
theorem k_solve (sg : zI) (ta : zJ) (mu : zI) (A nT : Nat) (mo : Nat → Nat) (nt nc nf : Nat) (hM : MoOk mu A nT mo nt nc nf) (hR : RcOk sg ta mu A nT mo nt nc nf) : zP yX7_solve mX7_solve 6 [.ref (nm 0 0)] sg ta (takeC sg mu A nT mo nt nc nf 0) := by
  refine zP_of (lv := [some (.ref (nm 0 0))]) (by decide +kernel) rfl (fun h => by cases h) rfl (Nat.le_of_ble_eq_true rfl) ?_
  refine q_aload_n dX7_solve_0 rfl ?_
  refine q_iconst (v := 0) dX7_solve_1 rfl ?_
  refine z_callV (c_takeInHand sg ta A nT mo nf 0 (QI_of hM hR) hR.2.1.2) kV_X7_160 dX7_solve_2 (by first | assumption | decide) (sh_0 _ _ _) rfl rfl rfl (by omega) (Nat.le_of_ble_eq_true rfl) (Nat.le_refl _) (Nat.le_refl _) rfl (fun v s1 t1 h => ?_)
  obtain ⟨hq, m, hm, hb, hh⟩ := h
  dsimp only [Option.toList, List.cons_append, List.nil_append]
  have ht := takeC_of hM hR ⟨hq, m, hm, hb, hh⟩
  rcases hh with ⟨rfl, -⟩ | ⟨rfl, -⟩
  · exact z_iret dX7_solve_5 rfl ht
  · exact z_iret dX7_solve_5 rfl ht
set_option maxRecDepth 100000 in
set_option maxHeartbeats 4000000 in
theorem k_model (sg : zI) (ta : zJ) (mu : zI) (A nT : Nat) (mo : Nat → Nat) (nt nc nf : Nat) (x : Int32) (hM : MoOk mu A nT mo nt nc nf) (hR : RcOk sg ta mu A nT mo nt nc nf) : zP yX7_model mX7_model 6 [.ref (nm 0 0), .int x] sg ta (takeC sg mu A nT mo nt nc nf x) := by
  refine zP_of (lv := [some (.ref (nm 0 0)), some (.int x)]) (by decide +kernel) rfl (fun h => by cases h) rfl (Nat.le_of_ble_eq_true rfl) ?_
  refine q_aload_n dX7_model_0 rfl ?_
  refine q_iload_n dX7_model_1 rfl ?_
  refine z_callV (c_takeInHand sg ta A nT mo nf x (QI_of hM hR) hR.2.1.2) kV_X7_160 dX7_model_2 (by first | assumption | decide) (sh_0 _ _ _) rfl rfl rfl (by omega) (Nat.le_of_ble_eq_true rfl) (Nat.le_refl _) (Nat.le_refl _) rfl (fun v s1 t1 h => ?_)
  obtain ⟨hq, m, hm, hb, hh⟩ := h
  dsimp only [Option.toList, List.cons_append, List.nil_append]
  have ht := takeC_of hM hR ⟨hq, m, hm, hb, hh⟩
  rcases hh with ⟨rfl, -⟩ | ⟨rfl, -⟩
  · exact z_iret dX7_model_5 rfl ht
  · exact z_iret dX7_model_5 rfl ht
/-- the answer, the rest as it was -/
def askC (sg mu : zI) (A nT : Nat) (mo : Nat → Nat) (nt nc nf : Nat) (r : Int32) (v : Option Value) (s : zI) (t : zJ) : Prop := v = some (.int r) ∧ RcOk s t mu A nT mo nt nc nf ∧ keepM sg s ∧ stillH sg s
theorem zP_post {y : MethodName} {M : zM} {d : Nat} {args : List Value} {sg : zI} {ta : zJ} {p q : zPost} (h : zP y M d args sg ta p) (hpq : ∀ v s t, p v s t → q v s t) : zP y M d args sg ta q := by
  intro l D cA b base pp e ha hc hk s m args' below hf happ hP hK
  obtain ⟨n, o, h1, h2, h3, ⟨⟨⟨v, N, g, a1, a2, a3⟩, hF⟩, hL⟩⟩ := h l D cA b base pp e ha hc hk s m args' below hf happ hP hK
  obtain ⟨b1, sg', ta', b2, b3⟩ := a2
  exact ⟨n, o, h1, h2, h3, ⟨⟨v, N, g, a1, ⟨b1, sg', ta', b2, hpq _ _ _ b3⟩, a3⟩, hF⟩, hL⟩
theorem k_models (sg : zI) (ta : zJ) (mu : zI) (A nT : Nat) (mo : Nat → Nat) (nt nc nf m : Nat) (hM : MoOk mu A nT mo nt nc nf) (hR : RcOk sg ta mu A nT mo nt nc nf) (hm : mask0 mu nf m) : zP yX7_models mX7_models 5 [.ref (nm 0 0)] sg ta (askC sg mu A nT mo nt nc nf (nI (sumN (mN mu A nT mo nf m) (wSize A mo nT)))) := by
  refine zP_post (c_models sg ta A nT mo nf (QI_of hM hR)) (fun v s t h => ?_)
  obtain ⟨hf, hq, m', hm', hb, rfl⟩ := h
  rw [(sumMn hM hR hm').2, mask_uni (mask_R hR hm' hb) hm]
  exact ⟨rfl, RcOk_frQ hR hq hf, frQ_keep hf, frQ_still hf⟩
theorem k_spans (sg : zI) (ta : zJ) (mu : zI) (A nT : Nat) (mo : Nat → Nat) (nt nc nf : Nat) (hM : MoOk mu A nT mo nt nc nf) (hR : RcOk sg ta mu A nT mo nt nc nf) : zP yX7_spans mX7_spans 4 [.ref (nm 0 0)] sg ta (askC sg mu A nT mo nt nc nf (nI (sumN (fitNM mu mo nT nf) (kAll mo nT)))) := by
  refine zP_post (c_spans sg ta A nT mo nf (QI_of hM hR)) (fun v s t h => ?_)
  obtain ⟨rfl, hf, hq⟩ := h
  rw [sumN_congr _ (fun k _ => fitN_M hM hR k)]
  exact ⟨rfl, RcOk_frQ hR hq hf, frQ_keep hf, frQ_still hf⟩
def coreC (sg mu : zI) (A nT : Nat) (mo : Nat → Nat) (nt nc nf m : Nat) (v : Option Value) (s : zI) (t : zJ) : Prop := RcOk s t mu A nT mo nt nc nf ∧ keepM sg s ∧ ((hMM mu A nT mo nf m → v = some (.int (-4)) ∧ stillH sg s) ∧ (¬ hMM mu A nT mo nf m → v = some (.int (nI (bs (coreF (hMM mu A nT mo nf) m nf) 10))) ∧ s 0 0 12 = nI (coreF (hMM mu A nT mo nf) m nf) ∧ s 0 0 11 = 1 ∧ (∀ j, j ≠ 11 → j ≠ 12 → s 0 0 j = sg 0 0 j) ∧ s 3 1 = sg 3 1 ∧ s 4 1 = sg 4 1 ∧ s 5 1 = sg 5 1 ∧ s 6 1 = sg 6 1))
theorem frC_1 {K : Nat} : (K, 1) ∈ frC ↔ K = 13 ∨ K = 14 := by unfold frC frQ; simp
theorem k_core (sg : zI) (ta : zJ) (mu : zI) (A nT : Nat) (mo : Nat → Nat) (nt nc nf m : Nat) (hM : MoOk mu A nT mo nt nc nf) (hR : RcOk sg ta mu A nT mo nt nc nf) (hm : mask0 mu nf m) : zP yX7_core mX7_core 6 [.ref (nm 0 0)] sg ta (coreC sg mu A nT mo nt nc nf m) := by
  refine zP_post (c_core sg ta A nT mo nf (QI_of hM hR)) (fun v s t h => ?_)
  obtain ⟨hq, m', hm', hb, h⟩ := h
  have e := mask_uni (mask_R hR hm' hb) hm
  subst e
  rw [hasM_M hM hR hm', coreF_congr (fun m h => hasM_M hM hR h) nf m' hm'] at h
  rcases h with ⟨h1, rfl, hf⟩ | ⟨h1, rfl, hf, h12, h11, h0⟩
  · exact ⟨RcOk_frQ hR hq hf, frQ_keep hf, fun _ => ⟨rfl, frQ_still hf⟩, fun q => absurd h1 q⟩
  · obtain ⟨k, hk⟩ := hR.2.1.2
    have g : ∀ K, K ≠ 13 → K ≠ 14 → s K 1 = sg K 1 := fun K a b => hf K 1 (fun q => by rw [frC_1] at q; omega)
    exact ⟨RcOk_Q hR hq ⟨k, WayOk_at (g 3 (by omega) (by omega)) (g 4 (by omega) (by omega)) (g 5 (by omega) (by omega)) hk⟩ (h0 7 (by omega) (by omega)) (h0 8 (by omega) (by omega)) (frm_K hf (fun _ => frC_not (by omega))) (frm_K hf (fun _ => frC_not (by omega))) (frm_K hf (fun _ => frC_not (by omega))) (frm_K hf (fun _ => frC_not (by omega))) (frm_K hf (fun _ => frC_not (by omega))), frC_keep hf, fun q => absurd q h1, fun _ => ⟨rfl, h12, h11, h0, g 3 (by omega) (by omega), g 4 (by omega) (by omega), g 5 (by omega) (by omega), g 6 (by omega) (by omega)⟩⟩

set_option maxRecDepth 100000 in
set_option maxHeartbeats 4000000 in
theorem k_length (sg : zI) (ta : zJ) (A nT : Nat) (mo : Nat → Nat) (x : Int32) (hS : SpaceOk sg A nT mo) : zP yX7_length mX7_length 3 [.ref (nm 0 0), .int x] sg ta (fun v s t => s = sg ∧ t = ta ∧ (¬ tk nT x → v = some (.int (-2))) ∧ (tk nT x → sg 0 0 10 = 0 → v = some (.int (-4))) ∧ ∀ u w, u < nT → x = nI u → ¬ sg 0 0 10 = 0 → HCw sg A nT mo w → v = some (.int (nI (vec mo nT (kOf A mo nT w) u)))) := by
  have hT := hS.2.1
  refine zP_of (lv := [some (.ref (nm 0 0)), some (.int x)]) (by decide +kernel) rfl (fun h => by cases h) rfl (Nat.le_of_ble_eq_true rfl) ?_
  refine q_aload_n dX7_length_0 rfl ?_
  refine z_get 0 dX7_length_1 (by first | assumption | decide) (sh_0 _ _ _) rfl (by decide) fl_X7_12 rfl ?_
  refine q_iload_n dX7_length_4 rfl ?_
  refine z_callV (c_Space_isText sg ta x) kV_X7_96 dX7_length_5 (by first | assumption | decide) (sh_1 _ _ _) rfl rfl rfl (by omega) (Nat.le_of_ble_eq_true rfl) (Nat.le_refl _) (Nat.le_refl _) rfl (fun v s1 t1 h => ?_)
  obtain ⟨rfl, rfl, rfl⟩ := h
  dsimp only [Option.toList, List.cons_append, List.nil_append]
  refine q_if_ne 14 dX7_length_8 (by decide) (fun h => ?_) (fun h => ?_)
  · obtain ⟨u, hu, rfl⟩ : tk nT x := (tk_iff (by omega) x).mpr (by rw [← hS.2.2.2.2.2.1]; exact bI_nz.mp h)
    refine q_aload_n dX7_length_14 rfl ?_
    refine z_get 10 dX7_length_15 (by first | assumption | decide) (sh_0 _ _ _) rfl (by decide) fl_X7_178 rfl ?_
    refine q_if_eq 32 dX7_length_18 (by decide) (fun h2 => ?_) (fun h2 => ?_)
    · refine q_bipush (v := (-4)) dX7_length_32 rfl ?_
      exact z_iret dX7_length_34 rfl ⟨rfl, rfl, fun q => absurd ⟨u, hu, rfl⟩ q, fun _ _ => rfl, fun _ _ _ _ q => absurd h2 q⟩
    · refine q_aload_n dX7_length_21 rfl ?_
      refine z_get 2 dX7_length_22 (by first | assumption | decide) (sh_0 _ _ _) rfl (by decide) fl_X7_25 rfl ?_
      refine q_iload_n dX7_length_25 rfl ?_
      refine z_callV (c_Way_lengthOf s1 t1 1 nT u (by decide) hS.2.2.2.2.2.1 hu hT) kV_X7_181 dX7_length_26 (by first | assumption | decide) (sh_3 _ _ _) rfl rfl rfl (by omega) (Nat.le_of_ble_eq_true rfl) (Nat.le_refl _) (Nat.le_refl _) rfl (fun v s2 t2 h => ?_)
      obtain ⟨rfl, rfl, rfl⟩ := h
      dsimp only [Option.toList, List.cons_append, List.nil_append]
      refine q_goto 34 dX7_length_29 (by decide) ?_
      refine z_iret dX7_length_34 rfl ⟨rfl, rfl, fun q => absurd ⟨u, hu, rfl⟩ q, fun _ q => absurd q h2, fun u' w hu' e _ hw => ?_⟩
      have := (nI_eq (by omega) (by omega)).mp e
      subst this
      rw [hw.1.2.1 u hu]
  · refine q_bipush (v := (-2)) dX7_length_11 rfl ?_
    have hno : ¬ tk nT x := fun k => bI_z.mp h (by rw [hS.2.2.2.2.2.1]; exact (tk_iff (by omega) x).mp k)
    exact z_iret dX7_length_13 rfl ⟨rfl, rfl, fun _ => rfl, fun q => absurd q hno, fun u w hu e => absurd ⟨u, hu, e⟩ hno⟩
set_option maxRecDepth 100000 in
set_option maxHeartbeats 4000000 in
theorem k_letter (sg : zI) (ta : zJ) (A nT : Nat) (mo : Nat → Nat) (x y : Int32) (hS : SpaceOk sg A nT mo) (hH : ¬ sg 0 0 10 = 0 → ∃ w, HCw sg A nT mo w) : zP yX7_letter mX7_letter 3 [.ref (nm 0 0), .int x, .int y] sg ta (fun v s t => s = sg ∧ t = ta ∧ (¬ tk nT x → v = some (.int (-2))) ∧ (tk nT x → sg 0 0 10 = 0 → v = some (.int (-4))) ∧ ∀ u w, u < nT → x = nI u → ¬ sg 0 0 10 = 0 → HCw sg A nT mo w → ((∃ j, j < vec mo nT (kOf A mo nT w) u ∧ y = nI j ∧ v = some (.int (nI (wLet A mo nT w (psum (vec mo nT (kOf A mo nT w)) u + j))))) ∨ ((y < 0 ∨ nI (vec mo nT (kOf A mo nT w) u) ≤ y) ∧ v = some (.int (-1))))) := by
  have hT := hS.2.1
  refine zP_of (lv := [some (.ref (nm 0 0)), some (.int x), some (.int y)]) (by decide +kernel) rfl (fun h => by cases h) rfl (Nat.le_of_ble_eq_true rfl) ?_
  refine q_aload_n dX7_letter_0 rfl ?_
  refine z_get 0 dX7_letter_1 (by first | assumption | decide) (sh_0 _ _ _) rfl (by decide) fl_X7_12 rfl ?_
  refine q_iload_n dX7_letter_4 rfl ?_
  refine z_callV (c_Space_isText sg ta x) kV_X7_96 dX7_letter_5 (by first | assumption | decide) (sh_1 _ _ _) rfl rfl rfl (by omega) (Nat.le_of_ble_eq_true rfl) (Nat.le_refl _) (Nat.le_refl _) rfl (fun v s1 t1 h => ?_)
  obtain ⟨rfl, rfl, rfl⟩ := h
  dsimp only [Option.toList, List.cons_append, List.nil_append]
  refine q_if_ne 14 dX7_letter_8 (by decide) (fun h => ?_) (fun h => ?_)
  · obtain ⟨u, hu, rfl⟩ : tk nT x := (tk_iff (by omega) x).mpr (by rw [← hS.2.2.2.2.2.1]; exact bI_nz.mp h)
    refine q_aload_n dX7_letter_14 rfl ?_
    refine z_get 10 dX7_letter_15 (by first | assumption | decide) (sh_0 _ _ _) rfl (by decide) fl_X7_178 rfl ?_
    refine q_if_eq 33 dX7_letter_18 (by decide) (fun h2 => ?_) (fun h2 => ?_)
    · refine q_bipush (v := (-4)) dX7_letter_33 rfl ?_
      exact z_iret dX7_letter_35 rfl ⟨rfl, rfl, fun q => absurd ⟨u, hu, rfl⟩ q, fun _ _ => rfl, fun _ _ _ _ q => absurd h2 q⟩
    · obtain ⟨w0, hw0⟩ := hH h2
      have v5 := vec5 (k := kOf A mo nT w0) hS.2.2.1
      refine q_aload_n dX7_letter_21 rfl ?_
      refine z_get 2 dX7_letter_22 (by first | assumption | decide) (sh_0 _ _ _) rfl (by decide) fl_X7_25 rfl ?_
      refine q_iload_n dX7_letter_25 rfl ?_
      refine q_iload_n dX7_letter_26 rfl ?_
      refine z_callV (c_Way_letterOf s1 t1 1 nT u _ _ y (by decide) hS.2.2.2.2.2.1 hu hT (hw0.1.2.1 u hu) (hw0.1.2.2.2.2.2 u hu) (psum20 hT v5 hu)) kV_X7_184 dX7_letter_27 (by first | assumption | decide) (sh_3 _ _ _) rfl rfl rfl (by omega) (Nat.le_of_ble_eq_true rfl) (Nat.le_refl _) (Nat.le_refl _) rfl (fun v s2 t2 h => ?_)
      obtain ⟨rfl, rfl, hh⟩ := h
      dsimp only [Option.toList, List.cons_append, List.nil_append]
      have fin : ∀ u' w, u' < nT → nI u = nI u' → HCw s2 A nT mo w → u' = u ∧ kOf A mo nT w = kOf A mo nT w0 ∧ (∀ j, j < wTot mo nT (kOf A mo nT w0) → nI (wLet A mo nT w0 j) = nI (wLet A mo nT w j)) := fun u' w hu' e hw => by
        have e1 := (nI_eq (by omega) (by omega)).mp e
        have k1 := hw.1.2.1
        have k2 := hw0.1.2.1
        have e2 : kOf A mo nT w = kOf A mo nT w0 := by
          have h1 := rk_vec mo nT _ hw.1.1
          have h2 := rk_vec mo nT _ hw0.1.1
          rw [← h1, ← h2]
          refine rk_congr nT (fun q hq => ?_)
          have := (k1 q hq).symm.trans (k2 q hq)
          have a5 := vec5 (k := kOf A mo nT w) hS.2.2.1 q hq
          have b5 := v5 q hq
          exact (nI_eq (by omega) (by omega)).mp this
        refine ⟨e1.symm, e2, fun j hj => ?_⟩
        rw [← hw0.2 j hj, hw.2 j (by rw [e2]; exact hj)]
      have pm := psum_mono (v := vec mo nT (kOf A mo nT w0)) hu
      rcases hh with ⟨j, hj, rfl, rfl⟩ | ⟨hj, rfl⟩
      · dsimp only [Option.toList, List.cons_append, List.nil_append]
        refine q_goto 35 dX7_letter_30 (by decide) ?_
        refine z_iret dX7_letter_35 rfl ⟨rfl, rfl, fun q => absurd ⟨u, hu, rfl⟩ q, fun _ q => absurd q h2, fun u' w hu' e _ hw => ?_⟩
        obtain ⟨e1, e2, e3⟩ := fin u' w hu' e hw
        subst e1
        rw [e2]
        refine Or.inl ⟨j, hj, rfl, ?_⟩
        rw [hw0.2 _ (by unfold wTot; omega), e3 _ (by unfold wTot; omega)]
      · dsimp only [Option.toList, List.cons_append, List.nil_append]
        refine q_goto 35 dX7_letter_30 (by decide) ?_
        refine z_iret dX7_letter_35 rfl ⟨rfl, rfl, fun q => absurd ⟨u, hu, rfl⟩ q, fun _ q => absurd q h2, fun u' w hu' e _ hw => ?_⟩
        obtain ⟨e1, e2, e3⟩ := fin u' w hu' e hw
        subst e1
        rw [e2]
        exact Or.inr ⟨hj, rfl⟩
  · refine q_bipush (v := (-2)) dX7_letter_11 rfl ?_
    have hno : ¬ tk nT x := fun k => bI_z.mp h (by rw [hS.2.2.2.2.2.1]; exact (tk_iff (by omega) x).mp k)
    exact z_iret dX7_letter_13 rfl ⟨rfl, rfl, fun _ => rfl, fun q => absurd q hno, fun u w hu e => absurd ⟨u, hu, e⟩ hno⟩
theorem rows_Q {sg s : zI} {ta : zJ} {A nT : Nat} {mo : Nat → Nat} {nf : Nat} (hQ : QI sg ta A nT mo nf) (h : frm rowsFr sg s) : QI s ta A nT mo nf := by
  obtain ⟨k, hk⟩ := hQ.2.1
  exact QI_frm (frQ_rows h) hQ ⟨k, WayOk_rows h hk⟩
set_option maxRecDepth 100000 in
set_option maxHeartbeats 4000000 in
theorem k_holds (sg : zI) (ta : zJ) (mu : zI) (A nT : Nat) (mo : Nat → Nat) (nt nc nf : Nat) (x : Int32) (w : Nat) (hM : MoOk mu A nT mo nt nc nf) (hR : RcOk sg ta mu A nT mo nt nc nf) (hH : ¬ sg 0 0 10 = 0 → HCw sg A nT mo w) : zP yX7_holds mX7_holds 3 [.ref (nm 0 0), .int x] sg ta (fun v s t => RcOk s t mu A nT mo nt nc nf ∧ keepM sg s ∧ stillH sg s ∧ (¬ tk nf x → v = some (.int (-2))) ∧ (tk nf x → sg 0 0 10 = 0 → v = some (.int (-4))) ∧ (∀ f, f < nf → x = nI f → ¬ sg 0 0 10 = 0 → v = some (.int (bC (trM mu A nT mo w f))))) := by
  have hQ := QI_of hM hR
  have hnf := hM.2.2.2.1
  refine zP_of (lv := [some (.ref (nm 0 0)), some (.int x)]) (by decide +kernel) rfl (fun h => by cases h) rfl (Nat.le_of_ble_eq_true rfl) ?_
  refine q_aload_n dX7_holds_0 rfl ?_
  refine q_iload_n dX7_holds_1 rfl ?_
  refine z_callV (c_isFormula sg ta x) kV_X7_150 dX7_holds_2 (by first | assumption | decide) (sh_0 _ _ _) rfl rfl rfl (by omega) (Nat.le_of_ble_eq_true rfl) (Nat.le_refl _) (Nat.le_refl _) rfl (fun v s1 t1 h => ?_)
  obtain ⟨rfl, rfl, rfl⟩ := h
  dsimp only [Option.toList, List.cons_append, List.nil_append]
  refine q_if_ne 11 dX7_holds_5 (by decide) (fun h => ?_) (fun h => ?_)
  · obtain ⟨f, hf, rfl⟩ : tk nf x := (tk_iff (by omega) x).mpr (by rw [← hR.2.2.2.2.1.1]; exact bC_nz.mp h)
    have f10 : f < 10 := by omega
    have hfc := cnt17 f10
    refine q_aload_n dX7_holds_11 rfl ?_
    refine z_get 10 dX7_holds_12 (by first | assumption | decide) (sh_0 _ _ _) rfl (by decide) fl_X7_178 rfl ?_
    refine q_if_eq 41 dX7_holds_15 (by decide) (fun h2 => ?_) (fun h2 => ?_)
    · refine q_bipush (v := (-4)) dX7_holds_41 rfl ?_
      exact z_iret dX7_holds_43 rfl ⟨hR, keepM_refl _, frQ_still (frm_refl _ _), fun q => absurd ⟨f, hf, rfl⟩ q, fun _ _ => rfl, fun _ _ _ q => absurd h2 q⟩
    · have hw := hH h2
      have hFV := (hQ.2.2.2.2.1 f hf).1
      refine q_aload_n dX7_holds_18 rfl ?_
      refine z_get 6 dX7_holds_19 (by first | assumption | decide) (sh_0 _ _ _) rfl (by decide) fl_X7_51 rfl ?_
      refine q_aload_n dX7_holds_22 rfl ?_
      refine z_get 5 dX7_holds_23 (by first | assumption | decide) (sh_0 _ _ _) rfl (by decide) fl_X7_42 rfl ?_
      refine q_iload_n dX7_holds_26 rfl ?_
      refine z_aald dX7_holds_27 (by first | assumption | decide) rfl (fun _ => rfl) (vp_in_nI (n := f) f10 (by omega)) (aal f10 (by omega)) ?_
      refine q_aload_n dX7_holds_28 rfl ?_
      refine z_get 2 dX7_holds_29 (by first | assumption | decide) (sh_0 _ _ _) rfl (by decide) fl_X7_25 rfl ?_
      refine z_callV (c_Judge_isSo s1 t1 f 1 hfc (by decide) (FV_FOk hR.1 hw.1 hFV)) kV_X7_187 dX7_holds_32 (by first | assumption | decide) (sh_10 _ _ _) rfl rfl rfl (by omega) (Nat.le_of_ble_eq_true rfl) (Nat.le_refl _) (Nat.le_refl _) rfl (fun v s2 t2 h => ?_)
      obtain ⟨rfl, rfl, hfr⟩ := h
      dsimp only [Option.toList, List.cons_append, List.nil_append]
      refine z_callS (c_asNumber s2 t2 _) kS_X7_131 dX7_holds_35 rfl (by omega) (Nat.le_of_ble_eq_true rfl) (Nat.le_refl _) (Nat.le_refl _) rfl (fun v s3 t3 h => ?_)
      obtain ⟨rfl, rfl, rfl⟩ := h
      dsimp only [Option.toList, List.cons_append, List.nil_append]
      refine q_goto 43 dX7_holds_38 (by decide) ?_
      have e : bC (¬ bC (trC s1 f 1) = 0) = bC (trM mu A nT mo w f) := by
        apply bC_iff
        rw [bC_nz, trC_W hR.1 hw.1 hw.2 hFV, trW_M hM hR hf]
      rw [e]
      refine z_iret dX7_holds_43 rfl ⟨RcOk_frQ hR (rows_Q hQ hfr) (frQ_rows hfr), frQ_keep (frQ_rows hfr), frQ_still (frQ_rows hfr), fun q => absurd ⟨f, hf, rfl⟩ q, fun _ q => absurd q h2, fun f' hf' e _ => ?_⟩
      have := (nI_eq (by omega) (by omega)).mp e
      subst this
      rfl
  · refine q_bipush (v := (-2)) dX7_holds_8 rfl ?_
    have hno : ¬ tk nf x := fun k => bC_z.mp h (by rw [hR.2.2.2.2.1.1]; exact (tk_iff (by omega) x).mp k)
    exact z_iret dX7_holds_10 rfl ⟨hR, keepM_refl _, frQ_still (frm_refl _ _), fun _ => rfl, fun q => absurd q hno, fun u hu e => absurd ⟨u, hu, e⟩ hno⟩
set_option maxRecDepth 100000 in
set_option maxHeartbeats 4000000 in
theorem k_inCore (sg : zI) (ta : zJ) (nf : Nat) (x : Int32) (hnf : nf ≤ 10) (hn : sg 0 0 9 = nI nf) : zP yX7_inCore mX7_inCore 3 [.ref (nm 0 0), .int x] sg ta (fun v s t => s = sg ∧ t = ta ∧ (¬ tk nf x → v = some (.int (-2))) ∧ (tk nf x → sg 0 0 11 = 0 → v = some (.int (-4))) ∧ ∀ f m, f < nf → x = nI f → ¬ sg 0 0 11 = 0 → m < 1024 → sg 0 0 12 = nI m → v = some (.int (bC (m.testBit f = true)))) := by
  refine zP_of (lv := [some (.ref (nm 0 0)), some (.int x)]) (by decide +kernel) rfl (fun h => by cases h) rfl (Nat.le_of_ble_eq_true rfl) ?_
  refine q_aload_n dX7_inCore_0 rfl ?_
  refine q_iload_n dX7_inCore_1 rfl ?_
  refine z_callV (c_isFormula sg ta x) kV_X7_150 dX7_inCore_2 (by first | assumption | decide) (sh_0 _ _ _) rfl rfl rfl (by omega) (Nat.le_of_ble_eq_true rfl) (Nat.le_refl _) (Nat.le_refl _) rfl (fun v s1 t1 h => ?_)
  obtain ⟨rfl, rfl, rfl⟩ := h
  dsimp only [Option.toList, List.cons_append, List.nil_append]
  refine q_if_ne 11 dX7_inCore_5 (by decide) (fun h => ?_) (fun h => ?_)
  · obtain ⟨f, hf, rfl⟩ : tk nf x := (tk_iff (by omega) x).mpr (by rw [← hn]; exact bC_nz.mp h)
    refine q_aload_n dX7_inCore_11 rfl ?_
    refine z_get 11 dX7_inCore_12 (by first | assumption | decide) (sh_0 _ _ _) rfl (by decide) fl_X7_197 rfl ?_
    refine q_if_eq 32 dX7_inCore_15 (by decide) (fun h2 => ?_) (fun h2 => ?_)
    · refine q_bipush (v := (-4)) dX7_inCore_32 rfl ?_
      exact z_iret dX7_inCore_34 rfl ⟨rfl, rfl, fun q => absurd ⟨f, hf, rfl⟩ q, fun _ _ => rfl, fun _ _ _ _ q => absurd h2 q⟩
    · refine q_aload_n dX7_inCore_18 rfl ?_
      refine z_get 12 dX7_inCore_19 (by first | assumption | decide) (sh_0 _ _ _) rfl (by decide) fl_X7_194 rfl ?_
      refine q_iload_n dX7_inCore_22 rfl ?_
      refine z_callS (c_isIn s1 t1 _ _) kS_X7_204 dX7_inCore_23 rfl (by omega) (Nat.le_of_ble_eq_true rfl) (Nat.le_refl _) (Nat.le_refl _) rfl (fun v s2 t2 h => ?_)
      obtain ⟨rfl, rfl, rfl⟩ := h
      dsimp only [Option.toList, List.cons_append, List.nil_append]
      refine z_callS (c_asNumber s2 t2 _) kS_X7_131 dX7_inCore_26 rfl (by omega) (Nat.le_of_ble_eq_true rfl) (Nat.le_refl _) (Nat.le_refl _) rfl (fun v s3 t3 h => ?_)
      obtain ⟨rfl, rfl, rfl⟩ := h
      dsimp only [Option.toList, List.cons_append, List.nil_append]
      refine q_goto 34 dX7_inCore_29 (by decide) ?_
      refine z_iret dX7_inCore_34 rfl ⟨rfl, rfl, fun q => absurd ⟨f, hf, rfl⟩ q, fun _ q => absurd q h2, fun f' m hf' e _ hm hm2 => ?_⟩
      have := (nI_eq (by omega) (by omega)).mp e
      subst this
      have e : bC (¬ bC (inM (s3 0 0 12) (nI f)) = 0) = bC (m.testBit f = true) := by
        apply bC_iff
        rw [bC_nz, hm2, inM_iff hm (by omega)]
      rw [e]
  · refine q_bipush (v := (-2)) dX7_inCore_8 rfl ?_
    have hno : ¬ tk nf x := fun k => bC_z.mp h (by rw [hn]; exact (tk_iff (by omega) x).mp k)
    exact z_iret dX7_inCore_10 rfl ⟨rfl, rfl, fun _ => rfl, fun q => absurd q hno, fun u w hu e => absurd ⟨u, hu, e⟩ hno⟩
theorem nxM_MV {sg mu : zI} {nc i : Nat} (hM : MaM mu nc) (hR : MaR sg mu nc) (hi : i < nc) : MV sg i (nxM mu i) := fun s a hs ha => by
  obtain ⟨r, hr, e⟩ := (hM.2.2 i hi).2.1 s a hs ha
  unfold nxM
  rw [e, nI_clamp (by omega), (hR.2 i hi).2.1 s a hs ha, e]
  exact ⟨hr, rfl⟩
def meetM (mu : zI) (A i1 i2 : Nat) (r : Int32) : Prop := meetR (nx2 (nxM mu i1) (nxM mu i2)) A (fun p => mu 26 0 (6 * i1 + p / 6) = 1 ∧ mu 26 0 (6 * i2 + p % 6) = 1) r
theorem nx2_36 {nx ny : Nat → Nat → Nat} {A : Nat} (hA : A ≤ 3) (h1 : ∀ s a, s < 6 → a < 3 → nx s a < 6) (h2 : ∀ s a, s < 6 → a < 3 → ny s a < 6) : ∀ q a, q < 36 → a < A → nx2 nx ny q a < 36 := fun q a hq ha => by
  have := h1 (q / 6) a (by omega) (by omega)
  have := h2 (q % 6) a (by omega) (by omega)
  unfold nx2
  omega
set_option maxRecDepth 100000 in
set_option maxHeartbeats 4000000 in
theorem k_meet (sg : zI) (ta : zJ) (mu : zI) (A nT : Nat) (mo : Nat → Nat) (nt nc nf : Nat) (x y : Int32) (hM : MoOk mu A nT mo nt nc nf) (hR : RcOk sg ta mu A nT mo nt nc nf) : zP yX7_meet mX7_meet 3 [.ref (nm 0 0), .int x, .int y] sg ta (fun v s t => s = sg ∧ t = ta ∧ (¬ (tk nc x ∧ tk nc y) → v = some (.int (-2))) ∧ ∀ i1 i2, i1 < nc → i2 < nc → x = nI i1 → y = nI i2 → ∃ r, v = some (.int r) ∧ meetM mu A i1 i2 r) := by
  have hA := hM.1.1
  have hnc := hM.2.2.1.1
  refine zP_of (lv := [some (.ref (nm 0 0)), some (.int x), some (.int y)]) (by decide +kernel) rfl (fun h => by cases h) rfl (Nat.le_of_ble_eq_true rfl) ?_
  have no : ¬ (tk nc x ∧ tk nc y) → Zq mX7_meet 3 (fun v s t => s = sg ∧ t = ta ∧ (¬ (tk nc x ∧ tk nc y) → v = some (.int (-2))) ∧ ∀ i1 i2, i1 < nc → i2 < nc → x = nI i1 → y = nI i2 → ∃ r, v = some (.int r) ∧ meetM mu A i1 i2 r) sg ta 16 [some (.ref (nm 0 0)), some (.int x), some (.int y)] [] := by
    intro hno
    refine q_bipush (v := (-2)) dX7_meet_16 rfl ?_
    exact z_iret dX7_meet_18 rfl ⟨rfl, rfl, fun _ => rfl, fun i1 i2 a b c d => absurd ⟨⟨i1, a, c⟩, ⟨i2, b, d⟩⟩ hno⟩
  refine q_aload_n dX7_meet_0 rfl ?_
  refine q_iload_n dX7_meet_1 rfl ?_
  refine z_callV (c_isMachine sg ta x) kV_X7_111 dX7_meet_2 (by first | assumption | decide) (sh_0 _ _ _) rfl rfl rfl (by omega) (Nat.le_of_ble_eq_true rfl) (Nat.le_refl _) (Nat.le_refl _) rfl (fun v s1 t1 h => ?_)
  obtain ⟨rfl, rfl, rfl⟩ := h
  dsimp only [Option.toList, List.cons_append, List.nil_append]
  refine q_if_eq 16 dX7_meet_5 (by decide) (fun h => ?_) (fun h => ?_)
  · exact no (fun k => bC_z.mp h (by rw [hR.2.2.2.1.1]; exact (tk_iff (by omega) x).mp k.1))
  · obtain ⟨i1, hi1, rfl⟩ : tk nc x := (tk_iff (by omega) x).mpr (by rw [← hR.2.2.2.1.1]; exact bC_nz.mp h)
    refine q_aload_n dX7_meet_8 rfl ?_
    refine q_iload_n dX7_meet_9 rfl ?_
    refine z_callV (c_isMachine s1 t1 y) kV_X7_111 dX7_meet_10 (by first | assumption | decide) (sh_0 _ _ _) rfl rfl rfl (by omega) (Nat.le_of_ble_eq_true rfl) (Nat.le_refl _) (Nat.le_refl _) rfl (fun v s2 t2 h => ?_)
    obtain ⟨rfl, rfl, rfl⟩ := h
    dsimp only [Option.toList, List.cons_append, List.nil_append]
    refine q_if_ne 19 dX7_meet_13 (by decide) (fun h2 => ?_) (fun h2 => ?_)
    · obtain ⟨i2, hi2, rfl⟩ : tk nc y := (tk_iff (by omega) y).mpr (by rw [← hR.2.2.2.1.1]; exact bC_nz.mp h2)
      have i13 : i1 < 3 := by omega
      have i23 : i2 < 3 := by omega
      have hic : i1 < cnt 15 := i13
      have m1 := nxM_MV hM.2.2.1 hR.2.2.2.1 hi1
      have m2 := nxM_MV hM.2.2.1 hR.2.2.2.1 hi2
      refine q_aload_n dX7_meet_19 rfl ?_
      refine z_get 4 dX7_meet_20 (by first | assumption | decide) (sh_0 _ _ _) rfl (by decide) fl_X7_36 rfl ?_
      refine q_iload_n dX7_meet_23 rfl ?_
      refine z_aald dX7_meet_24 (by first | assumption | decide) rfl (fun _ => rfl) (vp_in_nI (n := i1) i13 (by omega)) (aal i13 (by omega)) ?_
      refine q_aload_n dX7_meet_25 rfl ?_
      refine z_get 4 dX7_meet_26 (by first | assumption | decide) (sh_0 _ _ _) rfl (by decide) fl_X7_36 rfl ?_
      refine q_iload_n dX7_meet_29 rfl ?_
      refine z_aald dX7_meet_30 (by first | assumption | decide) rfl (fun _ => rfl) (vp_in_nI (n := i2) i23 (by omega)) (aal i23 (by omega)) ?_
      refine q_aload_n dX7_meet_31 rfl ?_
      refine z_get 0 dX7_meet_32 (by first | assumption | decide) (sh_0 _ _ _) rfl (by decide) fl_X7_12 rfl ?_
      refine z_get 1 dX7_meet_35 (by first | assumption | decide) (sh_1 _ _ _) rfl (by decide) fl_X7_219 rfl ?_
      rw [hR.1.2.2.2.2.1]
      refine z_callV (c_shortestWith s2 t2 i1 i2 A _ _ i13 i23 (by omega) m1 m2) kV_X7_222 dX7_meet_38 (by first | assumption | decide) (sh_15 _ _ _) rfl rfl rfl (by omega) (Nat.le_of_ble_eq_true rfl) (Nat.le_refl _) (Nat.le_refl _) rfl (fun v s3 t3 h => ?_)
      obtain ⟨rfl, rfl, r, rfl, hr⟩ := h
      dsimp only [Option.toList, List.cons_append, List.nil_append]
      refine z_iret dX7_meet_41 rfl ⟨rfl, rfl, fun q => absurd ⟨⟨i1, hi1, rfl⟩, ⟨i2, hi2, rfl⟩⟩ q, fun j1 j2 a b c d => ?_⟩
      have e1 := (nI_eq (by omega) (by omega)).mp c
      have e2 := (nI_eq (by omega) (by omega)).mp d
      subst e1; subst e2
      refine ⟨r, rfl, meet_congr (nx2_36 (by omega) (fun s a hs ha => (m1 s a hs ha).1) (fun s a hs ha => (m2 s a hs ha).1)) (fun p hp => ?_) hr⟩
      rw [(hR.2.2.2.1.2 i1 hi1).2.2 (p / 6) (by omega), (hR.2.2.2.1.2 i2 hi2).2.2 (p % 6) (by omega)]
    · exact no (fun k => bC_z.mp h2 (by rw [hR.2.2.2.1.1]; exact (tk_iff (by omega) y).mp k.2))
/-- what is told -/
def tellM (mu : zI) (x r : Int32) : Prop := (x = 0 → r = mu 20 0 0) ∧ (x = 1 → r = mu 20 0 1) ∧ (x = 2 → r = mu 20 0 4) ∧ (x = 3 → r = mu 20 0 7) ∧ (x = 4 → r = mu 20 0 11) ∧ (x = 5 → r = mu 20 0 3) ∧ (x = 6 → r = mu 20 0 19) ∧ (¬ (0 ≤ x ∧ x ≤ 6) → r = -3)
