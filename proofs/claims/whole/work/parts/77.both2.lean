theorem mdlM_c {a b : zI} (h : ∀ K, 22 ≤ K → K ≤ 33 → b K = a K) (A nT : Nat) (mo : Nat → Nat) (nf m w : Nat) : mdlM b A nT mo nf m w ↔ mdlM a A nT mo nf m w := by
  have ht : ∀ f, trM b A nT mo w f ↔ trM a A nT mo w f := fun f => trM_at (fun K x y => h K x (by omega)) A nT mo w f
  unfold mdlM
  constructor
  · intro q f hf hb
    have := q f hf hb
    rw [ht, h 32 (by omega) (by omega)] at this
    exact this
  · intro q f hf hb
    rw [ht, h 32 (by omega) (by omega)]
    exact q f hf hb
theorem mN_c {a b : zI} (h : ∀ K, 22 ≤ K → K ≤ 33 → b K = a K) (A nT : Nat) (mo : Nat → Nat) (nf m : Nat) : mN b A nT mo nf m = mN a A nT mo nf m := by
  funext w
  by_cases g : mdlM a A nT mo nf m w
  · rw [mN_t g, mN_t ((mdlM_c h A nT mo nf m w).mpr g)]
  · rw [mN_f g, mN_f (fun q => g ((mdlM_c h A nT mo nf m w).mp q))]
theorem hMM_c {a b : zI} (h : ∀ K, 22 ≤ K → K ≤ 33 → b K = a K) (A nT : Nat) (mo : Nat → Nat) (nf : Nat) : hMM b A nT mo nf = hMM a A nT mo nf := by
  funext m
  exact propext ⟨fun ⟨w, x, y⟩ => ⟨w, x, (mdlM_c h A nT mo nf m w).mp y⟩, fun ⟨w, x, y⟩ => ⟨w, x, (mdlM_c h A nT mo nf m w).mpr y⟩⟩
theorem mask_c {a b : zI} (h : b 33 = a 33) {nf m : Nat} (hm : mask0 a nf m) : mask0 b nf m := by unfold mask0 at *; rw [h]; exact hm
theorem kp {a b : zI} (h : keepM a b) : ∀ K, 22 ≤ K → K ≤ 33 → b K = a K := fun K x _ => h K (by omega)
/-- taking in hand: class and reference answer alike -/
theorem fin_take {sg s s' : zI} {t t' : zJ} {A nT : Nat} {mo : Nat → Nat} {nt nc nf m : Nat} {x : Int32} {v v' : Option Value} (hM : MoOk sg A nT mo nt nc nf) (hH : HandC sg sg A nT mo nf) (hm : mask0 sg nf m) (hC : takeC sg sg A nT mo nt nc nf x v s t) (hJ : takeM s t A nT mo nf m x v' s' t') : ∃ r, v = some (.int r) ∧ v' = some (.int r) ∧ Inv s' t' := by
  obtain ⟨hR, hk, m', hm', hC⟩ := hC
  have em := mask_uni hm' hm
  subst em
  obtain ⟨rfl, hJ⟩ := hJ
  rw [mN_c (kp hk)] at hJ
  rcases hC with ⟨rfl, h0, h10, a, w, rfl, ha, hw, hmd, hsum, hc⟩ | ⟨rfl, hs, hx⟩
  · rcases hJ with ⟨rfl, hp, h19, a', w', ea, ha', hw', hmd', hsum', hh⟩ | ⟨rfl, hp, hx⟩
    · rw [mdlM_c (kp hk)] at hmd'
      have e : a = a' := (nI_eq (by omega) (by omega)).mp ea
      subst e
      have ew : w = w' := nth_uni (mN_t hmd) (mN_t hmd') (hsum.trans hsum'.symm)
      subst ew
      refine ⟨1, rfl, rfl, ?_⟩
      have hl : lowEq s s' := fun K hK => by funext i j; exact hp K i j (by omega) (by omega) (by omega)
      have eK : ∀ K, 21 ≤ K → K ≤ 33 → s' K = sg K := fun K a b => by
        funext i j
        rw [hp K i j (by omega) (by omega) (by omega), hk K (by omega)]
      have e20 : ∀ j, j ≠ 29 → j ≠ 19 → s' 20 0 j = sg 20 0 j := fun j a b => by rw [hp 20 0 j (by omega) (by omega) (by omega), hk 20 (by omega)]
      have e36 : s' 36 = sg 36 := by
        funext i j
        rw [hp 36 i j (by omega) (by omega) (by omega), hk 36 (by omega)]
      obtain ⟨c1, c2, c3, c4, c5, c6⟩ := hH
      refine ⟨A, nT, mo, nt, nc, nf, MoOk_c eK (fun j hj => e20 j (by omega) (by omega)) hM, RcOk_c hl eK hR, ?_, ?_, Or.inr h19, ?_, fun _ => ⟨w, hw, HCw_at (by rw [hl 3 (by omega)]) (by rw [hl 4 (by omega)]) (by rw [hl 5 (by omega)]) (by rw [hl 6 (by omega)]) hc, hh⟩, fun q => ?_⟩
      · rw [h19, hl 0 (by omega)]; exact h10
      · rw [e20 22 (by omega) (by omega), hl 0 (by omega), h0 11 (by omega)]; exact c2
      · rw [e20 22 (by omega) (by omega)]; exact c4
      · rw [e20 22 (by omega) (by omega)] at q
        obtain ⟨m2, g1, g2, g3⟩ := c6 q
        exact ⟨m2, g1, by rw [hl 0 (by omega), h0 12 (by omega)]; exact g2, fun f hf => by rw [e36]; exact g3 f hf⟩
    · exfalso
      have lt := nth_lt (f := mN sg A nT mo nf m') hw (mN_t hmd)
      rcases hx with q | ⟨a', h31, ea, hle⟩
      · exact nI_pos (by omega) q
      · have e : a = a' := (nI_eq (by omega) h31).mp ea
        omega
  · rcases hJ with ⟨rfl, hp, h19, a', w', rfl, ha', hw', hmd', hsum', hh⟩ | ⟨rfl, hp, -⟩
    · exfalso
      rw [mdlM_c (kp hk)] at hmd'
      have lt := nth_lt (f := mN sg A nT mo nf m') hw' (mN_t hmd')
      rcases hx with q | ⟨a, h31, ea, hle⟩
      · exact nI_pos (by omega) q
      · have e : a' = a := (nI_eq (by omega) h31).mp ea
        omega
    · exact ⟨0, rfl, rfl, fin_ask hM hH hR hk hs hp⟩
theorem l_solve (sg : zI) (ta : zJ) (hI : Inv sg ta) : zP yX7_solve mX7_solve 6 [.ref (nm 0 0)] sg ta (both yX8_solve mX8_solve 6 [.ref (nm 20 0)]) := by
  obtain ⟨A, nT, mo, nt, nc, nf, hM, hR, hH⟩ := hI
  obtain ⟨m, hm⟩ := mask_has sg hM.2.2.2.1
  refine zP_post (k_solve sg ta sg A nT mo nt nc nf hM hR) (fun v s t h => ?_)
  have hk := h.2.1
  have hv : ∃ r, v = some (.int r) := by
    obtain ⟨-, -, m', -, q⟩ := h
    rcases q with ⟨rfl, -⟩ | ⟨rfl, -⟩
    · exact ⟨_, rfl⟩
    · exact ⟨_, rfl⟩
  obtain ⟨r, rfl⟩ := hv
  refine ⟨r, rfl, zP_post (j_solve s t A nT mo nt nc nf m (MoOk_keep hk hM) (mask_c (hk 33 (by omega)) hm)) (fun v' s' t' h' => ?_)⟩
  obtain ⟨r', e1, e2, e3⟩ := fin_take hM hH hm h h'
  rw [e1]
  exact ⟨e2, e3⟩
theorem l_model (sg : zI) (ta : zJ) (x : Int32) (hI : Inv sg ta) : zP yX7_model mX7_model 6 [.ref (nm 0 0), .int x] sg ta (both yX8_model mX8_model 6 [.ref (nm 20 0), .int x]) := by
  obtain ⟨A, nT, mo, nt, nc, nf, hM, hR, hH⟩ := hI
  obtain ⟨m, hm⟩ := mask_has sg hM.2.2.2.1
  refine zP_post (k_model sg ta sg A nT mo nt nc nf x hM hR) (fun v s t h => ?_)
  have hk := h.2.1
  have hv : ∃ r, v = some (.int r) := by
    obtain ⟨-, -, m', -, q⟩ := h
    rcases q with ⟨rfl, -⟩ | ⟨rfl, -⟩
    · exact ⟨_, rfl⟩
    · exact ⟨_, rfl⟩
  obtain ⟨r, rfl⟩ := hv
  refine ⟨r, rfl, zP_post (j_model s t A nT mo nt nc nf m x (MoOk_keep hk hM) (mask_c (hk 33 (by omega)) hm)) (fun v' s' t' h' => ?_)⟩
  obtain ⟨r', e1, e2, e3⟩ := fin_take hM hH hm h h'
  rw [e1]
  exact ⟨e2, e3⟩
theorem l_models (sg : zI) (ta : zJ) (hI : Inv sg ta) : zP yX7_models mX7_models 5 [.ref (nm 0 0)] sg ta (both yX8_models mX8_models 5 [.ref (nm 20 0)]) := by
  obtain ⟨A, nT, mo, nt, nc, nf, hM, hR, hH⟩ := hI
  obtain ⟨m, hm⟩ := mask_has sg hM.2.2.2.1
  refine zP_post (k_models sg ta sg A nT mo nt nc nf m hM hR hm) (fun v s t h => ?_)
  obtain ⟨rfl, hR', hk, hs⟩ := h
  refine ⟨_, rfl, zP_post (j_models s t A nT mo nt nc nf m (MoOk_keep hk hM) (mask_c (hk 33 (by omega)) hm)) (fun v' s' t' h' => ?_)⟩
  obtain ⟨rfl, rfl, hp⟩ := h'
  rw [mN_c (kp hk)]
  exact ⟨rfl, fin_ask hM hH hR' hk hs hp⟩
theorem fitNM_c {a b : zI} (h : ∀ K, 22 ≤ K → K ≤ 33 → b K = a K) (mo : Nat → Nat) (nT nf : Nat) : fitNM b mo nT nf = fitNM a mo nT nf := by
  funext k
  have e : ∀ x, lenM b mo nT k x = lenM a mo nT k x := fun x => lenM_at (h 22 (by omega) (by omega)) (h 23 (by omega) (by omega)) mo nT k x
  have q : fitKM b mo nT nf k ↔ fitKM a mo nT nf k := by
    unfold fitKM fit1M
    simp only [e, h 27 (by omega) (by omega), h 28 (by omega) (by omega), h 29 (by omega) (by omega), h 30 (by omega) (by omega), h 32 (by omega) (by omega), h 33 (by omega) (by omega)]
  by_cases g : fitKM a mo nT nf k
  · rw [fitNM_t g, fitNM_t (q.mpr g)]
  · rw [fitNM_f g, fitNM_f (fun z => g (q.mp z))]
theorem l_spans (sg : zI) (ta : zJ) (hI : Inv sg ta) : zP yX7_spans mX7_spans 4 [.ref (nm 0 0)] sg ta (both yX8_spans mX8_spans 1 [.ref (nm 20 0)]) := by
  obtain ⟨A, nT, mo, nt, nc, nf, hM, hR, hH⟩ := hI
  refine zP_post (k_spans sg ta sg A nT mo nt nc nf hM hR) (fun v s t h => ?_)
  obtain ⟨rfl, hR', hk, hs⟩ := h
  refine ⟨_, rfl, zP_post (j_spans s t A nT mo nt nc nf (MoOk_keep hk hM)) (fun v' s' t' h' => ?_)⟩
  obtain ⟨rfl, rfl, hp⟩ := h'
  rw [fitNM_c (kp hk)]
  exact ⟨rfl, fin_ask hM hH hR' hk hs hp⟩
theorem h01_n {x : Int32} (h : x = 0 ∨ x = 1) : ¬ x = 0 ↔ x = 1 := ⟨fun q => h.resolve_left q, fun q => by rw [q]; decide⟩
theorem l_length (sg : zI) (ta : zJ) (x : Int32) (hI : Inv sg ta) : zP yX7_length mX7_length 3 [.ref (nm 0 0), .int x] sg ta (both yX8_length mX8_length 1 [.ref (nm 20 0), .int x]) := by
  obtain ⟨A, nT, mo, nt, nc, nf, hM, hR, hH⟩ := hI
  refine zP_post (k_length sg ta A nT mo x hR.1) (fun v s t h => ?_)
  obtain ⟨rfl, rfl, h1, h2, h3⟩ := h
  have J := j_length s t nT x hM.1.2.1 hM.1.2.2.2.2.2.1
  obtain ⟨c1, c2, c3, c4, c5, c6⟩ := id hH
  by_cases g : tk nT x
  · by_cases g2 : s 20 0 19 = 0
    · obtain rfl := h2 g (c1.trans g2)
      refine ⟨_, rfl, zP_post J (fun v' s' t' h' => ?_)⟩
      obtain ⟨rfl, rfl, -, h4, -⟩ := h'
      exact ⟨h4 g g2, fin_no hM hR hH (perS_refl _)⟩
    · obtain ⟨u, hu, e⟩ := id g
      obtain ⟨w, hw, hc, hh⟩ := c5 ((h01_n c3).mp g2)
      obtain rfl := h3 u w hu e (by rw [c1]; exact g2) hc
      refine ⟨_, rfl, zP_post J (fun v' s' t' h' => ?_)⟩
      obtain ⟨rfl, rfl, -, -, h5⟩ := h'
      refine ⟨?_, fin_no hM hR hH (perS_refl _)⟩
      rw [h5 u hu e g2, hh.1 u hu]
  · obtain rfl := h1 g
    refine ⟨_, rfl, zP_post J (fun v' s' t' h' => ?_)⟩
    obtain ⟨rfl, rfl, h4, -⟩ := h'
    exact ⟨h4 g, fin_no hM hR hH (perS_refl _)⟩
theorem l_letter (sg : zI) (ta : zJ) (x y : Int32) (hI : Inv sg ta) : zP yX7_letter mX7_letter 3 [.ref (nm 0 0), .int x, .int y] sg ta (both yX8_letter mX8_letter 1 [.ref (nm 20 0), .int x, .int y]) := by
  obtain ⟨A, nT, mo, nt, nc, nf, hM, hR, hH⟩ := hI
  obtain ⟨c1, c2, c3, c4, c5, c6⟩ := id hH
  have hm5 := hM.1.2.2.1
  refine zP_post (k_letter sg ta A nT mo x y hR.1 (fun q => by
    rw [c1] at q
    obtain ⟨w, -, hc, -⟩ := c5 ((h01_n c3).mp q)
    exact ⟨w, hc⟩)) (fun v s t h => ?_)
  obtain ⟨rfl, rfl, h1, h2, h3⟩ := h
  have J := j_letter s t nT x y hM.1.2.1 hM.1.2.2.2.2.2.1 (fun q u hu => by
    obtain ⟨w, -, -, hh⟩ := c5 ((h01_n c3).mp q)
    exact ⟨_, vec5 hm5 u hu, hh.1 u hu⟩)
  by_cases g : tk nT x
  · by_cases g2 : s 20 0 19 = 0
    · obtain rfl := h2 g (c1.trans g2)
      refine ⟨_, rfl, zP_post J (fun v' s' t' h' => ?_)⟩
      obtain ⟨rfl, rfl, -, h4, -⟩ := h'
      exact ⟨h4 g g2, fin_no hM hR hH (perS_refl _)⟩
    · obtain ⟨u, hu, e⟩ := id g
      obtain ⟨w, hw, hc, hh⟩ := c5 ((h01_n c3).mp g2)
      have v5 := vec5 (k := kOf A mo nT w) hm5 u hu
      rcases h3 u w hu e (by rw [c1]; exact g2) hc with ⟨j, hj, ey, rfl⟩ | ⟨hj, rfl⟩
      · refine ⟨_, rfl, zP_post J (fun v' s' t' h' => ?_)⟩
        obtain ⟨rfl, rfl, -, -, h5⟩ := h'
        refine ⟨?_, fin_no hM hR hH (perS_refl _)⟩
        rw [(h5 u _ hu e g2 v5 (hh.1 u hu)).2 j hj ey, hh.2 u hu j hj]
      · refine ⟨_, rfl, zP_post J (fun v' s' t' h' => ?_)⟩
        obtain ⟨rfl, rfl, -, -, h5⟩ := h'
        refine ⟨(h5 u _ hu e g2 v5 (hh.1 u hu)).1 ?_, fin_no hM hR hH (perS_refl _)⟩
        rintro ⟨q, hq, rfl⟩
        rcases hj with z | z
        · exact nI_pos (by omega) z
        · exact nI_ge hq (by omega) z
  · obtain rfl := h1 g
    refine ⟨_, rfl, zP_post J (fun v' s' t' h' => ?_)⟩
    obtain ⟨rfl, rfl, h4, -⟩ := h'
    exact ⟨h4 g, fin_no hM hR hH (perS_refl _)⟩
theorem l_holdz (sg : zI) (ta : zJ) (x : Int32) (hI : Inv sg ta) : zP yX7_holds mX7_holds 3 [.ref (nm 0 0), .int x] sg ta (both yX8_holds mX8_holds 3 [.ref (nm 20 0), .int x]) := by
  obtain ⟨A, nT, mo, nt, nc, nf, hM, hR, hH⟩ := hI
  obtain ⟨c1, c2, c3, c4, c5, c6⟩ := id hH
  obtain ⟨w, hw⟩ : ∃ w, ¬ sg 20 0 19 = 0 → HCw sg A nT mo w ∧ HMw sg A nT mo w := by
    by_cases q : sg 20 0 19 = 0
    · exact ⟨0, fun z => absurd q z⟩
    · obtain ⟨w, -, hc, hh⟩ := c5 ((h01_n c3).mp q)
      exact ⟨w, fun _ => ⟨hc, hh⟩⟩
  refine zP_post (k_holds sg ta sg A nT mo nt nc nf x w hM hR (fun q => (hw (by rw [← c1]; exact q)).1)) (fun v s t h => ?_)
  obtain ⟨hR', hk, hs, h1, h2, h3⟩ := h
  have e19 : s 20 0 19 = sg 20 0 19 := by rw [hk 20 (by omega)]
  have J := j_holds s t A nT mo nt nc nf x w (MoOk_keep hk hM) (fun q => HMw_at (hk 34 (by omega)) (hk 35 (by omega)) (hw (by rw [← e19]; exact q)).2)
  by_cases g : tk nf x
  · by_cases g2 : sg 20 0 19 = 0
    · obtain rfl := h2 g (c1.trans g2)
      refine ⟨_, rfl, zP_post J (fun v' s' t' h' => ?_)⟩
      obtain ⟨rfl, hp, -, h4, -⟩ := h'
      exact ⟨h4 g (e19.trans g2), fin_ask hM hH hR' hk hs hp⟩
    · obtain ⟨f, hf, e⟩ := id g
      obtain rfl := h3 f hf e (by rw [c1]; exact g2)
      refine ⟨_, rfl, zP_post J (fun v' s' t' h' => ?_)⟩
      obtain ⟨rfl, hp, -, -, h5⟩ := h'
      refine ⟨?_, fin_ask hM hH hR' hk hs hp⟩
      rw [h5 f hf e (by rw [e19]; exact g2), bC_iff (trM_at (fun K a b => hk K (by omega)) A nT mo w f)]
  · obtain rfl := h1 g
    refine ⟨_, rfl, zP_post J (fun v' s' t' h' => ?_)⟩
    obtain ⟨rfl, hp, h4, -⟩ := h'
    exact ⟨h4 g, fin_ask hM hH hR' hk hs hp⟩
theorem l_core (sg : zI) (ta : zJ) (hI : Inv sg ta) : zP yX7_core mX7_core 6 [.ref (nm 0 0)] sg ta (both yX8_core mX8_core 5 [.ref (nm 20 0)]) := by
  obtain ⟨A, nT, mo, nt, nc, nf, hM, hR, hH⟩ := hI
  obtain ⟨m, hm⟩ := mask_has sg hM.2.2.2.1
  refine zP_post (k_core sg ta sg A nT mo nt nc nf m hM hR hm) (fun v s t h => ?_)
  obtain ⟨hR', hk, h1, h2⟩ := h
  have J := j_core s t A nT mo nt nc nf m (MoOk_keep hk hM) (mask_c (hk 33 (by omega)) hm)
  by_cases g : hMM sg A nT mo nf m
  · obtain ⟨rfl, hs⟩ := h1 g
    refine ⟨_, rfl, zP_post J (fun v' s' t' h' => ?_)⟩
    obtain ⟨rfl, h3, -⟩ := h'
    rw [hMM_c (kp hk)] at h3
    obtain ⟨rfl, hp⟩ := h3 g
    exact ⟨rfl, fin_ask hM hH hR' hk hs hp⟩
  · obtain ⟨rfl, h12, h11, h0, k3, k4, k5, k6⟩ := h2 g
    refine ⟨_, rfl, zP_post J (fun v' s' t' h' => ?_)⟩
    obtain ⟨rfl, -, h3⟩ := h'
    rw [hMM_c (kp hk)] at h3
    obtain ⟨rfl, hp, h22, h36⟩ := h3 g
    refine ⟨rfl, ?_⟩
    have hl : lowEq s s' := fun K hK => by funext i j; exact hp K i j (by omega) (by omega)
    have eK : ∀ K, 21 ≤ K → K ≤ 35 → s' K = sg K := fun K a b => by
      funext i j
      rw [hp K i j (by omega) (by omega), hk K (by omega)]
    have e20 : ∀ j, j ≠ 29 → j ≠ 22 → s' 20 0 j = sg 20 0 j := fun j a b => by rw [hp 20 0 j (by omega) (by omega), hk 20 (by omega)]
    obtain ⟨c1, c2, c3, c4, c5, c6⟩ := hH
    refine ⟨A, nT, mo, nt, nc, nf, MoOk_c (fun K a b => eK K a (by omega)) (fun j hj => e20 j (by omega) (by omega)) hM, RcOk_c hl (fun K a b => eK K a (by omega)) hR', ?_, ?_, ?_, Or.inr h22, fun q => ?_, fun _ => ⟨_, coreF_lt nf m hm.1, by rw [hl 0 (by omega)]; exact h12, h36⟩⟩
    · rw [e20 19 (by omega) (by omega), hl 0 (by omega), h0 10 (by omega) (by omega)]; exact c1
    · rw [h22, hl 0 (by omega)]; exact h11
    · rw [e20 19 (by omega) (by omega)]; exact c3
    · rw [e20 19 (by omega) (by omega)] at q
      obtain ⟨w, hw, hc, hh⟩ := c5 q
      exact ⟨w, hw, HCw_at (by rw [hl 3 (by omega)]; exact k3) (by rw [hl 4 (by omega)]; exact k4) (by rw [hl 5 (by omega)]; exact k5) (by rw [hl 6 (by omega)]; exact k6) hc, HMw_at (eK 34 (by omega) (by omega)) (eK 35 (by omega) (by omega)) hh⟩
theorem l_inCore (sg : zI) (ta : zJ) (x : Int32) (hI : Inv sg ta) : zP yX7_inCore mX7_inCore 3 [.ref (nm 0 0), .int x] sg ta (both yX8_inCore mX8_inCore 1 [.ref (nm 20 0), .int x]) := by
  obtain ⟨A, nT, mo, nt, nc, nf, hM, hR, hH⟩ := hI
  obtain ⟨c1, c2, c3, c4, c5, c6⟩ := id hH
  have hnf := hM.2.2.2.1
  refine zP_post (k_inCore sg ta nf x hnf hR.2.2.2.2.1.1) (fun v s t h => ?_)
  obtain ⟨rfl, rfl, h1, h2, h3⟩ := h
  have J := j_inCore s t nf x hnf hM.2.2.2.2.1 (fun q f hf => by
    obtain ⟨m, -, -, h⟩ := c6 ((h01_n c4).mp q)
    exact (h f hf).1)
  by_cases g : tk nf x
  · by_cases g2 : s 20 0 22 = 0
    · obtain rfl := h2 g (c2.trans g2)
      refine ⟨_, rfl, zP_post J (fun v' s' t' h' => ?_)⟩
      obtain ⟨rfl, rfl, -, h4, -⟩ := h'
      exact ⟨h4 g g2, fin_no hM hR hH (perS_refl _)⟩
    · obtain ⟨f, hf, e⟩ := id g
      obtain ⟨m, hm, h12, hb⟩ := c6 ((h01_n c4).mp g2)
      obtain ⟨b1, b2⟩ := hb f hf
      obtain rfl := h3 f m hf e (by rw [c2]; exact g2) hm h12
      refine ⟨_, rfl, zP_post J (fun v' s' t' h' => ?_)⟩
      obtain ⟨rfl, rfl, -, -, h5⟩ := h'
      refine ⟨?_, fin_no hM hR hH (perS_refl _)⟩
      rw [h5 f hf e g2]
      rcases b1 with z | z
      · rw [z, bC_f (fun q => by rw [b2.mp q] at z; exact absurd z (by decide))]
      · rw [z, bC_t (b2.mpr z)]
  · obtain rfl := h1 g
    refine ⟨_, rfl, zP_post J (fun v' s' t' h' => ?_)⟩
    obtain ⟨rfl, rfl, h4, -⟩ := h'
    exact ⟨h4 g, fin_no hM hR hH (perS_refl _)⟩
theorem l_meet (sg : zI) (ta : zJ) (x y : Int32) (hI : Inv sg ta) : zP yX7_meet mX7_meet 3 [.ref (nm 0 0), .int x, .int y] sg ta (both yX8_meet mX8_meet 1 [.ref (nm 20 0), .int x, .int y]) := by
  obtain ⟨A, nT, mo, nt, nc, nf, hM, hR, hH⟩ := hI
  refine zP_post (k_meet sg ta sg A nT mo nt nc nf x y hM hR) (fun v s t h => ?_)
  obtain ⟨rfl, rfl, h1, h2⟩ := h
  have J := j_meet s t A nT mo nt nc nf x y hM
  by_cases g : tk nc x ∧ tk nc y
  · obtain ⟨⟨i1, k1, e1⟩, i2, k2, e2⟩ := id g
    obtain ⟨r, rfl, hr⟩ := h2 i1 i2 k1 k2 e1 e2
    refine ⟨_, rfl, zP_post J (fun v' s' t' h' => ?_)⟩
    obtain ⟨rfl, hf, -, h3⟩ := h'
    obtain ⟨r', rfl, hr'⟩ := h3 i1 i2 k1 k2 e1 e2
    exact ⟨by rw [meet_uni hr' hr], fin_no hM hR hH (perS_frm hf (by intro q hq; simp at hq; subst hq; simp))⟩
  · obtain rfl := h1 g
    refine ⟨_, rfl, zP_post J (fun v' s' t' h' => ?_)⟩
    obtain ⟨rfl, hf, h3, -⟩ := h'
    exact ⟨h3 g, fin_no hM hR hH (perS_frm hf (by intro q hq; simp at hq; subst hq; simp))⟩
theorem l_told (sg : zI) (ta : zJ) (x : Int32) (hI : Inv sg ta) : zP yX7_told mX7_told 1 [.ref (nm 0 0), .int x] sg ta (both yX8_told mX8_told 1 [.ref (nm 20 0), .int x]) := by
  obtain ⟨A, nT, mo, nt, nc, nf, hM, hR, hH⟩ := hI
  obtain ⟨c1, c2, c3, c4, c5, c6⟩ := id hH
  refine zP_post (k_told sg ta sg A nT mo nt nc nf x hM hR c1 c3) (fun v s t h => ?_)
  obtain ⟨rfl, rfl, r, rfl, hr⟩ := h
  refine ⟨_, rfl, zP_post (j_told s t x c3) (fun v' s' t' h' => ?_)⟩
  obtain ⟨rfl, rfl, r', rfl, hr'⟩ := h'
  exact ⟨by rw [tell_uni hr' hr], fin_no hM hR hH (perS_refl _)⟩
