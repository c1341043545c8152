/-! THE LAW'S INVARIANT: class and reference say the same -/
def HandC (s mu : zI) (A nT : Nat) (mo : Nat → Nat) (nf : Nat) : Prop := s 0 0 10 = mu 20 0 19 ∧ s 0 0 11 = mu 20 0 22 ∧ (mu 20 0 19 = 0 ∨ mu 20 0 19 = 1) ∧ (mu 20 0 22 = 0 ∨ mu 20 0 22 = 1) ∧ (mu 20 0 19 = 1 → ∃ w, w < wSize A mo nT ∧ HCw s A nT mo w ∧ HMw mu A nT mo w) ∧ (mu 20 0 22 = 1 → ∃ m, m < 1024 ∧ s 0 0 12 = nI m ∧ ∀ f, f < nf → (mu 36 0 f = 0 ∨ mu 36 0 f = 1) ∧ (m.testBit f = true ↔ mu 36 0 f = 1))
def Inv (sg : zI) (ta : zJ) : Prop := ∃ (A nT : Nat) (mo : Nat → Nat) (nt nc nf : Nat), MoOk sg A nT mo nt nc nf ∧ RcOk sg ta sg A nT mo nt nc nf ∧ HandC sg sg A nT mo nf
def lowEq (a b : zI) : Prop := ∀ K, K < 20 → b K = a K
def memEq (a b : zI) : Prop := ∀ K, 20 ≤ K → K ≤ 36 → b K = a K
theorem lowEq_refl (a : zI) : lowEq a a := fun _ _ => rfl
theorem lowEq_up3 {a b : zI} {K i j : Nat} {x : Int32} (hK : 20 ≤ K) (h : lowEq a b) : lowEq a (up3 b K i j x) := fun K' h' => by rw [up3_ne (by omega)]; exact h K' h'
theorem lowEq_upR {a b : zI} {K i : Nat} {r : Nat → Int32} (hK : 20 ≤ K) (h : lowEq a b) : lowEq a (upR b K i r) := fun K' h' => by rw [upR_ne (by omega)]; exact h K' h'
theorem memEq_keep {a b : zI} (h : keepM a b) : memEq a b := fun K h1 _ => h K h1
theorem memEq_up3 {a b : zI} {K i j : Nat} {x : Int32} (h : memEq a b) : memEq (up3 a K i j x) (up3 b K i j x) := fun K' h1 h2 => by
  funext i' j'
  rw [up3_get, up3_get, h K' h1 h2]
theorem memEq_upR {a b : zI} {K i : Nat} {r : Nat → Int32} (h : memEq a b) : memEq (upR a K i r) (upR b K i r) := fun K' h1 h2 => by
  funext i'
  by_cases e : K' = K ∧ i' = i
  · simp only [upR, if_pos e]
  · simp only [upR, if_neg e]; rw [h K' h1 h2]
theorem lowEq_S {a b : zI} (h : perS a b) : lowEq a b := fun K hK => perS_row h (by omega) (by omega)
theorem MoOk_c {a b : zI} (h : ∀ K, 21 ≤ K → K ≤ 33 → b K = a K) (h20 : ∀ j, j ≤ 11 → b 20 0 j = a 20 0 j) {A nT : Nat} {mo : Nat → Nat} {nt nc nf : Nat} (hM : MoOk a A nT mo nt nc nf) : MoOk b A nT mo nt nc nf := by
  obtain ⟨m1, m2, m3, m4⟩ := hM
  exact ⟨SpM_at (h20 0 (by omega)) (h20 1 (by omega)) (h20 3 (by omega)) (by rw [h 21 (by omega) (by omega)]) m1, TeM_at (h20 4 (by omega)) (by rw [h 22 (by omega) (by omega)]) (by rw [h 23 (by omega) (by omega)]) m2, MaM_at (h20 7 (by omega)) (by rw [h 24 (by omega) (by omega)]) (by rw [h 25 (by omega) (by omega)]) (by rw [h 26 (by omega) (by omega)]) m3, FoM_at (h20 11 (by omega)) (fun K x y => by rw [h K (by omega) (by omega)]) m4⟩
theorem RcOk_c {s s' mu mu' : zI} {t : zJ} (hl : lowEq s s') (h : ∀ K, 21 ≤ K → K ≤ 33 → mu' K = mu K) {A nT : Nat} {mo : Nat → Nat} {nt nc nf : Nat} (hR : RcOk s t mu A nT mo nt nc nf) : RcOk s' t mu' A nT mo nt nc nf := by
  obtain ⟨r1, r2, r3, r4, r5, r6⟩ := hR
  refine ⟨SpaceOk_at (hl 1 (by omega)) (hl 2 (by omega)) r1, WaR_at (hl 3 (by omega)) (hl 4 (by omega)) (hl 5 (by omega)) r2, TeR_at (by rw [hl 0 (by omega)]) (hl 11 (by omega)) (hl 12 (by omega)) (by rw [h 22 (by omega) (by omega)]) (by rw [h 23 (by omega) (by omega)]) r3, MaR_at (by rw [hl 0 (by omega)]) (hl 15 (by omega)) (hl 16 (by omega)) (by rw [h 24 (by omega) (by omega)]) (by rw [h 25 (by omega) (by omega)]) (by rw [h 26 (by omega) (by omega)]) r4, FoR_at (by rw [hl 0 (by omega)]) (hl 17 (by omega)) (fun K x y => by rw [h K (by omega) (by omega)]) r5, fun f hf w hw => ?_⟩
  obtain ⟨c1, c2⟩ := r6 f hf w hw
  exact ⟨c1, fun j hs => by rw [mdl_at (hl 11 (by omega)) (hl 12 (by omega)) (hl 15 (by omega)) (hl 16 (by omega)) (hl 17 (by omega))]; exact c2 j hs⟩
theorem fin_ok {mu' sg s s' : zI} {t : zJ} (hok : okR mu' sg s t) (hl : lowEq s s') (hm : memEq mu' s') : Inv s' t := by
  obtain ⟨hk, h10, h11, h19, h22, A, nT, mo, nt, nc, nf, hM, hR⟩ := hok
  have e19 : s' 20 0 19 = 0 := by rw [hm 20 (by omega) (by omega)]; exact h19
  have e22 : s' 20 0 22 = 0 := by rw [hm 20 (by omega) (by omega)]; exact h22
  refine ⟨A, nT, mo, nt, nc, nf, MoOk_c (fun K a b => hm K (by omega) (by omega)) (fun j _ => by rw [hm 20 (by omega) (by omega)]) hM, RcOk_c hl (fun K a b => hm K (by omega) (by omega)) hR, ?_, ?_, Or.inl e19, Or.inl e22, fun q => ?_, fun q => ?_⟩
  · rw [e19, hl 0 (by omega)]; exact h10
  · rw [e22, hl 0 (by omega)]; exact h11
  · rw [e19] at q; exact absurd q (by decide)
  · rw [e22] at q; exact absurd q (by decide)
theorem HCw_at {a b : zI} {A nT : Nat} {mo : Nat → Nat} {w : Nat} (h3 : b 3 1 = a 3 1) (h4 : b 4 1 = a 4 1) (h5 : b 5 1 = a 5 1) (h6 : b 6 1 = a 6 1) (h : HCw a A nT mo w) : HCw b A nT mo w := ⟨WayOk_at h3 h4 h5 h.1, fun j hj => by rw [h6]; exact h.2 j hj⟩
theorem HMw_at {a b : zI} {A nT : Nat} {mo : Nat → Nat} {w : Nat} (h34 : b 34 = a 34) (h35 : b 35 = a 35) (h : HMw a A nT mo w) : HMw b A nT mo w := by unfold HMw at *; rw [h34, h35]; exact h
/-- a question: the memory is as it was -/
theorem fin_ask {sg s s' : zI} {t : zJ} {A nT : Nat} {mo : Nat → Nat} {nt nc nf : Nat} (hM : MoOk sg A nT mo nt nc nf) (hH : HandC sg sg A nT mo nf) (hR : RcOk s t sg A nT mo nt nc nf) (hk : keepM sg s) (hs : stillH sg s) (hp : perS s s') : Inv s' t := by
  have hl := lowEq_S hp
  have e20 : ∀ j, j ≠ 29 → s' 20 0 j = sg 20 0 j := fun j hj => by rw [perS_20 hp hj, hk 20 (by omega)]
  have eK : ∀ K, 21 ≤ K → K ≤ 36 → s' K = sg K := fun K a b => by rw [perS_row hp (by omega) (by omega), hk K (by omega)]
  obtain ⟨c1, c2, c3, c4, c5, c6⟩ := hH
  have e0 : ∀ j, s' 0 0 j = sg 0 0 j := fun j => by rw [hl 0 (by omega)]; exact hs.1 j
  refine ⟨A, nT, mo, nt, nc, nf, MoOk_c (fun K a b => eK K a (by omega)) (fun j hj => e20 j (by omega)) hM, RcOk_c hl (fun K a b => eK K a (by omega)) hR, ?_, ?_, ?_, ?_, fun q => ?_, fun q => ?_⟩
  · rw [e0, e20 19 (by omega)]; exact c1
  · rw [e0, e20 22 (by omega)]; exact c2
  · rw [e20 19 (by omega)]; exact c3
  · rw [e20 22 (by omega)]; exact c4
  · rw [e20 19 (by omega)] at q
    obtain ⟨w, hw, h1, h2⟩ := c5 q
    exact ⟨w, hw, HCw_at (by rw [hl 3 (by omega)]; exact hs.2.1) (by rw [hl 4 (by omega)]; exact hs.2.2.1) (by rw [hl 5 (by omega)]; exact hs.2.2.2.1) (by rw [hl 6 (by omega)]; exact hs.2.2.2.2) h1, HMw_at (eK 34 (by omega) (by omega)) (eK 35 (by omega) (by omega)) h2⟩
  · rw [e20 22 (by omega)] at q
    obtain ⟨m, hm, h1, h2⟩ := c6 q
    exact ⟨m, hm, by rw [e0]; exact h1, fun f hf => by rw [eK 36 (by omega) (by omega)]; exact h2 f hf⟩
theorem still_refl (a : zI) : stillH a a := ⟨fun _ => rfl, rfl, rfl, rfl, rfl⟩
/-- nothing was done -/
theorem fin_no {sg : zI} {ta : zJ} {s' : zI} {A nT : Nat} {mo : Nat → Nat} {nt nc nf : Nat} (hM : MoOk sg A nT mo nt nc nf) (hR : RcOk sg ta sg A nT mo nt nc nf) (hH : HandC sg sg A nT mo nf) (hp : perS sg s') : Inv s' ta := fin_ask hM hH hR (keepM_refl _) (still_refl _) hp
/-- the class's answer is r, and the reference, called behind it, answers r too -/
def both (y : MethodName) (M : zM) (d : Nat) (args : List Value) : zPost := fun v s t => ∃ r, v = some (.int r) ∧ zP y M d args s t (fun v' s' t' => v' = some (.int r) ∧ Inv s' t')
theorem MoOk_keep {a b : zI} (h : keepM a b) {A nT : Nat} {mo : Nat → Nat} {nt nc nf : Nat} (hM : MoOk a A nT mo nt nc nf) : MoOk b A nT mo nt nc nf := MoOk_c (fun K x y => h K (by omega)) (fun j _ => by rw [h 20 (by omega)]) hM
theorem l_clear (sg : zI) (ta : zJ) (x : Int32) (hI : Inv sg ta) : zP yX7_clear mX7_clear 3 [.ref (nm 0 0), .int x] sg ta (both yX8_clear mX8_clear 1 [.ref (nm 20 0), .int x]) := by
  obtain ⟨A, nT, mo, nt, nc, nf, hM, hR, hH⟩ := hI
  refine zP_post (k_clear sg ta sg A nT mo nt nc nf x hM hR) (fun v s t h => ?_)
  by_cases g : 2 ≤ x ∧ x ≤ 3
  · obtain ⟨rfl, hok⟩ := h.1 g
    refine ⟨_, rfl, zP_post (j_clear s t x) (fun v' s' t' h' => ?_)⟩
    obtain ⟨rfl, h1, -⟩ := h'
    obtain ⟨rfl, rfl⟩ := h1 g
    refine ⟨by rw [hok.1 20 (by omega)], fin_ok hok ?_ ?_⟩
    · unfold uClear uCh; repeat (refine lowEq_up3 (by omega) ?_)
      exact lowEq_refl s
    · unfold uClear uCh; repeat (refine memEq_up3 ?_)
      exact memEq_keep hok.1
  · obtain ⟨rfl, rfl, rfl⟩ := h.2 g
    refine ⟨_, rfl, zP_post (j_clear s t x) (fun v' s' t' h' => ?_)⟩
    obtain ⟨rfl, -, h1⟩ := h'
    obtain ⟨rfl, rfl⟩ := h1 g
    exact ⟨rfl, fin_no hM hR hH (perS_refl _)⟩
theorem l_text (sg : zI) (ta : zJ) (x : Int32) (hI : Inv sg ta) : zP yX7_text mX7_text 3 [.ref (nm 0 0), .int x] sg ta (both yX8_text mX8_text 1 [.ref (nm 20 0), .int x]) := by
  obtain ⟨A, nT, mo, nt, nc, nf, hM, hR, hH⟩ := hI
  refine zP_post (k_text sg ta sg A nT mo nt nc nf x hM hR) (fun v s t h => ?_)
  by_cases g : x < 0 ∨ 5 < x
  · obtain ⟨rfl, rfl, rfl⟩ := h.1 g
    refine ⟨_, rfl, zP_post (j_text s t A nT mo x hM.1) (fun v' s' t' h' => ?_)⟩
    obtain ⟨rfl, h1, -⟩ := h'
    obtain ⟨rfl, rfl⟩ := h1 g
    exact ⟨rfl, fin_no hM hR hH (perS_refl _)⟩
  · obtain ⟨m, hm, e⟩ := i32_le (x := x) (n := 5) (by omega) (fun q => g (Or.inl q)) (Int32.not_lt.mp (fun q => g (Or.inr q)))
    obtain ⟨h1, h2⟩ := h.2 m hm e
    by_cases g2 : nT < 4 ∧ wSize A mo nT * rowsN A m ≤ 8000
    · obtain ⟨rfl, hok⟩ := h1 g2
      refine ⟨_, rfl, zP_post (j_text s t A nT mo x (MoOk_keep hok.1 hM).1) (fun v' s' t' h' => ?_)⟩
      obtain ⟨rfl, -, h3⟩ := h'
      obtain ⟨rfl, rfl⟩ := (h3 m hm e).1 g2
      refine ⟨rfl, fin_ok hok ?_ ?_⟩
      · unfold uText uCh; repeat (refine lowEq_up3 (by omega) ?_)
        exact lowEq_refl s
      · unfold uText uCh; repeat (refine memEq_up3 ?_)
        exact memEq_keep hok.1
    · obtain ⟨rfl, rfl, rfl⟩ := h2 g2
      refine ⟨_, rfl, zP_post (j_text s t A nT mo x hM.1) (fun v' s' t' h' => ?_)⟩
      obtain ⟨rfl, -, h3⟩ := h'
      obtain ⟨rfl, rfl⟩ := (h3 m hm e).2 g2
      exact ⟨rfl, fin_no hM hR hH (perS_refl _)⟩
theorem l_term (sg : zI) (ta : zJ) (hI : Inv sg ta) : zP yX7_term mX7_term 3 [.ref (nm 0 0)] sg ta (both yX8_term mX8_term 1 [.ref (nm 20 0)]) := by
  obtain ⟨A, nT, mo, nt, nc, nf, hM, hR, hH⟩ := hI
  have hnt := hM.2.1.1
  refine zP_post (k_term sg ta sg A nT mo nt nc nf hM hR) (fun v s t h => ?_)
  by_cases g : nt < 12
  · obtain ⟨rfl, hok⟩ := h.1 g
    refine ⟨_, rfl, zP_post (j_term s t nt (MoOk_keep hok.1 hM).2.1.2.1 hnt) (fun v' s' t' h' => ?_)⟩
    obtain ⟨rfl, h1, -⟩ := h'
    obtain ⟨rfl, rfl⟩ := h1 g
    refine ⟨rfl, fin_ok hok ?_ ?_⟩
    · unfold uTerm uCh; repeat (refine lowEq_up3 (by omega) ?_)
      exact lowEq_refl s
    · unfold uTerm uCh; repeat (refine memEq_up3 ?_)
      exact memEq_keep hok.1
  · obtain ⟨rfl, rfl, rfl⟩ := h.2 (by omega)
    refine ⟨_, rfl, zP_post (j_term s t nt hM.2.1.2.1 hnt) (fun v' s' t' h' => ?_)⟩
    obtain ⟨rfl, -, h1⟩ := h'
    obtain ⟨rfl, rfl⟩ := h1 (by omega)
    exact ⟨rfl, fin_no hM hR hH (perS_refl _)⟩
theorem l_part (sg : zI) (ta : zJ) (x y : Int32) (hI : Inv sg ta) : zP yX7_part mX7_part 3 [.ref (nm 0 0), .int x, .int y] sg ta (both yX8_part mX8_part 1 [.ref (nm 20 0), .int x, .int y]) := by
  obtain ⟨A, nT, mo, nt, nc, nf, hM, hR, hH⟩ := hI
  refine zP_post (k_part sg ta sg A nT mo nt nc nf x y hM hR) (fun v s t h => ?_)
  obtain ⟨h1, h2, h3⟩ := h
  by_cases g : tk nt x
  · by_cases g2 : PV A nT y
    · obtain ⟨q, hq, e⟩ := id g
      obtain ⟨n, hn6, hn, -⟩ := hM.2.1.2.2 q hq
      obtain ⟨h4, h5⟩ := h3 q n hq e g2 hn hn6
      by_cases g3 : n = 6
      · obtain ⟨rfl, rfl, rfl⟩ := h4 g3
        refine ⟨_, rfl, zP_post (j_part s t A nT nt mo x y hM.1 hM.2.1) (fun v' s' t' h' => ?_)⟩
        obtain ⟨rfl, -, -, h6⟩ := h'
        obtain ⟨rfl, rfl⟩ := (h6 q n hq e g2 hn hn6).1 g3
        exact ⟨rfl, fin_no hM hR hH (perS_refl _)⟩
      · obtain ⟨rfl, hok⟩ := h5 (by omega)
        have hM' := MoOk_keep hok.1 hM
        refine ⟨_, rfl, zP_post (j_part s t A nT nt mo x y hM'.1 hM'.2.1) (fun v' s' t' h' => ?_)⟩
        obtain ⟨rfl, -, -, h6⟩ := h'
        obtain ⟨rfl, rfl⟩ := (h6 q n hq e g2 (by rw [hok.1 22 (by omega)]; exact hn) hn6).2 (by omega)
        refine ⟨rfl, fin_ok hok ?_ ?_⟩
        · unfold uPart uCh; repeat (refine lowEq_up3 (by omega) ?_)
          exact lowEq_refl s
        · unfold uPart uCh; repeat (refine memEq_up3 ?_)
          exact memEq_keep hok.1
    · obtain ⟨rfl, rfl, rfl⟩ := h2 g g2
      refine ⟨_, rfl, zP_post (j_part s t A nT nt mo x y hM.1 hM.2.1) (fun v' s' t' h' => ?_)⟩
      obtain ⟨rfl, -, h6, -⟩ := h'
      obtain ⟨rfl, rfl⟩ := h6 g g2
      exact ⟨rfl, fin_no hM hR hH (perS_refl _)⟩
  · obtain ⟨rfl, rfl, rfl⟩ := h1 g
    refine ⟨_, rfl, zP_post (j_part s t A nT nt mo x y hM.1 hM.2.1) (fun v' s' t' h' => ?_)⟩
    obtain ⟨rfl, h6, -⟩ := h'
    obtain ⟨rfl, rfl⟩ := h6 g
    exact ⟨rfl, fin_no hM hR hH (perS_refl _)⟩
theorem l_machine (sg : zI) (ta : zJ) (x : Int32) (hI : Inv sg ta) : zP yX7_machine mX7_machine 3 [.ref (nm 0 0), .int x] sg ta (both yX8_machine mX8_machine 1 [.ref (nm 20 0), .int x]) := by
  obtain ⟨A, nT, mo, nt, nc, nf, hM, hR, hH⟩ := hI
  have hnc := hM.2.2.1.1
  refine zP_post (k_machine sg ta sg A nT mo nt nc nf x hM hR) (fun v s t h => ?_)
  by_cases g : 1 ≤ x ∧ x ≤ 6
  · obtain ⟨h1, h2⟩ := h.2 g
    by_cases g3 : nc = 3
    · obtain ⟨rfl, rfl, rfl⟩ := h1 g3
      refine ⟨_, rfl, zP_post (j_machine s t nc x hM.2.2.1.2.1 hnc) (fun v' s' t' h' => ?_)⟩
      obtain ⟨rfl, -, h6⟩ := h'
      obtain ⟨rfl, rfl⟩ := (h6 g).1 g3
      exact ⟨rfl, fin_no hM hR hH (perS_refl _)⟩
    · obtain ⟨rfl, hok⟩ := h2 (by omega)
      refine ⟨_, rfl, zP_post (j_machine s t nc x (MoOk_keep hok.1 hM).2.2.1.2.1 hnc) (fun v' s' t' h' => ?_)⟩
      obtain ⟨rfl, -, h6⟩ := h'
      obtain ⟨rfl, rfl⟩ := (h6 g).2 (by omega)
      refine ⟨rfl, fin_ok hok ?_ ?_⟩
      · unfold uMach uCh
        exact lowEq_up3 (by omega) (lowEq_up3 (by omega) (lowEq_up3 (by omega) (lowEq_upR (by omega) (lowEq_upR (by omega) (lowEq_up3 (by omega) (lowEq_refl s))))))
      · unfold uMach uCh
        rw [hok.1 25 (by omega), hok.1 26 (by omega)]
        exact memEq_up3 (memEq_up3 (memEq_up3 (memEq_upR (memEq_upR (memEq_up3 (memEq_keep hok.1))))))
  · obtain ⟨rfl, rfl, rfl⟩ := h.1 g
    refine ⟨_, rfl, zP_post (j_machine s t nc x hM.2.2.1.2.1 hnc) (fun v' s' t' h' => ?_)⟩
    obtain ⟨rfl, h6, -⟩ := h'
    obtain ⟨rfl, rfl⟩ := h6 g
    exact ⟨rfl, fin_no hM hR hH (perS_refl _)⟩
theorem l_step (sg : zI) (ta : zJ) (x y z w : Int32) (hI : Inv sg ta) : zP yX7_step mX7_step 3 [.ref (nm 0 0), .int x, .int y, .int z, .int w] sg ta (both yX8_step mX8_step 1 [.ref (nm 20 0), .int x, .int y, .int z, .int w]) := by
  obtain ⟨A, nT, mo, nt, nc, nf, hM, hR, hH⟩ := hI
  have hA := hM.1.1
  refine zP_post (k_step sg ta sg A nT mo nt nc nf x y z w hM hR) (fun v s t h => ?_)
  by_cases g : tk nc x
  · obtain ⟨i, hi, e⟩ := id g
    obtain ⟨⟨q, q1, q6, hq⟩, -, -⟩ := hM.2.2.1.2.2 i hi
    obtain ⟨h1, h2⟩ := h.2 i q hi e hq q6
    by_cases g2 : tk q y ∧ tk A z ∧ tk q w
    · obtain ⟨⟨st, k1, e1⟩, ⟨a, k2, e2⟩, u, k3, e3⟩ := id g2
      obtain ⟨rfl, hok⟩ := h2 st a u k1 k2 k3 e1 e2 e3
      have hM' := MoOk_keep hok.1 hM
      refine ⟨_, rfl, zP_post (j_step s t A nc x y z w hA hM'.1.2.2.2.2.1 hM'.2.2.1) (fun v' s' t' h' => ?_)⟩
      obtain ⟨rfl, -, h6⟩ := h'
      obtain ⟨rfl, rfl⟩ := (h6 i q hi e (by rw [hok.1 24 (by omega)]; exact hq) q6).2 st a u k1 k2 k3 e1 e2 e3
      refine ⟨by rw [hok.1 25 (by omega)], fin_ok hok ?_ ?_⟩
      · unfold uStep uCh; repeat (refine lowEq_up3 (by omega) ?_)
        exact lowEq_refl s
      · unfold uStep uCh; repeat (refine memEq_up3 ?_)
        exact memEq_keep hok.1
    · obtain ⟨rfl, rfl, rfl⟩ := h1 g2
      refine ⟨_, rfl, zP_post (j_step s t A nc x y z w hA hM.1.2.2.2.2.1 hM.2.2.1) (fun v' s' t' h' => ?_)⟩
      obtain ⟨rfl, -, h6⟩ := h'
      obtain ⟨rfl, rfl⟩ := (h6 i q hi e hq q6).1 g2
      exact ⟨rfl, fin_no hM hR hH (perS_refl _)⟩
  · obtain ⟨rfl, rfl, rfl⟩ := h.1 g
    refine ⟨_, rfl, zP_post (j_step s t A nc x y z w hA hM.1.2.2.2.2.1 hM.2.2.1) (fun v' s' t' h' => ?_)⟩
    obtain ⟨rfl, h6, -⟩ := h'
    obtain ⟨rfl, rfl⟩ := h6 g
    exact ⟨rfl, fin_no hM hR hH (perS_refl _)⟩
theorem l_good (sg : zI) (ta : zJ) (x y z : Int32) (hz : z = 0 ∨ z = 1) (hI : Inv sg ta) : zP yX7_good mX7_good 3 [.ref (nm 0 0), .int x, .int y, .int z] sg ta (both yX8_good mX8_good 1 [.ref (nm 20 0), .int x, .int y, .int z]) := by
  obtain ⟨A, nT, mo, nt, nc, nf, hM, hR, hH⟩ := hI
  refine zP_post (k_good sg ta sg A nT mo nt nc nf x y z hz hM hR) (fun v s t h => ?_)
  by_cases g : tk nc x
  · obtain ⟨i, hi, e⟩ := id g
    obtain ⟨⟨q, q1, q6, hq⟩, -, -⟩ := hM.2.2.1.2.2 i hi
    obtain ⟨h1, h2⟩ := h.2 i q hi e hq q6
    by_cases g2 : tk q y
    · obtain ⟨st, k1, e1⟩ := id g2
      obtain ⟨rfl, hok⟩ := h2 st k1 e1
      have hM' := MoOk_keep hok.1 hM
      refine ⟨_, rfl, zP_post (j_good s t nc x y z hz hM'.2.2.1) (fun v' s' t' h' => ?_)⟩
      obtain ⟨rfl, -, h6⟩ := h'
      obtain ⟨rfl, rfl⟩ := (h6 i q hi e (by rw [hok.1 24 (by omega)]; exact hq) q6).2 st k1 e1
      refine ⟨by rw [hok.1 26 (by omega)], fin_ok hok ?_ ?_⟩
      · unfold uGood uCh; repeat (refine lowEq_up3 (by omega) ?_)
        exact lowEq_refl s
      · unfold uGood uCh; repeat (refine memEq_up3 ?_)
        exact memEq_keep hok.1
    · obtain ⟨rfl, rfl, rfl⟩ := h1 g2
      refine ⟨_, rfl, zP_post (j_good s t nc x y z hz hM.2.2.1) (fun v' s' t' h' => ?_)⟩
      obtain ⟨rfl, -, h6⟩ := h'
      obtain ⟨rfl, rfl⟩ := (h6 i q hi e hq q6).1 g2
      exact ⟨rfl, fin_no hM hR hH (perS_refl _)⟩
  · obtain ⟨rfl, rfl, rfl⟩ := h.1 g
    refine ⟨_, rfl, zP_post (j_good s t nc x y z hz hM.2.2.1) (fun v' s' t' h' => ?_)⟩
    obtain ⟨rfl, h6, -⟩ := h'
    obtain ⟨rfl, rfl⟩ := h6 g
    exact ⟨rfl, fin_no hM hR hH (perS_refl _)⟩
theorem l_formula (sg : zI) (ta : zJ) (x a b c d : Int32) (hI : Inv sg ta) : zP yX7_formula mX7_formula 3 [.ref (nm 0 0), .int x, .int a, .int b, .int c, .int d] sg ta (both yX8_formula mX8_formula 2 [.ref (nm 20 0), .int x, .int a, .int b, .int c, .int d]) := by
  obtain ⟨A, nT, mo, nt, nc, nf, hM, hR, hH⟩ := hI
  have J : ∀ s t, MoOk s A nT mo nt nc nf → _ := fun s t hM' => j_formula s t nt nc nf x a b c d hM'.2.1.2.1 hM'.2.1.1 hM'.2.2.1.2.1 hM'.2.2.1.1 hM'.2.2.2.2.1 hM'.2.2.2.1
  have hnf := hM.2.2.2.1
  refine zP_post (k_formula sg ta sg A nT mo nt nc nf x a b c d hM hR) (fun v s t h => ?_)
  by_cases g : 0 ≤ x ∧ x ≤ 6
  · obtain ⟨h1, h2⟩ := h.2 g
    by_cases g2 : tk nt a ∧ othOk (nI nt) (nI nc) x b c d
    · obtain ⟨h3, h4⟩ := h2 g2.1 g2.2
      by_cases g3 : numOk x b c
      · obtain ⟨h5, h6⟩ := h4 g3
        by_cases g4 : nf = 10
        · obtain ⟨rfl, rfl, rfl⟩ := h5 g4
          refine ⟨_, rfl, zP_post (J s t hM) (fun v' s' t' h' => ?_)⟩
          obtain ⟨rfl, -, h7⟩ := h'
          obtain ⟨rfl, rfl⟩ := (((h7 g).2 g2.1 g2.2).2 g3).1 g4
          exact ⟨rfl, fin_no hM hR hH (perS_refl _)⟩
        · obtain ⟨rfl, hok⟩ := h6 (by omega)
          refine ⟨_, rfl, zP_post (J s t (MoOk_keep hok.1 hM)) (fun v' s' t' h' => ?_)⟩
          obtain ⟨rfl, -, h7⟩ := h'
          obtain ⟨rfl, rfl⟩ := (((h7 g).2 g2.1 g2.2).2 g3).2 (by omega)
          refine ⟨rfl, fin_ok hok ?_ ?_⟩
          · unfold uForm uCh; repeat (refine lowEq_up3 (by omega) ?_)
            exact lowEq_refl s
          · unfold uForm uCh; repeat (refine memEq_up3 ?_)
            exact memEq_keep hok.1
      · obtain ⟨rfl, rfl, rfl⟩ := h3 g3
        refine ⟨_, rfl, zP_post (J s t hM) (fun v' s' t' h' => ?_)⟩
        obtain ⟨rfl, -, h7⟩ := h'
        obtain ⟨rfl, rfl⟩ := ((h7 g).2 g2.1 g2.2).1 g3
        exact ⟨rfl, fin_no hM hR hH (perS_refl _)⟩
    · obtain ⟨rfl, rfl, rfl⟩ := h1 g2
      refine ⟨_, rfl, zP_post (J s t hM) (fun v' s' t' h' => ?_)⟩
      obtain ⟨rfl, -, h7⟩ := h'
      obtain ⟨rfl, rfl⟩ := (h7 g).1 g2
      exact ⟨rfl, fin_no hM hR hH (perS_refl _)⟩
  · obtain ⟨rfl, rfl, rfl⟩ := h.1 g
    refine ⟨_, rfl, zP_post (J s t hM) (fun v' s' t' h' => ?_)⟩
    obtain ⟨rfl, h7, -⟩ := h'
    obtain ⟨rfl, rfl⟩ := h7 g
    exact ⟨rfl, fin_no hM hR hH (perS_refl _)⟩
theorem l_deny (sg : zI) (ta : zJ) (x z : Int32) (hz : z = 0 ∨ z = 1) (hI : Inv sg ta) : zP yX7_deny mX7_deny 3 [.ref (nm 0 0), .int x, .int z] sg ta (both yX8_deny mX8_deny 1 [.ref (nm 20 0), .int x, .int z]) := by
  obtain ⟨A, nT, mo, nt, nc, nf, hM, hR, hH⟩ := hI
  have J : ∀ s t, MoOk s A nT mo nt nc nf → _ := fun s t hM' => j_deny s t nf x z hz hM'.2.2.2.1 hM'.2.2.2.2.1 (fun f hf => by obtain ⟨-, -, -, -, -, -, -, -, -, h9, h10⟩ := hM'.2.2.2.2.2 f hf; exact h9)
  refine zP_post (k_deny sg ta sg A nT mo nt nc nf x z hz hM hR) (fun v s t h => ?_)
  by_cases g : tk nf x
  · obtain ⟨f, hf, e⟩ := id g
    obtain ⟨rfl, hok⟩ := h.2 f hf e
    refine ⟨_, rfl, zP_post (J s t (MoOk_keep hok.1 hM)) (fun v' s' t' h' => ?_)⟩
    obtain ⟨rfl, -, h6⟩ := h'
    obtain ⟨rfl, rfl⟩ := h6 f hf e
    refine ⟨by rw [hok.1 32 (by omega)], fin_ok hok ?_ ?_⟩
    · unfold uDeny uCh; repeat (refine lowEq_up3 (by omega) ?_)
      exact lowEq_refl s
    · unfold uDeny uCh; repeat (refine memEq_up3 ?_)
      exact memEq_keep hok.1
  · obtain ⟨rfl, rfl, rfl⟩ := h.1 g
    refine ⟨_, rfl, zP_post (J s t hM) (fun v' s' t' h' => ?_)⟩
    obtain ⟨rfl, h6, -⟩ := h'
    obtain ⟨rfl, rfl⟩ := h6 g
    exact ⟨rfl, fin_no hM hR hH (perS_refl _)⟩
theorem l_leave (sg : zI) (ta : zJ) (x z : Int32) (hz : z = 0 ∨ z = 1) (hI : Inv sg ta) : zP yX7_leave mX7_leave 3 [.ref (nm 0 0), .int x, .int z] sg ta (both yX8_leave mX8_leave 1 [.ref (nm 20 0), .int x, .int z]) := by
  obtain ⟨A, nT, mo, nt, nc, nf, hM, hR, hH⟩ := hI
  have J : ∀ s t, MoOk s A nT mo nt nc nf → _ := fun s t hM' => j_leave s t nf x z hz hM'.2.2.2.1 hM'.2.2.2.2.1 (fun f hf => by obtain ⟨-, -, -, -, -, -, -, -, -, h9, h10⟩ := hM'.2.2.2.2.2 f hf; exact h10)
  refine zP_post (k_leave sg ta sg A nT mo nt nc nf x z hz hM hR) (fun v s t h => ?_)
  by_cases g : tk nf x
  · obtain ⟨f, hf, e⟩ := id g
    obtain ⟨rfl, hok⟩ := h.2 f hf e
    refine ⟨_, rfl, zP_post (J s t (MoOk_keep hok.1 hM)) (fun v' s' t' h' => ?_)⟩
    obtain ⟨rfl, -, h6⟩ := h'
    obtain ⟨rfl, rfl⟩ := h6 f hf e
    refine ⟨by rw [hok.1 33 (by omega)], fin_ok hok ?_ ?_⟩
    · unfold uLeave uCh; repeat (refine lowEq_up3 (by omega) ?_)
      exact lowEq_refl s
    · unfold uLeave uCh; repeat (refine memEq_up3 ?_)
      exact memEq_keep hok.1
  · obtain ⟨rfl, rfl, rfl⟩ := h.1 g
    refine ⟨_, rfl, zP_post (J s t hM) (fun v' s' t' h' => ?_)⟩
    obtain ⟨rfl, h6, -⟩ := h'
    obtain ⟨rfl, rfl⟩ := h6 g
    exact ⟨rfl, fin_no hM hR hH (perS_refl _)⟩
