/-! formulas in the ways -/
noncomputable def Lw (A : Nat) (mo : Nat → Nat) (nT w : Nat) : Nat → Int32 := fun t => nI (vec mo nT (kOf A mo nT w) t)
noncomputable def Sw (A : Nat) (mo : Nat → Nat) (nT w : Nat) : Nat → Int32 := fun t => nI (psum (vec mo nT (kOf A mo nT w)) t)
noncomputable def Rw (A : Nat) (mo : Nat → Nat) (nT w : Nat) : Nat → Int32 := fun j => nI (wLet A mo nT w j)
/-- a part, and a term, that is sound for A letters and nT texts -/
def PV (A nT : Nat) (p : Int32) : Prop := (∃ a, a < A ∧ p = nI a) ∨ ∃ t, t < nT ∧ p = nI (8 + t)
def TV (sg : zI) (A nT : Nat) (x : Int32) : Prop := ∃ n, n ≤ 6 ∧ sg 11 (tIdx x) 1 = nI n ∧ ∀ j, j < n → PV A nT (sg 12 (tIdx x) j)
def FV (sg : zI) (A nT f : Nat) : Prop := ∃ kd, kd ≤ 6 ∧ sg 17 f 2 = nI kd ∧ TV sg A nT (sg 17 f 3) ∧ (kd ≠ 2 → kd ≠ 5 → TV sg A nT (sg 17 f 4)) ∧ (kd = 2 → ∃ m, m < 3 ∧ sg 17 f 4 = nI m) ∧ (kd = 5 → ∃ p q, 2 ≤ p ∧ p ≤ 16 ∧ q < p ∧ sg 17 f 4 = nI p ∧ sg 17 f 5 = nI q) ∧ (kd = 6 → TV sg A nT (sg 17 f 5) ∧ TV sg A nT (sg 17 f 6))
noncomputable def spW (sg : zI) (A nT : Nat) (mo : Nat → Nat) (w : Nat) (x : Int32) : List Int32 := spl (sg 12 (tIdx x)) (Lw A mo nT w) (Sw A mo nT w) (Rw A mo nT w) (sg 11 (tIdx x) 1).toNatClampNeg
def trW (sg : zI) (A nT : Nat) (mo : Nat → Nat) (w f : Nat) : Prop := trP (sg 17 f 2) (sg 17 f 3) (sg 17 f 4) (sg 17 f 5) (sg 17 f 6) (spW sg A nT mo w) (mxC sg)
theorem psum_mono {v : Nat → Nat} {t n : Nat} (h : t < n) : psum v t + v t ≤ psum v n := by
  induction n with
  | zero => omega
  | succ n ih =>
    by_cases g : t = n
    · subst g; simp only [psum]; omega
    · have := ih (by omega); simp only [psum]; omega
theorem PV_letter {a : Nat} (h : a < 8) : nI a - 8 < 0 := pk_sneg (b := 8) (by omega) h
theorem PV_text (t : Nat) : nI (8 + t) - 8 = nI t := by
  have := pk_sub (a := 8 + t) (b := 8) (by omega)
  rw [show 8 + t - 8 = t by omega] at this
  exact this
theorem psum20 {nT : Nat} {v : Nat → Nat} (hT : nT ≤ 4) (h5 : ∀ t, t < nT → v t ≤ 5) {t : Nat} (ht : t < nT) : psum v t + v t ≤ 20 := by
  have h1 := psum_mono (v := v) ht
  have h2 := psum_le h5 nT (Nat.le_refl _)
  omega
theorem TV_TOk {sg : zI} {A nT i k : Nat} {mo : Nat → Nat} {x : Int32} (hS : SpaceOk sg A nT mo) (hW : WayOk sg i A nT mo k) (h : TV sg A nT x) : TOk sg i x := by
  obtain ⟨n, h1, h2, h3⟩ := h
  refine ⟨n, h1, h2, fun j hj => ?_⟩
  have hA := hS.1
  have hT := hS.2.1
  rcases h3 j hj with ⟨a, ha, e⟩ | ⟨t, ht, e⟩
  · rw [e]; exact Or.inl (PV_letter (by omega))
  · rw [e]
    exact Or.inr ⟨t, _, _, PV_text t, by omega, hW.2.1 t ht, vec5 hS.2.2.1 t ht, hW.2.2.2.2.2 t ht, psum20 hT (vec5 hS.2.2.1) ht⟩
theorem spl_congr {p L S R L' S' R' : Nat → Int32} : ∀ n, (∀ j, j < n → splP L S R (p j) = splP L' S' R' (p j)) → spl p L S R n = spl p L' S' R' n
  | 0, _ => rfl
  | n + 1, h => by simp only [spl]; rw [spl_congr n (fun j hj => h j (by omega)), h n (by omega)]
theorem spC_W {sg : zI} {A nT i w : Nat} {mo : Nat → Nat} {x : Int32} (hS : SpaceOk sg A nT mo) (hW : WayOk sg i A nT mo (kOf A mo nT w)) (hR : ∀ j, j < wTot mo nT (kOf A mo nT w) → sg 6 i j = nI (wLet A mo nT w j)) (h : TV sg A nT x) : spC sg i x = spW sg A nT mo w x := by
  obtain ⟨n, h1, h2, h3⟩ := h
  unfold spC spW
  rw [h2, nI_clamp (by omega)]
  refine spl_congr n (fun j hj => ?_)
  have hA := hS.1
  have hT := hS.2.1
  rcases h3 j hj with ⟨a, ha, e⟩ | ⟨t, ht, e⟩
  · rw [e, splP_l (PV_letter (by omega)), splP_l (PV_letter (by omega))]
  · have v5 := vec5 (k := kOf A mo nT w) hS.2.2.1 t ht
    have p20 := psum20 hT (vec5 (k := kOf A mo nT w) hS.2.2.1) ht
    rw [e, splP_t (PV_text t) (by omega) (hW.2.1 t ht) v5 (hW.2.2.2.2.2 t ht) p20, splP_t (L := Lw A mo nT w) (S := Sw A mo nT w) (PV_text t) (by omega) rfl v5 rfl p20]
    apply List.map_congr_left
    intro q hq
    have hq2 := List.mem_range.mp hq
    have := psum_mono (v := vec mo nT (kOf A mo nT w)) ht
    exact hR _ (by unfold wTot; omega)
theorem FV_FOk {sg : zI} {A nT i k f : Nat} {mo : Nat → Nat} (hS : SpaceOk sg A nT mo) (hW : WayOk sg i A nT mo k) (h : FV sg A nT f) : FOk sg i f := by
  obtain ⟨kd, h1, h2, h3, h4, h5, h6, h7⟩ := h
  exact ⟨kd, h1, h2, TV_TOk hS hW h3, fun a b => TV_TOk hS hW (h4 a b), h5, h6, fun e => ⟨TV_TOk hS hW (h7 e).1, TV_TOk hS hW (h7 e).2⟩⟩
theorem trC_W {sg : zI} {A nT i w f : Nat} {mo : Nat → Nat} (hS : SpaceOk sg A nT mo) (hW : WayOk sg i A nT mo (kOf A mo nT w)) (hR : ∀ j, j < wTot mo nT (kOf A mo nT w) → sg 6 i j = nI (wLet A mo nT w j)) (h : FV sg A nT f) : trC sg f i ↔ trW sg A nT mo w f := by
  obtain ⟨kd, h1, h2, h3, h4, h5, h6, h7⟩ := h
  unfold trC trW
  rw [h2]
  have ea := spC_W hS hW hR h3
  rcases (show kd = 0 ∨ kd = 1 ∨ kd = 2 ∨ kd = 3 ∨ kd = 4 ∨ kd = 5 ∨ kd = 6 by omega) with rfl | rfl | rfl | rfl | rfl | rfl | rfl
  · rw [trP_0, trP_0, ea, spC_W hS hW hR (h4 (by omega) (by omega))]
  · rw [trP_1, trP_1, ea, spC_W hS hW hR (h4 (by omega) (by omega))]
  · rw [trP_2, trP_2, ea]
  · rw [trP_3, trP_3, ea, spC_W hS hW hR (h4 (by omega) (by omega))]
  · rw [trP_4, trP_4, ea, spC_W hS hW hR (h4 (by omega) (by omega))]
  · rw [trP_5, trP_5, ea]
  · rw [trP_6, trP_6, ea, spC_W hS hW hR (h4 (by omega) (by omega)), spC_W hS hW hR (h7 rfl).1, spC_W hS hW hR (h7 rfl).2]
/-- the bits: which formula was judged in which way, and so -/
def jd (ta : zJ) (f w : Nat) : Prop := lb (ta 18 f (w / 64)) (w % 64) = true
def so (ta : zJ) (f w : Nat) : Prop := lb (ta 19 f (w / 64)) (w % 64) = true
def CacheOk (sg : zI) (ta : zJ) (A nT : Nat) (mo : Nat → Nat) (nf : Nat) : Prop := ∀ f, f < nf → ∀ w, w < 8000 → (so ta f w → jd ta f w) ∧ (jd ta f w → w < wSize A mo nT → (so ta f w ↔ trW sg A nT mo w f))
/-- what the questions about models rest on -/
def QI (sg : zI) (ta : zJ) (A nT : Nat) (mo : Nat → Nat) (nf : Nat) : Prop := SpaceOk sg A nT mo ∧ (∃ k, WayOk sg 0 A nT mo k) ∧ nf ≤ 10 ∧ sg 0 0 9 = nI nf ∧ (∀ f, f < nf → FV sg A nT f ∧ (sg 17 f 7 = 0 ∨ sg 17 f 7 = 1)) ∧ CacheOk sg ta A nT mo nf
def frQ : List (Nat × Nat) := [(3, 0), (4, 0), (5, 0), (6, 0), (13, 0), (14, 0), (13, 1), (14, 1), (13, 2), (14, 2), (13, 3), (14, 3)]
theorem frQ_not {K j : Nat} (h : K ≠ 3 ∧ K ≠ 4 ∧ K ≠ 5 ∧ K ≠ 6 ∧ K ≠ 13 ∧ K ≠ 14) : (K, j) ∉ frQ := by
  unfold frQ
  simp
  omega
theorem frQ_rows {a b : zI} (h : frm rowsFr a b) : frm frQ a b := frm_mono (by unfold rowsFr frQ; intro q hq; simp at hq ⊢; rcases hq with h | h | h | h | h | h | h | h <;> simp [h]) h
theorem frQ_way {a b : zI} (h : frm [(3, 0), (4, 0), (5, 0), (6, 0)] a b) : frm frQ a b := frm_mono (by unfold frQ; intro q hq; simp at hq ⊢; rcases hq with h | h | h | h <;> simp [h]) h
theorem frQ_way3 {a b : zI} (h : frm [(3, 0), (4, 0), (5, 0)] a b) : frm frQ a b := frm_mono (by unfold frQ; intro q hq; simp at hq ⊢; rcases hq with h | h | h <;> simp [h]) h
theorem TV_frm {a b : zI} (h : frm frQ a b) {A nT : Nat} {x : Int32} (ht : TV a A nT x) : TV b A nT x := by
  unfold TV at *
  rw [h 11 _ (frQ_not (by omega)), h 12 _ (frQ_not (by omega))]
  exact ht
theorem FV_frm {a b : zI} (h : frm frQ a b) {A nT f : Nat} (ht : FV a A nT f) : FV b A nT f := by
  unfold FV at *
  rw [h 17 _ (frQ_not (by omega))]
  obtain ⟨kd, h1, h2, h3, h4, h5, h6, h7⟩ := ht
  exact ⟨kd, h1, h2, TV_frm h h3, fun p q => TV_frm h (h4 p q), h5, h6, fun e => ⟨TV_frm h (h7 e).1, TV_frm h (h7 e).2⟩⟩
theorem trW_frm {a b : zI} (h : frm frQ a b) (A nT : Nat) (mo : Nat → Nat) (w f : Nat) : trW b A nT mo w f ↔ trW a A nT mo w f := by
  have e1 : spW b A nT mo w = spW a A nT mo w := by
    funext x
    unfold spW
    rw [h 11 _ (frQ_not (by omega)), h 12 _ (frQ_not (by omega))]
  have e2 : mxC b = mxC a := by
    funext x l
    unfold mxC
    rw [h 15 _ (frQ_not (by omega)), h 16 _ (frQ_not (by omega))]
  unfold trW
  rw [h 17 _ (frQ_not (by omega)), e1, e2]
theorem QI_frm {a b : zI} {ta : zJ} (h : frm frQ a b) {A nT : Nat} {mo : Nat → Nat} {nf : Nat} (hq : QI a ta A nT mo nf) (hw : ∃ k, WayOk b 0 A nT mo k) : QI b ta A nT mo nf := by
  obtain ⟨h1, h2, h3, h4, h5, h6⟩ := hq
  refine ⟨SpaceOk_frm h1 h (frQ_not (by omega)) (frQ_not (by omega)), hw, h3, by rw [h 0 0 (frQ_not (by omega))]; exact h4, fun f hf => ⟨FV_frm h (h5 f hf).1, by rw [h 17 f (frQ_not (by omega))]; exact (h5 f hf).2⟩, fun f hf w hw => ?_⟩
  obtain ⟨a1, a2⟩ := h6 f hf w hw
  exact ⟨a1, fun j hs => by rw [trW_frm h]; exact a2 j hs⟩
theorem WayOk_rows {a b : zI} (h : frm rowsFr a b) {i A nT k : Nat} {mo : Nat → Nat} (hw : WayOk a i A nT mo k) : WayOk b i A nT mo k := by
  unfold WayOk at *
  rw [h 3 i (rowsFr_not (by omega)), h 4 i (rowsFr_not (by omega)), h 5 i (rowsFr_not (by omega))]
  exact hw
/-- a way in which the formulas of a mask are as they are to be -/
def mdl (sg : zI) (A nT : Nat) (mo : Nat → Nat) (nf : Nat) (x : Int32) (w : Nat) : Prop := ∀ f, f < nf → inM x (nI f) → (trW sg A nT mo w f ↔ sg 17 f 7 = 0)
theorem mdl_frm {a b : zI} (h : frm frQ a b) (A nT : Nat) (mo : Nat → Nat) (nf : Nat) (x : Int32) (w : Nat) : mdl b A nT mo nf x w ↔ mdl a A nT mo nf x w := by
  unfold mdl
  constructor
  · intro q f hf hi
    have := q f hf hi
    rw [trW_frm h, h 17 f (frQ_not (by omega))] at this
    exact this
  · intro q f hf hi
    rw [trW_frm h, h 17 f (frQ_not (by omega))]
    exact q f hf hi
theorem wdiv {w v : Nat} (h1 : v / 64 = w / 64) (h2 : v % 64 = w % 64) : v = w := by omega
theorem Cache_keep {sg : zI} {ta : zJ} {A nT nf f w : Nat} {mo : Nat → Nat} {x : Int32} (hC : CacheOk sg ta A nT mo nf) (hf : f < nf) (hw : w < 8000) (hn : ¬ jd ta f w) (hx : ¬ x = 0 ↔ trW sg A nT mo w f) :
    CacheOk sg (up3l (up3l ta 18 f (w / 64) (setb (ta 18 f (w / 64)) (w % 64) True)) 19 f (w / 64) (setb (ta 19 f (w / 64)) (w % 64) (¬ x = 0))) A nT mo nf ∧ jd (up3l (up3l ta 18 f (w / 64) (setb (ta 18 f (w / 64)) (w % 64) True)) 19 f (w / 64) (setb (ta 19 f (w / 64)) (w % 64) (¬ x = 0))) f w := by
  have hk : w % 64 < 64 := by omega
  have key : ∀ g v, (jd (up3l (up3l ta 18 f (w / 64) (setb (ta 18 f (w / 64)) (w % 64) True)) 19 f (w / 64) (setb (ta 19 f (w / 64)) (w % 64) (¬ x = 0))) g v ↔ jd ta g v ∨ (g = f ∧ v = w)) ∧ (so (up3l (up3l ta 18 f (w / 64) (setb (ta 18 f (w / 64)) (w % 64) True)) 19 f (w / 64) (setb (ta 19 f (w / 64)) (w % 64) (¬ x = 0))) g v ↔ so ta g v ∨ (g = f ∧ v = w ∧ ¬ x = 0)) := by
    intro g v
    have hv : v % 64 < 64 := by omega
    unfold jd so
    constructor
    · rw [up3l_off (by omega), up3l_get]
      by_cases hg : g = f ∧ v / 64 = w / 64
      · obtain ⟨rfl, e⟩ := hg
        rw [if_pos ⟨rfl, rfl, e⟩, lb_setb _ hk _ hv, ← e]
        constructor
        · rintro (q | ⟨q, -⟩)
          · exact Or.inl q
          · exact Or.inr ⟨rfl, wdiv e q⟩
        · rintro (q | ⟨-, q⟩)
          · exact Or.inl q
          · subst q; exact Or.inr ⟨rfl, trivial⟩
      · rw [if_neg (fun q => hg ⟨q.2.1, q.2.2⟩)]
        constructor
        · exact Or.inl
        · rintro (q | ⟨q1, q2⟩)
          · exact q
          · subst q1; subst q2; exact absurd ⟨rfl, rfl⟩ hg
    · rw [up3l_get, up3l_off (by omega)]
      by_cases hg : g = f ∧ v / 64 = w / 64
      · obtain ⟨rfl, e⟩ := hg
        rw [if_pos ⟨rfl, rfl, e⟩, lb_setb _ hk _ hv, ← e]
        constructor
        · rintro (q | ⟨q, q2⟩)
          · exact Or.inl q
          · exact Or.inr ⟨rfl, wdiv e q, q2⟩
        · rintro (q | ⟨-, q, q2⟩)
          · exact Or.inl q
          · subst q; exact Or.inr ⟨rfl, q2⟩
      · rw [if_neg (fun q => hg ⟨q.2.1, q.2.2⟩)]
        constructor
        · exact Or.inl
        · rintro (q | ⟨q1, q2, -⟩)
          · exact q
          · subst q1; subst q2; exact absurd ⟨rfl, rfl⟩ hg
  refine ⟨fun g hg v hv => ?_, (key f w).1.mpr (Or.inr ⟨rfl, rfl⟩)⟩
  rw [(key g v).1, (key g v).2]
  obtain ⟨c1, c2⟩ := hC g hg v hv
  by_cases e : g = f ∧ v = w
  · obtain ⟨rfl, rfl⟩ := e
    refine ⟨fun _ => Or.inr ⟨rfl, rfl⟩, fun _ hs => ?_⟩
    rw [← hx]
    constructor
    · rintro (q | ⟨-, -, q⟩)
      · exact absurd (c1 q) hn
      · exact q
    · intro q; exact Or.inr ⟨rfl, rfl, q⟩
  · have e2 : ∀ P : Prop, ¬ (g = f ∧ v = w ∧ P) := fun P q => e ⟨q.1, q.2.1⟩
    refine ⟨fun q => ?_, fun q hs => ?_⟩
    · rcases q with q | q
      · exact Or.inl (c1 q)
      · exact absurd q (e2 _)
    · rcases q with q | q
      · rw [← c2 q hs]
        constructor
        · rintro (r | r)
          · exact r
          · exact absurd r (e2 _)
        · exact Or.inl
      · exact absurd q e
