/-! THE WORDS of the reference's memory: what a term is, which rows a machine takes, which formulas are so, models, lengths -/
noncomputable def spM (mu : zI) (A nT : Nat) (mo : Nat → Nat) (w : Nat) (x : Int32) : List Int32 := @ite _ (x = -1) (Classical.propDecidable _) [] (spl (fun j => mu 23 0 (6 * x.toNatClampNeg + j)) (Lw A mo nT w) (Sw A mo nT w) (Rw A mo nT w) (mu 22 0 x.toNatClampNeg).toNatClampNeg)
def mrM (mu : zI) (b : Nat) (f : Nat → Int32) : Nat → Nat
  | 0 => 0
  | n + 1 => (mu 25 0 (18 * b + 3 * mrM mu b f n + (f n).toNatClampNeg)).toNatClampNeg
def mxM (mu : zI) (b : Int32) (l : List Int32) : Prop := mu 26 0 (6 * b.toNatClampNeg + mrM mu b.toNatClampNeg (fn l) l.length) = 1
def trM (mu : zI) (A nT : Nat) (mo : Nat → Nat) (w f : Nat) : Prop := trP (mu 27 0 f) (mu 28 0 f) (mu 29 0 f) (mu 30 0 f) (mu 31 0 f) (spM mu A nT mo w) (mxM mu)
def mdlM (mu : zI) (A nT : Nat) (mo : Nat → Nat) (nf m w : Nat) : Prop := ∀ f, f < nf → m.testBit f = true → (trM mu A nT mo w f ↔ mu 32 0 f = 0)
noncomputable def mN (mu : zI) (A nT : Nat) (mo : Nat → Nat) (nf m w : Nat) : Nat := @ite Nat (mdlM mu A nT mo nf m w) (Classical.propDecidable _) 1 0
def hMM (mu : zI) (A nT : Nat) (mo : Nat → Nat) (nf m : Nat) : Prop := ∃ w, w < wSize A mo nT ∧ mdlM mu A nT mo nf m w
def mask0 (mu : zI) (nf m : Nat) : Prop := m < 1024 ∧ ∀ f, f < 10 → (m.testBit f = true ↔ f < nf ∧ mu 33 0 f = 0)
noncomputable def lenM (mu : zI) (mo : Nat → Nat) (nT k : Nat) (x : Int32) : Nat := @ite _ (x = -1) (Classical.propDecidable _) 0 (spl (fun j => mu 23 0 (6 * x.toNatClampNeg + j)) (fun t => nI (vec mo nT k t)) (fun t => nI (psum (vec mo nT k) t)) (fun _ => 0) (mu 22 0 x.toNatClampNeg).toNatClampNeg).length
def fit1M (mu : zI) (mo : Nat → Nat) (nT k f : Nat) : Prop := (mu 27 0 f = 1 → ((mu 30 0 f).toInt ≤ (lenM mu mo nT k (mu 28 0 f) : Int) - lenM mu mo nT k (mu 29 0 f) ↔ mu 32 0 f = 0)) ∧ (mu 27 0 f = 0 → mu 32 0 f = 0 → lenM mu mo nT k (mu 28 0 f) = lenM mu mo nT k (mu 29 0 f))
def fitKM (mu : zI) (mo : Nat → Nat) (nT nf k : Nat) : Prop := ∀ f, f < nf → mu 33 0 f = 0 → fit1M mu mo nT k f
noncomputable def fitNM (mu : zI) (mo : Nat → Nat) (nT nf k : Nat) : Nat := @ite Nat (fitKM mu mo nT nf k) (Classical.propDecidable _) 1 0
def nxM (mu : zI) (i s a : Nat) : Nat := (mu 25 0 (18 * i + 3 * s + a)).toNatClampNeg
theorem spl_congrP {p p' L S R : Nat → Int32} : ∀ n, (∀ j, j < n → p j = p' j) → spl p L S R n = spl p' L S R n
  | 0, _ => rfl
  | n + 1, h => by simp only [spl]; rw [spl_congrP n (fun j hj => h j (by omega)), h n (by omega)]
theorem nI_m1 {t : Nat} (h : t < 2 ^ 31) : ¬ nI t = -1 := fun e => by
  have := nI_pos (n := t) h
  rw [e] at this
  exact this (by decide)
theorem spW_M {sg mu : zI} {A nT nt w : Nat} {mo : Nat → Nat} {x : Int32} (hT : TeM mu A nT nt) (hR : TeR sg mu nt) (h : x = -1 ∨ tk nt x) : spW sg A nT mo w x = spM mu A nT mo w x := by
  unfold spW spM
  by_cases e : x = -1
  · rw [if_pos e, e, tIdx_m1, hR.2.1]; rfl
  · rw [if_neg e]
    obtain ⟨t, ht, rfl⟩ := h.resolve_left e
    have h12 := hT.1
    obtain ⟨n, h1, h2, h3⟩ := hT.2.2 t ht
    obtain ⟨r1, r2⟩ := hR.2.2 t ht
    rw [tIdx_nI (by omega), r1, nI_clamp (show t < 2 ^ 31 by omega), h2, nI_clamp (by omega)]
    exact spl_congrP n (fun j hj => r2 n h2 h1 j hj)
theorem lenK_M {sg mu : zI} {A nT nt k : Nat} {mo : Nat → Nat} {x : Int32} (hT : TeM mu A nT nt) (hR : TeR sg mu nt) (h : x = -1 ∨ tk nt x) : lenK sg mo nT k x = lenM mu mo nT k x := by
  unfold lenK lenM
  by_cases e : x = -1
  · rw [if_pos e, e, tIdx_m1, hR.2.1]; rfl
  · rw [if_neg e]
    obtain ⟨t, ht, rfl⟩ := h.resolve_left e
    have h12 := hT.1
    obtain ⟨n, h1, h2, h3⟩ := hT.2.2 t ht
    obtain ⟨r1, r2⟩ := hR.2.2 t ht
    rw [tIdx_nI (by omega), r1, nI_clamp (show t < 2 ^ 31 by omega), h2, nI_clamp (by omega)]
    rw [spl_congrP n (fun j hj => r2 n h2 h1 j hj)]
theorem wLet_lt {A : Nat} (hA : A = 2 ∨ A = 3) (mo : Nat → Nat) (nT w j : Nat) : wLet A mo nT w j < A := by
  unfold wLet
  by_cases h : j < wTot mo nT (kOf A mo nT w)
  · have := vec_le (fun _ => A - 1) (wTot mo nT (kOf A mo nT w)) (w - wFst A mo nT (kOf A mo nT w)) j h
    omega
  · rw [vec_big _ _ _ _ (by omega)]; omega
/-- every letter of a spelled term is a letter -/
theorem spl_let {A nT w : Nat} {mo : Nat → Nat} {p : Nat → Int32} (hA : A = 2 ∨ A = 3) (hT : nT ≤ 4) (hm : ∀ t, t < nT → mo t ≤ 5) : ∀ n, (∀ j, j < n → PV A nT (p j)) → ∀ x ∈ spl p (Lw A mo nT w) (Sw A mo nT w) (Rw A mo nT w) n, ∃ a, a < A ∧ x = nI a
  | 0, _, x, hx => by simp [spl] at hx
  | n + 1, h, x, hx => by
    simp only [spl, List.mem_append] at hx
    rcases hx with hx | hx
    · exact spl_let hA hT hm n (fun j hj => h j (by omega)) x hx
    · rcases h n (by omega) with ⟨a, ha, e⟩ | ⟨t, ht, e⟩
      · rw [e, splP_l (PV_letter (by omega))] at hx
        simp at hx
        exact ⟨a, ha, hx⟩
      · rw [e, splP_t (L := Lw A mo nT w) (S := Sw A mo nT w) (PV_text t) (by omega) rfl (vec5 hm t ht) rfl (psum20 hT (vec5 hm) ht)] at hx
        simp only [List.mem_map] at hx
        obtain ⟨i, -, rfl⟩ := hx
        exact ⟨_, wLet_lt hA mo nT w _, rfl⟩
theorem fn_mem {l : List Int32} {j : Nat} (h : j < l.length) : fn l j ∈ l := by
  unfold fn
  rw [List.getElem?_eq_getElem h]
  exact List.getElem_mem h
theorem spM_let {mu : zI} {A nT nt w : Nat} {mo : Nat → Nat} {x : Int32} (hS : SpM mu A nT mo) (hT : TeM mu A nT nt) (h : x = -1 ∨ tk nt x) : ∀ j, j < (spM mu A nT mo w x).length → ∃ a, a < A ∧ fn (spM mu A nT mo w x) j = nI a := by
  intro j hj
  have hm := fn_mem hj
  unfold spM at hm ⊢
  by_cases e : x = -1
  · unfold spM at hj; rw [if_pos e] at hj; simp at hj
  · rw [if_neg e] at hm ⊢
    obtain ⟨t, ht, rfl⟩ := h.resolve_left e
    have h12 := hT.1
    obtain ⟨n, h1, h2, h3⟩ := hT.2.2 t ht
    rw [nI_clamp (show t < 2 ^ 31 by omega), h2, nI_clamp (show n < 2 ^ 31 by omega)] at hm ⊢
    exact spl_let hS.1 hS.2.1 hS.2.2.1 n h3 _ hm
theorem mrM_lt {mu : zI} {nc i A : Nat} {f : Nat → Int32} (hA : A ≤ 3) (hM : MaM mu nc) (hi : i < nc) : ∀ n, (∀ j, j < n → ∃ a, a < A ∧ f j = nI a) → mrM mu i f n < 6
  | 0, _ => by simp [mrM]
  | n + 1, h => by
    have ih := mrM_lt hA hM hi n (fun j hj => h j (by omega))
    obtain ⟨a, ha, e⟩ := h n (by omega)
    obtain ⟨r, hr, e2⟩ := (hM.2.2 i hi).2.1 (mrM mu i f n) a ih (by omega)
    simp only [mrM]
    rw [e, nI_clamp (by omega), e2, nI_clamp (by omega)]
    exact hr
theorem mrun_M {sg mu : zI} {nc i A : Nat} {f : Nat → Int32} (hA : A ≤ 3) (hM : MaM mu nc) (hR : MaR sg mu nc) (hi : i < nc) : ∀ n, (∀ j, j < n → ∃ a, a < A ∧ f j = nI a) → mrun (mnx (sg 16 i)) f n = nI (mrM mu i f n)
  | 0, _ => rfl
  | n + 1, h => by
    have ih := mrun_M hA hM hR hi n (fun j hj => h j (by omega))
    have lt := mrM_lt hA hM hi n (fun j hj => h j (by omega))
    obtain ⟨a, ha, e⟩ := h n (by omega)
    obtain ⟨r, hr, e2⟩ := (hM.2.2 i hi).2.1 (mrM mu i f n) a lt (by omega)
    simp only [mrun, mrM]
    rw [ih, e, nI_clamp (show a < 2 ^ 31 by omega), e2, nI_clamp (show r < 2 ^ 31 by omega)]
    unfold mnx
    rw [show nI (mrM mu i f n) * 3 + nI a = nI (3 * mrM mu i f n + a) by rw [show nI (mrM mu i f n) * 3 = nI (mrM mu i f n * 3) from pk_mul _ 3, nI_add, Nat.mul_comm], sel_t (vp_in_nI (by omega) (by omega)), nI_clamp (by omega), (hR.2 i hi).2.1 _ a lt (by omega), e2]
theorem mx_M {sg mu : zI} {nc A : Nat} {b : Int32} {l : List Int32} (hA : A ≤ 3) (hM : MaM mu nc) (hR : MaR sg mu nc) (hb : tk nc b) (hl : ∀ j, j < l.length → ∃ a, a < A ∧ fn l j = nI a) : mxC sg b l ↔ mxM mu b l := by
  obtain ⟨i, hi, rfl⟩ := hb
  have := hM.1
  unfold mxC mxM
  rw [nI_clamp (show i < 2 ^ 31 by omega), mrun_M hA hM hR hi _ hl]
  exact (hR.2 i hi).2.2 _ (mrM_lt hA hM hi _ hl)
theorem trW_M {sg : zI} {ta : zJ} {mu : zI} {A nT : Nat} {mo : Nat → Nat} {nt nc nf : Nat} (hM : MoOk mu A nT mo nt nc nf) (hR : RcOk sg ta mu A nT mo nt nc nf) {w f : Nat} (hf : f < nf) : trW sg A nT mo w f ↔ trM mu A nT mo w f := by
  obtain ⟨kd, h1, h2, h3, h4, h5, h6, h7, h8, h9, h10⟩ := hM.2.2.2.2.2 f hf
  obtain ⟨e2, e3, e4, e5, e6, e7, e8⟩ := hR.2.2.2.2.1.2 f hf
  have hT := hM.2.1
  have hTR := hR.2.2.1
  unfold trW trM
  rw [e2, e3, e4, e5, e6, h2]
  have ea := spW_M (A := A) (nT := nT) (w := w) (mo := mo) hT hTR (Or.inr h3)
  have S : ∀ x, tk nt x → spW sg A nT mo w x = spM mu A nT mo w x := fun x h => spW_M hT hTR (Or.inr h)
  rcases (show kd = 0 ∨ kd = 1 ∨ kd = 2 ∨ kd = 3 ∨ kd = 4 ∨ kd = 5 ∨ kd = 6 by omega) with rfl | rfl | rfl | rfl | rfl | rfl | rfl
  · rw [trP_0, trP_0, ea, S _ (h4 (by omega) (by omega) (by omega))]
  · rw [trP_1, trP_1, ea, spW_M hT hTR (h5 rfl).1]
  · rw [trP_2, trP_2, ea]
    exact mx_M (A := A) (by have := hM.1.1; omega) hM.2.2.1 hR.2.2.2.1 (h6 rfl) (spM_let hM.1 hT (Or.inr h3))
  · rw [trP_3, trP_3, ea, S _ (h4 (by omega) (by omega) (by omega))]
  · rw [trP_4, trP_4, ea, S _ (h4 (by omega) (by omega) (by omega))]
  · rw [trP_5, trP_5, ea]
  · rw [trP_6, trP_6, ea, S _ (h4 (by omega) (by omega) (by omega)), S _ (h8 rfl).1, S _ (h8 rfl).2]
theorem mdl_M {sg : zI} {ta : zJ} {mu : zI} {A nT : Nat} {mo : Nat → Nat} {nt nc nf : Nat} (hM : MoOk mu A nT mo nt nc nf) (hR : RcOk sg ta mu A nT mo nt nc nf) {m w : Nat} (hm : m < 1024) : mdl sg A nT mo nf (nI m) w ↔ mdlM mu A nT mo nf m w := by
  have hnf := hM.2.2.2.1
  unfold mdl mdlM
  constructor
  · intro h f hf hb
    have := h f hf ((inM_iff hm (by omega)).mpr hb)
    rw [trW_M hM hR hf, (hR.2.2.2.2.1.2 f hf).2.2.2.2.2.1] at this
    exact this
  · intro h f hf hb
    have := h f hf ((inM_iff hm (by omega)).mp hb)
    rw [trW_M hM hR hf, (hR.2.2.2.2.1.2 f hf).2.2.2.2.2.1]
    exact this
theorem mN_t {mu : zI} {A nT : Nat} {mo : Nat → Nat} {nf m w : Nat} (h : mdlM mu A nT mo nf m w) : mN mu A nT mo nf m w = 1 := by unfold mN; rw [if_pos h]
theorem mN_f {mu : zI} {A nT : Nat} {mo : Nat → Nat} {nf m w : Nat} (h : ¬ mdlM mu A nT mo nf m w) : mN mu A nT mo nf m w = 0 := by unfold mN; rw [if_neg h]
theorem isMn_M {sg : zI} {ta : zJ} {mu : zI} {A nT : Nat} {mo : Nat → Nat} {nt nc nf : Nat} (hM : MoOk mu A nT mo nt nc nf) (hR : RcOk sg ta mu A nT mo nt nc nf) {m w : Nat} (hm : m < 1024) (hw : w < wSize A mo nT) : isMn sg A nT mo nf (nI m) w = mN mu A nT mo nf m w := by
  by_cases h : mdlM mu A nT mo nf m w
  · rw [mN_t h, isMn_t ⟨hw, (mdl_M hM hR hm).mpr h⟩]
  · rw [mN_f h, isMn_f (fun q => h ((mdl_M hM hR hm).mp q.2))]
theorem sumN_z {f : Nat → Nat} {n : Nat} (h : ∀ j, n ≤ j → f j = 0) : ∀ k, sumN f (n + k) = sumN f n
  | 0 => rfl
  | k + 1 => by rw [← Nat.add_assoc]; simp only [sumN]; rw [sumN_z h k, h _ (by omega)]; rfl
theorem sumMn {sg : zI} {ta : zJ} {mu : zI} {A nT : Nat} {mo : Nat → Nat} {nt nc nf : Nat} (hM : MoOk mu A nT mo nt nc nf) (hR : RcOk sg ta mu A nT mo nt nc nf) {m : Nat} (hm : m < 1024) : (∀ w, w ≤ wSize A mo nT → sumN (isMn sg A nT mo nf (nI m)) w = sumN (mN mu A nT mo nf m) w) ∧ sumN (isMn sg A nT mo nf (nI m)) 8000 = sumN (mN mu A nT mo nf m) (wSize A mo nT) := by
  have h1 : ∀ w, w ≤ wSize A mo nT → sumN (isMn sg A nT mo nf (nI m)) w = sumN (mN mu A nT mo nf m) w := fun w hw => sumN_congr w (fun k hk => isMn_M hM hR hm (by omega))
  refine ⟨h1, ?_⟩
  have h8 := hM.1.2.2.2.1
  obtain ⟨k, hk⟩ : ∃ k, 8000 = wSize A mo nT + k := ⟨8000 - wSize A mo nT, by omega⟩
  rw [hk, sumN_z (fun j hj => isMn_f (fun q => absurd q.1 (by omega))), h1 _ (Nat.le_refl _)]
theorem hasM_M {sg : zI} {ta : zJ} {mu : zI} {A nT : Nat} {mo : Nat → Nat} {nt nc nf : Nat} (hM : MoOk mu A nT mo nt nc nf) (hR : RcOk sg ta mu A nT mo nt nc nf) {m : Nat} (hm : m < 1024) : hasM sg A nT mo nf m ↔ hMM mu A nT mo nf m :=
  ⟨fun ⟨w, a, b⟩ => ⟨w, a, (mdl_M hM hR hm).mp b⟩, fun ⟨w, a, b⟩ => ⟨w, a, (mdl_M hM hR hm).mpr b⟩⟩
theorem coreF_congr {H H' : Nat → Prop} (h : ∀ m, m < 1024 → (H m ↔ H' m)) : ∀ n m, m < 1024 → coreF H m n = coreF H' m n
  | 0, m, _ => rfl
  | n + 1, m, hm => by
    by_cases g : H (m &&& (1023 ^^^ 2 ^ n))
    · rw [coreF_t g, coreF_t ((h _ (mk_clr_lt hm)).mp g)]; exact coreF_congr h n m hm
    · rw [coreF_f g, coreF_f (fun q => g ((h _ (mk_clr_lt hm)).mpr q))]; exact coreF_congr h n _ (mk_clr_lt hm)
theorem fitN_M {sg : zI} {ta : zJ} {mu : zI} {A nT : Nat} {mo : Nat → Nat} {nt nc nf : Nat} (hM : MoOk mu A nT mo nt nc nf) (hR : RcOk sg ta mu A nT mo nt nc nf) (k : Nat) : fitN sg mo nT nf k = fitNM mu mo nT nf k := by
  have key : ∀ f, f < nf → (fit1 sg mo nT k f ↔ fit1M mu mo nT k f) := by
    intro f hf
    obtain ⟨kd, h1, h2, h3, h4, h5, h6, h7, h8, h9, h10⟩ := hM.2.2.2.2.2 f hf
    obtain ⟨e2, e3, e4, e5, e6, e7, e8⟩ := hR.2.2.2.2.1.2 f hf
    have hT := hM.2.1
    have hTR := hR.2.2.1
    unfold fit1 fit1M
    rw [e2, e3, e4, e5, e7, lenK_M hT hTR (Or.inr h3), h2]
    by_cases k0 : kd = 0
    · subst k0; rw [lenK_M hT hTR (Or.inr (h4 (by omega) (by omega) (by omega)))]
    · by_cases k1 : kd = 1
      · subst k1; rw [lenK_M hT hTR (h5 rfl).1]
      · have n1 : ¬ nI kd = 1 := fun q => k1 ((nI_eq (b := 1) (by omega) (by omega)).mp q)
        have n0 : ¬ nI kd = 0 := fun q => k0 ((nI_eq (b := 0) (by omega) (by omega)).mp q)
        simp only [n1, n0, false_implies, true_and]
  have : fitK sg mo nT nf k ↔ fitKM mu mo nT nf k := by
    unfold fitK fitKM
    constructor
    · intro h f hf ho; exact (key f hf).mp (h f hf ((hR.2.2.2.2.1.2 f hf).2.2.2.2.2.2.trans ho))
    · intro h f hf ho; exact (key f hf).mpr (h f hf ((hR.2.2.2.2.1.2 f hf).2.2.2.2.2.2.symm.trans ho))
  unfold fitN fitNM
  by_cases g : fitKM mu mo nT nf k
  · rw [if_pos g, if_pos (this.mpr g)]
  · rw [if_neg g, if_neg (fun q => g (this.mp q))]
theorem mask_uni {mu : zI} {nf m m' : Nat} (h : mask0 mu nf m) (h' : mask0 mu nf m') : m = m' := by
  apply Nat.eq_of_testBit_eq
  intro i
  by_cases hi : i < 10
  · have a := h.2 i hi
    have b := h'.2 i hi
    rw [← b] at a
    cases e : m.testBit i <;> cases e' : m'.testBit i <;> simp_all
  · rw [Nat.testBit_lt_two_pow (Nat.lt_of_lt_of_le h.1 (Nat.pow_le_pow_right (n := 2) (by omega) (show 10 ≤ i by omega))), Nat.testBit_lt_two_pow (Nat.lt_of_lt_of_le h'.1 (Nat.pow_le_pow_right (n := 2) (by omega) (show 10 ≤ i by omega)))]
theorem mask_ex (P : Nat → Prop) : ∀ n, n ≤ 10 → ∃ m, m < 2 ^ n ∧ ∀ f, f < 10 → (m.testBit f = true ↔ f < n ∧ P f)
  | 0, _ => ⟨0, by omega, fun f _ => by simp⟩
  | n + 1, h => by
    obtain ⟨m, hm, hb⟩ := mask_ex P n (by omega)
    have hp : 2 ^ (n + 1) = 2 ^ n + 2 ^ n := by rw [Nat.pow_succ]; omega
    by_cases g : P n
    · refine ⟨m ||| 2 ^ n, Nat.or_lt_two_pow (by omega) (by omega), fun f hf => ?_⟩
      rw [mk_or_bit, Bool.or_eq_true, decide_eq_true_eq, hb f hf]
      constructor
      · rintro (⟨a, b⟩ | a)
        · exact ⟨by omega, b⟩
        · subst a; exact ⟨by omega, g⟩
      · rintro ⟨a, b⟩
        by_cases e : n = f
        · exact Or.inr e
        · exact Or.inl ⟨by omega, b⟩
    · refine ⟨m, by omega, fun f hf => ?_⟩
      rw [hb f hf]
      constructor
      · rintro ⟨a, b⟩; exact ⟨by omega, b⟩
      · rintro ⟨a, b⟩
        by_cases e : f = n
        · subst e; exact absurd b g
        · exact ⟨by omega, b⟩
theorem mask_has (mu : zI) {nf : Nat} (h : nf ≤ 10) : ∃ m, mask0 mu nf m := by
  obtain ⟨m, a, b⟩ := mask_ex (fun f => mu 33 0 f = 0) nf h
  exact ⟨m, Nat.lt_of_lt_of_le a (Nat.pow_le_pow_right (n := 2) (by omega) h), b⟩
/-- the a-th of those that are one is one alone -/
theorem nth_lt {f : Nat → Nat} {w n : Nat} (hw : w < n) (h1 : f w = 1) : sumN f w < sumN f n := by
  have := sumN_mono f (show w + 1 ≤ n from hw)
  simp only [sumN] at this
  omega
theorem nth_uni {f : Nat → Nat} {w w' : Nat} (h : f w = 1) (h' : f w' = 1) (e : sumN f w = sumN f w') : w = w' := by
  rcases Nat.lt_trichotomy w w' with g | g | g
  · have := nth_lt g h; omega
  · exact g
  · have := nth_lt g h'; omega
theorem meet_uni {nx : Nat → Nat → Nat} {A : Nat} {gd : Nat → Prop} {r r' : Int32} (h : meetR nx A gd r) (h' : meetR nx A gd r') : r = r' := by
  rcases h with ⟨n, a1, a2, ⟨p, a3, a4⟩, a5⟩ | ⟨a1, a2⟩ <;> rcases h' with ⟨n', b1, b2, ⟨p', b3, b4⟩, b5⟩ | ⟨b1, b2⟩
  · rcases Nat.lt_trichotomy n n' with g | g | g
    · exact absurd a4 (b5 n g p a3)
    · rw [a2, b2, g]
    · exact absurd b4 (a5 n' g p' b3)
  · exact absurd a4 (b2 n a1 p a3)
  · exact absurd b4 (a2 n' b1 p' b3)
  · rw [a1, b1]
theorem meet_congr {nx : Nat → Nat → Nat} {A : Nat} {gd gd' : Nat → Prop} {r : Int32} (hn : ∀ q a, q < 36 → a < A → nx q a < 36) (hg : ∀ p, p < 36 → (gd p ↔ gd' p)) (h : meetR nx A gd r) : meetR nx A gd' r := by
  rcases h with ⟨n, a1, a2, ⟨p, a3, a4⟩, a5⟩ | ⟨a1, a2⟩
  · exact Or.inl ⟨n, a1, a2, ⟨p, a3, (hg p (rch_lt hn n p a3)).mp a4⟩, fun n' h p hp q => a5 n' h p hp ((hg p (rch_lt hn n' p hp)).mpr q)⟩
  · exact Or.inr ⟨a1, fun n h p hp q => a2 n h p hp ((hg p (rch_lt hn n p hp)).mpr q)⟩
