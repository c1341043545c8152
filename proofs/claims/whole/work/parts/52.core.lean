/-- there is a model for the formulas of a mask -/
def hasM (sg : zI) (A nT : Nat) (mo : Nat → Nat) (nf m : Nat) : Prop := ∃ w, w < wSize A mo nT ∧ mdl sg A nT mo nf (nI m) w
theorem hasM_frm {a b : zI} (h : frm frQ a b) (A nT : Nat) (mo : Nat → Nat) (nf m : Nat) : hasM b A nT mo nf m ↔ hasM a A nT mo nf m := by
  unfold hasM
  constructor
  · rintro ⟨w, h1, h2⟩; exact ⟨w, h1, (mdl_frm h _ _ _ _ _ _).mp h2⟩
  · rintro ⟨w, h1, h2⟩; exact ⟨w, h1, (mdl_frm h _ _ _ _ _ _).mpr h2⟩
/-- the core: from the last formula on, each goes out if there is no model without it -/
noncomputable def coreF (H : Nat → Prop) : Nat → Nat → Nat
  | m, 0 => m
  | m, n + 1 => coreF H (@ite Nat (H (m &&& (1023 ^^^ 2 ^ n))) (Classical.propDecidable _) m (m &&& (1023 ^^^ 2 ^ n))) n
theorem coreF_t {H : Nat → Prop} {m n : Nat} (h : H (m &&& (1023 ^^^ 2 ^ n))) : coreF H m (n + 1) = coreF H m n := by simp only [coreF]; rw [if_pos h]
theorem coreF_f {H : Nat → Prop} {m n : Nat} (h : ¬ H (m &&& (1023 ^^^ 2 ^ n))) : coreF H m (n + 1) = coreF H (m &&& (1023 ^^^ 2 ^ n)) n := by simp only [coreF]; rw [if_neg h]
theorem coreF_lt {H : Nat → Prop} : ∀ n m, m < 1024 → coreF H m n < 1024
  | 0, m, h => h
  | n + 1, m, h => by
    by_cases g : H (m &&& (1023 ^^^ 2 ^ n))
    · rw [coreF_t g]; exact coreF_lt n m h
    · rw [coreF_f g]; exact coreF_lt n _ (mk_clr_lt h)
def frC : List (Nat × Nat) := (0, 0) :: frQ
theorem frC_Q {a b : zI} (h : frm frQ a b) : frm frC a b := frm_mono (by intro q hq; unfold frC; simp [hq]) h
theorem frQ_0 {a b : zI} (h : frm frQ a b) : b 0 0 = a 0 0 := h 0 0 (frQ_not (by omega))
set_option maxRecDepth 100000 in
set_option maxHeartbeats 8000000 in
theorem c_core (sg : zI) (ta : zJ) (A nT : Nat) (mo : Nat → Nat) (nf : Nat) (hQ : QI sg ta A nT mo nf) : zP yX7_core mX7_core 6 [.ref (nm 0 0)] sg ta (fun v s t => QI s t A nT mo nf ∧ ∃ m, m < 1024 ∧ (∀ f, f < 10 → (m.testBit f = true ↔ f < nf ∧ sg 17 f 8 = 0)) ∧ ((hasM sg A nT mo nf m ∧ v = some (.int (-4)) ∧ frm frQ sg s) ∨ (¬ hasM sg A nT mo nf m ∧ v = some (.int (nI (bs (coreF (hasM sg A nT mo nf) m nf) 10))) ∧ frm frC sg s ∧ s 0 0 12 = nI (coreF (hasM sg A nT mo nf) m nf) ∧ s 0 0 11 = 1 ∧ ∀ j, j ≠ 11 → j ≠ 12 → s 0 0 j = sg 0 0 j))) := by
  have hnf := hQ.2.2.1
  refine zP_of (lv := [some (.ref (nm 0 0)), none, none, none]) (by decide +kernel) rfl (fun h => by cases h) rfl (Nat.le_of_ble_eq_true rfl) ?_
  refine q_aload_n dX7_core_0 rfl ?_
  refine z_callV (c_countingFormulas sg ta nf hQ.2.2.2.1 hQ.2.2.1) kV_X7_164 dX7_core_1 (by first | assumption | decide) (sh_0 _ _ _) rfl rfl rfl (by omega) (Nat.le_of_ble_eq_true rfl) (Nat.le_refl _) (Nat.le_refl _) rfl (fun v s0 t0 h => ?_)
  obtain ⟨rfl, rfl, m, hm, rfl, hb⟩ := h
  dsimp only [Option.toList, List.cons_append, List.nil_append]
  refine s_istore_n 1 dX7_core_4 rfl (Nat.le_of_ble_eq_true rfl) rfl ?_
  dsimp only [List.set]
  refine q_aload_n dX7_core_5 rfl ?_
  refine q_iload_n dX7_core_6 rfl ?_
  refine z_callV (c_hasModel s0 t0 A nT mo nf (nI m) hQ) kV_X7_191 dX7_core_7 (by first | assumption | decide) (sh_0 _ _ _) rfl rfl rfl (by omega) (Nat.le_of_ble_eq_true rfl) (Nat.le_refl _) (Nat.le_refl _) rfl (fun v s1 t1 h => ?_)
  obtain ⟨rfl, hf1, hq1⟩ := h
  dsimp only [Option.toList, List.cons_append, List.nil_append]
  refine q_if_eq 16 dX7_core_10 (by decide) (fun h => ?_) (fun h => ?_)
  · have hno : ¬ hasM s0 A nT mo nf m := bC_z.mp h
    have loop : ∀ (n m' : Nat) (z : Option Value) (s : zI) (t : zJ), n ≤ nf → m' < 1024 → coreF (hasM s0 A nT mo nf) m' n = coreF (hasM s0 A nT mo nf) m nf → frm frQ s0 s → QI s t A nT mo nf → Zq mX7_core 6 (fun v s t => QI s t A nT mo nf ∧ ∃ m, m < 1024 ∧ (∀ f, f < 10 → (m.testBit f = true ↔ f < nf ∧ s0 17 f 8 = 0)) ∧ ((hasM s0 A nT mo nf m ∧ v = some (.int (-4)) ∧ frm frQ s0 s) ∨ (¬ hasM s0 A nT mo nf m ∧ v = some (.int (nI (bs (coreF (hasM s0 A nT mo nf) m nf) 10))) ∧ frm frC s0 s ∧ s 0 0 12 = nI (coreF (hasM s0 A nT mo nf) m nf) ∧ s 0 0 11 = 1 ∧ ∀ j, j ≠ 11 → j ≠ 12 → s 0 0 j = s0 0 0 j))) s t 23 [some (.ref (nm 0 0)), some (.int (nI m')), some (.int (nI n - 1)), z] [] := by
      intro n
      induction n with
      | zero =>
        intro m' z s t hn hm' hc hf hq
        refine q_iload_n dX7_core_23 rfl ?_
        refine q_if_lt 51 dX7_core_24 (by decide) (fun h2 => ?_) (fun h2 => ?_)
        · refine q_aload_n dX7_core_51 rfl ?_
          refine q_iload_n dX7_core_52 rfl ?_
          refine z_puti 12 dX7_core_53 (by first | assumption | decide) (sh_0 _ _ _) rfl (by decide) fl_X7_194 rfl pfI (Nat.le_of_ble_eq_true rfl) rfl ?_
          refine q_aload_n dX7_core_56 rfl ?_
          refine q_iconst (v := 1) dX7_core_57 rfl ?_
          refine z_putz 11 dX7_core_58 (by first | assumption | decide) (sh_0 _ _ _) rfl (by decide) fl_X7_197 rfl pfZ (Nat.le_of_ble_eq_true rfl) (by first | exact Or.inl rfl | exact Or.inr rfl | assumption) rfl ?_
          refine q_iload_n dX7_core_61 rfl ?_
          refine z_callS (c_bitCountI _ t m' hm') kS_X7_200 dX7_core_62 rfl (by omega) (Nat.le_of_ble_eq_true rfl) (Nat.le_refl _) (Nat.le_refl _) rfl (fun v s2 t2 h => ?_)
          obtain ⟨rfl, rfl, rfl⟩ := h
          dsimp only [Option.toList, List.cons_append, List.nil_append]
          have e : m' = coreF (hasM s0 A nT mo nf) m nf := hc
          have row : ∀ K, K ≠ 0 → (up3 (up3 s 0 0 12 (nI m')) 0 0 11 1) K = s K := fun K hK => by
            funext q
            rw [up3_off (by omega), up3_off (by omega)]
          have hq2 : QI (up3 (up3 s 0 0 12 (nI m')) 0 0 11 1) t2 A nT mo nf := QI_at (row 1 (by omega)) (row 2 (by omega)) (row 11 (by omega)) (row 12 (by omega)) (row 15 (by omega)) (row 16 (by omega)) (row 17 (by omega)) (by rw [up3_get, if_neg (by omega), up3_get, if_neg (by omega)]) (by obtain ⟨k0, hk0⟩ := hq.2.1; exact ⟨k0, WayOk_at (by rw [row 3 (by omega)]) (by rw [row 4 (by omega)]) (by rw [row 5 (by omega)]) hk0⟩) hq
          refine z_iret dX7_core_65 rfl ⟨hq2, m, hm, hb, Or.inr ⟨hno, by rw [e], frm_up3 (by unfold frC; simp) (frm_up3 (by unfold frC; simp) (frC_Q hf)), ?_, ?_, fun j h1 h2 => ?_⟩⟩
          · rw [up3_get, if_neg (by omega), up3_get, if_pos ⟨rfl, rfl, rfl⟩, e]
          · rw [up3_get, if_pos ⟨rfl, rfl, rfl⟩]
          · rw [up3_get, if_neg (by omega), up3_get, if_neg (by omega), frQ_0 hf]
        · exact absurd tm_0 h2
      | succ n ih =>
        intro m' z s t hn hm' hc hf hq
        rw [tm_s]
        refine q_iload_n dX7_core_23 rfl ?_
        refine q_if_lt 51 dX7_core_24 (by decide) (fun h2 => ?_) (fun h2 => ?_)
        · exact absurd h2 (nI_pos (by omega))
        · refine q_iload_n dX7_core_27 rfl ?_
          refine q_iconst (v := 1) dX7_core_28 rfl ?_
          refine q_iload_n dX7_core_29 rfl ?_
          refine q_ishl dX7_core_30 ?_
          refine q_iconst (v := (-1)) dX7_core_31 rfl ?_
          refine q_ixor dX7_core_32 ?_
          refine q_iand dX7_core_33 ?_
          rw [mk_clr m' hm' n (by omega)]
          refine s_istore_n 3 dX7_core_34 rfl (Nat.le_of_ble_eq_true rfl) rfl ?_
          dsimp only [List.set]
          refine q_aload_n dX7_core_35 rfl ?_
          refine q_iload_n dX7_core_36 rfl ?_
          refine z_callV (c_hasModel s t A nT mo nf _ hq) kV_X7_191 dX7_core_37 (by first | assumption | decide) (sh_0 _ _ _) rfl rfl rfl (by omega) (Nat.le_of_ble_eq_true rfl) (Nat.le_refl _) (Nat.le_refl _) rfl (fun v s2 t2 h => ?_)
          obtain ⟨rfl, hf2, hq2⟩ := h
          dsimp only [Option.toList, List.cons_append, List.nil_append]
          have hcl := mk_clr_lt (f := n) hm'
          refine q_if_ne 45 dX7_core_40 (by decide) (fun h3 => ?_) (fun h3 => ?_)
          · have g : hasM s0 A nT mo nf (m' &&& (1023 ^^^ 2 ^ n)) := (hasM_frm hf A nT mo nf _).mp (bC_nz.mp h3)
            rw [coreF_t g] at hc
            refine q_iinc dX7_core_45 rfl (Nat.le_of_ble_eq_true rfl) rfl ?_
            dsimp only [List.set]
            refine q_goto 23 dX7_core_48 (by decide) ?_
            rw [tm_dec]
            exact ih m' _ s2 t2 (by omega) hm' hc (frm_trans hf hf2) hq2
          · have g : ¬ hasM s0 A nT mo nf (m' &&& (1023 ^^^ 2 ^ n)) := fun q => bC_z.mp h3 ((hasM_frm hf A nT mo nf _).mpr q)
            rw [coreF_f g] at hc
            refine q_iload_n dX7_core_43 rfl ?_
            refine s_istore_n 1 dX7_core_44 rfl (Nat.le_of_ble_eq_true rfl) rfl ?_
            dsimp only [List.set]
            refine q_iinc dX7_core_45 rfl (Nat.le_of_ble_eq_true rfl) rfl ?_
            dsimp only [List.set]
            refine q_goto 23 dX7_core_48 (by decide) ?_
            rw [tm_dec]
            exact ih _ _ s2 t2 (by omega) hcl hc (frm_trans hf hf2) hq2
    refine q_aload_n dX7_core_16 rfl ?_
    refine z_get 9 dX7_core_17 (by first | assumption | decide) (sh_0 _ _ _) rfl (by decide) fl_X7_58 rfl ?_
    rw [hq1.2.2.2.1]
    refine q_iconst (v := 1) dX7_core_20 rfl ?_
    refine q_isub dX7_core_21 ?_
    refine s_istore_n 2 dX7_core_22 rfl (Nat.le_of_ble_eq_true rfl) rfl ?_
    dsimp only [List.set]
    exact loop nf m none s1 t1 (Nat.le_refl _) hm rfl hf1 hq1
  · refine q_bipush (v := (-4)) dX7_core_13 rfl ?_
    exact z_iret dX7_core_15 rfl ⟨hq1, m, hm, hb, Or.inl ⟨bC_nz.mp h, rfl, hf1⟩⟩
/-! lengths alone -/
noncomputable def lenK (sg : zI) (mo : Nat → Nat) (nT k : Nat) (x : Int32) : Nat := (spl (sg 12 (tIdx x)) (fun t => nI (vec mo nT k t)) (fun t => nI (psum (vec mo nT k) t)) (fun _ => 0) (sg 11 (tIdx x) 1).toNatClampNeg).length
theorem spl_len_congr {p L S R L' S' R' : Nat → Int32} : ∀ n, (∀ j, j < n → (splP L S R (p j)).length = (splP L' S' R' (p j)).length) → (spl p L S R n).length = (spl p L' S' R' n).length
  | 0, _ => rfl
  | n + 1, h => by simp only [spl, List.length_append]; rw [spl_len_congr n (fun j hj => h j (by omega)), h n (by omega)]
theorem lenK_C {sg : zI} {A nT i k : Nat} {mo : Nat → Nat} {x : Int32} (hS : SpaceOk sg A nT mo) (hW : WayOk sg i A nT mo k) (h : TV sg A nT x) : (spC sg i x).length = lenK sg mo nT k x := by
  obtain ⟨n, h1, h2, h3⟩ := h
  unfold spC lenK
  rw [h2, nI_clamp (by omega)]
  refine spl_len_congr n (fun j hj => ?_)
  have hA := hS.1
  have hT := hS.2.1
  rcases h3 j hj with ⟨a, ha, e⟩ | ⟨t, ht, e⟩
  · rw [e, splP_l (PV_letter (by omega)), splP_l (PV_letter (by omega))]
  · have v5 := vec5 (k := k) hS.2.2.1 t ht
    have p20 := psum20 hT (vec5 (k := k) hS.2.2.1) ht
    rw [e, splP_t (PV_text t) (by omega) (hW.2.1 t ht) v5 (hW.2.2.2.2.2 t ht) p20, splP_t (L := fun t => nI (vec mo nT k t)) (S := fun t => nI (psum (vec mo nT k) t)) (PV_text t) (by omega) rfl v5 rfl p20]
    simp
/-- formula f is as it is to be, by the k-th lengths -/
def fit1 (sg : zI) (mo : Nat → Nat) (nT k f : Nat) : Prop := (sg 17 f 2 = 1 → ((sg 17 f 5).toInt ≤ (lenK sg mo nT k (sg 17 f 3) : Int) - lenK sg mo nT k (sg 17 f 4) ↔ sg 17 f 7 = 0)) ∧ (sg 17 f 2 = 0 → sg 17 f 7 = 0 → lenK sg mo nT k (sg 17 f 3) = lenK sg mo nT k (sg 17 f 4))
def fitK (sg : zI) (mo : Nat → Nat) (nT nf k : Nat) : Prop := ∀ f, f < nf → sg 17 f 8 = 0 → fit1 sg mo nT k f
set_option maxRecDepth 100000 in
set_option maxHeartbeats 4000000 in
theorem c_isLengthFit (sg : zI) (ta : zJ) (A nT : Nat) (mo : Nat → Nat) (k f : Nat) (hf : f < cnt 17) (hS : SpaceOk sg A nT mo) (hW : WayOk sg 0 A nT mo k) (hF : FV sg A nT f) (h01 : sg 17 f 7 = 0 ∨ sg 17 f 7 = 1) : zP yX7_isLengthFit mX7_isLengthFit 2 [.ref (nm 0 0), .ref (nm 17 f)] sg ta (pI (bC (fit1 sg mo nT k f)) sg ta) := by
  have i0 : 0 < cnt 3 := by decide
  obtain ⟨kd, h1, h2, h3, h4, -, -, -⟩ := hF
  have ta' := TV_TOk hS hW h3
  have la := lenK_C hS hW h3
  refine zP_of (lv := [some (.ref (nm 0 0)), some (.ref (nm 17 f))]) (by decide +kernel) rfl (fun h => by cases h) rfl (Nat.le_of_ble_eq_true rfl) ?_
  refine q_aload_n dX7_isLengthFit_0 rfl ?_
  refine z_get 2 dX7_isLengthFit_1 (by first | assumption | decide) (sh_17 _ _ _) rfl (by decide) fl_X7_265 rfl ?_
  refine q_iconst (v := 1) dX7_isLengthFit_4 rfl ?_
  rw [h2]
  refine q_icmp_ne 36 dX7_isLengthFit_5 (by decide) (fun h => ?_) (fun h => ?_)
  · have k1 : ¬ sg 17 f 2 = 1 := by rw [h2]; exact h
    refine q_aload_n dX7_isLengthFit_36 rfl ?_
    refine z_get 2 dX7_isLengthFit_37 (by first | assumption | decide) (sh_17 _ _ _) rfl (by decide) fl_X7_265 rfl ?_
    rw [h2]
    refine q_if_ne 68 dX7_isLengthFit_40 (by decide) (fun g => ?_) (fun g => ?_)
    · have k0 : ¬ sg 17 f 2 = 0 := by rw [h2]; exact g
      refine q_iconst (v := 1) dX7_isLengthFit_68 rfl ?_
      refine q_goto 73 dX7_isLengthFit_69 (by decide) ?_
      exact z_zret dX7_isLengthFit_73 rfl (Or.inr rfl) ⟨by rw [bC_t ⟨fun q => absurd q k1, fun q => absurd q k0⟩], rfl, rfl⟩
    · have e0 : kd = 0 := (nI_eq (b := 0) (by omega) (by omega)).mp g
      subst e0
      have hb := h4 (by omega) (by omega)
      have lb' := lenK_C hS hW hb
      refine q_aload_n dX7_isLengthFit_43 rfl ?_
      refine z_get 7 dX7_isLengthFit_44 (by first | assumption | decide) (sh_17 _ _ _) rfl (by decide) fl_X7_153 rfl ?_
      refine q_if_ne 68 dX7_isLengthFit_47 (by decide) (fun g2 => ?_) (fun g2 => ?_)
      · refine q_iconst (v := 1) dX7_isLengthFit_68 rfl ?_
        refine q_goto 73 dX7_isLengthFit_69 (by decide) ?_
        exact z_zret dX7_isLengthFit_73 rfl (Or.inr rfl) ⟨by rw [bC_t ⟨fun q => absurd q k1, fun _ q => absurd q g2⟩], rfl, rfl⟩
      · refine q_aload_n dX7_isLengthFit_50 rfl ?_
        refine z_get 6 dX7_isLengthFit_51 (by first | assumption | decide) (sh_0 _ _ _) rfl (by decide) fl_X7_51 rfl ?_
        refine q_aload_n dX7_isLengthFit_54 rfl ?_
        refine q_aload_n dX7_isLengthFit_55 rfl ?_
        refine z_get 1 dX7_isLengthFit_56 (by first | assumption | decide) (sh_0 _ _ _) rfl (by decide) fl_X7_21 rfl ?_
        refine z_get 1 dX7_isLengthFit_59 (by first | assumption | decide) (sh_3 _ _ _) rfl (by decide) fl_X7_268 rfl ?_
        refine z_callV (c_Judge_isOneLength sg ta f 0 hf i0 ta' (TV_TOk hS hW hb)) kV_X7_276 dX7_isLengthFit_62 (by first | assumption | decide) (sh_10 _ _ _) rfl rfl rfl (by omega) (Nat.le_of_ble_eq_true rfl) (Nat.le_refl _) (Nat.le_refl _) rfl (fun v s2 t2 h => ?_)
        obtain ⟨rfl, rfl, rfl⟩ := h
        dsimp only [Option.toList, List.cons_append, List.nil_append]
        refine q_if_eq 72 dX7_isLengthFit_65 (by decide) (fun g3 => ?_) (fun g3 => ?_)
        · rw [bC_z, la, lb'] at g3
          refine q_iconst (v := 0) dX7_isLengthFit_72 rfl ?_
          exact z_zret dX7_isLengthFit_73 rfl (Or.inl rfl) ⟨by rw [bC_f (fun q => g3 (q.2 h2 g2))], rfl, rfl⟩
        · rw [bC_nz, la, lb'] at g3
          refine q_iconst (v := 1) dX7_isLengthFit_68 rfl ?_
          refine q_goto 73 dX7_isLengthFit_69 (by decide) ?_
          exact z_zret dX7_isLengthFit_73 rfl (Or.inr rfl) ⟨by rw [bC_t ⟨fun q => absurd q k1, fun _ _ => g3⟩], rfl, rfl⟩
  · have e1 : kd = 1 := (nI_eq (b := 1) (by omega) (by omega)).mp h
    subst e1
    have hb := h4 (by omega) (by omega)
    have lb' := lenK_C hS hW hb
    have k0 : ¬ sg 17 f 2 = 0 := by rw [h2]; decide
    refine q_aload_n dX7_isLengthFit_8 rfl ?_
    refine z_get 6 dX7_isLengthFit_9 (by first | assumption | decide) (sh_0 _ _ _) rfl (by decide) fl_X7_51 rfl ?_
    refine q_aload_n dX7_isLengthFit_12 rfl ?_
    refine q_aload_n dX7_isLengthFit_13 rfl ?_
    refine z_get 1 dX7_isLengthFit_14 (by first | assumption | decide) (sh_0 _ _ _) rfl (by decide) fl_X7_21 rfl ?_
    refine z_get 1 dX7_isLengthFit_17 (by first | assumption | decide) (sh_3 _ _ _) rfl (by decide) fl_X7_268 rfl ?_
    refine z_callV (c_Judge_isLonger sg ta f 0 hf i0 ta' (TV_TOk hS hW hb)) kV_X7_272 dX7_isLengthFit_20 (by first | assumption | decide) (sh_10 _ _ _) rfl rfl rfl (by omega) (Nat.le_of_ble_eq_true rfl) (Nat.le_refl _) (Nat.le_refl _) rfl (fun v s2 t2 h => ?_)
    obtain ⟨rfl, rfl, rfl⟩ := h
    dsimp only [Option.toList, List.cons_append, List.nil_append]
    rw [la, lb']
    refine q_aload_n dX7_isLengthFit_23 rfl ?_
    refine z_get 7 dX7_isLengthFit_24 (by first | assumption | decide) (sh_17 _ _ _) rfl (by decide) fl_X7_153 rfl ?_
    refine q_icmp_eq 34 dX7_isLengthFit_27 (by decide) (fun g => ?_) (fun g => ?_)
    · refine q_iconst (v := 0) dX7_isLengthFit_34 rfl ?_
      refine z_zret dX7_isLengthFit_35 rfl (Or.inl rfl) ⟨?_, rfl, rfl⟩
      rw [bC_f]
      intro q
      have q1 := q.1 h2
      rcases h01 with e | e
      · rw [e] at g q1; exact bC_z.mp g (q1.mpr rfl)
      · rw [e] at g q1
        exact absurd (q1.mp (bC_nz.mp (fun z => by rw [z] at g; exact absurd g (by decide)))) (by decide)
    · refine q_iconst (v := 1) dX7_isLengthFit_30 rfl ?_
      refine q_goto 35 dX7_isLengthFit_31 (by decide) ?_
      refine z_zret dX7_isLengthFit_35 rfl (Or.inr rfl) ⟨?_, rfl, rfl⟩
      rw [bC_t]
      refine ⟨fun _ => ?_, fun q => absurd q k0⟩
      rcases h01 with e | e
      · rw [e] at g ⊢; exact ⟨fun _ => rfl, fun _ => bC_nz.mp g⟩
      · rw [e] at g ⊢; exact ⟨fun q => absurd (bC_t q) g, fun q => absurd q (by decide)⟩
set_option maxRecDepth 100000 in
set_option maxHeartbeats 4000000 in
theorem c_areLengthsFit (sg : zI) (ta : zJ) (A nT : Nat) (mo : Nat → Nat) (k nf : Nat) (hS : SpaceOk sg A nT mo) (hW : WayOk sg 0 A nT mo k) (hn : sg 0 0 9 = nI nf) (hnf : nf ≤ 10) (hF : ∀ f, f < nf → FV sg A nT f ∧ (sg 17 f 7 = 0 ∨ sg 17 f 7 = 1)) : zP yX7_areLengthsFit mX7_areLengthsFit 3 [.ref (nm 0 0)] sg ta (pI (bC (fitK sg mo nT nf k)) sg ta) := by
  refine zP_of (lv := [some (.ref (nm 0 0)), none, none]) (by decide +kernel) rfl (fun h => by cases h) rfl (Nat.le_of_ble_eq_true rfl) ?_
  have loop : ∀ (q j : Nat) (z : Option Value), j + q = nf → (∀ f, f < j → sg 17 f 8 = 0 → fit1 sg mo nT k f) → Zq mX7_areLengthsFit 3 (pI (bC (fitK sg mo nT nf k)) sg ta) sg ta 2 [some (.ref (nm 0 0)), some (.int (nI j)), z] [] := by
    intro q
    induction q with
    | zero =>
      intro j z hj hd
      refine q_iload_n dX7_areLengthsFit_2 rfl ?_
      refine q_aload_n dX7_areLengthsFit_3 rfl ?_
      refine z_get 9 dX7_areLengthsFit_4 (by first | assumption | decide) (sh_0 _ _ _) rfl (by decide) fl_X7_58 rfl ?_
      rw [hn]
      refine q_icmp_ge 40 dX7_areLengthsFit_7 (by decide) (fun h => ?_) (fun h => ?_)
      · refine q_iconst (v := 1) dX7_areLengthsFit_40 rfl ?_
        exact z_zret dX7_areLengthsFit_41 rfl (Or.inr rfl) ⟨by rw [bC_t (p := fitK sg mo nT nf k) (fun f hf => hd f (by omega))], rfl, rfl⟩
      · exact absurd (nI_le (by omega) (by omega)) h
    | succ q ih =>
      intro j z hj hd
      have j10 : j < 10 := by omega
      have hjc := cnt17 j10
      refine q_iload_n dX7_areLengthsFit_2 rfl ?_
      refine q_aload_n dX7_areLengthsFit_3 rfl ?_
      refine z_get 9 dX7_areLengthsFit_4 (by first | assumption | decide) (sh_0 _ _ _) rfl (by decide) fl_X7_58 rfl ?_
      rw [hn]
      refine q_icmp_ge 40 dX7_areLengthsFit_7 (by decide) (fun h => ?_) (fun h => ?_)
      · exact absurd h (nI_ge (by omega) (by omega))
      · refine q_aload_n dX7_areLengthsFit_10 rfl ?_
        refine z_get 5 dX7_areLengthsFit_11 (by first | assumption | decide) (sh_0 _ _ _) rfl (by decide) fl_X7_42 rfl ?_
        refine q_iload_n dX7_areLengthsFit_14 rfl ?_
        refine z_aald dX7_areLengthsFit_15 (by first | assumption | decide) rfl (fun _ => rfl) (vp_in_nI (n := j) j10 (by omega)) (aal j10 (by omega)) ?_
        refine s_astore_n 2 dX7_areLengthsFit_16 rfl (Nat.le_of_ble_eq_true rfl) rfl ?_
        dsimp only [List.set]
        refine q_aload_n dX7_areLengthsFit_17 rfl ?_
        refine z_get 8 dX7_areLengthsFit_18 (by first | assumption | decide) (sh_17 _ _ _) rfl (by decide) fl_X7_157 rfl ?_
        refine q_if_ne 34 dX7_areLengthsFit_21 (by decide) (fun h2 => ?_) (fun h2 => ?_)
        · refine q_iinc dX7_areLengthsFit_34 rfl (Nat.le_of_ble_eq_true rfl) rfl ?_
          dsimp only [List.set]
          refine q_goto 2 dX7_areLengthsFit_37 (by decide) ?_
          rw [nI_inc]
          refine ih (j + 1) _ (by omega) (fun f hf => ?_)
          by_cases e : f = j
          · subst e; exact fun q => absurd q h2
          · exact hd f (by omega)
        · refine q_aload_n dX7_areLengthsFit_24 rfl ?_
          refine q_aload_n dX7_areLengthsFit_25 rfl ?_
          refine z_callV (c_isLengthFit sg ta A nT mo k j hjc hS hW (hF j (by omega)).1 (hF j (by omega)).2) kV_X7_261 dX7_areLengthsFit_26 (by first | assumption | decide) (sh_0 _ _ _) rfl rfl rfl (by omega) (Nat.le_of_ble_eq_true rfl) (Nat.le_refl _) (Nat.le_refl _) rfl (fun v s2 t2 h => ?_)
          obtain ⟨rfl, rfl, rfl⟩ := h
          dsimp only [Option.toList, List.cons_append, List.nil_append]
          refine q_if_ne 34 dX7_areLengthsFit_29 (by decide) (fun h3 => ?_) (fun h3 => ?_)
          · refine q_iinc dX7_areLengthsFit_34 rfl (Nat.le_of_ble_eq_true rfl) rfl ?_
            dsimp only [List.set]
            refine q_goto 2 dX7_areLengthsFit_37 (by decide) ?_
            rw [nI_inc]
            refine ih (j + 1) _ (by omega) (fun f hf => ?_)
            by_cases e : f = j
            · subst e; exact fun _ => bC_nz.mp h3
            · exact hd f (by omega)
          · refine q_iconst (v := 0) dX7_areLengthsFit_32 rfl ?_
            exact z_zret dX7_areLengthsFit_33 rfl (Or.inl rfl) ⟨by rw [bC_f (fun q => bC_z.mp h3 (q j (by omega) h2))], rfl, rfl⟩
  refine q_iconst (v := 0) dX7_areLengthsFit_0 rfl ?_
  refine s_istore_n 1 dX7_areLengthsFit_1 rfl (Nat.le_of_ble_eq_true rfl) rfl ?_
  dsimp only [List.set]
  exact loop nf 0 none (by omega) (fun f hf => absurd hf (by omega))
noncomputable def fitN (sg : zI) (mo : Nat → Nat) (nT nf k : Nat) : Nat := @ite Nat (fitK sg mo nT nf k) (Classical.propDecidable _) 1 0
theorem fitK_frm {a b : zI} (h : frm frQ a b) (mo : Nat → Nat) (nT nf k : Nat) : fitK b mo nT nf k ↔ fitK a mo nT nf k := by
  have e : ∀ x, lenK b mo nT k x = lenK a mo nT k x := fun x => by
    unfold lenK
    rw [h 11 _ (frQ_not (by omega)), h 12 _ (frQ_not (by omega))]
  unfold fitK fit1
  constructor <;> intro q f hf ho
  · have := q f hf (by rw [h 17 f (frQ_not (by omega))]; exact ho)
    rw [h 17 f (frQ_not (by omega)), e, e] at this
    exact this
  · rw [h 17 f (frQ_not (by omega))] at ho ⊢
    rw [e, e]
    exact q f hf ho
set_option maxRecDepth 100000 in
set_option maxHeartbeats 4000000 in
theorem c_spans (sg : zI) (ta : zJ) (A nT : Nat) (mo : Nat → Nat) (nf : Nat) (hQ : QI sg ta A nT mo nf) : zP yX7_spans mX7_spans 4 [.ref (nm 0 0)] sg ta (fun v s t => v = some (.int (nI (sumN (fitN sg mo nT nf) (kAll mo nT)))) ∧ frm frQ sg s ∧ QI s t A nT mo nf) := by
  have i0 : 0 < cnt 3 := by decide
  have hK := kAll_lt hQ.1.2.1 hQ.1.2.2.1
  refine zP_of (lv := [some (.ref (nm 0 0)), none, none, none]) (by decide +kernel) rfl (fun h => by cases h) rfl (Nat.le_of_ble_eq_true rfl) ?_
  have loop : ∀ (q k : Nat) (s : zI) (t : zJ), k + q = kAll mo nT → frm frQ sg s → QI s t A nT mo nf → (k < kAll mo nT → WayOk s 0 A nT mo k) → Zq mX7_spans 4 (fun v s t => v = some (.int (nI (sumN (fitN sg mo nT nf) (kAll mo nT)))) ∧ frm frQ sg s ∧ QI s t A nT mo nf) s t 19 [some (.ref (nm 0 0)), some (.int (nI (sumN (fitN sg mo nT nf) k))), some (.int (nI (kAll mo nT))), some (.int (nI k))] [] := by
    intro q
    induction q with
    | zero =>
      intro k s t hk hf hq hw
      refine q_iload_n dX7_spans_19 rfl ?_
      refine q_iload_n dX7_spans_20 rfl ?_
      refine q_icmp_ge 47 dX7_spans_21 (by decide) (fun h => ?_) (fun h => ?_)
      · refine q_iload_n dX7_spans_47 rfl ?_
        exact z_iret dX7_spans_48 rfl ⟨by rw [show k = kAll mo nT by omega], hf, hq⟩
      · exact absurd (nI_le (by omega) (by omega)) h
    | succ q ih =>
      intro k s t hk hf hq hw
      have hW := hw (by omega)
      refine q_iload_n dX7_spans_19 rfl ?_
      refine q_iload_n dX7_spans_20 rfl ?_
      refine q_icmp_ge 47 dX7_spans_21 (by decide) (fun h => ?_) (fun h => ?_)
      · exact absurd h (nI_ge (by omega) (by omega))
      · refine q_aload_n dX7_spans_24 rfl ?_
        refine z_callV (c_areLengthsFit s t A nT mo k nf hq.1 hW hq.2.2.2.1 hq.2.2.1 hq.2.2.2.2.1) kV_X7_212 dX7_spans_25 (by first | assumption | decide) (sh_0 _ _ _) rfl rfl rfl (by omega) (Nat.le_of_ble_eq_true rfl) (Nat.le_refl _) (Nat.le_refl _) rfl (fun v s2 t2 h => ?_)
        obtain ⟨rfl, rfl, rfl⟩ := h
        dsimp only [Option.toList, List.cons_append, List.nil_append]
        have at34 : ∀ c : Nat, c = sumN (fitN sg mo nT nf) (k + 1) → Zq mX7_spans 4 (fun v s t => v = some (.int (nI (sumN (fitN sg mo nT nf) (kAll mo nT)))) ∧ frm frQ sg s ∧ QI s t A nT mo nf) s2 t2 34 [some (.ref (nm 0 0)), some (.int (nI c)), some (.int (nI (kAll mo nT))), some (.int (nI k))] [] := by
          intro c hc
          refine q_aload_n dX7_spans_34 rfl ?_
          refine z_get 1 dX7_spans_35 (by first | assumption | decide) (sh_0 _ _ _) rfl (by decide) fl_X7_21 rfl ?_
          refine z_callV (c_Way_next s2 t2 0 A nT mo k i0 hq.1 hW) kV_X7_216 dX7_spans_38 (by first | assumption | decide) (sh_3 _ _ _) rfl rfl rfl (by omega) (Nat.le_of_ble_eq_true rfl) (Nat.le_refl _) (Nat.le_refl _) rfl (fun v s3 t3 h => ?_)
          obtain ⟨rfl, rfl, hf3, hw1, hw2⟩ := h
          dsimp only [Option.toList, List.cons_append, List.nil_append]
          refine q_iinc dX7_spans_41 rfl (Nat.le_of_ble_eq_true rfl) rfl ?_
          dsimp only [List.set]
          refine q_goto 19 dX7_spans_44 (by decide) ?_
          rw [nI_inc, hc]
          have hq3 : QI s3 t3 A nT mo nf := QI_frm (frQ_way3 hf3) hq (by
            rcases Nat.lt_or_ge (k + 1) (kAll mo nT) with g | g
            · exact ⟨_, hw1 g⟩
            · exact ⟨_, hw2 (by omega)⟩)
          exact ih (k + 1) s3 t3 (by omega) (frm_trans hf (frQ_way3 hf3)) hq3 hw1
        refine q_if_eq 34 dX7_spans_28 (by decide) (fun h2 => ?_) (fun h2 => ?_)
        · rw [bC_z, fitK_frm hf] at h2
          refine at34 _ ?_
          show _ = sumN (fitN sg mo nT nf) k + fitN sg mo nT nf k
          unfold fitN
          rw [if_neg h2]
          rfl
        · rw [bC_nz, fitK_frm hf] at h2
          refine q_iinc dX7_spans_31 rfl (Nat.le_of_ble_eq_true rfl) rfl ?_
          dsimp only [List.set]
          rw [nI_inc]
          refine at34 _ ?_
          show _ = sumN (fitN sg mo nT nf) k + fitN sg mo nT nf k
          have : fitN sg mo nT nf k = 1 := by unfold fitN; rw [if_pos h2]
          rw [this]
  refine q_iconst (v := 0) dX7_spans_0 rfl ?_
  refine s_istore_n 1 dX7_spans_1 rfl (Nat.le_of_ble_eq_true rfl) rfl ?_
  dsimp only [List.set]
  refine q_aload_n dX7_spans_2 rfl ?_
  refine z_get 1 dX7_spans_3 (by first | assumption | decide) (sh_0 _ _ _) rfl (by decide) fl_X7_21 rfl ?_
  refine z_callV (c_Way_restart sg ta 0 A nT mo i0 hQ.1) kV_X7_208 dX7_spans_6 (by first | assumption | decide) (sh_3 _ _ _) rfl rfl rfl (by omega) (Nat.le_of_ble_eq_true rfl) (Nat.le_refl _) (Nat.le_refl _) rfl (fun v s1 t1 h => ?_)
  obtain ⟨rfl, rfl, hf1, hw1⟩ := h
  dsimp only [Option.toList, List.cons_append, List.nil_append]
  have hq1 := QI_frm (frQ_way3 hf1) hQ ⟨_, hw1⟩
  refine q_aload_n dX7_spans_9 rfl ?_
  refine z_get 0 dX7_spans_10 (by first | assumption | decide) (sh_0 _ _ _) rfl (by decide) fl_X7_12 rfl ?_
  refine z_callV (c_Space_lengthWays s1 t1 A nT mo hq1.1) kV_X7_209 dX7_spans_13 (by first | assumption | decide) (sh_1 _ _ _) rfl rfl rfl (by omega) (Nat.le_of_ble_eq_true rfl) (Nat.le_refl _) (Nat.le_refl _) rfl (fun v s2 t2 h => ?_)
  obtain ⟨rfl, rfl, rfl⟩ := h
  dsimp only [Option.toList, List.cons_append, List.nil_append]
  refine s_istore_n 2 dX7_spans_16 rfl (Nat.le_of_ble_eq_true rfl) rfl ?_
  dsimp only [List.set]
  refine q_iconst (v := 0) dX7_spans_17 rfl ?_
  refine s_istore_n 3 dX7_spans_18 rfl (Nat.le_of_ble_eq_true rfl) rfl ?_
  dsimp only [List.set]
  exact loop (kAll mo nT) 0 s2 t2 (by omega) (frQ_way3 hf1) hq1 (fun _ => hw1)
