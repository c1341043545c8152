/-! THE REFERENCE: the ways one behind the other -/
def LenS (s : zI) (nT : Nat) (mo : Nat → Nat) (k : Nat) : Prop := k < kAll mo nT ∧ ∀ t, t < nT → s 37 0 t = nI (vec mo nT k t)
/-- the letters behind a text's length are 0 -/
def ZerS (s : zI) (nT : Nat) (v : Nat → Nat) : Prop := ∀ t, t < nT → ∀ i, v t ≤ i → i < 5 → s 38 0 (5 * t + i) = 0
def RwS (s : zI) (A nT : Nat) (mo : Nat → Nat) (w : Nat) : Prop := w < wSize A mo nT ∧ RwM s A nT mo w ∧ ZerS s nT (vec mo nT (kOf A mo nT w))
theorem kAll_pow (a : Nat) : ∀ n, kAll (fun _ => a) n = (a + 1) ^ n
  | 0 => by simp [kAll]
  | n + 1 => by simp only [kAll]; rw [kAll_pow a n, Nat.pow_succ]
theorem kOf_0 {A nT : Nat} (hA : A = 2 ∨ A = 3) (mo : Nat → Nat) : kOf A mo nT 0 = 0 := by
  apply kOf_eq
  refine ⟨kAll_pos mo nT, by simp [wFst, sumN], ?_⟩
  rw [wFst_s]
  have : 0 < A ^ wTot mo nT 0 := Nat.pow_pos (by omega)
  omega
theorem wSize_pos {A nT : Nat} (hA : A = 2 ∨ A = 3) (mo : Nat → Nat) : 0 < wSize A mo nT := by
  rw [← wFst_all]
  have h := wFst_mono A mo nT (show 1 ≤ kAll mo nT from kAll_pos mo nT)
  have h2 := wFst_s A mo nT 0
  have : 0 < A ^ wTot mo nT 0 := Nat.pow_pos (by omega)
  rw [Nat.zero_add] at h2
  omega
theorem psum_pos {v : Nat → Nat} : ∀ {n P : Nat}, P < psum v n → ∃ u i, u < n ∧ i < v u ∧ psum v u + i = P
  | 0, P, h => by simp [psum] at h
  | n + 1, P, h => by
    by_cases g : P < psum v n
    · obtain ⟨u, i, a, b, c⟩ := psum_pos g
      exact ⟨u, i, by omega, b, c⟩
    · simp only [psum] at h
      exact ⟨n, P - psum v n, by omega, by omega, by omega⟩
set_option maxRecDepth 100000 in
set_option maxHeartbeats 4000000 in
theorem j_first (sg : zI) (ta : zJ) : zP yX8_first mX8_first 0 [.ref (nm 20 0)] sg ta (fun v s t => v = none ∧ t = ta ∧ frm [(37, 0), (38, 0)] sg s ∧ (∀ q, q < 4 → s 37 0 q = 0) ∧ ∀ q, q < 20 → s 38 0 q = 0) := by
  refine zP_of (lv := [some (.ref (nm 20 0)), none]) (by decide +kernel) rfl (fun h => by cases h) rfl (Nat.le_of_ble_eq_true rfl) ?_
  have loop2 : ∀ (k j : Nat) (s : zI), j + k = 20 → frm [(37, 0), (38, 0)] sg s → (∀ q, q < 4 → s 37 0 q = 0) → (∀ q, q < j → s 38 0 q = 0) → Zq mX8_first 0 (fun v s t => v = none ∧ t = ta ∧ frm [(37, 0), (38, 0)] sg s ∧ (∀ q, q < 4 → s 37 0 q = 0) ∧ ∀ q, q < 20 → s 38 0 q = 0) s ta 22 [some (.ref (nm 20 0)), some (.int (nI j))] [] := by
    intro k
    induction k with
    | zero =>
      intro j s hj hf h1 h2
      have : j = 20 := by omega
      subst this
      refine q_iload_n dX8_first_22 rfl ?_
      refine q_bipush (v := 20) dX8_first_23 rfl ?_
      refine q_icmp_ge 41 dX8_first_25 (by decide) (fun g => ?_) (fun g => ?_)
      · exact z_vret dX8_first_41 rfl ⟨rfl, rfl, hf, h1, h2⟩
      · exact absurd (nI_le (a := 20) (by omega) (by omega)) g
    | succ k ih =>
      intro j s hj hf h1 h2
      refine q_iload_n dX8_first_22 rfl ?_
      refine q_bipush (v := 20) dX8_first_23 rfl ?_
      refine q_icmp_ge 41 dX8_first_25 (by decide) (fun g => ?_) (fun g => ?_)
      · exact absurd g (nI_ge (b := 20) (by omega) (by omega))
      · refine q_aload_n dX8_first_28 rfl ?_
        refine z_get 25 dX8_first_29 (by first | assumption | decide) (sh_20 _ _ _) rfl (by decide) fl_X8_69 rfl ?_
        refine q_iload_n dX8_first_32 rfl ?_
        refine q_iconst (v := 0) dX8_first_33 rfl ?_
        refine z_iast dX8_first_34 (by first | assumption | decide) (fun _ _ => rfl) (vp_in_nI (n := j) (by omega) (by omega)) ?_
        refine q_iinc dX8_first_35 rfl (Nat.le_of_ble_eq_true rfl) rfl ?_
        dsimp only [List.set]
        refine q_goto 22 dX8_first_38 (by decide) ?_
        rw [nI_clamp (by omega), nI_inc]
        refine ih (j + 1) _ (by omega) (frm_up3 (by simp) hf) (fun q hq => by rw [up3_ne (by omega)]; exact h1 q hq) (fun q hq => ?_)
        rw [up3_get]
        by_cases e : q = j
        · rw [if_pos ⟨rfl, rfl, e⟩]
        · rw [if_neg (by omega)]; exact h2 q (by omega)
  have loop : ∀ (k j : Nat) (s : zI), j + k = 4 → frm [(37, 0), (38, 0)] sg s → (∀ q, q < j → s 37 0 q = 0) → Zq mX8_first 0 (fun v s t => v = none ∧ t = ta ∧ frm [(37, 0), (38, 0)] sg s ∧ (∀ q, q < 4 → s 37 0 q = 0) ∧ ∀ q, q < 20 → s 38 0 q = 0) s ta 2 [some (.ref (nm 20 0)), some (.int (nI j))] [] := by
    intro k
    induction k with
    | zero =>
      intro j s hj hf h1
      have : j = 4 := by omega
      subst this
      refine q_iload_n dX8_first_2 rfl ?_
      refine q_iconst (v := 4) dX8_first_3 rfl ?_
      refine q_icmp_ge 20 dX8_first_4 (by decide) (fun g => ?_) (fun g => ?_)
      · refine q_iconst (v := 0) dX8_first_20 rfl ?_
        refine s_istore_n 1 dX8_first_21 rfl (Nat.le_of_ble_eq_true rfl) rfl ?_
        dsimp only [List.set]
        exact loop2 20 0 s (by omega) hf h1 (fun q hq => absurd hq (by omega))
      · exact absurd (nI_le (a := 4) (by omega) (by omega)) g
    | succ k ih =>
      intro j s hj hf h1
      refine q_iload_n dX8_first_2 rfl ?_
      refine q_iconst (v := 4) dX8_first_3 rfl ?_
      refine q_icmp_ge 20 dX8_first_4 (by decide) (fun g => ?_) (fun g => ?_)
      · exact absurd g (nI_ge (b := 4) (by omega) (by omega))
      · refine q_aload_n dX8_first_7 rfl ?_
        refine z_get 24 dX8_first_8 (by first | assumption | decide) (sh_20 _ _ _) rfl (by decide) fl_X8_66 rfl ?_
        refine q_iload_n dX8_first_11 rfl ?_
        refine q_iconst (v := 0) dX8_first_12 rfl ?_
        refine z_iast dX8_first_13 (by first | assumption | decide) (fun _ _ => rfl) (vp_in_nI (n := j) (by omega) (by omega)) ?_
        refine q_iinc dX8_first_14 rfl (Nat.le_of_ble_eq_true rfl) rfl ?_
        dsimp only [List.set]
        refine q_goto 2 dX8_first_17 (by decide) ?_
        rw [nI_clamp (by omega), nI_inc]
        refine ih (j + 1) _ (by omega) (frm_up3 (by simp) hf) (fun q hq => ?_)
        rw [up3_get]
        by_cases e : q = j
        · rw [if_pos ⟨rfl, rfl, e⟩]
        · rw [if_neg (by omega)]; exact h1 q (by omega)
  refine q_iconst (v := 0) dX8_first_0 rfl ?_
  refine s_istore_n 1 dX8_first_1 rfl (Nat.le_of_ble_eq_true rfl) rfl ?_
  dsimp only [List.set]
  exact loop 4 0 sg (by omega) (frm_refl _ _) (fun q hq => absurd hq (by omega))
theorem first_Len {s : zI} {nT : Nat} {mo : Nat → Nat} (hT : nT ≤ 4) (h : ∀ q, q < 4 → s 37 0 q = 0) : LenS s nT mo 0 := ⟨kAll_pos mo nT, fun t ht => by rw [vec_zero, h t (by omega)]; rfl⟩
theorem first_Rw {s : zI} {A nT : Nat} {mo : Nat → Nat} (hA : A = 2 ∨ A = 3) (hT : nT ≤ 4) (h : ∀ q, q < 4 → s 37 0 q = 0) (h2 : ∀ q, q < 20 → s 38 0 q = 0) : RwS s A nT mo 0 := by
  refine ⟨wSize_pos hA mo, ⟨fun t ht => ?_, fun t ht i hi => ?_⟩, fun t ht i _ h5 => h2 _ (by omega)⟩
  · rw [kOf_0 hA]; exact (first_Len hT h).2 t ht
  · rw [kOf_0 hA, vec_zero] at hi; omega
set_option maxRecDepth 100000 in
set_option maxHeartbeats 4000000 in
theorem j_nextLengths (sg : zI) (ta : zJ) (A nT : Nat) (mo : Nat → Nat) (k : Nat) (hS : SpM sg A nT mo) (hL : LenS sg nT mo k) : zP yX8_nextLengths mX8_nextLengths 0 [.ref (nm 20 0)] sg ta (fun v s t => t = ta ∧ frm [(37, 0)] sg s ∧ ((k + 1 < kAll mo nT ∧ v = some (.int 1) ∧ LenS s nT mo (k + 1)) ∨ (k + 1 = kAll mo nT ∧ v = some (.int 0)))) := by
  obtain ⟨hA23, hT4, hm5, hsz, hA, hT, hz, hm⟩ := hS
  obtain ⟨hk, hv⟩ := hL
  have hv5 := vec5 (k := k) hm5
  refine zP_of (lv := [some (.ref (nm 20 0)), none]) (by decide +kernel) rfl (fun h => by cases h) rfl (Nat.le_of_ble_eq_true rfl) ?_
  have loop : ∀ (j : Nat) (s : zI), j ≤ nT → frm [(37, 0)] sg s → (∀ u, u < j → s 37 0 u = nI (vec mo nT k u)) → (∀ u, j ≤ u → u < nT → s 37 0 u = nI 0 ∧ vec mo nT k u = mo u) → Zq mX8_nextLengths 0 (fun v s t => t = ta ∧ frm [(37, 0)] sg s ∧ ((k + 1 < kAll mo nT ∧ v = some (.int 1) ∧ LenS s nT mo (k + 1)) ∨ (k + 1 = kAll mo nT ∧ v = some (.int 0)))) s ta 7 [some (.ref (nm 20 0)), some (.int (nI j - 1))] [] := by
    intro j
    induction j with
    | zero =>
      intro s hj hf hlo hhi
      refine q_iload_n dX8_nextLengths_7 rfl ?_
      refine q_if_lt 51 dX8_nextLengths_8 (by decide) (fun h => ?_) (fun h => ?_)
      · refine q_iconst (v := 0) dX8_nextLengths_51 rfl ?_
        exact z_zret dX8_nextLengths_52 rfl (Or.inl rfl) ⟨rfl, hf, Or.inr ⟨vec_last hk (fun u hu => (hhi u (by omega) hu).2), rfl⟩⟩
      · exact absurd tm_0 h
    | succ j ih =>
      intro s hj hf hlo hhi
      rw [tm_s]
      have hin : vp_in (nI j) 4 := vp_in_nI (by omega) (by omega)
      refine q_iload_n dX8_nextLengths_7 rfl ?_
      refine q_if_lt 51 dX8_nextLengths_8 (by decide) (fun h => ?_) (fun h => ?_)
      · exact absurd h (nI_pos (by omega))
      · refine q_aload_n dX8_nextLengths_11 rfl ?_
        refine z_get 24 dX8_nextLengths_12 (by first | assumption | decide) (sh_20 _ _ _) rfl (by decide) fl_X8_66 rfl ?_
        refine q_iload_n dX8_nextLengths_15 rfl ?_
        refine z_iald dX8_nextLengths_16 (by first | assumption | decide) rfl (by assumption) ?_
        refine q_aload_n dX8_nextLengths_17 rfl ?_
        refine z_get 2 dX8_nextLengths_18 (by first | assumption | decide) (sh_20 _ _ _) rfl (by decide) fl_X8_13 rfl ?_
        refine q_iload_n dX8_nextLengths_21 rfl ?_
        refine z_iald dX8_nextLengths_22 (by first | assumption | decide) rfl (by assumption) ?_
        rw [nI_clamp (by omega), hlo j (by omega), hf 21 0 (by simp), hm j (by omega)]
        have b1 := hv5 j (by omega)
        have b2 := hm5 j (by omega)
        refine q_icmp_ge 38 dX8_nextLengths_23 (by decide) (fun h2 => ?_) (fun h2 => ?_)
        · have h3 : vec mo nT k j = mo j := by
            have := vec_le mo nT k j (by omega)
            have := (nI_leI (by omega) (by omega)).mp h2
            omega
          refine q_aload_n dX8_nextLengths_38 rfl ?_
          refine z_get 24 dX8_nextLengths_39 (by first | assumption | decide) (sh_20 _ _ _) rfl (by decide) fl_X8_66 rfl ?_
          refine q_iload_n dX8_nextLengths_42 rfl ?_
          refine q_iconst (v := 0) dX8_nextLengths_43 rfl ?_
          refine z_iast dX8_nextLengths_44 (by first | assumption | decide) (fun _ _ => rfl) (by assumption) ?_
          refine q_iinc dX8_nextLengths_45 rfl (Nat.le_of_ble_eq_true rfl) rfl ?_
          dsimp only [List.set]
          refine q_goto 7 dX8_nextLengths_48 (by decide) ?_
          rw [nI_clamp (by omega), tm_dec]
          refine ih _ (by omega) (frm_up3 (by simp) hf) (fun u hu => ?_) (fun u hu hu2 => ?_)
          · rw [up3_get, if_neg (by omega)]; exact hlo u (by omega)
          · rw [up3_get]
            by_cases g : u = j
            · subst g; rw [if_pos ⟨rfl, rfl, rfl⟩]; exact ⟨rfl, h3⟩
            · rw [if_neg (by omega)]; exact hhi u (by omega) hu2
        · have h3 : vec mo nT k j < mo j := Nat.lt_of_not_le (fun q => h2 (nI_le q (by omega)))
          refine q_aload_n dX8_nextLengths_26 rfl ?_
          refine z_get 24 dX8_nextLengths_27 (by first | assumption | decide) (sh_20 _ _ _) rfl (by decide) fl_X8_66 rfl ?_
          refine q_iload_n dX8_nextLengths_30 rfl ?_
          refine q_dup2 dX8_nextLengths_31 rfl rfl ?_
          refine z_iald dX8_nextLengths_32 (by first | assumption | decide) rfl (by assumption) ?_
          rw [nI_clamp (by omega), hlo j (by omega)]
          refine q_iconst (v := 1) dX8_nextLengths_33 rfl ?_
          refine q_iadd dX8_nextLengths_34 ?_
          rw [nI_1]
          refine z_iast dX8_nextLengths_35 (by first | assumption | decide) (fun _ _ => rfl) (by assumption) ?_
          refine q_iconst (v := 1) dX8_nextLengths_36 rfl ?_
          rw [nI_clamp (by omega)]
          have hn := vec_next (w := fun u => if u = j then vec mo nT k j + 1 else if u < j then vec mo nT k u else 0) hk (show j < nT by omega) h3 (by simp) (fun u hu => by rw [if_neg (by omega), if_pos hu]) (fun u hu hu2 => ⟨(hhi u (by omega) hu2).2, by rw [if_neg (by omega), if_neg (by omega)]⟩)
          refine z_zret dX8_nextLengths_37 rfl (Or.inr rfl) ⟨rfl, frm_up3 (by simp) hf, Or.inl ⟨hn.1, rfl, hn.1, fun t ht => ?_⟩⟩
          rw [← hn.2 t ht, up3_get]
          by_cases g : t = j
          · subst g; rw [if_pos ⟨rfl, rfl, rfl⟩, if_pos rfl]
          · rw [if_neg (by omega), if_neg g]
            by_cases g2 : t < j
            · rw [if_pos g2]; exact hlo t (by omega)
            · rw [if_neg g2]; exact (hhi t (by omega) ht).1
  refine q_aload_n dX8_nextLengths_0 rfl ?_
  refine z_get 1 dX8_nextLengths_1 (by first | assumption | decide) (sh_20 _ _ _) rfl (by decide) fl_X8_101 rfl ?_
  rw [hT]
  refine q_iconst (v := 1) dX8_nextLengths_4 rfl ?_
  refine q_isub dX8_nextLengths_5 ?_
  refine s_istore_n 1 dX8_nextLengths_6 rfl (Nat.le_of_ble_eq_true rfl) rfl ?_
  dsimp only [List.set]
  exact loop nT sg (Nat.le_refl _) (frm_refl _ _) hv (fun u hu hu2 => by omega)
set_option maxRecDepth 100000 in
set_option maxHeartbeats 8000000 in
theorem j_nextLetters (sg : zI) (ta : zJ) (A nT : Nat) (mo : Nat → Nat) (w : Nat) (hS : SpM sg A nT mo) (hR : RwS sg A nT mo w) : zP yX8_nextLetters mX8_nextLetters 0 [.ref (nm 20 0)] sg ta (fun v s t => t = ta ∧ frm [(38, 0)] sg s ∧ ((v = some (.int 1) ∧ RwS s A nT mo (w + 1)) ∨ (v = some (.int 0) ∧ w + 1 = wFst A mo nT (kOf A mo nT w + 1) ∧ ∀ t, t < nT → ∀ i, i < 5 → s 38 0 (5 * t + i) = 0))) := by
  obtain ⟨hA23, hT4, hm5, hsz, hA, hT, hz, hm⟩ := hS
  obtain ⟨hw, ⟨hl, hlet⟩, hzer⟩ := hR
  have hin := kOf_in hw
  generalize hk : kOf A mo nT w = k at *
  have hv5 := vec5 (k := k) hm5
  have pm : ∀ t u, t < u → psum (vec mo nT k) t + vec mo nT k t ≤ psum (vec mo nT k) u := fun t u h => psum_mono h
  have hr : w - wFst A mo nT k < kAll (fun _ => A - 1) (wTot mo nT k) := by
    rw [kAll_pow, show A - 1 + 1 = A by omega]
    have := hin.2.2
    rw [wFst_s] at this
    have := hin.2.1
    omega
  have eW : ∀ j, wLet A mo nT w j = vec (fun _ => A - 1) (wTot mo nT k) (w - wFst A mo nT k) j := fun j => by unfold wLet; rw [hk]
  refine zP_of (lv := [some (.ref (nm 20 0)), none, none]) (by decide +kernel) rfl (fun h => by cases h) rfl (Nat.le_of_ble_eq_true rfl) ?_
  -- all at and behind place P have gone round
  have inner : ∀ (j t : Nat) (s : zI) (ex : ∀ s, frm [(38, 0)] sg s → (∀ u, u < nT → ∀ i, i < vec mo nT k u → (psum (vec mo nT k) t ≤ psum (vec mo nT k) u + i → s 38 0 (5 * u + i) = 0 ∧ wLet A mo nT w (psum (vec mo nT k) u + i) = A - 1) ∧ (psum (vec mo nT k) u + i < psum (vec mo nT k) t → s 38 0 (5 * u + i) = sg 38 0 (5 * u + i))) → (∀ u, u < nT → ∀ i, vec mo nT k u ≤ i → i < 5 → s 38 0 (5 * u + i) = 0) → ∀ x, Zq mX8_nextLetters 0 (fun v s t => t = ta ∧ frm [(38, 0)] sg s ∧ ((v = some (.int 1) ∧ RwS s A nT mo (w + 1)) ∨ (v = some (.int 0) ∧ w + 1 = wFst A mo nT (k + 1) ∧ ∀ t, t < nT → ∀ i, i < 5 → s 38 0 (5 * t + i) = 0))) s ta 76 [some (.ref (nm 20 0)), some (.int (nI t)), some (.int x)] []), t < nT → j ≤ vec mo nT k t → frm [(38, 0)] sg s → (∀ u, u < nT → ∀ i, i < vec mo nT k u → (psum (vec mo nT k) t + j ≤ psum (vec mo nT k) u + i → s 38 0 (5 * u + i) = 0 ∧ wLet A mo nT w (psum (vec mo nT k) u + i) = A - 1) ∧ (psum (vec mo nT k) u + i < psum (vec mo nT k) t + j → s 38 0 (5 * u + i) = sg 38 0 (5 * u + i))) → (∀ u, u < nT → ∀ i, vec mo nT k u ≤ i → i < 5 → s 38 0 (5 * u + i) = 0) → Zq mX8_nextLetters 0 (fun v s t => t = ta ∧ frm [(38, 0)] sg s ∧ ((v = some (.int 1) ∧ RwS s A nT mo (w + 1)) ∨ (v = some (.int 0) ∧ w + 1 = wFst A mo nT (k + 1) ∧ ∀ t, t < nT → ∀ i, i < 5 → s 38 0 (5 * t + i) = 0))) s ta 20 [some (.ref (nm 20 0)), some (.int (nI t)), some (.int (nI j - 1))] [] := by
    intro j
    induction j with
    | zero =>
      intro t s ex ht hj hf hI hZ
      refine q_iload_n dX8_nextLetters_20 rfl ?_
      refine q_if_lt 76 dX8_nextLetters_21 (by decide) (fun h => ?_) (fun h => ?_)
      · exact ex s hf hI hZ _
      · exact absurd tm_0 h
    | succ j ih =>
      intro t s ex ht hj hf hI hZ
      have t5 := hv5 t ht
      have t4 : t < 4 := by omega
      rw [tm_s]
      refine q_iload_n dX8_nextLetters_20 rfl ?_
      refine q_if_lt 76 dX8_nextLetters_21 (by decide) (fun h => ?_) (fun h => ?_)
      · exact absurd h (nI_pos (by omega))
      · have eI : (5 : Int32) * nI t + nI j = nI (5 * t + j) := by rw [show (5 : Int32) * nI t = nI (5 * t) from pk_mul 5 t, nI_add]
        have hcur : s 38 0 (5 * t + j) = nI (wLet A mo nT w (psum (vec mo nT k) t + j)) := by
          rw [(hI t ht j (by omega)).2 (by omega), hlet t ht j (by omega)]
        have hlt := wLet_lt hA23 mo nT w (psum (vec mo nT k) t + j)
        have ptot : psum (vec mo nT k) t + j < wTot mo nT k := by
          have := pm t nT ht
          unfold wTot
          omega
        refine q_aload_n dX8_nextLetters_24 rfl ?_
        refine z_get 25 dX8_nextLetters_25 (by first | assumption | decide) (sh_20 _ _ _) rfl (by decide) fl_X8_69 rfl ?_
        refine q_iconst (v := 5) dX8_nextLetters_28 rfl ?_
        refine q_iload_n dX8_nextLetters_29 rfl ?_
        refine q_imul dX8_nextLetters_30 ?_
        refine q_iload_n dX8_nextLetters_31 rfl ?_
        refine q_iadd dX8_nextLetters_32 ?_
        rw [eI]
        refine z_iald dX8_nextLetters_33 (by first | assumption | decide) rfl (vp_in_nI (n := 5 * t + j) (by omega) (by omega)) ?_
        refine q_iconst (v := 1) dX8_nextLetters_34 rfl ?_
        refine q_iadd dX8_nextLetters_35 ?_
        rw [nI_clamp (by omega), hcur, nI_1]
        refine q_aload_n dX8_nextLetters_36 rfl ?_
        refine z_get 0 dX8_nextLetters_37 (by first | assumption | decide) (sh_20 _ _ _) rfl (by decide) fl_X8_7 rfl ?_
        rw [hf 20 0 (by simp), hA]
        refine q_icmp_ge 59 dX8_nextLetters_40 (by decide) (fun g => ?_) (fun g => ?_)
        · have hge := (nI_leI (by omega) (by omega)).mp g
          refine q_aload_n dX8_nextLetters_59 rfl ?_
          refine z_get 25 dX8_nextLetters_60 (by first | assumption | decide) (sh_20 _ _ _) rfl (by decide) fl_X8_69 rfl ?_
          refine q_iconst (v := 5) dX8_nextLetters_63 rfl ?_
          refine q_iload_n dX8_nextLetters_64 rfl ?_
          refine q_imul dX8_nextLetters_65 ?_
          refine q_iload_n dX8_nextLetters_66 rfl ?_
          refine q_iadd dX8_nextLetters_67 ?_
          rw [eI]
          refine q_iconst (v := 0) dX8_nextLetters_68 rfl ?_
          refine z_iast dX8_nextLetters_69 (by first | assumption | decide) (fun _ _ => rfl) (vp_in_nI (n := 5 * t + j) (by omega) (by omega)) ?_
          refine q_iinc dX8_nextLetters_70 rfl (Nat.le_of_ble_eq_true rfl) rfl ?_
          dsimp only [List.set]
          refine q_goto 20 dX8_nextLetters_73 (by decide) ?_
          rw [nI_clamp (by omega), tm_dec]
          refine ih t _ ex ht (by omega) (frm_up3 (by simp) hf) (fun u hu i hi => ?_) (fun u hu i h1 h2 => ?_)
          · have u5 := hv5 u hu
            rw [up3_get]
            by_cases e : u = t ∧ i = j
            · obtain ⟨rfl, rfl⟩ := e
              rw [if_pos ⟨rfl, rfl, rfl⟩]
              exact ⟨fun _ => ⟨rfl, by omega⟩, fun q => absurd q (by omega)⟩
            · rw [if_neg (by omega)]
              obtain ⟨c1, c2⟩ := hI u hu i hi
              refine ⟨fun q => c1 ?_, fun q => c2 (by omega)⟩
              rcases Nat.lt_trichotomy u t with z | z | z
              · have := pm u t z; omega
              · subst z; omega
              · have := pm t u z; omega
          · rw [up3_get, if_neg (fun q => by
              have u5 := hv5 u hu
              by_cases e : u = t
              · subst e; omega
              · omega)]
            exact hZ u hu i h1 h2
        · have hup : wLet A mo nT w (psum (vec mo nT k) t + j) + 1 < A := Nat.lt_of_not_le (fun q => g (nI_le q (by omega)))
          refine q_aload_n dX8_nextLetters_43 rfl ?_
          refine z_get 25 dX8_nextLetters_44 (by first | assumption | decide) (sh_20 _ _ _) rfl (by decide) fl_X8_69 rfl ?_
          refine q_iconst (v := 5) dX8_nextLetters_47 rfl ?_
          refine q_iload_n dX8_nextLetters_48 rfl ?_
          refine q_imul dX8_nextLetters_49 ?_
          refine q_iload_n dX8_nextLetters_50 rfl ?_
          refine q_iadd dX8_nextLetters_51 ?_
          rw [eI]
          refine q_dup2 dX8_nextLetters_52 rfl rfl ?_
          refine z_iald dX8_nextLetters_53 (by first | assumption | decide) rfl (vp_in_nI (n := 5 * t + j) (by omega) (by omega)) ?_
          rw [nI_clamp (by omega), hcur]
          refine q_iconst (v := 1) dX8_nextLetters_54 rfl ?_
          refine q_iadd dX8_nextLetters_55 ?_
          rw [nI_1]
          refine z_iast dX8_nextLetters_56 (by first | assumption | decide) (fun _ _ => rfl) (vp_in_nI (n := 5 * t + j) (by omega) (by omega)) ?_
          refine q_iconst (v := 1) dX8_nextLetters_57 rfl ?_
          rw [nI_clamp (by omega)]
          have full : ∀ P, psum (vec mo nT k) t + j < P → P < wTot mo nT k → wLet A mo nT w P = A - 1 := by
            intro P h1 h2
            obtain ⟨u, i, hu, hi, e⟩ := psum_pos (v := vec mo nT k) (n := nT) (P := P) h2
            subst e
            exact ((hI u hu i hi).1 (by omega)).2
          have hn := vec_next (mo := fun _ => A - 1) (w := fun P => if P = psum (vec mo nT k) t + j then wLet A mo nT w (psum (vec mo nT k) t + j) + 1 else if P < psum (vec mo nT k) t + j then wLet A mo nT w P else 0) hr ptot (by rw [← eW]; omega) (by simp only [if_true]; rw [eW]) (fun P hP => by rw [if_neg (by omega), if_pos hP, eW]) (fun P h1 h2 => ⟨by rw [← eW]; exact full P h1 h2, by rw [if_neg (by omega), if_neg (by omega)]⟩)
          have hk2 : wIn A mo nT (w + 1) k := by
            refine ⟨hin.1, by have := hin.2.1; omega, ?_⟩
            have h1 := hn.1
            rw [kAll_pow, show A - 1 + 1 = A by omega] at h1
            rw [wFst_s]
            have := hin.2.1
            omega
          have ek := kOf_eq hk2
          have eW2 : ∀ P, P < wTot mo nT k → wLet A mo nT (w + 1) P = if P = psum (vec mo nT k) t + j then wLet A mo nT w (psum (vec mo nT k) t + j) + 1 else if P < psum (vec mo nT k) t + j then wLet A mo nT w P else 0 := fun P hP => by
            unfold wLet
            rw [ek, show w + 1 - wFst A mo nT k = w - wFst A mo nT k + 1 by have := hin.2.1; omega, ← hn.2 P hP]
            rfl
          refine z_zret dX8_nextLetters_58 rfl (Or.inr rfl) ⟨rfl, frm_up3 (by simp) hf, Or.inl ⟨rfl, ?_, ⟨fun u hu => ?_, fun u hu i hi => ?_⟩, fun u hu i h1 h2 => ?_⟩⟩
          · exact Nat.lt_of_lt_of_le hk2.2.2 (wFst_le A mo nT hk2.1)
          · rw [ek, up3_ne (by omega), hf 37 0 (by simp)]; exact hl u hu
          · rw [ek] at hi ⊢
            have u5 := hv5 u hu
            have hp : psum (vec mo nT k) u + i < wTot mo nT k := by
              have := pm u nT hu
              unfold wTot
              omega
            rw [eW2 _ hp, up3_get]
            by_cases e : u = t ∧ i = j
            · obtain ⟨rfl, rfl⟩ := e
              rw [if_pos ⟨rfl, rfl, rfl⟩, if_pos rfl]
            · rw [if_neg (by omega)]
              obtain ⟨c1, c2⟩ := hI u hu i hi
              rcases Nat.lt_trichotomy u t with z | z | z
              · have := pm u t z
                rw [if_neg (by omega), if_pos (by omega), c2 (by omega)]
                exact hlet u hu i hi
              · subst z
                by_cases z2 : i < j
                · rw [if_neg (by omega), if_pos (by omega), c2 (by omega)]
                  exact hlet u hu i hi
                · rw [if_neg (by omega), if_neg (by omega), (c1 (by omega)).1]; rfl
              · have := pm t u z
                rw [if_neg (by omega), if_neg (by omega), (c1 (by omega)).1]; rfl
          · rw [ek] at h1
            rw [up3_get, if_neg (fun q => by
              by_cases e : u = t
              · subst e; omega
              · omega)]
            exact hZ u hu i h1 h2
  have loop : ∀ (j : Nat) (s : zI) (z : Option Value), j ≤ nT → frm [(38, 0)] sg s → (∀ u, u < nT → ∀ i, i < vec mo nT k u → (psum (vec mo nT k) j ≤ psum (vec mo nT k) u + i → s 38 0 (5 * u + i) = 0 ∧ wLet A mo nT w (psum (vec mo nT k) u + i) = A - 1) ∧ (psum (vec mo nT k) u + i < psum (vec mo nT k) j → s 38 0 (5 * u + i) = sg 38 0 (5 * u + i))) → (∀ u, u < nT → ∀ i, vec mo nT k u ≤ i → i < 5 → s 38 0 (5 * u + i) = 0) → Zq mX8_nextLetters 0 (fun v s t => t = ta ∧ frm [(38, 0)] sg s ∧ ((v = some (.int 1) ∧ RwS s A nT mo (w + 1)) ∨ (v = some (.int 0) ∧ w + 1 = wFst A mo nT (k + 1) ∧ ∀ t, t < nT → ∀ i, i < 5 → s 38 0 (5 * t + i) = 0))) s ta 7 [some (.ref (nm 20 0)), some (.int (nI j - 1)), z] [] := by
    intro j
    induction j with
    | zero =>
      intro s z hj hf hI hZ
      refine q_iload_n dX8_nextLetters_7 rfl ?_
      refine q_if_lt 82 dX8_nextLetters_8 (by decide) (fun h => ?_) (fun h => ?_)
      · refine q_iconst (v := 0) dX8_nextLetters_82 rfl ?_
        refine z_zret dX8_nextLetters_83 rfl (Or.inl rfl) ⟨rfl, hf, Or.inr ⟨rfl, ?_, fun t ht i hi => ?_⟩⟩
        · have hlast := vec_last hr (fun P hP => by
            rw [← eW]
            obtain ⟨u, i, hu, hi, e⟩ := psum_pos (v := vec mo nT k) (n := nT) (P := P) hP
            subst e
            exact ((hI u hu i hi).1 (by simp [psum])).2)
          rw [kAll_pow, show A - 1 + 1 = A by omega] at hlast
          rw [wFst_s, ← hlast]
          have := hin.2.1
          omega
        · by_cases q : i < vec mo nT k t
          · exact ((hI t ht i q).1 (by simp [psum])).1
          · exact hZ t ht i (by omega) hi
      · exact absurd tm_0 h
    | succ j ih =>
      intro s z hj hf hI hZ
      rw [tm_s]
      refine q_iload_n dX8_nextLetters_7 rfl ?_
      refine q_if_lt 82 dX8_nextLetters_8 (by decide) (fun h => ?_) (fun h => ?_)
      · exact absurd h (nI_pos (by omega))
      · refine q_aload_n dX8_nextLetters_11 rfl ?_
        refine z_get 24 dX8_nextLetters_12 (by first | assumption | decide) (sh_20 _ _ _) rfl (by decide) fl_X8_66 rfl ?_
        refine q_iload_n dX8_nextLetters_15 rfl ?_
        refine z_iald dX8_nextLetters_16 (by first | assumption | decide) rfl (vp_in_nI (n := j) (by omega) (by omega)) ?_
        rw [nI_clamp (by omega), hf 37 0 (by simp), hl j (by omega)]
        refine q_iconst (v := 1) dX8_nextLetters_17 rfl ?_
        refine q_isub dX8_nextLetters_18 ?_
        refine s_istore_n 2 dX8_nextLetters_19 rfl (Nat.le_of_ble_eq_true rfl) rfl ?_
        dsimp only [List.set]
        refine inner (vec mo nT k j) j s (fun s2 hf2 hI2 hZ2 x => ?_) (by omega) (Nat.le_refl _) hf hI hZ
        refine q_iinc dX8_nextLetters_76 rfl (Nat.le_of_ble_eq_true rfl) rfl ?_
        dsimp only [List.set]
        refine q_goto 7 dX8_nextLetters_79 (by decide) ?_
        rw [tm_dec]
        exact ih s2 _ (by omega) hf2 hI2 hZ2
  refine q_aload_n dX8_nextLetters_0 rfl ?_
  refine z_get 1 dX8_nextLetters_1 (by first | assumption | decide) (sh_20 _ _ _) rfl (by decide) fl_X8_101 rfl ?_
  rw [hT]
  refine q_iconst (v := 1) dX8_nextLetters_4 rfl ?_
  refine q_isub dX8_nextLetters_5 ?_
  refine s_istore_n 1 dX8_nextLetters_6 rfl (Nat.le_of_ble_eq_true rfl) rfl ?_
  dsimp only [List.set]
  refine loop nT sg none (Nat.le_refl _) (frm_refl _ _) (fun u hu i hi => ⟨fun q => ?_, fun _ => rfl⟩) hzer
  have := pm u nT hu
  omega
