/-! THE REFERENCE: a term is spelled into a row -/
def RwM (s : zI) (A nT : Nat) (mo : Nat → Nat) (w : Nat) : Prop := (∀ t, t < nT → s 37 0 t = nI (vec mo nT (kOf A mo nT w) t)) ∧ ∀ t, t < nT → ∀ i, i < vec mo nT (kOf A mo nT w) t → s 38 0 (5 * t + i) = nI (wLet A mo nT w (psum (vec mo nT (kOf A mo nT w)) t + i))
def MRow (s : zI) (r : Nat) (l : List Int32) : Prop := s 40 0 r = nI l.length ∧ l.length ≤ 30 ∧ ∀ j, j < l.length → fn l j = s 39 0 (32 * r + j)
def RwP (sg s : zI) (r : Nat) (l : List Int32) : Prop := frm [(39, 0)] sg s ∧ (∀ j, j < l.length → fn l j = s 39 0 (32 * r + j)) ∧ ∀ q, ¬ (32 * r ≤ q ∧ q < 32 * r + 32) → s 39 0 q = sg 39 0 q
theorem RwP_nil (sg : zI) (r : Nat) : RwP sg sg r [] := ⟨frm_refl _ _, fun j hj => by simp at hj, fun _ _ => rfl⟩
theorem RwP_push {sg s : zI} {r : Nat} {l : List Int32} {x : Int32} (h : RwP sg s r l) (hl : l.length < 30) : RwP sg (up3 s 39 0 (32 * r + l.length) x) r (l ++ [x]) := by
  obtain ⟨h1, h2, h3⟩ := h
  refine ⟨frm_up3 (by simp) h1, fun j hj => ?_, fun q hq => ?_⟩
  · rw [up3_get]
    simp only [List.length_append, List.length_cons, List.length_nil] at hj
    by_cases e : j = l.length
    · subst e
      rw [if_pos ⟨rfl, rfl, rfl⟩]
      have := fn_app_r (l := l) (m := [x]) (j := 0)
      rw [Nat.add_zero] at this
      rw [this]; rfl
    · rw [if_neg (by omega), fn_app_l (by omega)]
      exact h2 j (by omega)
  · rw [up3_get, if_neg (by omega)]
    exact h3 q hq
theorem PV_PartOk {A nT w : Nat} {mo : Nat → Nat} {x : Int32} (hA : A = 2 ∨ A = 3) (hT : nT ≤ 4) (hm : ∀ t, t < nT → mo t ≤ 5) (h : PV A nT x) : PartOk (Lw A mo nT w) (Sw A mo nT w) x := by
  rcases h with ⟨a, ha, e⟩ | ⟨t, ht, e⟩
  · rw [e]; exact Or.inl (PV_letter (by omega))
  · rw [e]; exact Or.inr ⟨t, _, _, PV_text t, by omega, rfl, vec5 hm t ht, rfl, psum20 hT (vec5 hm) ht⟩
theorem spM_tk {mu : zI} {A nT nt n w t : Nat} {mo : Nat → Nat} (hnt : nt ≤ 12) (ht : t < nt) (hn : mu 22 0 t = nI n) (hn6 : n ≤ 6) : spM mu A nT mo w (nI t) = spl (fun j => mu 23 0 (6 * t + j)) (Lw A mo nT w) (Sw A mo nT w) (Rw A mo nT w) n := by
  unfold spM
  rw [if_neg (nI_m1 (by omega)), nI_clamp (show t < 2 ^ 31 by omega), hn, nI_clamp (show n < 2 ^ 31 by omega)]
theorem range_push (f : Nat → Int32) (i : Nat) : (List.range (i + 1)).map f = (List.range i).map f ++ [f i] := by rw [List.range_succ, List.map_append]; rfl
set_option maxRecDepth 100000 in
set_option maxHeartbeats 8000000 in
theorem j_spell (sg : zI) (ta : zJ) (A nT nt w r t : Nat) (mo : Nat → Nat) (hS : SpM sg A nT mo) (hE : TeM sg A nT nt) (hW : RwM sg A nT mo w) (hr : r < 4) (ht : t < nt) : zP yX8_spell mX8_spell 0 [.ref (nm 20 0), .int (nI r), .int (nI t)] sg ta (fun v s u => v = none ∧ u = ta ∧ frm [(39, 0), (40, 0)] sg s ∧ MRow s r (spM sg A nT mo w (nI t)) ∧ ∀ r', r' ≠ r → ∀ l, MRow sg r' l → MRow s r' l) := by
  have hnt := hE.1
  have hA := hS.1
  have hT := hS.2.1
  have hm5 := hS.2.2.1
  obtain ⟨n, hn6, hn, hp⟩ := hE.2.2 t ht
  have v5 : ∀ u, u < nT → vec mo nT (kOf A mo nT w) u ≤ 5 := vec5 hm5
  have hlen : ∀ k, k ≤ n → (spl (fun j => sg 23 0 (6 * t + j)) (Lw A mo nT w) (Sw A mo nT w) (Rw A mo nT w) k).length ≤ 5 * k := fun k hk => spl_len k (fun j hj => PV_PartOk hA hT hm5 (hp j (by omega)))
  rw [spM_tk hnt ht hn hn6]
  have e32 : (32 : Int32) * nI r = nI (32 * r) := pk_mul 32 r
  refine zP_of (lv := [some (.ref (nm 20 0)), some (.int (nI r)), some (.int (nI t)), none, none, none, none]) (by decide +kernel) rfl (fun h => by cases h) rfl (Nat.le_of_ble_eq_true rfl) ?_
  have loop : ∀ (k j : Nat) (s : zI) (z1 z2 : Option Value), j + k = n → RwP sg s r (spl (fun j => sg 23 0 (6 * t + j)) (Lw A mo nT w) (Sw A mo nT w) (Rw A mo nT w) j) → Zq mX8_spell 0 (fun v s u => v = none ∧ u = ta ∧ frm [(39, 0), (40, 0)] sg s ∧ MRow s r (spl (fun j => sg 23 0 (6 * t + j)) (Lw A mo nT w) (Sw A mo nT w) (Rw A mo nT w) n) ∧ ∀ r', r' ≠ r → ∀ l, MRow sg r' l → MRow s r' l) s ta 5 [some (.ref (nm 20 0)), some (.int (nI r)), some (.int (nI t)), some (.int (nI (spl (fun j => sg 23 0 (6 * t + j)) (Lw A mo nT w) (Sw A mo nT w) (Rw A mo nT w) j).length)), some (.int (nI j)), z1, z2] [] := by
    intro k
    induction k with
    | zero =>
      intro j s z1 z2 hj hP
      have : j = n := by omega
      subst this
      have hl := hlen j (Nat.le_refl _)
      refine q_iload dX8_spell_5 rfl ?_
      refine q_aload_n dX8_spell_7 rfl ?_
      refine z_get 5 dX8_spell_8 (by first | assumption | decide) (sh_20 _ _ _) rfl (by decide) fl_X8_20 rfl ?_
      refine q_iload_n dX8_spell_11 rfl ?_
      refine z_iald dX8_spell_12 (by first | assumption | decide) rfl (vp_in_nI (n := t) (by omega) (by omega)) ?_
      rw [nI_clamp (by omega), hP.1 22 0 (by simp), hn]
      refine q_icmp_ge 115 dX8_spell_13 (by decide) (fun g => ?_) (fun g => ?_)
      · refine q_aload_n dX8_spell_115 rfl ?_
        refine z_get 27 dX8_spell_116 (by first | assumption | decide) (sh_20 _ _ _) rfl (by decide) fl_X8_75 rfl ?_
        refine q_iload_n dX8_spell_119 rfl ?_
        refine q_iload_n dX8_spell_120 rfl ?_
        refine z_iast dX8_spell_121 (by first | assumption | decide) (fun _ _ => rfl) (vp_in_nI (n := r) hr (by omega)) ?_
        rw [nI_clamp (by omega)]
        refine z_vret dX8_spell_122 rfl ⟨rfl, rfl, frm_up3 (by simp) (frm_mono (by simp) hP.1), ⟨by rw [up3_get, if_pos ⟨rfl, rfl, rfl⟩], by omega, fun q hq => by rw [up3_ne (by omega)]; exact hP.2.1 q hq⟩, fun r' hne l hl' => ?_⟩
        obtain ⟨a1, a2, a3⟩ := hl'
        refine ⟨by rw [up3_get, if_neg (by omega), hP.1 40 0 (by simp)]; exact a1, a2, fun q hq => ?_⟩
        rw [up3_ne (by omega), hP.2.2 _ (by omega)]
        exact a3 q hq
      · exact absurd (nI_le (by omega) (by omega)) g
    | succ k ih =>
      intro j s z1 z2 hj hP
      have hl := hlen j (by omega)
      have hl1 := hlen (j + 1) (by omega)
      refine q_iload dX8_spell_5 rfl ?_
      refine q_aload_n dX8_spell_7 rfl ?_
      refine z_get 5 dX8_spell_8 (by first | assumption | decide) (sh_20 _ _ _) rfl (by decide) fl_X8_20 rfl ?_
      refine q_iload_n dX8_spell_11 rfl ?_
      refine z_iald dX8_spell_12 (by first | assumption | decide) rfl (vp_in_nI (n := t) (by omega) (by omega)) ?_
      rw [nI_clamp (by omega), hP.1 22 0 (by simp), hn]
      refine q_icmp_ge 115 dX8_spell_13 (by decide) (fun g => ?_) (fun g => ?_)
      · exact absurd g (nI_ge (by omega) (by omega))
      · refine q_aload_n dX8_spell_16 rfl ?_
        refine z_get 6 dX8_spell_17 (by first | assumption | decide) (sh_20 _ _ _) rfl (by decide) fl_X8_23 rfl ?_
        refine q_bipush (v := 6) dX8_spell_20 rfl ?_
        refine q_iload_n dX8_spell_22 rfl ?_
        refine q_imul dX8_spell_23 ?_
        refine q_iload dX8_spell_24 rfl ?_
        rw [show (6 : Int32) * nI t = nI (6 * t) from pk_mul 6 t]
        refine q_iadd dX8_spell_26 ?_
        rw [nI_add]
        refine z_iald dX8_spell_27 (by first | assumption | decide) rfl (vp_in_nI (n := 6 * t + j) (by omega) (by omega)) ?_
        rw [nI_clamp (by omega), hP.1 23 0 (by simp)]
        refine q_istore dX8_spell_28 (Nat.le_of_ble_eq_true rfl) rfl ?_
        dsimp only [List.set]
        refine q_iload dX8_spell_30 rfl ?_
        refine q_bipush (v := 8) dX8_spell_32 rfl ?_
        rcases hp j (by omega) with ⟨a, ha, e⟩ | ⟨u, hu, e⟩
        · have eP : splP (Lw A mo nT w) (Sw A mo nT w) (Rw A mo nT w) (sg 23 0 (6 * t + j)) = [nI a] := by rw [e, splP_l (PV_letter (by omega))]
          rw [e]
          refine q_icmp_ge 56 dX8_spell_34 (by decide) (fun g2 => ?_) (fun g2 => ?_)
          · exact absurd g2 (nI_ge (b := 8) (by omega) (by omega))
          · refine q_aload_n dX8_spell_37 rfl ?_
            refine z_get 26 dX8_spell_38 (by first | assumption | decide) (sh_20 _ _ _) rfl (by decide) fl_X8_72 rfl ?_
            refine q_bipush (v := 32) dX8_spell_41 rfl ?_
            refine q_iload_n dX8_spell_43 rfl ?_
            refine q_imul dX8_spell_44 ?_
            refine q_iload_n dX8_spell_45 rfl ?_
            rw [e32]
            refine q_iadd dX8_spell_46 ?_
            rw [nI_add]
            refine q_iload dX8_spell_47 rfl ?_
            refine z_iast dX8_spell_49 (by first | assumption | decide) (fun _ _ => rfl) (vp_in_nI (n := 32 * r + (spl (fun j => sg 23 0 (6 * t + j)) (Lw A mo nT w) (Sw A mo nT w) (Rw A mo nT w) j).length) (by omega) (by omega)) ?_
            rw [nI_clamp (by omega)]
            refine q_iinc dX8_spell_50 rfl (Nat.le_of_ble_eq_true rfl) rfl ?_
            dsimp only [List.set]
            refine q_goto 109 dX8_spell_53 (by decide) ?_
            refine q_iinc dX8_spell_109 rfl (Nat.le_of_ble_eq_true rfl) rfl ?_
            dsimp only [List.set]
            refine q_goto 5 dX8_spell_112 (by decide) ?_
            rw [nI_inc, nI_inc]
            have e2 : spl (fun j => sg 23 0 (6 * t + j)) (Lw A mo nT w) (Sw A mo nT w) (Rw A mo nT w) (j + 1) = spl (fun j => sg 23 0 (6 * t + j)) (Lw A mo nT w) (Sw A mo nT w) (Rw A mo nT w) j ++ [nI a] := by simp only [spl]; rw [eP]
            have h := ih (j + 1) _ (some (.int (nI a))) z2 (by omega) (by rw [e2]; exact RwP_push hP (by omega))
            rw [e2] at h
            rw [List.length_append] at h
            exact h
        · have eP : splP (Lw A mo nT w) (Sw A mo nT w) (Rw A mo nT w) (sg 23 0 (6 * t + j)) = (List.range (vec mo nT (kOf A mo nT w) u)).map (fun i => nI (wLet A mo nT w (psum (vec mo nT (kOf A mo nT w)) u + i))) := by rw [e, splP_t (L := Lw A mo nT w) (S := Sw A mo nT w) (PV_text u) (by omega) rfl (v5 u hu) rfl (psum20 hT v5 hu)]; rfl
          have e2 : spl (fun j => sg 23 0 (6 * t + j)) (Lw A mo nT w) (Sw A mo nT w) (Rw A mo nT w) (j + 1) = spl (fun j => sg 23 0 (6 * t + j)) (Lw A mo nT w) (Sw A mo nT w) (Rw A mo nT w) j ++ (List.range (vec mo nT (kOf A mo nT w) u)).map (fun i => nI (wLet A mo nT w (psum (vec mo nT (kOf A mo nT w)) u + i))) := by simp only [spl]; rw [eP]
          have hu5 := v5 u hu
          rw [e]
          refine q_icmp_ge 56 dX8_spell_34 (by decide) (fun g2 => ?_) (fun g2 => ?_)
          · have inner : ∀ (k2 i : Nat) (s : zI), i + k2 = vec mo nT (kOf A mo nT w) u → RwP sg s r (spl (fun j => sg 23 0 (6 * t + j)) (Lw A mo nT w) (Sw A mo nT w) (Rw A mo nT w) j ++ (List.range i).map (fun i => nI (wLet A mo nT w (psum (vec mo nT (kOf A mo nT w)) u + i)))) → Zq mX8_spell 0 (fun v s u => v = none ∧ u = ta ∧ frm [(39, 0), (40, 0)] sg s ∧ MRow s r (spl (fun j => sg 23 0 (6 * t + j)) (Lw A mo nT w) (Sw A mo nT w) (Rw A mo nT w) n) ∧ ∀ r', r' ≠ r → ∀ l, MRow sg r' l → MRow s r' l) s ta 59 [some (.ref (nm 20 0)), some (.int (nI r)), some (.int (nI t)), some (.int (nI ((spl (fun j => sg 23 0 (6 * t + j)) (Lw A mo nT w) (Sw A mo nT w) (Rw A mo nT w) j).length + i))), some (.int (nI j)), some (.int (nI (8 + u))), some (.int (nI i))] [] := by
              intro k2
              induction k2 with
              | zero =>
                intro i s hi hP2
                have : i = vec mo nT (kOf A mo nT w) u := by omega
                subst this
                refine q_iload dX8_spell_59 rfl ?_
                refine q_aload_n dX8_spell_61 rfl ?_
                refine z_get 24 dX8_spell_62 (by first | assumption | decide) (sh_20 _ _ _) rfl (by decide) fl_X8_66 rfl ?_
                refine q_iload dX8_spell_65 rfl ?_
                refine q_bipush (v := 8) dX8_spell_67 rfl ?_
                refine q_isub dX8_spell_69 ?_
                rw [PV_text]
                refine z_iald dX8_spell_70 (by first | assumption | decide) rfl (vp_in_nI (n := u) (by omega) (by omega)) ?_
                rw [nI_clamp (by omega), hP2.1 37 0 (by simp), hW.1 u hu]
                refine q_icmp_ge 109 dX8_spell_71 (by decide) (fun q => ?_) (fun q => ?_)
                · refine q_iinc dX8_spell_109 rfl (Nat.le_of_ble_eq_true rfl) rfl ?_
                  dsimp only [List.set]
                  refine q_goto 5 dX8_spell_112 (by decide) ?_
                  rw [nI_inc]
                  have h := ih (j + 1) s (some (.int (nI (8 + u)))) (some (.int (nI (vec mo nT (kOf A mo nT w) u)))) (by omega) (by rw [e2]; exact hP2)
                  rw [e2, List.length_append, List.length_map, List.length_range] at h
                  exact h
                · exact absurd (nI_le (by omega) (by omega)) q
              | succ k2 ih2 =>
                intro i s hi hP2
                refine q_iload dX8_spell_59 rfl ?_
                refine q_aload_n dX8_spell_61 rfl ?_
                refine z_get 24 dX8_spell_62 (by first | assumption | decide) (sh_20 _ _ _) rfl (by decide) fl_X8_66 rfl ?_
                refine q_iload dX8_spell_65 rfl ?_
                refine q_bipush (v := 8) dX8_spell_67 rfl ?_
                refine q_isub dX8_spell_69 ?_
                rw [PV_text]
                refine z_iald dX8_spell_70 (by first | assumption | decide) rfl (vp_in_nI (n := u) (by omega) (by omega)) ?_
                rw [nI_clamp (by omega), hP2.1 37 0 (by simp), hW.1 u hu]
                refine q_icmp_ge 109 dX8_spell_71 (by decide) (fun q => ?_) (fun q => ?_)
                · exact absurd q (nI_ge (by omega) (by omega))
                · refine q_aload_n dX8_spell_74 rfl ?_
                  refine z_get 26 dX8_spell_75 (by first | assumption | decide) (sh_20 _ _ _) rfl (by decide) fl_X8_72 rfl ?_
                  refine q_bipush (v := 32) dX8_spell_78 rfl ?_
                  refine q_iload_n dX8_spell_80 rfl ?_
                  refine q_imul dX8_spell_81 ?_
                  refine q_iload_n dX8_spell_82 rfl ?_
                  rw [e32]
                  refine q_iadd dX8_spell_83 ?_
                  rw [nI_add]
                  refine q_aload_n dX8_spell_84 rfl ?_
                  refine z_get 25 dX8_spell_85 (by first | assumption | decide) (sh_20 _ _ _) rfl (by decide) fl_X8_69 rfl ?_
                  refine q_iconst (v := 5) dX8_spell_88 rfl ?_
                  refine q_iload dX8_spell_89 rfl ?_
                  refine q_bipush (v := 8) dX8_spell_91 rfl ?_
                  refine q_isub dX8_spell_93 ?_
                  rw [PV_text]
                  refine q_imul dX8_spell_94 ?_
                  rw [show (5 : Int32) * nI u = nI (5 * u) from pk_mul 5 u]
                  refine q_iload dX8_spell_95 rfl ?_
                  refine q_iadd dX8_spell_97 ?_
                  rw [nI_add]
                  refine z_iald dX8_spell_98 (by first | assumption | decide) rfl (vp_in_nI (n := 5 * u + i) (by omega) (by omega)) ?_
                  rw [nI_clamp (by omega), hP2.1 38 0 (by simp), hW.2 u hu i (by omega)]
                  refine z_iast dX8_spell_99 (by first | assumption | decide) (fun _ _ => rfl) (vp_in_nI (n := 32 * r + ((spl (fun j => sg 23 0 (6 * t + j)) (Lw A mo nT w) (Sw A mo nT w) (Rw A mo nT w) j).length + i)) (by omega) (by omega)) ?_
                  rw [nI_clamp (by omega)]
                  refine q_iinc dX8_spell_100 rfl (Nat.le_of_ble_eq_true rfl) rfl ?_
                  dsimp only [List.set]
                  refine q_iinc dX8_spell_103 rfl (Nat.le_of_ble_eq_true rfl) rfl ?_
                  dsimp only [List.set]
                  refine q_goto 59 dX8_spell_106 (by decide) ?_
                  rw [nI_inc, nI_inc]
                  have hpush := RwP_push (x := nI (wLet A mo nT w (psum (vec mo nT (kOf A mo nT w)) u + i))) hP2 (by rw [List.length_append, List.length_map, List.length_range]; omega)
                  rw [List.length_append, List.length_map, List.length_range, List.append_assoc, ← range_push (fun i => nI (wLet A mo nT w (psum (vec mo nT (kOf A mo nT w)) u + i)))] at hpush
                  exact ih2 (i + 1) _ (by omega) hpush
            refine q_iconst (v := 0) dX8_spell_56 rfl ?_
            refine q_istore dX8_spell_57 (Nat.le_of_ble_eq_true rfl) rfl ?_
            dsimp only [List.set]
            exact inner (vec mo nT (kOf A mo nT w) u) 0 s (by omega) (by simpa using hP)
          · exact absurd (nI_le (a := 8) (by omega) (by omega)) g2
  refine q_iconst (v := 0) dX8_spell_0 rfl ?_
  refine s_istore_n 3 dX8_spell_1 rfl (Nat.le_of_ble_eq_true rfl) rfl ?_
  dsimp only [List.set]
  refine q_iconst (v := 0) dX8_spell_2 rfl ?_
  refine q_istore dX8_spell_3 (Nat.le_of_ble_eq_true rfl) rfl ?_
  dsimp only [List.set]
  exact loop n 0 sg none none (by omega) (RwP_nil sg r)
