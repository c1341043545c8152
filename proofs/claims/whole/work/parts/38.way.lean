/-! Way -/
def psum (v : Nat → Nat) : Nat → Nat
  | 0 => 0
  | t + 1 => psum v t + v t
theorem psum_le {v : Nat → Nat} {n : Nat} (h : ∀ t, t < n → v t ≤ 5) : ∀ t, t ≤ n → psum v t ≤ 5 * t
  | 0, _ => by simp [psum]
  | t + 1, ht => by
    have := psum_le h t (by omega)
    have := h t (by omega)
    simp only [psum]; omega
/-- what layOut leaves: all but starts, total, count -/
def wayOnly (i : Nat) (sg s : zI) : Prop := (∀ K j, ¬ (K = 3 ∧ j = i) → ¬ (K = 5 ∧ j = i) → s K j = sg K j) ∧ s 3 i 5 = sg 3 i 5
set_option maxRecDepth 100000 in
set_option maxHeartbeats 4000000 in
theorem c_Way_layOut (sg : zI) (ta : zJ) (i nT A : Nat) (v : Nat → Nat) (hi : i < cnt 3) (hT : sg 1 0 2 = nI nT) (hT4 : nT ≤ 4) (hA : sg 1 0 1 = nI A) (hv : ∀ t, t < nT → sg 4 i t = nI (v t)) (hv5 : ∀ t, t < nT → v t ≤ 5) : zP yX6_layOut mX6_layOut 0 [.ref (nm 3 i)] sg ta (fun x s t => x = none ∧ t = ta ∧ wayOnly i sg s ∧ s 3 i 4 = nI (psum v nT) ∧ s 3 i 6 = nI (A ^ psum v nT) ∧ ∀ u, u < nT → s 5 i u = nI (psum v u)) := by
  have hi4 := cnt4 hi
  have hi5 := cnt5 hi
  have hps := psum_le hv5
  refine zP_of (lv := [some (.ref (nm 3 i)), none]) (by decide +kernel) rfl (fun h => by cases h) rfl (Nat.le_of_ble_eq_true rfl) ?_
  have loop2 : ∀ k j : Nat, ∀ s : zI, j + k = psum v nT → wayOnly i sg s → s 3 i 4 = nI (psum v nT) → s 3 i 6 = nI (A ^ j) → (∀ u, u < nT → s 5 i u = nI (psum v u)) → Zq mX6_layOut 0 (fun x s t => x = none ∧ t = ta ∧ wayOnly i sg s ∧ s 3 i 4 = nI (psum v nT) ∧ s 3 i 6 = nI (A ^ psum v nT) ∧ ∀ u, u < nT → s 5 i u = nI (psum v u)) s ta 56 [some (.ref (nm 3 i)), some (.int (nI j))] [] := by
    intro k
    induction k with
    | zero =>
      intro j s hj hO h4 h6 h5
      refine q_iload_n dX6_layOut_56 rfl ?_
      refine q_aload_n dX6_layOut_57 rfl ?_
      refine z_get 4 dX6_layOut_58 (by first | assumption | decide) (sh_3 _ _ _) rfl (by decide) fl_X6_41 rfl ?_
      rw [h4]
      refine q_icmp_ge 86 dX6_layOut_61 (by decide) (fun h => ?_) (fun h => ?_)
      · exact z_vret dX6_layOut_86 rfl ⟨rfl, rfl, hO, h4, by rw [h6, show j = psum v nT by omega], h5⟩
      · exact absurd (nI_le (by omega) (by have := hps nT (by omega); omega)) h
    | succ k ih =>
      intro j s hj hO h4 h6 h5
      have hb := hps nT (by omega)
      refine q_iload_n dX6_layOut_56 rfl ?_
      refine q_aload_n dX6_layOut_57 rfl ?_
      refine z_get 4 dX6_layOut_58 (by first | assumption | decide) (sh_3 _ _ _) rfl (by decide) fl_X6_41 rfl ?_
      rw [h4]
      refine q_icmp_ge 86 dX6_layOut_61 (by decide) (fun h => ?_) (fun h => ?_)
      · exact absurd h (nI_ge (by omega) (by omega))
      · refine q_aload_n dX6_layOut_64 rfl ?_
        refine q_dup dX6_layOut_65 rfl ?_
        refine z_get 6 dX6_layOut_66 (by first | assumption | decide) (sh_3 _ _ _) rfl (by decide) fl_X6_21 rfl ?_
        refine q_aload_n dX6_layOut_69 rfl ?_
        refine z_get 0 dX6_layOut_70 (by first | assumption | decide) (sh_3 _ _ _) rfl (by decide) fl_X6_25 rfl ?_
        refine z_get 1 dX6_layOut_73 (by first | assumption | decide) (sh_1 _ _ _) rfl (by decide) fl_X6_49 rfl ?_
        rw [h6, hO.1 1 0 (by omega) (by omega), hA]
        refine q_imul dX6_layOut_76 ?_
        rw [pk_mul, ← Nat.pow_succ]
        refine z_puti 6 dX6_layOut_77 (by first | assumption | decide) (sh_3 _ _ _) rfl (by decide) fl_X6_21 rfl pfI (Nat.le_of_ble_eq_true rfl) rfl ?_
        refine q_iinc dX6_layOut_80 rfl (Nat.le_of_ble_eq_true rfl) rfl ?_
        dsimp only [List.set]
        refine q_goto 56 dX6_layOut_83 (by decide) ?_
        rw [nI_inc]
        refine ih (j + 1) _ (by omega) ⟨fun K q a b => by rw [up3_off a]; exact hO.1 K q a b, by rw [up3_get, if_neg (by omega)]; exact hO.2⟩ ?_ ?_ ?_
        · rw [up3_get, if_neg (by omega)]; exact h4
        · rw [up3_get, if_pos ⟨rfl, rfl, rfl⟩]
        · intro u hu
          rw [up3_off (by omega)]
          exact h5 u hu
  have loop1 : ∀ k j : Nat, ∀ s : zI, j + k = nT → wayOnly i sg s → s 3 i 4 = nI (psum v j) → (∀ u, u < j → s 5 i u = nI (psum v u)) → Zq mX6_layOut 0 (fun x s t => x = none ∧ t = ta ∧ wayOnly i sg s ∧ s 3 i 4 = nI (psum v nT) ∧ s 3 i 6 = nI (A ^ psum v nT) ∧ ∀ u, u < nT → s 5 i u = nI (psum v u)) s ta 7 [some (.ref (nm 3 i)), some (.int (nI j))] [] := by
    intro k
    induction k with
    | zero =>
      intro j s hj hO h4 h5
      refine q_iload_n dX6_layOut_7 rfl ?_
      refine q_aload_n dX6_layOut_8 rfl ?_
      refine z_get 0 dX6_layOut_9 (by first | assumption | decide) (sh_3 _ _ _) rfl (by decide) fl_X6_25 rfl ?_
      refine z_get 2 dX6_layOut_12 (by first | assumption | decide) (sh_1 _ _ _) rfl (by decide) fl_X6_44 rfl ?_
      rw [hO.1 1 0 (by omega) (by omega), hT]
      refine q_icmp_ge 49 dX6_layOut_15 (by decide) (fun h => ?_) (fun h => ?_)
      · have ej : j = nT := by omega
        subst ej
        refine q_aload_n dX6_layOut_49 rfl ?_
        refine q_iconst (v := 1) dX6_layOut_50 rfl ?_
        refine z_puti 6 dX6_layOut_51 (by first | assumption | decide) (sh_3 _ _ _) rfl (by decide) fl_X6_21 rfl pfI (Nat.le_of_ble_eq_true rfl) rfl ?_
        refine q_iconst (v := 0) dX6_layOut_54 rfl ?_
        refine s_istore_n 1 dX6_layOut_55 rfl (Nat.le_of_ble_eq_true rfl) rfl ?_
        dsimp only [List.set]
        refine loop2 (psum v j) 0 _ (by omega) ⟨fun K q a b => by rw [up3_off a]; exact hO.1 K q a b, by rw [up3_get, if_neg (by omega)]; exact hO.2⟩ ?_ ?_ ?_
        · rw [up3_get, if_neg (by omega)]; exact h4
        · rw [up3_get, if_pos ⟨rfl, rfl, rfl⟩]; rfl
        · intro u hu
          rw [up3_off (by omega)]
          exact h5 u hu
      · exact absurd (nI_le (by omega) (by omega)) h
    | succ k ih =>
      intro j s hj hO h4 h5
      refine q_iload_n dX6_layOut_7 rfl ?_
      refine q_aload_n dX6_layOut_8 rfl ?_
      refine z_get 0 dX6_layOut_9 (by first | assumption | decide) (sh_3 _ _ _) rfl (by decide) fl_X6_25 rfl ?_
      refine z_get 2 dX6_layOut_12 (by first | assumption | decide) (sh_1 _ _ _) rfl (by decide) fl_X6_44 rfl ?_
      rw [hO.1 1 0 (by omega) (by omega), hT]
      refine q_icmp_ge 49 dX6_layOut_15 (by decide) (fun h => ?_) (fun h => ?_)
      · exact absurd h (nI_ge (by omega) (by omega))
      · refine q_aload_n dX6_layOut_18 rfl ?_
        refine z_get 2 dX6_layOut_19 (by first | assumption | decide) (sh_3 _ _ _) rfl (by decide) fl_X6_15 rfl ?_
        refine q_iload_n dX6_layOut_22 rfl ?_
        refine q_aload_n dX6_layOut_23 rfl ?_
        refine z_get 4 dX6_layOut_24 (by first | assumption | decide) (sh_3 _ _ _) rfl (by decide) fl_X6_41 rfl ?_
        refine z_iast dX6_layOut_27 (by first | assumption | decide) (fun _ _ => rfl) (vp_in_nI (n := j) (by omega) (by omega)) ?_
        rw [nI_clamp (by omega), h4]
        refine q_aload_n dX6_layOut_28 rfl ?_
        refine q_dup dX6_layOut_29 rfl ?_
        refine z_get 4 dX6_layOut_30 (by first | assumption | decide) (sh_3 _ _ _) rfl (by decide) fl_X6_41 rfl ?_
        refine q_aload_n dX6_layOut_33 rfl ?_
        refine z_get 1 dX6_layOut_34 (by first | assumption | decide) (sh_3 _ _ _) rfl (by decide) fl_X6_9 rfl ?_
        refine q_iload_n dX6_layOut_37 rfl ?_
        refine z_iald dX6_layOut_38 (by first | assumption | decide) rfl (vp_in_nI (n := j) (by omega) (by omega)) ?_
        have e3 : up3 s 5 i j (nI (psum v j)) 3 i 4 = nI (psum v j) := by rw [up3_off (by omega)]; exact h4
        have e4 : up3 s 5 i j (nI (psum v j)) 4 i j = nI (v j) := by rw [up3_off (by omega), hO.1 4 i (by omega) (by omega)]; exact hv j (by omega)
        rw [nI_clamp (by omega), e4, e3]
        refine q_iadd dX6_layOut_39 ?_
        rw [nI_add]
        refine z_puti 4 dX6_layOut_40 (by first | assumption | decide) (sh_3 _ _ _) rfl (by decide) fl_X6_41 rfl pfI (Nat.le_of_ble_eq_true rfl) rfl ?_
        refine q_iinc dX6_layOut_43 rfl (Nat.le_of_ble_eq_true rfl) rfl ?_
        dsimp only [List.set]
        refine q_goto 7 dX6_layOut_46 (by decide) ?_
        rw [nI_inc]
        refine ih (j + 1) _ (by omega) ⟨fun K q a b => by rw [up3_off a, up3_off b]; exact hO.1 K q a b, by rw [up3_get, if_neg (by omega), up3_off (by omega)]; exact hO.2⟩ ?_ ?_
        · rw [up3_get, if_pos ⟨rfl, rfl, rfl⟩]; rfl
        · intro u hu
          rw [up3_off (by omega), up3_get]
          by_cases hu2 : u = j
          · subst hu2; rw [if_pos ⟨rfl, rfl, rfl⟩]
          · rw [if_neg (by omega)]; exact h5 u (by omega)
  refine q_aload_n dX6_layOut_0 rfl ?_
  refine q_iconst (v := 0) dX6_layOut_1 rfl ?_
  refine z_puti 4 dX6_layOut_2 (by first | assumption | decide) (sh_3 _ _ _) rfl (by decide) fl_X6_41 rfl pfI (Nat.le_of_ble_eq_true rfl) rfl ?_
  refine q_iconst (v := 0) dX6_layOut_5 rfl ?_
  refine s_istore_n 1 dX6_layOut_6 rfl (Nat.le_of_ble_eq_true rfl) rfl ?_
  dsimp only [List.set]
  refine loop1 nT 0 _ (by omega) ⟨fun K q a b => by rw [up3_off a], by rw [up3_get, if_neg (by omega)]⟩ ?_ (fun u hu => absurd hu (by omega))
  rw [up3_get, if_pos ⟨rfl, rfl, rfl⟩]; rfl
