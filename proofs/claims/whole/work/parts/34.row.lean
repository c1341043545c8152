/-! Row -/
set_option maxRecDepth 100000 in
set_option maxHeartbeats 4000000 in
theorem c_Row_addLetter (sg : zI) (ta : zJ) (r n : Nat) (x : Int32) (hr : r < cnt 13) (hn : sg 13 r 1 = nI n) (hn30 : n < 30) : zP yX3_addLetter mX3_addLetter 0 [.ref (nm 13 r), .int x] sg ta (pV (up3 (up3 sg 14 r n x) 13 r 1 (nI (n + 1))) ta) := by
  have hr2 := cnt14 hr
  refine zP_of (lv := [some (.ref (nm 13 r)), some (.int x)]) (by decide +kernel) rfl (fun h => by cases h) rfl (Nat.le_of_ble_eq_true rfl) ?_
  refine q_aload_n dX3_addLetter_0 rfl ?_
  refine z_get 1 dX3_addLetter_1 (by first | assumption | decide) (sh_13 _ _ _) rfl (by decide) fl_X3_15 rfl ?_
  refine q_aload_n dX3_addLetter_4 rfl ?_
  refine z_get 0 dX3_addLetter_5 (by first | assumption | decide) (sh_13 _ _ _) rfl (by decide) fl_X3_9 rfl ?_
  refine z_alen dX3_addLetter_8 (by first | assumption | decide) rfl (fun _ => rfl) rfl ?_
  rw [hn]
  refine q_icmp_ge 32 dX3_addLetter_9 (by decide) (fun h => ?_) (fun h => ?_)
  · exact absurd ((nI_leI (a := 30) (by omega) (by omega)).mp h) (by omega)
  · refine q_aload_n dX3_addLetter_12 rfl ?_
    refine z_get 0 dX3_addLetter_13 (by first | assumption | decide) (sh_13 _ _ _) rfl (by decide) fl_X3_9 rfl ?_
    refine q_aload_n dX3_addLetter_16 rfl ?_
    refine z_get 1 dX3_addLetter_17 (by first | assumption | decide) (sh_13 _ _ _) rfl (by decide) fl_X3_15 rfl ?_
    refine q_iload_n dX3_addLetter_20 rfl ?_
    rw [hn]
    refine z_iast dX3_addLetter_21 (by first | assumption | decide) (fun _ _ => rfl) (vp_in_nI hn30 (by omega)) ?_
    rw [nI_clamp (by omega)]
    refine q_aload_n dX3_addLetter_22 rfl ?_
    refine q_dup dX3_addLetter_23 rfl ?_
    refine z_get 1 dX3_addLetter_24 (by first | assumption | decide) (sh_13 _ _ _) rfl (by decide) fl_X3_15 rfl ?_
    refine q_iconst (v := 1) dX3_addLetter_27 rfl ?_
    rw [up3_off (by omega), hn]
    refine q_iadd dX3_addLetter_28 ?_
    rw [nI_1]
    refine z_puti 1 dX3_addLetter_29 (by first | assumption | decide) (sh_13 _ _ _) rfl (by decide) fl_X3_15 rfl pfI (Nat.le_of_ble_eq_true rfl) rfl ?_
    exact z_vret dX3_addLetter_32 rfl ⟨rfl, rfl, rfl⟩
/-- a row with c letters of another one (from f on) behind its n -/
def rAdd (a : Nat → Int32) (n : Nat) (b : Nat → Int32) (f c : Nat) : Nat → Int32 := fun j => if n ≤ j ∧ j < n + c then b (f + (j - n)) else a j
theorem rAdd_s (a b : Nat → Int32) (n f c : Nat) : upd (rAdd a n b f c) (n + c) (b (f + c)) = rAdd a n b f (c + 1) := by
  funext j
  unfold upd rAdd
  by_cases h : j = n + c
  · subst h
    simp only [if_true]
    rw [if_pos (by omega), show n + c - n = c by omega]
  · rw [if_neg h]
    by_cases h2 : n ≤ j ∧ j < n + c
    · rw [if_pos h2, if_pos (by omega)]
    · rw [if_neg h2, if_neg (by omega)]
theorem rAdd_0 (a b : Nat → Int32) (n f : Nat) : rAdd a n b f 0 = a := by
  funext j
  unfold rAdd
  rw [if_neg (by omega)]
set_option maxRecDepth 100000 in
set_option maxHeartbeats 4000000 in
theorem c_Row_addRow (sg : zI) (ta : zJ) (r n w f c : Nat) (hr : r < cnt 13) (hw : w < cnt 6) (hn : sg 13 r 1 = nI n) (hn30 : n + c ≤ 30) (hf : f + c ≤ 20) : zP yX3_addRow mX3_addRow 0 [.ref (nm 13 r), .ref (nm 6 w), .int (nI f), .int (nI c)] sg ta (pV (up3 (upR sg 14 r (rAdd (sg 14 r) n (sg 6 w) f c)) 13 r 1 (nI (n + c))) ta) := by
  have hr2 := cnt14 hr
  refine zP_of (lv := [some (.ref (nm 13 r)), some (.ref (nm 6 w)), some (.int (nI f)), some (.int (nI c)), none]) (by decide +kernel) rfl (fun h => by cases h) rfl (Nat.le_of_ble_eq_true rfl) ?_
  have loop : ∀ k j : Nat, j + k = c → Zq mX3_addRow 0 (pV (up3 (upR sg 14 r (rAdd (sg 14 r) n (sg 6 w) f c)) 13 r 1 (nI (n + c))) ta) (up3 (upR sg 14 r (rAdd (sg 14 r) n (sg 6 w) f j)) 13 r 1 (nI (n + j))) ta 3 [some (.ref (nm 13 r)), some (.ref (nm 6 w)), some (.int (nI f)), some (.int (nI c)), some (.int (nI j))] [] := by
    intro k
    induction k with
    | zero =>
      intro j hj
      refine q_iload dX3_addRow_3 rfl ?_
      refine q_iload_n dX3_addRow_5 rfl ?_
      refine q_icmp_ge 61 dX3_addRow_6 (by decide) (fun h => ?_) (fun h => ?_)
      · exact z_vret dX3_addRow_61 rfl ⟨rfl, by rw [show j = c by omega], rfl⟩
      · exact absurd (nI_le (by omega) (by omega)) h
    | succ k ih =>
      intro j hj
      have e1 : up3 (upR sg 14 r (rAdd (sg 14 r) n (sg 6 w) f j)) 13 r 1 (nI (n + j)) 13 r 1 = nI (n + j) := by rw [up3_get, if_pos ⟨rfl, rfl, rfl⟩]
      have e2 : up3 (upR sg 14 r (rAdd (sg 14 r) n (sg 6 w) f j)) 13 r 1 (nI (n + j)) 6 w = sg 6 w := by rw [up3_off (by omega)]; simp [upR]
      refine q_iload dX3_addRow_3 rfl ?_
      refine q_iload_n dX3_addRow_5 rfl ?_
      refine q_icmp_ge 61 dX3_addRow_6 (by decide) (fun h => ?_) (fun h => ?_)
      · exact absurd h (nI_ge (by omega) (by omega))
      · refine q_aload_n dX3_addRow_9 rfl ?_
        refine z_get 1 dX3_addRow_10 (by first | assumption | decide) (sh_13 _ _ _) rfl (by decide) fl_X3_15 rfl ?_
        refine q_aload_n dX3_addRow_13 rfl ?_
        refine z_get 0 dX3_addRow_14 (by first | assumption | decide) (sh_13 _ _ _) rfl (by decide) fl_X3_9 rfl ?_
        refine z_alen dX3_addRow_17 (by first | assumption | decide) rfl (fun _ => rfl) rfl ?_
        rw [e1]
        refine q_icmp_ge 61 dX3_addRow_18 (by decide) (fun h2 => ?_) (fun h2 => ?_)
        · exact absurd ((nI_leI (a := 30) (by omega) (by omega)).mp h2) (by omega)
        · refine q_iload_n dX3_addRow_21 rfl ?_
          refine q_iload dX3_addRow_22 rfl ?_
          refine q_iadd dX3_addRow_24 ?_
          rw [nI_add]
          refine q_aload_n dX3_addRow_25 rfl ?_
          refine z_alen dX3_addRow_26 (by first | assumption | decide) rfl (fun _ => rfl) rfl ?_
          refine q_icmp_ge 61 dX3_addRow_27 (by decide) (fun h3 => ?_) (fun h3 => ?_)
          · exact absurd ((nI_leI (a := 20) (by omega) (by omega)).mp h3) (by omega)
          · refine q_aload_n dX3_addRow_30 rfl ?_
            refine z_get 0 dX3_addRow_31 (by first | assumption | decide) (sh_13 _ _ _) rfl (by decide) fl_X3_9 rfl ?_
            refine q_aload_n dX3_addRow_34 rfl ?_
            refine z_get 1 dX3_addRow_35 (by first | assumption | decide) (sh_13 _ _ _) rfl (by decide) fl_X3_15 rfl ?_
            refine q_aload_n dX3_addRow_38 rfl ?_
            refine q_iload_n dX3_addRow_39 rfl ?_
            refine q_iload dX3_addRow_40 rfl ?_
            refine q_iadd dX3_addRow_42 ?_
            rw [e1, nI_add]
            refine z_iald dX3_addRow_43 (by first | assumption | decide) rfl (vp_in_nI (n := f + j) (by omega) (by omega)) ?_
            rw [nI_clamp (by omega), e2]
            refine z_iast dX3_addRow_44 (by first | assumption | decide) (fun _ _ => rfl) (vp_in_nI (n := n + j) (by omega) (by omega)) ?_
            rw [nI_clamp (by omega)]
            have e3 : up3 (up3 (upR sg 14 r (rAdd (sg 14 r) n (sg 6 w) f j)) 13 r 1 (nI (n + j))) 14 r (n + j) (sg 6 w (f + j)) = up3 (upR sg 14 r (rAdd (sg 14 r) n (sg 6 w) f (j + 1))) 13 r 1 (nI (n + j)) := by
              rw [← rAdd_s]
              funext K' i'
              by_cases h1 : K' = 14 ∧ i' = r
              · obtain ⟨rfl, rfl⟩ := h1
                simp [up3, upR]
              · by_cases h2 : K' = 13 ∧ i' = r
                · obtain ⟨rfl, rfl⟩ := h2
                  simp [up3, upR]
                · simp [up3, upR, h1, h2]
            rw [e3]
            have e4 : up3 (upR sg 14 r (rAdd (sg 14 r) n (sg 6 w) f (j + 1))) 13 r 1 (nI (n + j)) 13 r 1 = nI (n + j) := by rw [up3_get, if_pos ⟨rfl, rfl, rfl⟩]
            refine q_aload_n dX3_addRow_45 rfl ?_
            refine q_dup dX3_addRow_46 rfl ?_
            refine z_get 1 dX3_addRow_47 (by first | assumption | decide) (sh_13 _ _ _) rfl (by decide) fl_X3_15 rfl ?_
            refine q_iconst (v := 1) dX3_addRow_50 rfl ?_
            rw [e4]
            refine q_iadd dX3_addRow_51 ?_
            rw [nI_1]
            refine z_puti 1 dX3_addRow_52 (by first | assumption | decide) (sh_13 _ _ _) rfl (by decide) fl_X3_15 rfl pfI (Nat.le_of_ble_eq_true rfl) rfl ?_
            refine q_iinc dX3_addRow_55 rfl (Nat.le_of_ble_eq_true rfl) rfl ?_
            dsimp only [List.set]
            refine q_goto 3 dX3_addRow_58 (by decide) ?_
            rw [nI_inc]
            have e5 : ∀ q : zI, up3 (up3 q 13 r 1 (nI (n + j))) 13 r 1 (nI (n + j + 1)) = up3 q 13 r 1 (nI (n + (j + 1))) := by
              intro q
              funext K' i'
              by_cases h1 : K' = 13 ∧ i' = r
              · obtain ⟨rfl, rfl⟩ := h1
                funext j'
                by_cases hj' : j' = 1
                · subst hj'; simp [up3, upd, Nat.add_assoc]
                · simp [up3, upd, hj']
              · simp [up3, h1]
            rw [e5]
            exact ih (j + 1) (by omega)
  refine q_iconst (v := 0) dX3_addRow_0 rfl ?_
  refine q_istore dX3_addRow_1 (Nat.le_of_ble_eq_true rfl) rfl ?_
  dsimp only [List.set]
  have h0 := loop c 0 (by omega)
  rw [rAdd_0, upR_self, Nat.add_zero] at h0
  have e6 : up3 sg 13 r 1 (nI n) = sg := by
    funext K' i'
    by_cases h1 : K' = 13 ∧ i' = r
    · obtain ⟨rfl, rfl⟩ := h1
      funext j'
      by_cases hj' : j' = 1
      · subst hj'; simp [up3, upd, hn]
      · simp [up3, upd, hj']
    · simp [up3, h1]
  rw [e6] at h0
  exact h0
/-- c letters of one row from f on are those of another from o on -/
def agr (a : Nat → Int32) (f n : Nat) (b : Nat → Int32) (o m c : Nat) : Prop := f + c ≤ n ∧ o + c ≤ m ∧ ∀ k, k < c → a (f + k) = b (o + k)
set_option maxRecDepth 100000 in
set_option maxHeartbeats 4000000 in
theorem c_Row_agrees (sg : zI) (ta : zJ) (r f n r2 o m c : Nat) (hr : r < cnt 13) (hr' : r2 < cnt 13) (hn : sg 13 r 1 = nI n) (hm : sg 13 r2 1 = nI m) (hn30 : n ≤ 30) (hm30 : m ≤ 30) (hf : f ≤ 1000) (ho : o ≤ 1000) (hc : c ≤ 1000) : zP yX3_agrees mX3_agrees 0 [.ref (nm 13 r), .int (nI f), .ref (nm 13 r2), .int (nI o), .int (nI c)] sg ta (pI (bC (agr (sg 14 r) f n (sg 14 r2) o m c)) sg ta) := by
  have hr2 := cnt14 hr
  have hr3 := cnt14 hr'
  refine zP_of (lv := [some (.ref (nm 13 r)), some (.int (nI f)), some (.ref (nm 13 r2)), some (.int (nI o)), some (.int (nI c)), none]) (by decide +kernel) rfl (fun h => by cases h) rfl (Nat.le_of_ble_eq_true rfl) ?_
  have loop : f + c ≤ n → o + c ≤ m → ∀ k j : Nat, j + k = c → (∀ q, q < j → sg 14 r (f + q) = sg 14 r2 (o + q)) → Zq mX3_agrees 0 (pI (bC (agr (sg 14 r) f n (sg 14 r2) o m c)) sg ta) sg ta 27 [some (.ref (nm 13 r)), some (.int (nI f)), some (.ref (nm 13 r2)), some (.int (nI o)), some (.int (nI c)), some (.int (nI j))] [] := by
    intro g1 g2 k
    induction k with
    | zero =>
      intro j hj hq
      refine q_iload dX3_agrees_27 rfl ?_
      refine q_iload dX3_agrees_29 rfl ?_
      refine q_icmp_ge 63 dX3_agrees_31 (by decide) (fun h => ?_) (fun h => ?_)
      · refine q_iconst (v := 1) dX3_agrees_63 rfl ?_
        exact z_zret dX3_agrees_64 rfl (Or.inr rfl) ⟨by rw [bC_t ⟨g1, g2, fun k hk => hq k (by omega)⟩], rfl, rfl⟩
      · exact absurd (nI_le (by omega) (by omega)) h
    | succ k ih =>
      intro j hj hq
      refine q_iload dX3_agrees_27 rfl ?_
      refine q_iload dX3_agrees_29 rfl ?_
      refine q_icmp_ge 63 dX3_agrees_31 (by decide) (fun h => ?_) (fun h => ?_)
      · exact absurd h (nI_ge (by omega) (by omega))
      · refine q_aload_n dX3_agrees_34 rfl ?_
        refine z_get 0 dX3_agrees_35 (by first | assumption | decide) (sh_13 _ _ _) rfl (by decide) fl_X3_9 rfl ?_
        refine q_iload_n dX3_agrees_38 rfl ?_
        refine q_iload dX3_agrees_39 rfl ?_
        refine q_iadd dX3_agrees_41 ?_
        rw [nI_add]
        refine z_iald dX3_agrees_42 (by first | assumption | decide) rfl (vp_in_nI (n := f + j) (by omega) (by omega)) ?_
        rw [nI_clamp (by omega)]
        refine q_aload_n dX3_agrees_43 rfl ?_
        refine z_get 0 dX3_agrees_44 (by first | assumption | decide) (sh_13 _ _ _) rfl (by decide) fl_X3_9 rfl ?_
        refine q_iload_n dX3_agrees_47 rfl ?_
        refine q_iload dX3_agrees_48 rfl ?_
        refine q_iadd dX3_agrees_50 ?_
        rw [nI_add]
        refine z_iald dX3_agrees_51 (by first | assumption | decide) rfl (vp_in_nI (n := o + j) (by omega) (by omega)) ?_
        rw [nI_clamp (by omega)]
        refine q_icmp_eq 57 dX3_agrees_52 (by decide) (fun h2 => ?_) (fun h2 => ?_)
        · refine q_iinc dX3_agrees_57 rfl (Nat.le_of_ble_eq_true rfl) rfl ?_
          dsimp only [List.set]
          refine q_goto 27 dX3_agrees_60 (by decide) ?_
          rw [nI_inc]
          exact ih (j + 1) (by omega) (lt_s hq h2)
        · refine q_iconst (v := 0) dX3_agrees_55 rfl ?_
          exact z_zret dX3_agrees_56 rfl (Or.inl rfl) ⟨by rw [bC_f (fun q => h2 (q.2.2 j (by omega)))], rfl, rfl⟩
  refine q_iload_n dX3_agrees_0 rfl ?_
  refine q_iload dX3_agrees_1 rfl ?_
  refine q_iadd dX3_agrees_3 ?_
  refine q_aload_n dX3_agrees_4 rfl ?_
  refine z_get 1 dX3_agrees_5 (by first | assumption | decide) (sh_13 _ _ _) rfl (by decide) fl_X3_15 rfl ?_
  rw [nI_add, hn]
  refine q_icmp_gt 22 dX3_agrees_8 (by decide) (fun h => ?_) (fun h => ?_)
  · refine q_iconst (v := 0) dX3_agrees_22 rfl ?_
    exact z_zret dX3_agrees_23 rfl (Or.inl rfl) ⟨by rw [bC_f (fun q => nI_nlt q.1 (by omega) h)], rfl, rfl⟩
  · have g1 : f + c ≤ n := Nat.le_of_not_lt (fun q => h (nI_lt q (by omega)))
    refine q_iload_n dX3_agrees_11 rfl ?_
    refine q_iload dX3_agrees_12 rfl ?_
    refine q_iadd dX3_agrees_14 ?_
    refine q_aload_n dX3_agrees_15 rfl ?_
    refine z_get 1 dX3_agrees_16 (by first | assumption | decide) (sh_13 _ _ _) rfl (by decide) fl_X3_15 rfl ?_
    rw [nI_add, hm]
    refine q_icmp_le 24 dX3_agrees_19 (by decide) (fun h2 => ?_) (fun h2 => ?_)
    · have g2 : o + c ≤ m := (nI_leI (by omega) (by omega)).mp h2
      refine q_iconst (v := 0) dX3_agrees_24 rfl ?_
      refine q_istore dX3_agrees_25 (Nat.le_of_ble_eq_true rfl) rfl ?_
      dsimp only [List.set]
      exact loop g1 g2 c 0 (by omega) (fun q hq => absurd hq (by omega))
    · refine q_iconst (v := 0) dX3_agrees_22 rfl ?_
      exact z_zret dX3_agrees_23 rfl (Or.inl rfl) ⟨by rw [bC_f (fun q => h2 (nI_le q.2.1 (by omega)))], rfl, rfl⟩
