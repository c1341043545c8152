/-- a row holds a list of letters -/
def RowHas (sg : zI) (r : Nat) (l : List Int32) : Prop := sg 13 r 1 = nI l.length ∧ ∀ j, j < l.length → l[j]? = some (sg 14 r j)
/-- what a part is: a letter, or a text's letters -/
noncomputable def splP (L S row : Nat → Int32) (x : Int32) : List Int32 := @ite _ (x - 8 < 0) (Classical.propDecidable _) [x] ((List.range (L (x - 8).toNatClampNeg).toNatClampNeg).map (fun i => row ((S (x - 8).toNatClampNeg).toNatClampNeg + i)))
noncomputable def spl (p L S row : Nat → Int32) : Nat → List Int32
  | 0 => []
  | k + 1 => spl p L S row k ++ splP L S row (p k)
def PartOk (L S : Nat → Int32) (x : Int32) : Prop := x - 8 < 0 ∨ ∃ t l s : Nat, x - 8 = nI t ∧ t < 4 ∧ L t = nI l ∧ l ≤ 5 ∧ S t = nI s ∧ s + l ≤ 20
theorem splP_t {L S row : Nat → Int32} {x : Int32} {t l s : Nat} (h : x - 8 = nI t) (ht : t < 4) (hl : L t = nI l) (hl5 : l ≤ 5) (hs : S t = nI s) (hsl : s + l ≤ 20) : splP L S row x = (List.range l).map (fun i => row (s + i)) := by
  unfold splP
  rw [if_neg (by rw [h]; exact nI_pos (by omega)), h, nI_clamp (by omega), hl, hs, nI_clamp (by omega), nI_clamp (by omega)]
theorem splP_l {L S row : Nat → Int32} {x : Int32} (h : x - 8 < 0) : splP L S row x = [x] := by unfold splP; rw [if_pos h]
theorem splP_len {L S row : Nat → Int32} {x : Int32} (h : PartOk L S x) : (splP L S row x).length ≤ 5 := by
  rcases h with h | ⟨t, l, s, h1, h2, h3, h4, h5, h6⟩
  · rw [splP_l h]; simp
  · rw [splP_t h1 h2 h3 h4 h5 h6]; simpa using h4
theorem spl_len {p L S row : Nat → Int32} : ∀ n, (∀ j, j < n → PartOk L S (p j)) → (spl p L S row n).length ≤ 5 * n
  | 0, _ => by simp [spl]
  | n + 1, h => by
    have h1 := spl_len n (fun j hj => h j (by omega)) (row := row)
    have h2 := splP_len (row := row) (h n (by omega))
    simp only [spl, List.length_append]
    omega
/-- all but one row stays -/
def rowOnly (r : Nat) (sg s : zI) : Prop := ∀ K i, ¬ (K = 13 ∧ i = r) → ¬ (K = 14 ∧ i = r) → s K i = sg K i
theorem RowHas_push {sg : zI} {r : Nat} {l : List Int32} {x : Int32} (h : RowHas sg r l) : RowHas (up3 (up3 sg 14 r l.length x) 13 r 1 (nI (l.length + 1))) r (l ++ [x]) := by
  refine ⟨by rw [up3_get, if_pos ⟨rfl, rfl, rfl⟩]; simp, fun j hj => ?_⟩
  rw [up3_off (by omega), up3_get]
  by_cases hjl : j < l.length
  · rw [List.getElem?_append_left hjl, if_neg (by omega)]
    exact h.2 j hjl
  · have : j = l.length := by simp at hj; omega
    subst this
    rw [if_pos ⟨rfl, rfl, rfl⟩]
    simp
theorem RowHas_add {sg : zI} {r : Nat} {l : List Int32} {b : Nat → Int32} {f c : Nat} (h : RowHas sg r l) : RowHas (up3 (upR sg 14 r (rAdd (sg 14 r) l.length b f c)) 13 r 1 (nI (l.length + c))) r (l ++ (List.range c).map (fun i => b (f + i))) := by
  refine ⟨by rw [up3_get, if_pos ⟨rfl, rfl, rfl⟩]; simp, fun j hj => ?_⟩
  rw [up3_off (by omega)]
  have e : upR sg 14 r (rAdd (sg 14 r) l.length b f c) 14 r = rAdd (sg 14 r) l.length b f c := by simp [upR]
  rw [e]
  unfold rAdd
  by_cases hjl : j < l.length
  · rw [List.getElem?_append_left hjl, if_neg (by omega)]
    exact h.2 j hjl
  · have h2 : j - l.length < c := by simp at hj; omega
    rw [List.getElem?_append_right (by omega), if_pos (by omega)]
    simp [h2]
theorem rowOnly_push {sg s : zI} {r n : Nat} {x y : Int32} (h : rowOnly r sg s) : rowOnly r sg (up3 (up3 s 14 r n x) 13 r 1 y) := fun K i h1 h2 => by rw [up3_off h1, up3_off h2]; exact h K i h1 h2
theorem rowOnly_add {sg s : zI} {r : Nat} {q : Nat → Int32} {y : Int32} (h : rowOnly r sg s) : rowOnly r sg (up3 (upR s 14 r q) 13 r 1 y) := fun K i h1 h2 => by
  rw [up3_off h1]
  simp only [upR, if_neg h2]
  exact h K i h1 h2
theorem rowOnly_trans {sg s s2 : zI} {r : Nat} (h : rowOnly r sg s) (h2 : rowOnly r s s2) : rowOnly r sg s2 := fun K i a b => (h2 K i a b).trans (h K i a b)
set_option maxRecDepth 100000 in
set_option maxHeartbeats 4000000 in
theorem c_Row_write (sg : zI) (ta : zJ) (r i w n : Nat) (hr : r < cnt 13) (hi : i < cnt 11) (hw : w < cnt 3) (hn : sg 11 i 1 = nI n) (hn6 : n ≤ 6) (hp : ∀ j, j < n → PartOk (sg 4 w) (sg 5 w) (sg 12 i j)) : zP yX3_write mX3_write 1 [.ref (nm 13 r), .ref (nm 11 i), .ref (nm 3 w)] sg ta (fun v s t => v = none ∧ t = ta ∧ RowHas s r (spl (sg 12 i) (sg 4 w) (sg 5 w) (sg 6 w) n) ∧ rowOnly r sg s) := by
  have hi2 := cnt12 hi
  have hw4 := cnt4 hw
  have hw5 := cnt5 hw
  have hw6 := cnt6 hw
  refine zP_of (lv := [some (.ref (nm 13 r)), some (.ref (nm 11 i)), some (.ref (nm 3 w)), none, none]) (by decide +kernel) rfl (fun h => by cases h) rfl (Nat.le_of_ble_eq_true rfl) ?_
  have loop : ∀ k j : Nat, ∀ z : Option Value, ∀ s : zI, j + k = n → RowHas s r (spl (sg 12 i) (sg 4 w) (sg 5 w) (sg 6 w) j) → rowOnly r sg s → Zq mX3_write 1 (fun v s t => v = none ∧ t = ta ∧ RowHas s r (spl (sg 12 i) (sg 4 w) (sg 5 w) (sg 6 w) n) ∧ rowOnly r sg s) s ta 7 [some (.ref (nm 13 r)), some (.ref (nm 11 i)), some (.ref (nm 3 w)), some (.int (nI j)), z] [] := by
    intro k
    induction k with
    | zero =>
      intro j z s hj hR hO
      have hn2 : s 11 i 1 = nI n := by rw [hO 11 i (by omega) (by omega)]; exact hn
      refine q_iload_n dX3_write_7 rfl ?_
      refine q_aload_n dX3_write_8 rfl ?_
      refine z_get 1 dX3_write_9 (by first | assumption | decide) (sh_11 _ _ _) rfl (by decide) fl_X3_19 rfl ?_
      rw [hn2]
      refine q_icmp_ge 82 dX3_write_12 (by decide) (fun h => ?_) (fun h => ?_)
      · exact z_vret dX3_write_82 rfl ⟨rfl, rfl, by rw [show n = j by omega]; exact hR, hO⟩
      · exact absurd (nI_le (by omega) (by omega)) h
    | succ k ih =>
      intro j z s hj hR hO
      have hn2 : s 11 i 1 = nI n := by rw [hO 11 i (by omega) (by omega)]; exact hn
      have e12 : s 12 i = sg 12 i := hO 12 i (by omega) (by omega)
      have e4 : s 4 w = sg 4 w := hO 4 w (by omega) (by omega)
      have e5 : s 5 w = sg 5 w := hO 5 w (by omega) (by omega)
      have e6 : s 6 w = sg 6 w := hO 6 w (by omega) (by omega)
      have hl := spl_len (row := sg 6 w) j (fun q hq => hp q (by omega))
      have hpj := hp j (by omega)
      refine q_iload_n dX3_write_7 rfl ?_
      refine q_aload_n dX3_write_8 rfl ?_
      refine z_get 1 dX3_write_9 (by first | assumption | decide) (sh_11 _ _ _) rfl (by decide) fl_X3_19 rfl ?_
      rw [hn2]
      refine q_icmp_ge 82 dX3_write_12 (by decide) (fun h => ?_) (fun h => ?_)
      · exact absurd h (nI_ge (by omega) (by omega))
      · refine q_aload_n dX3_write_15 rfl ?_
        refine z_get 0 dX3_write_16 (by first | assumption | decide) (sh_11 _ _ _) rfl (by decide) fl_X3_22 rfl ?_
        refine q_iload_n dX3_write_19 rfl ?_
        refine z_iald dX3_write_20 (by first | assumption | decide) rfl (vp_in_nI (n := j) (by omega) (by omega)) ?_
        refine q_bipush (v := 8) dX3_write_21 rfl ?_
        refine q_isub dX3_write_23 ?_
        refine q_istore dX3_write_24 (Nat.le_of_ble_eq_true rfl) rfl ?_
        dsimp only [List.set]
        refine q_iload dX3_write_26 rfl ?_
        rw [nI_clamp (by omega), e12]
        refine q_if_ge 44 dX3_write_28 (by decide) (fun h1 => ?_) (fun h1 => ?_)
        · have hx : ∃ t l q : Nat, sg 12 i j - 8 = nI t ∧ t < 4 ∧ sg 4 w t = nI l ∧ l ≤ 5 ∧ sg 5 w t = nI q ∧ q + l ≤ 20 := by
            rcases hpj with g | g
            · exact absurd g (Int32.not_lt.mpr h1)
            · exact g
          obtain ⟨t, l, q, g1, g2, g3, g4, g5, g6⟩ := hx
          rw [g1]
          refine q_iload dX3_write_44 rfl ?_
          refine q_aload_n dX3_write_46 rfl ?_
          refine z_get 1 dX3_write_47 (by first | assumption | decide) (sh_3 _ _ _) rfl (by decide) fl_X3_29 rfl ?_
          refine z_alen dX3_write_50 (by first | assumption | decide) rfl (fun _ => rfl) rfl ?_
          refine q_icmp_ge 76 dX3_write_51 (by decide) (fun h2 => ?_) (fun h2 => ?_)
          · exact absurd ((nI_leI (a := 4) (by omega) (by omega)).mp h2) (by omega)
          · have hin : vp_in (nI t) 4 := vp_in_nI g2 (by omega)
            refine q_aload_n dX3_write_54 rfl ?_
            refine q_aload_n dX3_write_55 rfl ?_
            refine z_get 3 dX3_write_56 (by first | assumption | decide) (sh_3 _ _ _) rfl (by decide) fl_X3_34 rfl ?_
            refine q_aload_n dX3_write_59 rfl ?_
            refine z_get 2 dX3_write_60 (by first | assumption | decide) (sh_3 _ _ _) rfl (by decide) fl_X3_37 rfl ?_
            refine q_iload dX3_write_63 rfl ?_
            refine z_iald dX3_write_65 (by first | assumption | decide) rfl (by assumption) ?_
            refine q_aload_n dX3_write_66 rfl ?_
            refine z_get 1 dX3_write_67 (by first | assumption | decide) (sh_3 _ _ _) rfl (by decide) fl_X3_29 rfl ?_
            refine q_iload dX3_write_70 rfl ?_
            refine z_iald dX3_write_72 (by first | assumption | decide) rfl (by assumption) ?_
            rw [nI_clamp (by omega), e4, e5, g3, g5]
            refine z_callV (c_Row_addRow s ta r _ w q l hr hw6 hR.1 (by omega) g6) kV_X3_40 dX3_write_73 (by first | assumption | decide) (sh_13 _ _ _) rfl rfl rfl (by omega) (Nat.le_of_ble_eq_true rfl) (Nat.le_refl _) (Nat.le_refl _) rfl (fun v s2 ta2 h => ?_)
            obtain ⟨rfl, rfl, rfl⟩ := h
            dsimp only [Option.toList, List.cons_append, List.nil_append]
            refine q_iinc dX3_write_76 rfl (Nat.le_of_ble_eq_true rfl) rfl ?_
            dsimp only [List.set]
            refine q_goto 7 dX3_write_79 (by decide) ?_
            rw [nI_inc, e6]
            refine ih (j + 1) _ _ (by omega) ?_ (rowOnly_add hO)
            show RowHas _ r (spl (sg 12 i) (sg 4 w) (sg 5 w) (sg 6 w) j ++ splP (sg 4 w) (sg 5 w) (sg 6 w) (sg 12 i j))
            rw [splP_t g1 g2 g3 g4 g5 g6]
            exact RowHas_add hR
        · have h8 : sg 12 i j - 8 < 0 := Int32.not_le.mp h1
          refine q_aload_n dX3_write_31 rfl ?_
          refine q_aload_n dX3_write_32 rfl ?_
          refine z_get 0 dX3_write_33 (by first | assumption | decide) (sh_11 _ _ _) rfl (by decide) fl_X3_22 rfl ?_
          refine q_iload_n dX3_write_36 rfl ?_
          refine z_iald dX3_write_37 (by first | assumption | decide) rfl (vp_in_nI (n := j) (by omega) (by omega)) ?_
          rw [nI_clamp (by omega), e12]
          refine z_callV (c_Row_addLetter s ta r _ _ hr hR.1 (by omega)) kV_X3_25 dX3_write_38 (by first | assumption | decide) (sh_13 _ _ _) rfl rfl rfl (by omega) (Nat.le_of_ble_eq_true rfl) (Nat.le_refl _) (Nat.le_refl _) rfl (fun v s2 ta2 h => ?_)
          obtain ⟨rfl, rfl, rfl⟩ := h
          dsimp only [Option.toList, List.cons_append, List.nil_append]
          refine q_goto 76 dX3_write_41 (by decide) ?_
          refine q_iinc dX3_write_76 rfl (Nat.le_of_ble_eq_true rfl) rfl ?_
          dsimp only [List.set]
          refine q_goto 7 dX3_write_79 (by decide) ?_
          rw [nI_inc]
          refine ih (j + 1) _ _ (by omega) ?_ (rowOnly_push hO)
          show RowHas _ r (spl (sg 12 i) (sg 4 w) (sg 5 w) (sg 6 w) j ++ splP (sg 4 w) (sg 5 w) (sg 6 w) (sg 12 i j))
          rw [splP_l h8]
          exact RowHas_push hR
  refine q_aload_n dX3_write_0 rfl ?_
  refine q_iconst (v := 0) dX3_write_1 rfl ?_
  refine z_puti 1 dX3_write_2 (by first | assumption | decide) (sh_13 _ _ _) rfl (by decide) fl_X3_15 rfl pfI (Nat.le_of_ble_eq_true rfl) rfl ?_
  refine q_iconst (v := 0) dX3_write_5 rfl ?_
  refine s_istore_n 3 dX3_write_6 rfl (Nat.le_of_ble_eq_true rfl) rfl ?_
  dsimp only [List.set]
  refine loop n 0 none _ (by omega) ⟨by rw [up3_get, if_pos ⟨rfl, rfl, rfl⟩]; rfl, fun j hj => absurd hj (Nat.not_lt_zero j)⟩ ?_
  intro K i' h1 h2
  rw [up3_off h1]
