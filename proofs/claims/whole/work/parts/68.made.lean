/-! THE REFERENCE: what is replaced; a formula is so -/
def MMade (s : zI) (l : List Int32) : Prop := s 20 0 29 = nI l.length ∧ ∀ j, j < l.length → fn l j = s 41 0 j
def frK (sg s : zI) : Prop := ∀ K i j, K ≠ 41 → ¬ (K = 20 ∧ j = 29) → s K i j = sg K i j
def frI (sg s : zI) : Prop := ∀ K i j, K ≠ 39 → K ≠ 40 → K ≠ 41 → ¬ (K = 20 ∧ j = 29) → s K i j = sg K i j
theorem frK_trans {a b c : zI} (h : frK a b) (h2 : frK b c) : frK a c := fun K i j x y => (h2 K i j x y).trans (h K i j x y)
theorem frI_trans {a b c : zI} (h : frI a b) (h2 : frI b c) : frI a c := fun K i j x y z w => (h2 K i j x y z w).trans (h K i j x y z w)
theorem frI_refl (a : zI) : frI a a := fun _ _ _ _ _ _ _ => rfl
theorem frI_K {a b : zI} (h : frK a b) : frI a b := fun K i j _ _ z w => h K i j z w
theorem frI_frm {a b : zI} (h : frm [(39, 0), (40, 0)] a b) : frI a b := fun K i j x y _ _ => by rw [h K i (by simp; omega)]
theorem frI_row {a b : zI} (h : frI a b) {K : Nat} (h1 : K ≠ 39) (h2 : K ≠ 40) (h3 : K ≠ 41) (h4 : K ≠ 20) : b K = a K := by
  funext i j
  exact h K i j h1 h2 h3 (fun q => h4 q.1)
theorem frK_row {a b : zI} (h : frK a b) {K : Nat} (h3 : K ≠ 41) (h4 : K ≠ 20) : b K = a K := by
  funext i j
  exact h K i j h3 (fun q => h4 q.1)
theorem MRow_K {a b : zI} (h : frK a b) {r : Nat} {l : List Int32} (hr : MRow a r l) : MRow b r l := by
  unfold MRow at *
  rw [frK_row h (by omega) (by omega), frK_row h (K := 39) (by omega) (by omega)]
  exact hr
def seg (a : List Int32) (f n : Nat) : List Int32 := (List.range n).map (fun q => fn a (f + q))
theorem seg_len (a : List Int32) (f n : Nat) : (seg a f n).length = n := by unfold seg; simp
theorem seg_fn {a : List Int32} {f n j : Nat} (h : j < n) : fn (seg a f n) j = fn a (f + j) := by
  unfold seg
  show ((List.map _ (List.range n))[j]?).getD 0 = _
  rw [List.getElem?_map, List.getElem?_range h]
  rfl
theorem seg_s (a : List Int32) (f n : Nat) : seg a f (n + 1) = seg a f n ++ [fn a (f + n)] := range_push _ n
theorem seg_take {a : List Int32} {p : Nat} (h : p ≤ a.length) : seg a 0 p = a.take p := by
  apply fn_ext
  · rw [seg_len, List.length_take]; omega
  · intro j hj
    rw [seg_len] at hj
    rw [seg_fn hj, fn_take hj, Nat.zero_add]
theorem seg_drop {a : List Int32} {p n : Nat} (h : p + n = a.length) : seg a p n = a.drop p := by
  apply fn_ext
  · rw [seg_len, List.length_drop]; omega
  · intro j hj
    rw [seg_len] at hj
    rw [seg_fn hj, fn_drop]
theorem MMade_push {s : zI} {l : List Int32} {x : Int32} (h : MMade s l) : MMade (up3 (up3 s 41 0 l.length x) 20 0 29 (nI (l.length + 1))) (l ++ [x]) := by
  refine ⟨by rw [up3_get, if_pos ⟨rfl, rfl, rfl⟩, List.length_append]; rfl, fun j hj => ?_⟩
  rw [up3_ne (by omega), up3_get]
  simp only [List.length_append, List.length_cons, List.length_nil] at hj
  by_cases e : j = l.length
  · subst e
    rw [if_pos ⟨rfl, rfl, rfl⟩]
    have := fn_app_r (l := l) (m := [x]) (j := 0)
    rw [Nat.add_zero] at this
    rw [this]; rfl
  · rw [if_neg (by omega), fn_app_l (by omega)]
    exact h.2 j (by omega)
set_option maxRecDepth 100000 in
set_option maxHeartbeats 4000000 in
theorem j_make (sg : zI) (ta : zJ) (r f n e : Nat) (he : e = f + n) (a l : List Int32) (hr : r < 4) (hR : MRow sg r a) (hM : MMade sg l) (hn : f + n ≤ a.length) (hl : l.length + n ≤ 64) : zP yX8_make mX8_make 0 [.ref (nm 20 0), .int (nI r),   .int (nI f), .int (nI e)] sg ta (fun v s t => v = none ∧ t = ta ∧ frK sg s ∧ MMade s (l ++ seg a f n)) := by
  subst he
  obtain ⟨a0, a1, a2⟩ := hR
  refine zP_of (lv := [some (.ref (nm 20 0)), some (.int (nI r)), some (.int (nI f)), some (.int (nI (f + n))), none]) (by decide +kernel) rfl (fun h => by cases h) rfl (Nat.le_of_ble_eq_true rfl) ?_
  have loop : ∀ (k i : Nat) (s : zI), i + k = n → frK sg s → MMade s (l ++ seg a f i) → Zq mX8_make 0 (fun v s t => v = none ∧ t = ta ∧ frK sg s ∧ MMade s (l ++ seg a f n)) s ta 3 [some (.ref (nm 20 0)), some (.int (nI r)), some (.int (nI f)), some (.int (nI (f + n))), some (.int (nI (f + i)))] [] := by
    intro k
    induction k with
    | zero =>
      intro i s hi hf hm
      have : i = n := by omega
      subst this
      refine q_iload dX8_make_3 rfl ?_
      refine q_iload_n dX8_make_5 rfl ?_
      refine q_icmp_ge 46 dX8_make_6 (by decide) (fun g => ?_) (fun g => ?_)
      · exact z_vret dX8_make_46 rfl ⟨rfl, rfl, hf, hm⟩
      · exact absurd (nI_le (by omega) (by omega)) g
    | succ k ih =>
      intro i s hi hf hm
      have hlen : (l ++ seg a f i).length = l.length + i := by rw [List.length_append, seg_len]
      refine q_iload dX8_make_3 rfl ?_
      refine q_iload_n dX8_make_5 rfl ?_
      refine q_icmp_ge 46 dX8_make_6 (by decide) (fun g => ?_) (fun g => ?_)
      · exact absurd g (nI_ge (by omega) (by omega))
      · refine q_aload_n dX8_make_9 rfl ?_
        refine z_get 28 dX8_make_10 (by first | assumption | decide) (sh_20 _ _ _) rfl (by decide) fl_X8_78 rfl ?_
        refine q_aload_n dX8_make_13 rfl ?_
        refine z_get 29 dX8_make_14 (by first | assumption | decide) (sh_20 _ _ _) rfl (by decide) fl_X8_117 rfl ?_
        rw [hm.1, hlen]
        refine q_aload_n dX8_make_17 rfl ?_
        refine z_get 26 dX8_make_18 (by first | assumption | decide) (sh_20 _ _ _) rfl (by decide) fl_X8_72 rfl ?_
        refine q_bipush (v := 32) dX8_make_21 rfl ?_
        refine q_iload_n dX8_make_23 rfl ?_
        refine q_imul dX8_make_24 ?_
        refine q_iload dX8_make_25 rfl ?_
        refine q_iadd dX8_make_27 ?_
        rw [show (32 : Int32) * nI r = nI (32 * r) from pk_mul 32 r, nI_add]
        refine z_iald dX8_make_28 (by first | assumption | decide) rfl (vp_in_nI (n := 32 * r + (f + i)) (by omega) (by omega)) ?_
        rw [nI_clamp (by omega), show s 39 0 (32 * r + (f + i)) = fn a (f + i) by rw [frK_row hf (by omega) (by omega), a2 (f + i) (by omega)]]
        refine z_iast dX8_make_29 (by first | assumption | decide) (fun _ _ => rfl) (vp_in_nI (n := l.length + i) (by omega) (by omega)) ?_
        rw [nI_clamp (by omega)]
        refine q_aload_n dX8_make_30 rfl ?_
        refine q_dup dX8_make_31 rfl ?_
        refine z_get 29 dX8_make_32 (by first | assumption | decide) (sh_20 _ _ _) rfl (by decide) fl_X8_117 rfl ?_
        rw [up3_ne (by omega), hm.1, hlen]
        refine q_iconst (v := 1) dX8_make_35 rfl ?_
        refine q_iadd dX8_make_36 ?_
        rw [nI_1]
        refine z_puti 29 dX8_make_37 (by first | assumption | decide) (sh_20 _ _ _) rfl (by decide) fl_X8_117 rfl pfI (Nat.le_of_ble_eq_true rfl) rfl ?_
        refine q_iinc dX8_make_40 rfl (Nat.le_of_ble_eq_true rfl) rfl ?_
        dsimp only [List.set]
        refine q_goto 3 dX8_make_43 (by decide) ?_
        rw [nI_inc]
        have hp := MMade_push (x := fn a (f + i)) hm
        rw [hlen, List.append_assoc, ← seg_s] at hp
        refine ih (i + 1) _ (by omega) ?_ hp
        intro K i' j h1 h2
        rw [up3_get, if_neg (by omega), up3_ne h1]
        exact hf K i' j h1 h2
  refine q_iload_n dX8_make_0 rfl ?_
  refine q_istore dX8_make_1 (Nat.le_of_ble_eq_true rfl) rfl ?_
  dsimp only [List.set]
  exact loop n 0 sg (by omega) (fun _ _ _ _ _ => rfl) (by rw [show seg a f 0 = [] from rfl, List.append_nil]; exact hM)
set_option maxRecDepth 100000 in
set_option maxHeartbeats 4000000 in
theorem j_isReplaced (sg : zI) (ta : zJ) (a b c d : List Int32) (h0 : MRow sg 0 a) (h1 : MRow sg 1 b) (h2 : MRow sg 2 c) (h3 : MRow sg 3 d) : zP yX8_isReplaced mX8_isReplaced 1 [.ref (nm 20 0)] sg ta (fun v s t => v = some (.int (bC (repL a b c d))) ∧ t = ta ∧ frK sg s) := by
  refine zP_of (lv := [some (.ref (nm 20 0)), none, none, none]) (by decide +kernel) rfl (fun h => by cases h) rfl (Nat.le_of_ble_eq_true rfl) ?_
  -- the comparison
  have cmp : ∀ (m : List Int32) (s : zI) (x1 : Int32), frK sg s → MMade s m → m.length ≤ 64 → (repL a b c d ↔ m = a) → Zq mX8_isReplaced 1 (fun v s t => v = some (.int (bC (repL a b c d))) ∧ t = ta ∧ frK sg s) s ta 70 [some (.ref (nm 20 0)), some (.int x1), none, none] [] := by
    intro m s x1 hf hm hm64 hrep
    obtain ⟨a0, a1, a2⟩ := MRow_K hf h0
    have loop : ∀ (k j : Nat) (F : Int32), j + k = m.length → F = bC (m.length = a.length ∧ ∀ q, q < j → fn m q = fn a q) → Zq mX8_isReplaced 1 (fun v s t => v = some (.int (bC (repL a b c d))) ∧ t = ta ∧ frK sg s) s ta 91 [some (.ref (nm 20 0)), some (.int x1), some (.int F), some (.int (nI j))] [] := by
      intro k
      induction k with
      | zero =>
        intro j F hj hF
        subst hF
        have : j = m.length := by omega
        subst this
        refine q_iload_n dX8_isReplaced_91 rfl ?_
        refine q_aload_n dX8_isReplaced_92 rfl ?_
        refine z_get 29 dX8_isReplaced_93 (by first | assumption | decide) (sh_20 _ _ _) rfl (by decide) fl_X8_117 rfl ?_
        rw [hm.1]
        refine q_icmp_ge 130 dX8_isReplaced_96 (by decide) (fun g => ?_) (fun g => ?_)
        · refine q_iload_n dX8_isReplaced_130 rfl ?_
          refine z_zret dX8_isReplaced_131 rfl (bC_01 _) ⟨?_, rfl, hf⟩
          rw [bC_iff (q := repL a b c d) ⟨fun q => hrep.mpr (fn_ext q.1 q.2), fun q => by rw [hrep.mp q]; exact ⟨rfl, fun _ _ => rfl⟩⟩]
        · exact absurd (nI_le (by omega) (by omega)) g
      | succ k ih =>
        intro j F hj hF
        subst hF
        refine q_iload_n dX8_isReplaced_91 rfl ?_
        refine q_aload_n dX8_isReplaced_92 rfl ?_
        refine z_get 29 dX8_isReplaced_93 (by first | assumption | decide) (sh_20 _ _ _) rfl (by decide) fl_X8_117 rfl ?_
        rw [hm.1]
        refine q_icmp_ge 130 dX8_isReplaced_96 (by decide) (fun g => ?_) (fun g => ?_)
        · exact absurd g (nI_ge (by omega) (by omega))
        · refine q_iload_n dX8_isReplaced_99 rfl ?_
          refine q_if_eq 130 dX8_isReplaced_100 (by decide) (fun g2 => ?_) (fun g2 => ?_)
          · have hn := bC_z.mp g2
            refine q_iload_n dX8_isReplaced_130 rfl ?_
            refine z_zret dX8_isReplaced_131 rfl (bC_01 _) ⟨?_, rfl, hf⟩
            rw [bC_f hn, bC_f (fun q => hn (by rw [hrep.mp q]; exact ⟨rfl, fun _ _ => rfl⟩))]
          · obtain ⟨hl, hq⟩ := bC_nz.mp g2
            refine q_aload_n dX8_isReplaced_103 rfl ?_
            refine z_get 28 dX8_isReplaced_104 (by first | assumption | decide) (sh_20 _ _ _) rfl (by decide) fl_X8_78 rfl ?_
            refine q_iload_n dX8_isReplaced_107 rfl ?_
            refine z_iald dX8_isReplaced_108 (by first | assumption | decide) rfl (vp_in_nI (n := j) (by omega) (by omega)) ?_
            rw [nI_clamp (by omega), ← hm.2 j (by omega)]
            refine q_aload_n dX8_isReplaced_109 rfl ?_
            refine z_get 26 dX8_isReplaced_110 (by first | assumption | decide) (sh_20 _ _ _) rfl (by decide) fl_X8_72 rfl ?_
            refine q_iload_n dX8_isReplaced_113 rfl ?_
            refine z_iald dX8_isReplaced_114 (by first | assumption | decide) rfl (vp_in_nI (n := j) (by omega) (by omega)) ?_
            rw [nI_clamp (by omega), show s 39 0 j = fn a j by rw [a2 j (by omega)]; congr 1; omega]
            refine q_icmp_ne 122 dX8_isReplaced_115 (by decide) (fun g3 => ?_) (fun g3 => ?_)
            · refine q_iconst (v := 0) dX8_isReplaced_122 rfl ?_
              refine s_istore_n 2 dX8_isReplaced_123 rfl (Nat.le_of_ble_eq_true rfl) rfl ?_
              dsimp only [List.set]
              refine q_iinc dX8_isReplaced_124 rfl (Nat.le_of_ble_eq_true rfl) rfl ?_
              dsimp only [List.set]
              refine q_goto 91 dX8_isReplaced_127 (by decide) ?_
              rw [nI_inc]
              exact ih (j + 1) _ (by omega) (bC_f (fun q => g3 (q.2 j (by omega)))).symm
            · refine q_iconst (v := 1) dX8_isReplaced_118 rfl ?_
              refine q_goto 123 dX8_isReplaced_119 (by decide) ?_
              refine s_istore_n 2 dX8_isReplaced_123 rfl (Nat.le_of_ble_eq_true rfl) rfl ?_
              dsimp only [List.set]
              refine q_iinc dX8_isReplaced_124 rfl (Nat.le_of_ble_eq_true rfl) rfl ?_
              dsimp only [List.set]
              refine q_goto 91 dX8_isReplaced_127 (by decide) ?_
              rw [nI_inc]
              refine ih (j + 1) _ (by omega) (bC_t ⟨hl, fun q hq2 => ?_⟩).symm
              by_cases e : q = j
              · subst e; exact g3
              · exact hq q (by omega)
    refine q_aload_n dX8_isReplaced_70 rfl ?_
    refine z_get 29 dX8_isReplaced_71 (by first | assumption | decide) (sh_20 _ _ _) rfl (by decide) fl_X8_117 rfl ?_
    refine q_aload_n dX8_isReplaced_74 rfl ?_
    refine z_get 27 dX8_isReplaced_75 (by first | assumption | decide) (sh_20 _ _ _) rfl (by decide) fl_X8_75 rfl ?_
    refine q_iconst (v := 0) dX8_isReplaced_78 rfl ?_
    refine z_iald dX8_isReplaced_79 (by first | assumption | decide) rfl (vp_in_nI (n := 0) (by omega) (by omega)) ?_
    rw [hm.1, show s 40 0 (Int32.toNatClampNeg 0) = nI a.length from a0]
    refine q_icmp_ne 87 dX8_isReplaced_80 (by decide) (fun g => ?_) (fun g => ?_)
    · refine q_iconst (v := 0) dX8_isReplaced_87 rfl ?_
      refine s_istore_n 2 dX8_isReplaced_88 rfl (Nat.le_of_ble_eq_true rfl) rfl ?_
      dsimp only [List.set]
      refine q_iconst (v := 0) dX8_isReplaced_89 rfl ?_
      refine s_istore_n 3 dX8_isReplaced_90 rfl (Nat.le_of_ble_eq_true rfl) rfl ?_
      dsimp only [List.set]
      exact loop m.length 0 _ (by omega) (bC_f (fun q => g (by rw [q.1]))).symm
    · refine q_iconst (v := 1) dX8_isReplaced_83 rfl ?_
      refine q_goto 88 dX8_isReplaced_84 (by decide) ?_
      refine s_istore_n 2 dX8_isReplaced_88 rfl (Nat.le_of_ble_eq_true rfl) rfl ?_
      dsimp only [List.set]
      refine q_iconst (v := 0) dX8_isReplaced_89 rfl ?_
      refine s_istore_n 3 dX8_isReplaced_90 rfl (Nat.le_of_ble_eq_true rfl) rfl ?_
      dsimp only [List.set]
      exact loop m.length 0 _ (by omega) (bC_t ⟨(nI_eq (by omega) (by omega)).mp g, fun q hq => absurd hq (by omega)⟩).symm
  have b30 := h1.2.1
  have c30 := h2.2.1
  have d30 := h3.2.1
  refine q_aload_n dX8_isReplaced_0 rfl ?_
  refine q_iconst (v := 1) dX8_isReplaced_1 rfl ?_
  refine q_iconst (v := 2) dX8_isReplaced_2 rfl ?_
  refine z_callV (j_found sg ta 1 2 b c (by omega) (by omega) h1 h2) kV_X8_120 dX8_isReplaced_3 (by first | assumption | decide) (sh_20 _ _ _) rfl rfl rfl (by omega) (Nat.le_of_ble_eq_true rfl) (Nat.le_refl _) (Nat.le_refl _) rfl (fun v s1 t1 h => ?_)
  obtain ⟨rfl, rfl, r, rfl, hr⟩ := h
  dsimp only [Option.toList, List.cons_append, List.nil_append]
  refine s_istore_n 1 dX8_isReplaced_6 rfl (Nat.le_of_ble_eq_true rfl) rfl ?_
  dsimp only [List.set]
  refine q_aload_n dX8_isReplaced_7 rfl ?_
  refine q_iconst (v := 0) dX8_isReplaced_8 rfl ?_
  refine z_puti 29 dX8_isReplaced_9 (by first | assumption | decide) (sh_20 _ _ _) rfl (by decide) fl_X8_117 rfl pfI (Nat.le_of_ble_eq_true rfl) rfl ?_
  have f0 : frK s1 (up3 s1 20 0 29 0) := fun K i j x y => by rw [up3_get, if_neg (by omega)]
  have m0 : MMade (up3 s1 20 0 29 0) [] := ⟨by rw [up3_get, if_pos ⟨rfl, rfl, rfl⟩]; rfl, fun j hj => by simp at hj⟩
  refine q_iload_n dX8_isReplaced_12 rfl ?_
  refine q_iconst (v := (-1)) dX8_isReplaced_13 rfl ?_
  refine q_icmp_ne 32 dX8_isReplaced_14 (by decide) (fun g => ?_) (fun g => ?_)
  · -- found
    rcases hr with ⟨q, -⟩ | ⟨p, rfl, hp⟩
    · exact absurd q g
    · have hpl := fstL_le hp
      refine q_aload_n dX8_isReplaced_32 rfl ?_
      refine q_iconst (v := 1) dX8_isReplaced_33 rfl ?_
      refine q_iconst (v := 0) dX8_isReplaced_34 rfl ?_
      refine q_iload_n dX8_isReplaced_35 rfl ?_
      refine z_callV (j_make _ t1 1 0 p p (by omega) b [] (by omega) (MRow_K f0 h1) m0 (by omega) (by simp; omega)) kV_X8_124 dX8_isReplaced_36 (by first | assumption | decide) (sh_20 _ _ _) rfl rfl rfl (by omega) (Nat.le_of_ble_eq_true rfl) (Nat.le_refl _) (Nat.le_refl _) rfl (fun v s2 t2 h => ?_)
      obtain ⟨rfl, rfl, f2, m2⟩ := h
      dsimp only [Option.toList, List.cons_append, List.nil_append]
      have f02 := frK_trans f0 f2
      rw [List.nil_append, seg_take (by omega)] at m2
      have l2 : (b.take p).length = p := by rw [List.length_take]; omega
      refine q_aload_n dX8_isReplaced_39 rfl ?_
      refine q_iconst (v := 3) dX8_isReplaced_40 rfl ?_
      refine q_iconst (v := 0) dX8_isReplaced_41 rfl ?_
      refine q_aload_n dX8_isReplaced_42 rfl ?_
      refine z_get 27 dX8_isReplaced_43 (by first | assumption | decide) (sh_20 _ _ _) rfl (by decide) fl_X8_75 rfl ?_
      refine q_iconst (v := 3) dX8_isReplaced_46 rfl ?_
      refine z_iald dX8_isReplaced_47 (by first | assumption | decide) rfl (vp_in_nI (n := 3) (by omega) (by omega)) ?_
      rw [show s2 40 0 (Int32.toNatClampNeg 3) = nI d.length by rw [frK_row f02 (by omega) (by omega)]; exact h3.1]
      refine z_callV (j_make s2 t2 3 0 d.length d.length (by omega) d (b.take p) (by omega) (MRow_K f02 h3) m2 (by omega) (by omega)) kV_X8_124 dX8_isReplaced_48 (by first | assumption | decide) (sh_20 _ _ _) rfl rfl rfl (by omega) (Nat.le_of_ble_eq_true rfl) (Nat.le_refl _) (Nat.le_refl _) rfl (fun v s3 t3 h => ?_)
      obtain ⟨rfl, rfl, f3, m3⟩ := h
      dsimp only [Option.toList, List.cons_append, List.nil_append]
      have f03 := frK_trans f02 f3
      rw [seg_take (Nat.le_refl _), List.take_length] at m3
      refine q_aload_n dX8_isReplaced_51 rfl ?_
      refine q_iconst (v := 1) dX8_isReplaced_52 rfl ?_
      refine q_iload_n dX8_isReplaced_53 rfl ?_
      refine q_aload_n dX8_isReplaced_54 rfl ?_
      refine z_get 27 dX8_isReplaced_55 (by first | assumption | decide) (sh_20 _ _ _) rfl (by decide) fl_X8_75 rfl ?_
      refine q_iconst (v := 2) dX8_isReplaced_58 rfl ?_
      refine z_iald dX8_isReplaced_59 (by first | assumption | decide) rfl (vp_in_nI (n := 2) (by omega) (by omega)) ?_
      rw [show s3 40 0 (Int32.toNatClampNeg 2) = nI c.length by rw [frK_row f03 (by omega) (by omega)]; exact h2.1]
      refine q_iadd dX8_isReplaced_60 ?_
      rw [nI_add]
      refine q_aload_n dX8_isReplaced_61 rfl ?_
      refine z_get 27 dX8_isReplaced_62 (by first | assumption | decide) (sh_20 _ _ _) rfl (by decide) fl_X8_75 rfl ?_
      refine q_iconst (v := 1) dX8_isReplaced_65 rfl ?_
      refine z_iald dX8_isReplaced_66 (by first | assumption | decide) rfl (vp_in_nI (n := 1) (by omega) (by omega)) ?_
      rw [show s3 40 0 (Int32.toNatClampNeg 1) = nI b.length by rw [frK_row f03 (by omega) (by omega)]; exact h1.1]
      refine z_callV (j_make s3 t3 1 (p + c.length) (b.length - (p + c.length)) b.length (by omega) b (b.take p ++ d) (by omega) (MRow_K f03 h1) m3 (by omega) (by rw [List.length_append, l2]; omega)) kV_X8_124 dX8_isReplaced_67 (by first | assumption | decide) (sh_20 _ _ _) rfl rfl rfl (by omega) (Nat.le_of_ble_eq_true rfl) (Nat.le_refl _) (Nat.le_refl _) rfl (fun v s4 t4 h => ?_)
      obtain ⟨rfl, rfl, f4, m4⟩ := h
      dsimp only [Option.toList, List.cons_append, List.nil_append]
      have f04 := frK_trans f03 f4
      rw [seg_drop (by omega)] at m4
      refine cmp _ s4 _ f04 m4 (by rw [List.length_append, List.length_append, l2, List.length_drop]; omega) ?_
      unfold repL
      constructor
      · rintro (⟨q, -⟩ | ⟨p', hp', e⟩)
        · exact absurd ⟨p, hp.1⟩ q
        · rw [fstL_uni hp' hp] at e; exact e.symm
      · intro e; exact Or.inr ⟨p, hp, e.symm⟩
  · rcases hr with ⟨-, hno⟩ | ⟨p, rfl, hp⟩
    · refine q_aload_n dX8_isReplaced_17 rfl ?_
      refine q_iconst (v := 1) dX8_isReplaced_18 rfl ?_
      refine q_iconst (v := 0) dX8_isReplaced_19 rfl ?_
      refine q_aload_n dX8_isReplaced_20 rfl ?_
      refine z_get 27 dX8_isReplaced_21 (by first | assumption | decide) (sh_20 _ _ _) rfl (by decide) fl_X8_75 rfl ?_
      refine q_iconst (v := 1) dX8_isReplaced_24 rfl ?_
      refine z_iald dX8_isReplaced_25 (by first | assumption | decide) rfl (vp_in_nI (n := 1) (by omega) (by omega)) ?_
      rw [show up3 s1 20 0 29 0 40 0 (Int32.toNatClampNeg 1) = nI b.length by rw [up3_ne (by omega)]; exact h1.1]
      refine z_callV (j_make _ t1 1 0 b.length b.length (by omega) b [] (by omega) (MRow_K f0 h1) m0 (by omega) (by simp; omega)) kV_X8_124 dX8_isReplaced_26 (by first | assumption | decide) (sh_20 _ _ _) rfl rfl rfl (by omega) (Nat.le_of_ble_eq_true rfl) (Nat.le_refl _) (Nat.le_refl _) rfl (fun v s2 t2 h => ?_)
      obtain ⟨rfl, rfl, f2, m2⟩ := h
      dsimp only [Option.toList, List.cons_append, List.nil_append]
      rw [List.nil_append, seg_take (Nat.le_refl _), List.take_length] at m2
      refine q_goto 70 dX8_isReplaced_29 (by decide) ?_
      refine cmp b s2 _ (frK_trans f0 f2) m2 (by omega) ?_
      unfold repL
      constructor
      · rintro (⟨-, q⟩ | ⟨p', hp', e⟩)
        · exact q.symm
        · exact absurd ⟨p', hp'.1⟩ hno
      · intro e; exact Or.inl ⟨hno, e.symm⟩
    · have := fstL_le hp
      exact absurd g (nI_m1 (by omega))
