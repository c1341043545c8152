def rowsFr : List (Nat × Nat) := [(13, 0), (14, 0), (13, 1), (14, 1), (13, 2), (14, 2), (13, 3), (14, 3)]
theorem rowsFr_not {K j : Nat} (h : K ≠ 13 ∧ K ≠ 14) : (K, j) ∉ rowsFr := by
  unfold rowsFr
  simp
  omega
theorem rowOnly_frm {r : Nat} {a b : zI} (hr : r < 4) (h : rowOnly r a b) : frm rowsFr a b := fun K j hk => by
  have h13 : (13, r) ∈ rowsFr := by rcases (show r = 0 ∨ r = 1 ∨ r = 2 ∨ r = 3 by omega) with rfl | rfl | rfl | rfl <;> decide
  have h14 : (14, r) ∈ rowsFr := by rcases (show r = 0 ∨ r = 1 ∨ r = 2 ∨ r = 3 by omega) with rfl | rfl | rfl | rfl <;> decide
  exact h K j (fun q => hk (by rw [q.1, q.2]; exact h13)) (fun q => hk (by rw [q.1, q.2]; exact h14))
theorem RowHas_keep {r r2 : Nat} {a b : zI} {l : List Int32} (h : RowHas a r l) (ho : rowOnly r2 a b) (hne : r ≠ r2) : RowHas b r l := by
  refine ⟨by rw [ho 13 r (by omega) (by omega)]; exact h.1, fun j hj => by rw [ho 14 r (by omega) (by omega)]; exact h.2 j hj⟩
theorem spC_frm {a b : zI} (h : frm rowsFr a b) (i : Nat) (x : Int32) : spC b i x = spC a i x := by
  unfold spC
  rw [h 12 _ (rowsFr_not ⟨by omega, by omega⟩), h 11 _ (rowsFr_not ⟨by omega, by omega⟩), h 4 _ (rowsFr_not ⟨by omega, by omega⟩), h 5 _ (rowsFr_not ⟨by omega, by omega⟩), h 6 _ (rowsFr_not ⟨by omega, by omega⟩)]
theorem TOk_frm {a b : zI} (h : frm rowsFr a b) {i : Nat} {x : Int32} (ht : TOk a i x) : TOk b i x := by
  unfold TOk at *
  rw [h 12 _ (rowsFr_not ⟨by omega, by omega⟩), h 11 _ (rowsFr_not ⟨by omega, by omega⟩), h 4 _ (rowsFr_not ⟨by omega, by omega⟩), h 5 _ (rowsFr_not ⟨by omega, by omega⟩)]
  exact ht
theorem same_iff {sg : zI} {r r2 : Nat} {a b : List Int32} (h0 : RowHas sg r a) (h1 : RowHas sg r2 b) : (a.length = b.length ∧ ∀ k, k < a.length → sg 14 r k = sg 14 r2 k) ↔ a = b := by
  constructor
  · intro q
    exact fn_ext q.1 (fun j hj => by rw [h0.at_ hj, h1.at_ (by rw [← q.1]; exact hj)]; exact q.2 j hj)
  · intro q
    subst q
    exact ⟨rfl, fun k hk => by rw [← h0.at_ hk, ← h1.at_ hk]⟩
def mxC (sg : zI) (b : Int32) (l : List Int32) : Prop := mgd (sg 15 b.toNatClampNeg 2) (mrun (mnx (sg 16 b.toNatClampNeg)) (fn l) l.length)
def trC (sg : zI) (f i : Nat) : Prop := trP (sg 17 f 2) (sg 17 f 3) (sg 17 f 4) (sg 17 f 5) (sg 17 f 6) (spC sg i) (mxC sg)
/-- a formula is sound in way i -/
def FOk (sg : zI) (i f : Nat) : Prop := ∃ kd, kd ≤ 6 ∧ sg 17 f 2 = nI kd ∧ TOk sg i (sg 17 f 3) ∧ (kd ≠ 2 → kd ≠ 5 → TOk sg i (sg 17 f 4)) ∧ (kd = 2 → ∃ m, m < 3 ∧ sg 17 f 4 = nI m) ∧ (kd = 5 → ∃ p q, 2 ≤ p ∧ p ≤ 16 ∧ q < p ∧ sg 17 f 4 = nI p ∧ sg 17 f 5 = nI q) ∧ (kd = 6 → TOk sg i (sg 17 f 5) ∧ TOk sg i (sg 17 f 6))
theorem c_write_spC (sg : zI) (ta : zJ) (r i : Nat) (x : Int32) (hr : r < cnt 13) (hi : i < cnt 3) (h : TOk sg i x) : zP yX3_write mX3_write 1 [.ref (nm 13 r), .ref (nm 11 (tIdx x)), .ref (nm 3 i)] sg ta (fun v s t => v = none ∧ t = ta ∧ RowHas s r (spC sg i x) ∧ rowOnly r sg s) := by
  obtain ⟨n, h1, h2, h3⟩ := h
  have := c_Row_write sg ta r (tIdx x) i n hr (tIdx_lt x) hi h2 h1 h3
  unfold spC
  rw [h2, nI_clamp (by omega)]
  exact this
theorem frmJ17 {a b : zI} (h : frm rowsFr a b) (f : Nat) : b 17 f = a 17 f := h 17 f (rowsFr_not ⟨by omega, by omega⟩)
set_option maxRecDepth 100000 in
set_option maxHeartbeats 8000000 in
theorem c_Judge_isSo (sg : zI) (ta : zJ) (f i : Nat) (hf : f < cnt 17) (hi : i < cnt 3) (hF : FOk sg i f) : zP yX1_isSo mX1_isSo 2 [.ref (nm 10 0), .ref (nm 17 f), .ref (nm 3 i)] sg ta (fun v s t => v = some (.int (bC (trC sg f i))) ∧ t = ta ∧ frm rowsFr sg s) := by
  obtain ⟨kd, hkd, hk, ha, hb, hm, hs, hcd⟩ := hF
  have r0 : 0 < cnt 13 := by decide
  have r1 : 1 < cnt 13 := by decide
  have r2 : 2 < cnt 13 := by decide
  have r3 : 3 < cnt 13 := by decide
  -- both rows written, at the switch
  have two : kd ≠ 2 → kd ≠ 5 → (∀ s, frm rowsFr sg s → RowHas s 0 (spC sg i (sg 17 f 3)) → RowHas s 1 (spC sg i (sg 17 f 4)) → Zq mX1_isSo 2 (fun v s t => v = some (.int (bC (trC sg f i))) ∧ t = ta ∧ frm rowsFr sg s) s ta 82 [some (.ref (nm 10 0)), some (.ref (nm 17 f)), some (.ref (nm 3 i)), none, none] [.int (nI kd)]) → Zq mX1_isSo 2 (fun v s t => v = some (.int (bC (trC sg f i))) ∧ t = ta ∧ frm rowsFr sg s) sg ta 39 [some (.ref (nm 10 0)), some (.ref (nm 17 f)), some (.ref (nm 3 i)), none, none] [] := by
    intro k2 k5 kk
    refine q_aload_n dX1_isSo_39 rfl ?_
    refine z_get 3 dX1_isSo_40 (by first | assumption | decide) (sh_10 _ _ _) rfl (by decide) fl_X1_21 rfl ?_
    refine q_aload_n dX1_isSo_43 rfl ?_
    refine q_aload_n dX1_isSo_44 rfl ?_
    refine z_get 3 dX1_isSo_45 (by first | assumption | decide) (sh_17 _ _ _) rfl (by decide) fl_X1_42 rfl ?_
    refine z_callV (c_Judge_termAt sg ta _) kV_X1_47 dX1_isSo_48 (by first | assumption | decide) (sh_10 _ _ _) rfl rfl rfl (by omega) (Nat.le_of_ble_eq_true rfl) (Nat.le_refl _) (Nat.le_refl _) rfl (fun v s2 ta2 h => ?_)
    obtain ⟨rfl, rfl, rfl⟩ := h
    dsimp only [Option.toList, List.cons_append, List.nil_append]
    refine q_aload_n dX1_isSo_51 rfl ?_
    refine z_callV (c_write_spC s2 ta2 0 i _ r0 hi ha) kV_X1_75 dX1_isSo_52 (by first | assumption | decide) (sh_13 _ _ _) rfl rfl rfl (by omega) (Nat.le_of_ble_eq_true rfl) (Nat.le_refl _) (Nat.le_refl _) rfl (fun v s3 ta3 h => ?_)
    obtain ⟨rfl, rfl, hR0, hO⟩ := h
    dsimp only [Option.toList, List.cons_append, List.nil_append]
    have hf3 := rowOnly_frm (by omega) hO
    refine q_aload_n dX1_isSo_55 rfl ?_
    refine z_callV (c_Formula_hasSecondTerm s3 ta3 f hf) kV_X1_79 dX1_isSo_56 (by first | assumption | decide) (sh_17 _ _ _) rfl rfl rfl (by omega) (Nat.le_of_ble_eq_true rfl) (Nat.le_refl _) (Nat.le_refl _) rfl (fun v s4 ta4 h => ?_)
    obtain ⟨rfl, rfl, rfl⟩ := h
    dsimp only [Option.toList, List.cons_append, List.nil_append]
    refine q_if_eq 78 dX1_isSo_59 (by decide) (fun h => ?_) (fun h => ?_)
    · rw [bC_z, frmJ17 hf3, hk] at h
      exact absurd ⟨fun q => k2 ((nI_eq (b := 2) (by omega) (by omega)).mp q), fun q => k5 ((nI_eq (b := 5) (by omega) (by omega)).mp q)⟩ h
    · refine q_aload_n dX1_isSo_62 rfl ?_
      refine z_get 4 dX1_isSo_63 (by first | assumption | decide) (sh_10 _ _ _) rfl (by decide) fl_X1_25 rfl ?_
      refine q_aload_n dX1_isSo_66 rfl ?_
      refine q_aload_n dX1_isSo_67 rfl ?_
      refine z_get 4 dX1_isSo_68 (by first | assumption | decide) (sh_17 _ _ _) rfl (by decide) fl_X1_55 rfl ?_
      refine z_callV (c_Judge_termAt s4 ta4 _) kV_X1_47 dX1_isSo_71 (by first | assumption | decide) (sh_10 _ _ _) rfl rfl rfl (by omega) (Nat.le_of_ble_eq_true rfl) (Nat.le_refl _) (Nat.le_refl _) rfl (fun v s5 ta5 h => ?_)
      obtain ⟨rfl, rfl, rfl⟩ := h
      dsimp only [Option.toList, List.cons_append, List.nil_append]
      refine q_aload_n dX1_isSo_74 rfl ?_
      refine z_callV (c_write_spC s5 ta5 1 i _ r1 hi (by rw [frmJ17 hf3]; exact TOk_frm hf3 (hb k2 k5))) kV_X1_75 dX1_isSo_75 (by first | assumption | decide) (sh_13 _ _ _) rfl rfl rfl (by omega) (Nat.le_of_ble_eq_true rfl) (Nat.le_refl _) (Nat.le_refl _) rfl (fun v s6 ta6 h => ?_)
      obtain ⟨rfl, rfl, hR1, hO1⟩ := h
      dsimp only [Option.toList, List.cons_append, List.nil_append]
      have hf6 := frm_trans hf3 (rowOnly_frm (by omega) hO1)
      refine q_aload_n dX1_isSo_78 rfl ?_
      refine z_get 2 dX1_isSo_79 (by first | assumption | decide) (sh_17 _ _ _) rfl (by decide) fl_X1_59 rfl ?_
      rw [frmJ17 hf6, hk]
      refine kk s6 hf6 (RowHas_keep hR0 hO1 (by omega)) ?_
      rw [← spC_frm hf3, ← frmJ17 hf3]
      exact hR1
  have one : (kd = 2 ∨ kd = 5) → (∀ s, frm rowsFr sg s → RowHas s 0 (spC sg i (sg 17 f 3)) → Zq mX1_isSo 2 (fun v s t => v = some (.int (bC (trC sg f i))) ∧ t = ta ∧ frm rowsFr sg s) s ta 82 [some (.ref (nm 10 0)), some (.ref (nm 17 f)), some (.ref (nm 3 i)), none, none] [.int (nI kd)]) → Zq mX1_isSo 2 (fun v s t => v = some (.int (bC (trC sg f i))) ∧ t = ta ∧ frm rowsFr sg s) sg ta 39 [some (.ref (nm 10 0)), some (.ref (nm 17 f)), some (.ref (nm 3 i)), none, none] [] := by
    intro k25 kk
    refine q_aload_n dX1_isSo_39 rfl ?_
    refine z_get 3 dX1_isSo_40 (by first | assumption | decide) (sh_10 _ _ _) rfl (by decide) fl_X1_21 rfl ?_
    refine q_aload_n dX1_isSo_43 rfl ?_
    refine q_aload_n dX1_isSo_44 rfl ?_
    refine z_get 3 dX1_isSo_45 (by first | assumption | decide) (sh_17 _ _ _) rfl (by decide) fl_X1_42 rfl ?_
    refine z_callV (c_Judge_termAt sg ta _) kV_X1_47 dX1_isSo_48 (by first | assumption | decide) (sh_10 _ _ _) rfl rfl rfl (by omega) (Nat.le_of_ble_eq_true rfl) (Nat.le_refl _) (Nat.le_refl _) rfl (fun v s2 ta2 h => ?_)
    obtain ⟨rfl, rfl, rfl⟩ := h
    dsimp only [Option.toList, List.cons_append, List.nil_append]
    refine q_aload_n dX1_isSo_51 rfl ?_
    refine z_callV (c_write_spC s2 ta2 0 i _ r0 hi ha) kV_X1_75 dX1_isSo_52 (by first | assumption | decide) (sh_13 _ _ _) rfl rfl rfl (by omega) (Nat.le_of_ble_eq_true rfl) (Nat.le_refl _) (Nat.le_refl _) rfl (fun v s3 ta3 h => ?_)
    obtain ⟨rfl, rfl, hR0, hO⟩ := h
    dsimp only [Option.toList, List.cons_append, List.nil_append]
    have hf3 := rowOnly_frm (by omega) hO
    refine q_aload_n dX1_isSo_55 rfl ?_
    refine z_callV (c_Formula_hasSecondTerm s3 ta3 f hf) kV_X1_79 dX1_isSo_56 (by first | assumption | decide) (sh_17 _ _ _) rfl rfl rfl (by omega) (Nat.le_of_ble_eq_true rfl) (Nat.le_refl _) (Nat.le_refl _) rfl (fun v s4 ta4 h => ?_)
    obtain ⟨rfl, rfl, rfl⟩ := h
    dsimp only [Option.toList, List.cons_append, List.nil_append]
    refine q_if_eq 78 dX1_isSo_59 (by decide) (fun h => ?_) (fun h => ?_)
    · refine q_aload_n dX1_isSo_78 rfl ?_
      refine z_get 2 dX1_isSo_79 (by first | assumption | decide) (sh_17 _ _ _) rfl (by decide) fl_X1_59 rfl ?_
      rw [frmJ17 hf3, hk]
      exact kk s4 hf3 hR0
    · rw [bC_nz, frmJ17 hf3, hk] at h
      rcases k25 with rfl | rfl
      · exact absurd rfl h.1
      · exact absurd rfl h.2
  have body : kd ≠ 1 → (kd = 0 → (spC sg i (sg 17 f 3)).length = (spC sg i (sg 17 f 4)).length) → Zq mX1_isSo 2 (fun v s t => v = some (.int (bC (trC sg f i))) ∧ t = ta ∧ frm rowsFr sg s) sg ta 39 [some (.ref (nm 10 0)), some (.ref (nm 17 f)), some (.ref (nm 3 i)), none, none] [] := by
    intro k1 hlen
    have la := TOk_len ha
    have htr : trC sg f i ↔ trP (nI kd) (sg 17 f 3) (sg 17 f 4) (sg 17 f 5) (sg 17 f 6) (spC sg i) (mxC sg) := by unfold trC; rw [hk]
    rcases (show kd = 0 ∨ kd = 2 ∨ kd = 3 ∨ kd = 4 ∨ kd = 5 ∨ kd = 6 by omega) with rfl | rfl | rfl | rfl | rfl | rfl
    · have lb := TOk_len (hb (by omega) (by omega))
      rw [trP_0] at htr
      refine two (by omega) (by omega) (fun s hfs h0 h1 => ?_)
      refine q_tableIn 124 dX1_isSo_82 (by decide) (by decide) rfl (by decide) ?_
      refine q_aload_n dX1_isSo_124 rfl ?_
      refine z_get 3 dX1_isSo_125 (by first | assumption | decide) (sh_10 _ _ _) rfl (by decide) fl_X1_21 rfl ?_
      refine q_aload_n dX1_isSo_128 rfl ?_
      refine z_get 4 dX1_isSo_129 (by first | assumption | decide) (sh_10 _ _ _) rfl (by decide) fl_X1_25 rfl ?_
      refine z_callV (c_Row_isSame s ta 0 _ 1 _ r0 r1 h0.1 h1.1 la lb) kV_X1_83 dX1_isSo_132 (by first | assumption | decide) (sh_13 _ _ _) rfl rfl rfl (by omega) (Nat.le_of_ble_eq_true rfl) (Nat.le_refl _) (Nat.le_refl _) rfl (fun v s2 ta2 h => ?_)
      obtain ⟨rfl, rfl, rfl⟩ := h
      dsimp only [Option.toList, List.cons_append, List.nil_append]
      refine z_zret dX1_isSo_135 rfl (bC_01 _) ⟨?_, rfl, hfs⟩
      rw [bC_iff (same_iff h0 h1), bC_iff htr]
    · obtain ⟨m, hm3, hm4⟩ := hm rfl
      rw [trP_2] at htr
      refine one (Or.inl rfl) (fun s hfs h0 => ?_)
      have e15 : s 15 m = sg 15 m := hfs 15 m (rowsFr_not ⟨by omega, by omega⟩)
      have e16 : s 16 m = sg 16 m := hfs 16 m (rowsFr_not ⟨by omega, by omega⟩)
      have hmc : m < cnt 15 := hm3
      refine q_tableIn 136 dX1_isSo_82 (by decide) (by decide) rfl (by decide) ?_
      refine q_aload_n dX1_isSo_136 rfl ?_
      refine q_aload_n dX1_isSo_137 rfl ?_
      refine z_get 4 dX1_isSo_138 (by first | assumption | decide) (sh_17 _ _ _) rfl (by decide) fl_X1_55 rfl ?_
      rw [frmJ17 hfs, hm4]
      refine z_callV (c_Judge_machineAt s ta m hm3) kV_X1_87 dX1_isSo_141 (by first | assumption | decide) (sh_10 _ _ _) rfl rfl rfl (by omega) (Nat.le_of_ble_eq_true rfl) (Nat.le_refl _) (Nat.le_refl _) rfl (fun v s2 ta2 h => ?_)
      obtain ⟨rfl, rfl, rfl⟩ := h
      dsimp only [Option.toList, List.cons_append, List.nil_append]
      refine s_astore_n 3 dX1_isSo_144 rfl (Nat.le_of_ble_eq_true rfl) rfl ?_
      dsimp only [List.set]
      refine q_aload_n dX1_isSo_145 rfl ?_
      refine q_ifnullR dX1_isSo_146 ?_
      refine q_aload_n dX1_isSo_149 rfl ?_
      refine q_aload_n dX1_isSo_150 rfl ?_
      refine z_get 3 dX1_isSo_151 (by first | assumption | decide) (sh_10 _ _ _) rfl (by decide) fl_X1_21 rfl ?_
      refine z_callV (c_Machine_takes s2 ta2 m 0 _ hmc r0 h0.1 la) kV_X1_91 dX1_isSo_154 (by first | assumption | decide) (sh_15 _ _ _) rfl rfl rfl (by omega) (Nat.le_of_ble_eq_true rfl) (Nat.le_refl _) (Nat.le_refl _) rfl (fun v s3 ta3 h => ?_)
      obtain ⟨rfl, rfl, rfl⟩ := h
      dsimp only [Option.toList, List.cons_append, List.nil_append]
      have htk : trC sg f i ↔ mgd (s3 15 m 2) (mrun (mnx (s3 16 m)) (s3 14 0) (spC sg i (sg 17 f 3)).length) := by
        rw [htr]
        unfold mxC
        rw [hm4, nI_clamp (by omega), e15, e16, mrun_congr _ (fun j hj => h0.at_ hj)]
      refine q_if_eq 164 dX1_isSo_157 (by decide) (fun h => ?_) (fun h => ?_)
      · rw [bC_z] at h
        refine q_iconst (v := 0) dX1_isSo_164 rfl ?_
        exact z_zret dX1_isSo_165 rfl (Or.inl rfl) ⟨by rw [bC_f (fun q => h (htk.mp q))], rfl, hfs⟩
      · rw [bC_nz] at h
        refine q_iconst (v := 1) dX1_isSo_160 rfl ?_
        refine q_goto 165 dX1_isSo_161 (by decide) ?_
        exact z_zret dX1_isSo_165 rfl (Or.inr rfl) ⟨by rw [bC_t (htk.mpr h)], rfl, hfs⟩
    · have lb := TOk_len (hb (by omega) (by omega))
      rw [trP_3] at htr
      refine two (by omega) (by omega) (fun s hfs h0 h1 => ?_)
      refine q_tableIn 166 dX1_isSo_82 (by decide) (by decide) rfl (by decide) ?_
      refine q_aload_n dX1_isSo_166 rfl ?_
      refine z_get 3 dX1_isSo_167 (by first | assumption | decide) (sh_10 _ _ _) rfl (by decide) fl_X1_21 rfl ?_
      refine q_aload_n dX1_isSo_170 rfl ?_
      refine z_get 4 dX1_isSo_171 (by first | assumption | decide) (sh_10 _ _ _) rfl (by decide) fl_X1_25 rfl ?_
      refine z_callV (c_Row_isBefore s ta 0 _ 1 _ r0 r1 h0.1 h1.1 la lb) kV_X1_96 dX1_isSo_174 (by first | assumption | decide) (sh_13 _ _ _) rfl rfl rfl (by omega) (Nat.le_of_ble_eq_true rfl) (Nat.le_refl _) (Nat.le_refl _) rfl (fun v s2 ta2 h => ?_)
      obtain ⟨rfl, rfl, rfl⟩ := h
      dsimp only [Option.toList, List.cons_append, List.nil_append]
      refine z_zret dX1_isSo_177 rfl (bC_01 _) ⟨?_, rfl, hfs⟩
      rw [bC_iff (htr.trans (befR_congr (fun j hj => h0.at_ hj) (fun j hj => h1.at_ hj)))]
    · have lb := TOk_len (hb (by omega) (by omega))
      rw [trP_4] at htr
      refine two (by omega) (by omega) (fun s hfs h0 h1 => ?_)
      refine q_tableIn 178 dX1_isSo_82 (by decide) (by decide) rfl (by decide) ?_
      refine q_aload_n dX1_isSo_178 rfl ?_
      refine z_get 3 dX1_isSo_179 (by first | assumption | decide) (sh_10 _ _ _) rfl (by decide) fl_X1_21 rfl ?_
      refine q_aload_n dX1_isSo_182 rfl ?_
      refine z_get 4 dX1_isSo_183 (by first | assumption | decide) (sh_10 _ _ _) rfl (by decide) fl_X1_25 rfl ?_
      refine z_callV (c_Row_placeOf s ta 0 _ 1 _ r0 r1 h0.1 h1.1 la lb) kV_X1_99 dX1_isSo_186 (by first | assumption | decide) (sh_13 _ _ _) rfl rfl rfl (by omega) (Nat.le_of_ble_eq_true rfl) (Nat.le_refl _) (Nat.le_refl _) rfl (fun v s2 ta2 h => ?_)
      obtain ⟨rfl, rfl, x, rfl, hx⟩ := h
      dsimp only [Option.toList, List.cons_append, List.nil_append]
      have hx2 := plR_iff h0 h1 hx
      refine q_iconst (v := (-1)) dX1_isSo_189 rfl ?_
      refine q_icmp_eq 197 dX1_isSo_190 (by decide) (fun h => ?_) (fun h => ?_)
      · refine q_iconst (v := 0) dX1_isSo_197 rfl ?_
        refine z_zret dX1_isSo_198 rfl (Or.inl rfl) ⟨?_, rfl, hfs⟩
        rw [bC_f]
        rw [htr]
        rcases hx2 with ⟨-, g⟩ | ⟨p, g, g2⟩
        · exact g
        · have := fstL_le g2
          rw [g] at h
          have h2 := congrArg Int32.toInt h
          rw [nI_toInt (by omega)] at h2
          exact absurd h2 (by show ¬ (p : Int) = -1; omega)
      · refine q_iconst (v := 1) dX1_isSo_193 rfl ?_
        refine q_goto 198 dX1_isSo_194 (by decide) ?_
        refine z_zret dX1_isSo_198 rfl (Or.inr rfl) ⟨?_, rfl, hfs⟩
        rw [bC_t]
        rw [htr]
        rcases hx2 with ⟨g, -⟩ | ⟨p, g, g2⟩
        · exact absurd g h
        · exact ⟨p, g2.1⟩
    · obtain ⟨p, q, p1, p2, p3, p4, p5⟩ := hs rfl
      rw [trP_5] at htr
      refine one (Or.inr rfl) (fun s hfs h0 => ?_)
      refine q_tableIn 199 dX1_isSo_82 (by decide) (by decide) rfl (by decide) ?_
      refine q_aload_n dX1_isSo_199 rfl ?_
      refine z_get 3 dX1_isSo_200 (by first | assumption | decide) (sh_10 _ _ _) rfl (by decide) fl_X1_21 rfl ?_
      refine q_aload_n dX1_isSo_203 rfl ?_
      refine z_get 4 dX1_isSo_204 (by first | assumption | decide) (sh_17 _ _ _) rfl (by decide) fl_X1_55 rfl ?_
      refine q_aload_n dX1_isSo_207 rfl ?_
      refine z_get 5 dX1_isSo_208 (by first | assumption | decide) (sh_17 _ _ _) rfl (by decide) fl_X1_57 rfl ?_
      rw [frmJ17 hfs, p4, p5]
      refine z_callV (c_Row_hasSum s ta 0 _ _ _ r0 h0.1 la (nI_lt (a := 0) (by omega) (by omega))) kV_X1_103 dX1_isSo_211 (by first | assumption | decide) (sh_13 _ _ _) rfl rfl rfl (by omega) (Nat.le_of_ble_eq_true rfl) (Nat.le_refl _) (Nat.le_refl _) rfl (fun v s2 ta2 h => ?_)
      obtain ⟨rfl, rfl, rfl⟩ := h
      dsimp only [Option.toList, List.cons_append, List.nil_append]
      refine z_zret dX1_isSo_214 rfl (bC_01 _) ⟨?_, rfl, hfs⟩
      rw [bC_iff (q := fmod (sumR (s2 14 0) (spC sg i (sg 17 f 3)).length) (nI p) = nI q)]
      rw [htr, p4, p5, ← fmod_iff p1 p2 p3]
      unfold sumL
      rw [sumR_congr _ (fun j hj => h0.at_ hj)]
      exact Iff.rfl
    · have lb := TOk_len (hb (by omega) (by omega))
      obtain ⟨hc, hd⟩ := hcd rfl
      have lc := TOk_len hc
      have ld := TOk_len hd
      rw [trP_6] at htr
      refine two (by omega) (by omega) (fun s hfs h0 h1 => ?_)
      refine q_tableIn 215 dX1_isSo_82 (by decide) (by decide) rfl (by decide) ?_
      refine q_aload_n dX1_isSo_215 rfl ?_
      refine z_get 5 dX1_isSo_216 (by first | assumption | decide) (sh_10 _ _ _) rfl (by decide) fl_X1_28 rfl ?_
      refine q_aload_n dX1_isSo_219 rfl ?_
      refine q_aload_n dX1_isSo_220 rfl ?_
      refine z_get 5 dX1_isSo_221 (by first | assumption | decide) (sh_17 _ _ _) rfl (by decide) fl_X1_57 rfl ?_
      refine z_callV (c_Judge_termAt s ta _) kV_X1_47 dX1_isSo_224 (by first | assumption | decide) (sh_10 _ _ _) rfl rfl rfl (by omega) (Nat.le_of_ble_eq_true rfl) (Nat.le_refl _) (Nat.le_refl _) rfl (fun v s2 ta2 h => ?_)
      obtain ⟨rfl, rfl, rfl⟩ := h
      dsimp only [Option.toList, List.cons_append, List.nil_append]
      refine q_aload_n dX1_isSo_227 rfl ?_
      refine z_callV (c_write_spC s2 ta2 2 i _ r2 hi (by rw [frmJ17 hfs]; exact TOk_frm hfs hc)) kV_X1_75 dX1_isSo_228 (by first | assumption | decide) (sh_13 _ _ _) rfl rfl rfl (by omega) (Nat.le_of_ble_eq_true rfl) (Nat.le_refl _) (Nat.le_refl _) rfl (fun v s3 ta3 h => ?_)
      obtain ⟨rfl, rfl, h2, hO2⟩ := h
      dsimp only [Option.toList, List.cons_append, List.nil_append]
      have hf3 := frm_trans hfs (rowOnly_frm (by omega) hO2)
      rw [spC_frm hfs, frmJ17 hfs] at h2
      have h03 := RowHas_keep h0 hO2 (by omega)
      have h13 := RowHas_keep h1 hO2 (by omega)
      refine q_aload_n dX1_isSo_231 rfl ?_
      refine z_get 6 dX1_isSo_232 (by first | assumption | decide) (sh_10 _ _ _) rfl (by decide) fl_X1_31 rfl ?_
      refine q_aload_n dX1_isSo_235 rfl ?_
      refine q_aload_n dX1_isSo_236 rfl ?_
      refine z_get 6 dX1_isSo_237 (by first | assumption | decide) (sh_17 _ _ _) rfl (by decide) fl_X1_107 rfl ?_
      refine z_callV (c_Judge_termAt s3 ta3 _) kV_X1_47 dX1_isSo_240 (by first | assumption | decide) (sh_10 _ _ _) rfl rfl rfl (by omega) (Nat.le_of_ble_eq_true rfl) (Nat.le_refl _) (Nat.le_refl _) rfl (fun v s4 ta4 h => ?_)
      obtain ⟨rfl, rfl, rfl⟩ := h
      dsimp only [Option.toList, List.cons_append, List.nil_append]
      refine q_aload_n dX1_isSo_243 rfl ?_
      refine z_callV (c_write_spC s4 ta4 3 i _ r3 hi (by rw [frmJ17 hf3]; exact TOk_frm hf3 hd)) kV_X1_75 dX1_isSo_244 (by first | assumption | decide) (sh_13 _ _ _) rfl rfl rfl (by omega) (Nat.le_of_ble_eq_true rfl) (Nat.le_refl _) (Nat.le_refl _) rfl (fun v s5 ta5 h => ?_)
      obtain ⟨rfl, rfl, h3, hO3⟩ := h
      dsimp only [Option.toList, List.cons_append, List.nil_append]
      have hf5 := frm_trans hf3 (rowOnly_frm (by omega) hO3)
      rw [spC_frm hf3, frmJ17 hf3] at h3
      have h05 := RowHas_keep h03 hO3 (by omega)
      have h15 := RowHas_keep h13 hO3 (by omega)
      have h25 := RowHas_keep h2 hO3 (by omega)
      refine q_aload_n dX1_isSo_247 rfl ?_
      refine z_get 4 dX1_isSo_248 (by first | assumption | decide) (sh_10 _ _ _) rfl (by decide) fl_X1_25 rfl ?_
      refine q_aload_n dX1_isSo_251 rfl ?_
      refine z_get 5 dX1_isSo_252 (by first | assumption | decide) (sh_10 _ _ _) rfl (by decide) fl_X1_28 rfl ?_
      refine z_callV (c_Row_placeOf s5 ta5 1 _ 2 _ r1 r2 h15.1 h25.1 lb lc) kV_X1_99 dX1_isSo_255 (by first | assumption | decide) (sh_13 _ _ _) rfl rfl rfl (by omega) (Nat.le_of_ble_eq_true rfl) (Nat.le_refl _) (Nat.le_refl _) rfl (fun v s6 ta6 h => ?_)
      obtain ⟨rfl, rfl, x, rfl, hx⟩ := h
      dsimp only [Option.toList, List.cons_append, List.nil_append]
      have hx2 := plR_iff h15 h25 hx
      refine q_istore dX1_isSo_258 (Nat.le_of_ble_eq_true rfl) rfl ?_
      dsimp only [List.set]
      refine q_iload dX1_isSo_260 rfl ?_
      refine q_iconst (v := (-1)) dX1_isSo_262 rfl ?_
      refine q_icmp_ne 280 dX1_isSo_263 (by decide) (fun h => ?_) (fun h => ?_)
      · obtain ⟨p, g, g2⟩ : ∃ p, x = nI p ∧ fstL (spC sg i (sg 17 f 4)) (spC sg i (sg 17 f 5)) p := by
          rcases hx2 with ⟨g, -⟩ | g
          · exact absurd g h
          · exact g
        subst g
        have hpl := fstL_le g2
        refine q_aload_n dX1_isSo_280 rfl ?_
        refine z_get 3 dX1_isSo_281 (by first | assumption | decide) (sh_10 _ _ _) rfl (by decide) fl_X1_21 rfl ?_
        refine q_aload_n dX1_isSo_284 rfl ?_
        refine z_get 4 dX1_isSo_285 (by first | assumption | decide) (sh_10 _ _ _) rfl (by decide) fl_X1_25 rfl ?_
        refine q_iload dX1_isSo_288 rfl ?_
        refine q_aload_n dX1_isSo_290 rfl ?_
        refine z_get 5 dX1_isSo_291 (by first | assumption | decide) (sh_10 _ _ _) rfl (by decide) fl_X1_28 rfl ?_
        refine z_get 1 dX1_isSo_294 (by first | assumption | decide) (sh_13 _ _ _) rfl (by decide) fl_X1_109 rfl ?_
        refine q_aload_n dX1_isSo_297 rfl ?_
        refine z_get 6 dX1_isSo_298 (by first | assumption | decide) (sh_10 _ _ _) rfl (by decide) fl_X1_31 rfl ?_
        rw [h25.1]
        refine z_callV (c_Row_isReplaced s6 ta6 0 _ 1 _ p _ 3 _ r0 r1 r3 h05.1 h15.1 h3.1 la lb ld hpl) kV_X1_112 dX1_isSo_301 (by first | assumption | decide) (sh_13 _ _ _) rfl rfl rfl (by omega) (Nat.le_of_ble_eq_true rfl) (Nat.le_refl _) (Nat.le_refl _) rfl (fun v s7 ta7 h => ?_)
        obtain ⟨rfl, rfl, rfl⟩ := h
        dsimp only [Option.toList, List.cons_append, List.nil_append]
        refine z_zret dX1_isSo_304 rfl (bC_01 _) ⟨?_, rfl, hf5⟩
        have hiff : trC sg f i ↔ ((spC sg i (sg 17 f 3)).length = p + (spC sg i (sg 17 f 6)).length + ((spC sg i (sg 17 f 4)).length - p - (spC sg i (sg 17 f 5)).length) ∧ (∀ j, j < p → s7 14 0 j = s7 14 1 j) ∧ (∀ j, j < (spC sg i (sg 17 f 6)).length → s7 14 0 (p + j) = s7 14 3 j) ∧ ∀ j, j < (spC sg i (sg 17 f 4)).length - p - (spC sg i (sg 17 f 5)).length → s7 14 0 (p + (spC sg i (sg 17 f 6)).length + j) = s7 14 1 (p + (spC sg i (sg 17 f 5)).length + j)) := by
          rw [htr]
          constructor
          · intro h'
            rcases h' with ⟨n1, -⟩ | ⟨p', g3, g4⟩
            · exact absurd ⟨p, g2.1⟩ n1
            · have := fstL_uni g2 g3
              subst this
              obtain ⟨q1, q2, q3, q4⟩ := (rep_iff hpl).mpr g4
              exact ⟨q1, fun j hj => by rw [← h05.at_ (by omega), ← h15.at_ (by omega)]; exact q2 j hj, fun j hj => by rw [← h05.at_ (by omega), ← h3.at_ hj]; exact q3 j hj, fun j hj => by rw [← h05.at_ (by omega), ← h15.at_ (by omega)]; exact q4 j hj⟩
          · rintro ⟨q1, q2, q3, q4⟩
            exact Or.inr ⟨p, g2, (rep_iff hpl).mp ⟨q1, fun j hj => by rw [h05.at_ (by omega), h15.at_ (by omega)]; exact q2 j hj, fun j hj => by rw [h05.at_ (by omega), h3.at_ hj]; exact q3 j hj, fun j hj => by rw [h05.at_ (by omega), h15.at_ (by omega)]; exact q4 j hj⟩⟩
        rw [bC_iff hiff]
      · have g : ¬ hasL (spC sg i (sg 17 f 4)) (spC sg i (sg 17 f 5)) := by
          rcases hx2 with ⟨-, g⟩ | ⟨p, g, g2⟩
          · exact g
          · have := fstL_le g2
            rw [g] at h
            have h2 := congrArg Int32.toInt h
            rw [nI_toInt (by omega)] at h2
            exact absurd h2 (by show ¬ (p : Int) = -1; omega)
        refine q_aload_n dX1_isSo_266 rfl ?_
        refine z_get 3 dX1_isSo_267 (by first | assumption | decide) (sh_10 _ _ _) rfl (by decide) fl_X1_21 rfl ?_
        refine q_aload_n dX1_isSo_270 rfl ?_
        refine z_get 4 dX1_isSo_271 (by first | assumption | decide) (sh_10 _ _ _) rfl (by decide) fl_X1_25 rfl ?_
        refine z_callV (c_Row_isSame s6 ta6 0 _ 1 _ r0 r1 h05.1 h15.1 la lb) kV_X1_83 dX1_isSo_274 (by first | assumption | decide) (sh_13 _ _ _) rfl rfl rfl (by omega) (Nat.le_of_ble_eq_true rfl) (Nat.le_refl _) (Nat.le_refl _) rfl (fun v s7 ta7 h => ?_)
        obtain ⟨rfl, rfl, rfl⟩ := h
        dsimp only [Option.toList, List.cons_append, List.nil_append]
        refine q_goto 304 dX1_isSo_277 (by decide) ?_
        refine z_zret dX1_isSo_304 rfl (bC_01 _) ⟨?_, rfl, hf5⟩
        have hiff : trC sg f i ↔ spC sg i (sg 17 f 3) = spC sg i (sg 17 f 4) := by
          rw [htr]
          constructor
          · intro h'
            rcases h' with ⟨-, e⟩ | ⟨p', g3, -⟩
            · exact e
            · exact absurd ⟨p', g3.1⟩ g
          · intro e
            exact Or.inl ⟨g, e⟩
        rw [bC_iff (same_iff h05 h15), bC_iff hiff]
  refine zP_of (lv := [some (.ref (nm 10 0)), some (.ref (nm 17 f)), some (.ref (nm 3 i)), none, none]) (by decide +kernel) rfl (fun h => by cases h) rfl (Nat.le_of_ble_eq_true rfl) ?_
  refine q_aload_n dX1_isSo_0 rfl ?_
  refine z_get 2 dX1_isSo_1 (by first | assumption | decide) (sh_17 _ _ _) rfl (by decide) fl_X1_59 rfl ?_
  refine q_iconst (v := 1) dX1_isSo_4 rfl ?_
  rw [hk]
  refine q_icmp_ne 18 dX1_isSo_5 (by decide) (fun h => ?_) (fun h => ?_)
  · have k1 : kd ≠ 1 := fun q => h (by rw [q]; rfl)
    refine q_aload_n dX1_isSo_18 rfl ?_
    refine z_get 2 dX1_isSo_19 (by first | assumption | decide) (sh_17 _ _ _) rfl (by decide) fl_X1_59 rfl ?_
    rw [hk]
    refine q_if_ne 39 dX1_isSo_22 (by decide) (fun h2 => ?_) (fun h2 => ?_)
    · exact body k1 (fun q => absurd (by rw [q]; rfl) h2)
    · have k0 : kd = 0 := (nI_eq (b := 0) (by omega) (by omega)).mp h2
      subst k0
      refine q_aload_n dX1_isSo_25 rfl ?_
      refine q_aload_n dX1_isSo_26 rfl ?_
      refine q_aload_n dX1_isSo_27 rfl ?_
      refine z_get 1 dX1_isSo_28 (by first | assumption | decide) (sh_3 _ _ _) rfl (by decide) fl_X1_62 rfl ?_
      refine z_callV (c_Judge_isOneLength sg ta f i hf hi ha (hb (by omega) (by omega))) kV_X1_72 dX1_isSo_31 (by first | assumption | decide) (sh_10 _ _ _) rfl rfl rfl (by omega) (Nat.le_of_ble_eq_true rfl) (Nat.le_refl _) (Nat.le_refl _) rfl (fun v s2 ta2 h => ?_)
      obtain ⟨rfl, rfl, rfl⟩ := h
      dsimp only [Option.toList, List.cons_append, List.nil_append]
      refine q_if_ne 39 dX1_isSo_34 (by decide) (fun h3 => ?_) (fun h3 => ?_)
      · exact body k1 (fun _ => bC_nz.mp h3)
      · rw [bC_z] at h3
        refine q_iconst (v := 0) dX1_isSo_37 rfl ?_
        refine z_zret dX1_isSo_38 rfl (Or.inl rfl) ⟨?_, rfl, frm_refl _ _⟩
        rw [bC_f]
        unfold trC
        rw [hk, trP_0]
        exact fun q => h3 (by rw [q])
  · have k1 : kd = 1 := (nI_eq (b := 1) (by omega) (by omega)).mp h
    subst k1
    refine q_aload_n dX1_isSo_8 rfl ?_
    refine q_aload_n dX1_isSo_9 rfl ?_
    refine q_aload_n dX1_isSo_10 rfl ?_
    refine z_get 1 dX1_isSo_11 (by first | assumption | decide) (sh_3 _ _ _) rfl (by decide) fl_X1_62 rfl ?_
    refine z_callV (c_Judge_isLonger sg ta f i hf hi ha (hb (by omega) (by omega))) kV_X1_68 dX1_isSo_14 (by first | assumption | decide) (sh_10 _ _ _) rfl rfl rfl (by omega) (Nat.le_of_ble_eq_true rfl) (Nat.le_refl _) (Nat.le_refl _) rfl (fun v s2 ta2 h => ?_)
    obtain ⟨rfl, rfl, rfl⟩ := h
    dsimp only [Option.toList, List.cons_append, List.nil_append]
    refine z_zret dX1_isSo_17 rfl (bC_01 _) ⟨?_, rfl, frm_refl _ _⟩
    have hiff : trC s2 f i ↔ (s2 17 f 5).toInt ≤ ((spC s2 i (s2 17 f 3)).length : Int) - (spC s2 i (s2 17 f 4)).length := by
      unfold trC
      rw [hk, trP_1]
    rw [bC_iff hiff]
