theorem mxM_at {a b : zI} (h25 : b 25 = a 25) (h26 : b 26 = a 26) (x : Int32) (l : List Int32) : mxM b x l ↔ mxM a x l := by
  have : ∀ i f n, mrM b i f n = mrM a i f n := fun i f n => by
    induction n with
    | zero => rfl
    | succ n ih => simp only [mrM]; rw [ih, h25]
  unfold mxM
  rw [this, h26]
theorem spM_at {a b : zI} (h22 : b 22 = a 22) (h23 : b 23 = a 23) (A nT : Nat) (mo : Nat → Nat) (w : Nat) (x : Int32) : spM b A nT mo w x = spM a A nT mo w x := by
  unfold spM
  rw [h22, h23]
theorem trM_at {a b : zI} (h : ∀ K, 22 ≤ K → K ≤ 31 → b K = a K) (A nT : Nat) (mo : Nat → Nat) (w f : Nat) : trM b A nT mo w f ↔ trM a A nT mo w f := by
  have e1 : spM b A nT mo w = spM a A nT mo w := funext (fun x => spM_at (h 22 (by omega) (by omega)) (h 23 (by omega) (by omega)) A nT mo w x)
  have e2 : mxM b = mxM a := by
    funext x l
    exact propext (mxM_at (h 25 (by omega) (by omega)) (h 26 (by omega) (by omega)) x l)
  unfold trM
  rw [e1, e2, h 27 (by omega) (by omega), h 28 (by omega) (by omega), h 29 (by omega) (by omega), h 30 (by omega) (by omega), h 31 (by omega) (by omega)]
theorem RwM_at {a b : zI} (h37 : b 37 = a 37) (h38 : b 38 = a 38) {A nT : Nat} {mo : Nat → Nat} {w : Nat} (h : RwM a A nT mo w) : RwM b A nT mo w := by
  unfold RwM at *
  rw [h37, h38]
  exact h
theorem MoOk_fr {a b : zI} (h : ∀ K, 21 ≤ K → K ≤ 33 → b K = a K) (h20 : ∀ j, j ≠ 29 → b 20 0 j = a 20 0 j) {A nT : Nat} {mo : Nat → Nat} {nt nc nf : Nat} (hM : MoOk a A nT mo nt nc nf) : MoOk b A nT mo nt nc nf := by
  obtain ⟨m1, m2, m3, m4⟩ := hM
  exact ⟨SpM_at (h20 0 (by omega)) (h20 1 (by omega)) (h20 3 (by omega)) (by rw [h 21 (by omega) (by omega)]) m1, TeM_at (h20 4 (by omega)) (by rw [h 22 (by omega) (by omega)]) (by rw [h 23 (by omega) (by omega)]) m2, MaM_at (h20 7 (by omega)) (by rw [h 24 (by omega) (by omega)]) (by rw [h 25 (by omega) (by omega)]) (by rw [h 26 (by omega) (by omega)]) m3, FoM_at (h20 11 (by omega)) (fun K x y => by rw [h K (by omega) (by omega)]) m4⟩
theorem MoOk_I {a b : zI} (h : frI a b) {A nT : Nat} {mo : Nat → Nat} {nt nc nf : Nat} (hM : MoOk a A nT mo nt nc nf) : MoOk b A nT mo nt nc nf := MoOk_fr (a := a) (b := b) (fun K x y => frI_row h (by omega) (by omega) (by omega) (by omega)) (fun j hj => h 20 0 j (by omega) (by omega) (by omega) (by omega)) hM
theorem trM_I {a b : zI} (h : frI a b) (A nT : Nat) (mo : Nat → Nat) (w f : Nat) : trM b A nT mo w f ↔ trM a A nT mo w f := trM_at (fun K x y => frI_row h (by omega) (by omega) (by omega) (by omega)) A nT mo w f
theorem spM_30 {mu : zI} {A nT nt w : Nat} {mo : Nat → Nat} {x : Int32} (hS : SpM mu A nT mo) (hT : TeM mu A nT nt) (h : tk nt x) : (spM mu A nT mo w x).length ≤ 30 := by
  obtain ⟨t, ht, rfl⟩ := h
  obtain ⟨n, h1, h2, h3⟩ := hT.2.2 t ht
  rw [spM_tk hT.1 ht h2 h1]
  have := spl_len (p := fun j => mu 23 0 (6 * t + j)) (L := Lw A mo nT w) (S := Sw A mo nT w) (row := Rw A mo nT w) n (fun j hj => PV_PartOk hS.1 hS.2.1 hS.2.2.1 (h3 j hj))
  omega
theorem longer_iff {n m : Nat} {c : Int32} (hn : n ≤ 30) (hm : m ≤ 30) (h1 : -40 ≤ c.toInt) (h2 : c.toInt ≤ 40) : nI n < nI m + c ↔ ¬ c.toInt ≤ (n : Int) - m := by
  have e1 : (nI m + c).toInt = m + c.toInt := by
    rw [Int32.toInt_add, nI_toInt (by omega)]
    apply Int.bmod_eq_of_le <;> omega
  rw [Int32.lt_iff_toInt_lt, e1, nI_toInt (by omega)]
  omega
set_option maxRecDepth 100000 in
set_option maxHeartbeats 8000000 in
theorem j_is (sg : zI) (ta : zJ) (A nT : Nat) (mo : Nat → Nat) (nt nc nf w f : Nat) (hM : MoOk sg A nT mo nt nc nf) (hW : RwM sg A nT mo w) (hf : f < nf) : zP yX8_is mX8_is 2 [.ref (nm 20 0), .int (nI f)] sg ta (fun v s t => v = some (.int (bC (trM sg A nT mo w f))) ∧ t = ta ∧ frI sg s) := by
  obtain ⟨kd, h1, h2, h3, h4, h5, h6, h7, h8, h9, h10⟩ := hM.2.2.2.2.2 f hf
  have hnf := hM.2.2.2.1
  have f10 : f < 10 := by omega
  have hS := hM.1
  have hT := hM.2.1
  have hA := hS.1
  obtain ⟨ia, hia, ea⟩ := id h3
  refine zP_of (lv := [some (.ref (nm 20 0)), some (.int (nI f))]) (by decide +kernel) rfl (fun h => by cases h) rfl (Nat.le_of_ble_eq_true rfl) ?_
  refine q_aload_n dX8_is_0 rfl ?_
  refine q_iconst (v := 0) dX8_is_1 rfl ?_
  refine q_aload_n dX8_is_2 rfl ?_
  refine z_get 13 dX8_is_3 (by first | assumption | decide) (sh_20 _ _ _) rfl (by decide) fl_X8_39 rfl ?_
  refine q_iload_n dX8_is_6 rfl ?_
  refine z_iald dX8_is_7 (by first | assumption | decide) rfl (vp_in_nI (n := f) f10 (by omega)) ?_
  rw [nI_clamp (by omega), ea]
  refine z_callV (j_spell sg ta A nT nt w 0 ia mo hS hT hW (by omega) hia) kV_X8_128 dX8_is_8 (by first | assumption | decide) (sh_20 _ _ _) rfl rfl rfl (by omega) (Nat.le_of_ble_eq_true rfl) (Nat.le_refl _) (Nat.le_refl _) rfl (fun v s1 t1 h => ?_)
  obtain ⟨rfl, rfl, fr1, r0, -⟩ := h
  dsimp only [Option.toList, List.cons_append, List.nil_append]
  have g1 := frI_frm fr1
  have k1 : ∀ K j, K ≠ 39 → K ≠ 40 → s1 K 0 j = sg K 0 j := fun K j a b => by rw [fr1 K 0 (by simp; omega)]
  have M1 := MoOk_I g1 hM
  have W1 : RwM s1 A nT mo w := RwM_at (frI_row g1 (by omega) (by omega) (by omega) (by omega)) (frI_row g1 (by omega) (by omega) (by omega) (by omega)) hW
  have sp1 : ∀ x, spM s1 A nT mo w x = spM sg A nT mo w x := fun x => spM_at (frI_row g1 (by omega) (by omega) (by omega) (by omega)) (frI_row g1 (by omega) (by omega) (by omega) (by omega)) A nT mo w x
  -- the second term is spelled
  have second : ∀ (Q : zI → Prop), tk nt (sg 29 0 f) → (∀ s2, frI sg s2 → MRow s2 0 (spM sg A nT mo w (sg 28 0 f)) → MRow s2 1 (spM sg A nT mo w (sg 29 0 f)) → Zq mX8_is 2 (fun v s t => v = some (.int (bC (trM sg A nT mo w f))) ∧ t = t1 ∧ frI sg s) s2 t1 65 [some (.ref (nm 20 0)), some (.int (nI f))] []) → Zq mX8_is 2 (fun v s t => v = some (.int (bC (trM sg A nT mo w f))) ∧ t = t1 ∧ frI sg s) s1 t1 54 [some (.ref (nm 20 0)), some (.int (nI f))] [] := by
    intro Q hb go
    obtain ⟨ib, hib, eb⟩ := hb
    refine q_aload_n dX8_is_54 rfl ?_
    refine q_iconst (v := 1) dX8_is_55 rfl ?_
    refine q_aload_n dX8_is_56 rfl ?_
    refine z_get 14 dX8_is_57 (by first | assumption | decide) (sh_20 _ _ _) rfl (by decide) fl_X8_42 rfl ?_
    refine q_iload_n dX8_is_60 rfl ?_
    refine z_iald dX8_is_61 (by first | assumption | decide) rfl (vp_in_nI (n := f) f10 (by omega)) ?_
    rw [nI_clamp (by omega), k1 29 f (by omega) (by omega), eb]
    refine z_callV (j_spell s1 t1 A nT nt w 1 ib mo M1.1 M1.2.1 W1 (by omega) hib) kV_X8_128 dX8_is_62 (by first | assumption | decide) (sh_20 _ _ _) rfl rfl rfl (by omega) (Nat.le_of_ble_eq_true rfl) (Nat.le_refl _) (Nat.le_refl _) rfl (fun v s2 t2 h => ?_)
    obtain ⟨rfl, rfl, fr2, r1, keep⟩ := h
    dsimp only [Option.toList, List.cons_append, List.nil_append]
    rw [sp1] at r1
    refine go s2 (frI_trans g1 (frI_frm fr2)) ?_ (by rw [eb]; exact r1)
    rw [ea]
    exact keep 0 (by omega) _ r0
  have N : ∀ k : Nat, k ≤ 6 → kd ≠ k → ¬ nI kd = nI k := fun k hk h => nI_ne (by omega) (by omega) h
  have sw : ∀ s2, frI sg s2 → s2 27 0 f = nI kd := fun s2 h => by rw [frI_row h (by omega) (by omega) (by omega) (by omega)]; exact h2
  refine q_aload_n dX8_is_11 rfl ?_
  refine z_get 12 dX8_is_12 (by first | assumption | decide) (sh_20 _ _ _) rfl (by decide) fl_X8_36 rfl ?_
  refine q_iload_n dX8_is_15 rfl ?_
  refine z_iald dX8_is_16 (by first | assumption | decide) rfl (vp_in_nI (n := f) f10 (by omega)) ?_
  refine q_iconst (v := 1) dX8_is_17 rfl ?_
  rw [nI_clamp (by omega), sw s1 g1]
  refine q_icmp_ne 34 dX8_is_18 (by decide) (fun q1 => ?_) (fun q1 => ?_)
  · refine q_aload_n dX8_is_34 rfl ?_
    refine z_get 12 dX8_is_35 (by first | assumption | decide) (sh_20 _ _ _) rfl (by decide) fl_X8_36 rfl ?_
    refine q_iload_n dX8_is_38 rfl ?_
    refine z_iald dX8_is_39 (by first | assumption | decide) rfl (vp_in_nI (n := f) f10 (by omega)) ?_
    refine q_iconst (v := 2) dX8_is_40 rfl ?_
    rw [nI_clamp (by omega), sw s1 g1]
    refine q_icmp_eq 65 dX8_is_41 (by decide) (fun q2 => ?_) (fun q2 => ?_)
    · -- a machine
      have e2 : kd = 2 := (nI_eq (b := 2) (by omega) (by omega)).mp q2
      subst e2
      obtain ⟨im, him, em⟩ := h6 rfl
      refine q_aload_n dX8_is_65 rfl ?_
      refine z_get 12 dX8_is_66 (by first | assumption | decide) (sh_20 _ _ _) rfl (by decide) fl_X8_36 rfl ?_
      refine q_iload_n dX8_is_69 rfl ?_
      refine z_iald dX8_is_70 (by first | assumption | decide) rfl (vp_in_nI (n := f) f10 (by omega)) ?_
      rw [nI_clamp (by omega), sw s1 g1]
      refine q_tableIn 155 dX8_is_71 (by decide) (by decide) rfl (by decide) ?_
      refine q_aload_n dX8_is_155 rfl ?_
      refine q_aload_n dX8_is_156 rfl ?_
      refine z_get 14 dX8_is_157 (by first | assumption | decide) (sh_20 _ _ _) rfl (by decide) fl_X8_42 rfl ?_
      refine q_iload_n dX8_is_160 rfl ?_
      refine z_iald dX8_is_161 (by first | assumption | decide) rfl (vp_in_nI (n := f) f10 (by omega)) ?_
      refine q_iconst (v := 0) dX8_is_162 rfl ?_
      rw [nI_clamp (by omega), k1 29 f (by omega) (by omega), em]
      refine z_callV (j_isTaken s1 t1 A nc im _ hA M1.2.2.1 him r0 (spM_let hS hT (Or.inr ⟨ia, hia, rfl⟩))) kV_X8_136 dX8_is_163 (by first | assumption | decide) (sh_20 _ _ _) rfl rfl rfl (by omega) (Nat.le_of_ble_eq_true rfl) (Nat.le_refl _) (Nat.le_refl _) rfl (fun v s2 t2 h => ?_)
      obtain ⟨rfl, rfl, rfl⟩ := h
      dsimp only [Option.toList, List.cons_append, List.nil_append]
      refine z_zret dX8_is_166 rfl (bC_01 _) ⟨?_, rfl, g1⟩
      rw [bC_iff (mxM_at (frI_row g1 (by omega) (by omega) (by omega) (by omega)) (frI_row g1 (by omega) (by omega) (by omega) (by omega)) _ _)]
      unfold trM
      rw [h2, bC_iff trP_2, em, ea]
    · refine q_aload_n dX8_is_44 rfl ?_
      refine z_get 12 dX8_is_45 (by first | assumption | decide) (sh_20 _ _ _) rfl (by decide) fl_X8_36 rfl ?_
      refine q_iload_n dX8_is_48 rfl ?_
      refine z_iald dX8_is_49 (by first | assumption | decide) rfl (vp_in_nI (n := f) f10 (by omega)) ?_
      refine q_iconst (v := 5) dX8_is_50 rfl ?_
      rw [nI_clamp (by omega), sw s1 g1]
      refine q_icmp_eq 65 dX8_is_51 (by decide) (fun q5 => ?_) (fun q5 => ?_)
      · -- a sum
        have e5 : kd = 5 := (nI_eq (b := 5) (by omega) (by omega)).mp q5
        subst e5
        obtain ⟨p, q, p1, p2, p3, p4, p5⟩ := h7 rfl
        refine q_aload_n dX8_is_65 rfl ?_
        refine z_get 12 dX8_is_66 (by first | assumption | decide) (sh_20 _ _ _) rfl (by decide) fl_X8_36 rfl ?_
        refine q_iload_n dX8_is_69 rfl ?_
        refine z_iald dX8_is_70 (by first | assumption | decide) rfl (vp_in_nI (n := f) f10 (by omega)) ?_
        rw [nI_clamp (by omega), sw s1 g1]
        refine q_tableIn 188 dX8_is_71 (by decide) (by decide) rfl (by decide) ?_
        refine q_aload_n dX8_is_188 rfl ?_
        refine q_aload_n dX8_is_189 rfl ?_
        refine z_get 14 dX8_is_190 (by first | assumption | decide) (sh_20 _ _ _) rfl (by decide) fl_X8_42 rfl ?_
        refine q_iload_n dX8_is_193 rfl ?_
        refine z_iald dX8_is_194 (by first | assumption | decide) rfl (vp_in_nI (n := f) f10 (by omega)) ?_
        refine q_aload_n dX8_is_195 rfl ?_
        refine z_get 15 dX8_is_196 (by first | assumption | decide) (sh_20 _ _ _) rfl (by decide) fl_X8_45 rfl ?_
        refine q_iload_n dX8_is_199 rfl ?_
        refine z_iald dX8_is_200 (by first | assumption | decide) rfl (vp_in_nI (n := f) f10 (by omega)) ?_
        rw [nI_clamp (by omega), k1 29 f (by omega) (by omega), k1 30 f (by omega) (by omega), p4, p5]
        refine z_callV (j_isSum s1 t1 _ p (nI q) r0 p1 p2) kV_X8_143 dX8_is_201 (by first | assumption | decide) (sh_20 _ _ _) rfl rfl rfl (by omega) (Nat.le_of_ble_eq_true rfl) (Nat.le_refl _) (Nat.le_refl _) rfl (fun v s2 t2 h => ?_)
        obtain ⟨rfl, rfl, rfl⟩ := h
        dsimp only [Option.toList, List.cons_append, List.nil_append]
        refine z_zret dX8_is_204 rfl (bC_01 _) ⟨?_, rfl, g1⟩
        unfold trM
        rw [h2, bC_iff trP_5, p4, p5, ea]
      · have n2 : kd ≠ 2 := fun e => q2 (by rw [e]; rfl)
        have n5 : kd ≠ 5 := fun e => q5 (by rw [e]; rfl)
        have n1 : kd ≠ 1 := fun e => q1 (by rw [e]; rfl)
        refine second (fun _ => True) (h4 n1 n2 n5) (fun s2 g2 ra rb => ?_)
        have k2 : ∀ K j, K ≠ 39 → K ≠ 40 → K ≠ 41 → K ≠ 20 → s2 K 0 j = sg K 0 j := fun K j a b c d => by rw [frI_row g2 a b c d]
        refine q_aload_n dX8_is_65 rfl ?_
        refine z_get 12 dX8_is_66 (by first | assumption | decide) (sh_20 _ _ _) rfl (by decide) fl_X8_36 rfl ?_
        refine q_iload_n dX8_is_69 rfl ?_
        refine z_iald dX8_is_70 (by first | assumption | decide) rfl (vp_in_nI (n := f) f10 (by omega)) ?_
        rw [nI_clamp (by omega), sw s2 g2]
        rcases (show kd = 0 ∨ kd = 3 ∨ kd = 4 ∨ kd = 6 by omega) with rfl | rfl | rfl | rfl
        · refine q_tableIn 108 dX8_is_71 (by decide) (by decide) rfl (by decide) ?_
          refine q_aload_n dX8_is_108 rfl ?_
          refine z_callV (j_isSame s2 t1 _ _ ra rb) kV_X8_132 dX8_is_109 (by first | assumption | decide) (sh_20 _ _ _) rfl rfl rfl (by omega) (Nat.le_of_ble_eq_true rfl) (Nat.le_refl _) (Nat.le_refl _) rfl (fun v s3 t3 h => ?_)
          obtain ⟨rfl, rfl, rfl⟩ := h
          dsimp only [Option.toList, List.cons_append, List.nil_append]
          refine z_zret dX8_is_112 rfl (bC_01 _) ⟨?_, rfl, g2⟩
          unfold trM
          rw [h2, bC_iff trP_0]
        · refine q_tableIn 167 dX8_is_71 (by decide) (by decide) rfl (by decide) ?_
          refine q_aload_n dX8_is_167 rfl ?_
          refine z_callV (j_isBefore s2 t1 _ _ ra rb) kV_X8_140 dX8_is_168 (by first | assumption | decide) (sh_20 _ _ _) rfl rfl rfl (by omega) (Nat.le_of_ble_eq_true rfl) (Nat.le_refl _) (Nat.le_refl _) rfl (fun v s3 t3 h => ?_)
          obtain ⟨rfl, rfl, rfl⟩ := h
          dsimp only [Option.toList, List.cons_append, List.nil_append]
          refine z_zret dX8_is_171 rfl (bC_01 _) ⟨?_, rfl, g2⟩
          unfold trM
          rw [h2, bC_iff trP_3]
        · refine q_tableIn 172 dX8_is_71 (by decide) (by decide) rfl (by decide) ?_
          refine q_aload_n dX8_is_172 rfl ?_
          refine q_iconst (v := 0) dX8_is_173 rfl ?_
          refine q_iconst (v := 1) dX8_is_174 rfl ?_
          refine z_callV (j_found s2 t1 0 1 _ _ (by omega) (by omega) ra rb) kV_X8_120 dX8_is_175 (by first | assumption | decide) (sh_20 _ _ _) rfl rfl rfl (by omega) (Nat.le_of_ble_eq_true rfl) (Nat.le_refl _) (Nat.le_refl _) rfl (fun v s3 t3 h => ?_)
          obtain ⟨rfl, rfl, r, rfl, hr⟩ := h
          dsimp only [Option.toList, List.cons_append, List.nil_append]
          refine q_iconst (v := (-1)) dX8_is_178 rfl ?_
          have hb30 := ra.2.1
          refine q_icmp_eq 186 dX8_is_179 (by decide) (fun q => ?_) (fun q => ?_)
          · refine q_iconst (v := 0) dX8_is_186 rfl ?_
            refine z_zret dX8_is_187 rfl (Or.inl rfl) ⟨?_, rfl, g2⟩
            unfold trM
            rw [h2, bC_iff trP_4, bC_f]
            rcases hr with ⟨-, hn⟩ | ⟨p, rfl, hp⟩
            · exact hn
            · have := fstL_le hp
              exact absurd q (nI_m1 (by omega))
          · refine q_iconst (v := 1) dX8_is_182 rfl ?_
            refine q_goto 187 dX8_is_183 (by decide) ?_
            refine z_zret dX8_is_187 rfl (Or.inr rfl) ⟨?_, rfl, g2⟩
            unfold trM
            rw [h2, bC_iff trP_4, bC_t]
            rcases hr with ⟨hn, -⟩ | ⟨p, rfl, hp⟩
            · exact absurd hn q
            · exact ⟨p, hp.1⟩
        · obtain ⟨⟨ic, hic, ec⟩, id', hid, ed⟩ := h8 rfl
          have M2 := MoOk_I g2 hM
          have W2 : RwM s2 A nT mo w := RwM_at (frI_row g2 (by omega) (by omega) (by omega) (by omega)) (frI_row g2 (by omega) (by omega) (by omega) (by omega)) hW
          have sp2 : ∀ x, spM s2 A nT mo w x = spM sg A nT mo w x := fun x => spM_at (frI_row g2 (by omega) (by omega) (by omega) (by omega)) (frI_row g2 (by omega) (by omega) (by omega) (by omega)) A nT mo w x
          refine q_tableOut 205 dX8_is_71 (by decide) (by decide) ?_
          refine q_aload_n dX8_is_205 rfl ?_
          refine q_iconst (v := 2) dX8_is_206 rfl ?_
          refine q_aload_n dX8_is_207 rfl ?_
          refine z_get 15 dX8_is_208 (by first | assumption | decide) (sh_20 _ _ _) rfl (by decide) fl_X8_45 rfl ?_
          refine q_iload_n dX8_is_211 rfl ?_
          refine z_iald dX8_is_212 (by first | assumption | decide) rfl (vp_in_nI (n := f) f10 (by omega)) ?_
          rw [nI_clamp (by omega), k2 30 f (by omega) (by omega) (by omega) (by omega), ec]
          refine z_callV (j_spell s2 t1 A nT nt w 2 ic mo M2.1 M2.2.1 W2 (by omega) hic) kV_X8_128 dX8_is_213 (by first | assumption | decide) (sh_20 _ _ _) rfl rfl rfl (by omega) (Nat.le_of_ble_eq_true rfl) (Nat.le_refl _) (Nat.le_refl _) rfl (fun v s3 t3 h => ?_)
          obtain ⟨rfl, rfl, fr3, rc, keep3⟩ := h
          dsimp only [Option.toList, List.cons_append, List.nil_append]
          rw [sp2] at rc
          have g3 := frI_trans g2 (frI_frm fr3)
          have M3 := MoOk_I g3 hM
          have W3 : RwM s3 A nT mo w := RwM_at (frI_row g3 (by omega) (by omega) (by omega) (by omega)) (frI_row g3 (by omega) (by omega) (by omega) (by omega)) hW
          have sp3 : ∀ x, spM s3 A nT mo w x = spM sg A nT mo w x := fun x => spM_at (frI_row g3 (by omega) (by omega) (by omega) (by omega)) (frI_row g3 (by omega) (by omega) (by omega) (by omega)) A nT mo w x
          refine q_aload_n dX8_is_216 rfl ?_
          refine q_iconst (v := 3) dX8_is_217 rfl ?_
          refine q_aload_n dX8_is_218 rfl ?_
          refine z_get 16 dX8_is_219 (by first | assumption | decide) (sh_20 _ _ _) rfl (by decide) fl_X8_48 rfl ?_
          refine q_iload_n dX8_is_222 rfl ?_
          refine z_iald dX8_is_223 (by first | assumption | decide) rfl (vp_in_nI (n := f) f10 (by omega)) ?_
          rw [nI_clamp (by omega), show s3 31 0 f = nI id' by rw [frI_row g3 (by omega) (by omega) (by omega) (by omega)]; exact ed]
          refine z_callV (j_spell s3 t3 A nT nt w 3 id' mo M3.1 M3.2.1 W3 (by omega) hid) kV_X8_128 dX8_is_224 (by first | assumption | decide) (sh_20 _ _ _) rfl rfl rfl (by omega) (Nat.le_of_ble_eq_true rfl) (Nat.le_refl _) (Nat.le_refl _) rfl (fun v s4 t4 h => ?_)
          obtain ⟨rfl, rfl, fr4, rd, keep4⟩ := h
          dsimp only [Option.toList, List.cons_append, List.nil_append]
          rw [sp3] at rd
          have g4 := frI_trans g3 (frI_frm fr4)
          refine q_aload_n dX8_is_227 rfl ?_
          refine z_callV (j_isReplaced s4 t4 _ _ _ _ (keep4 0 (by omega) _ (keep3 0 (by omega) _ ra)) (keep4 1 (by omega) _ (keep3 1 (by omega) _ rb)) (keep4 2 (by omega) _ rc) rd) kV_X8_146 dX8_is_228 (by first | assumption | decide) (sh_20 _ _ _) rfl rfl rfl (by omega) (Nat.le_of_ble_eq_true rfl) (Nat.le_refl _) (Nat.le_refl _) rfl (fun v s5 t5 h => ?_)
          obtain ⟨rfl, rfl, fr5⟩ := h
          dsimp only [Option.toList, List.cons_append, List.nil_append]
          refine z_zret dX8_is_231 rfl (bC_01 _) ⟨?_, rfl, frI_trans g4 (frI_K fr5)⟩
          unfold trM
          rw [h2, bC_iff trP_6, ec, ed]
  · -- longer
    have e1 : kd = 1 := (nI_eq (b := 1) (by omega) (by omega)).mp q1
    subst e1
    obtain ⟨hb, c1, c2⟩ := h5 rfl
    refine q_aload_n dX8_is_21 rfl ?_
    refine z_get 14 dX8_is_22 (by first | assumption | decide) (sh_20 _ _ _) rfl (by decide) fl_X8_42 rfl ?_
    refine q_iload_n dX8_is_25 rfl ?_
    refine z_iald dX8_is_26 (by first | assumption | decide) rfl (vp_in_nI (n := f) f10 (by omega)) ?_
    refine q_iconst (v := (-1)) dX8_is_27 rfl ?_
    rw [nI_clamp (by omega), k1 29 f (by omega) (by omega)]
    have la := spM_30 (w := w) hS hT h3
    refine q_icmp_eq 65 dX8_is_28 (by decide) (fun q => ?_) (fun q => ?_)
    · refine q_aload_n dX8_is_65 rfl ?_
      refine z_get 12 dX8_is_66 (by first | assumption | decide) (sh_20 _ _ _) rfl (by decide) fl_X8_36 rfl ?_
      refine q_iload_n dX8_is_69 rfl ?_
      refine z_iald dX8_is_70 (by first | assumption | decide) rfl (vp_in_nI (n := f) f10 (by omega)) ?_
      rw [nI_clamp (by omega), sw s1 g1]
      refine q_tableIn 113 dX8_is_71 (by decide) (by decide) rfl (by decide) ?_
      refine q_aload_n dX8_is_113 rfl ?_
      refine z_get 27 dX8_is_114 (by first | assumption | decide) (sh_20 _ _ _) rfl (by decide) fl_X8_75 rfl ?_
      refine q_iconst (v := 0) dX8_is_117 rfl ?_
      refine z_iald dX8_is_118 (by first | assumption | decide) rfl (vp_in_nI (n := 0) (by omega) (by omega)) ?_
      refine q_aload_n dX8_is_119 rfl ?_
      refine z_get 14 dX8_is_120 (by first | assumption | decide) (sh_20 _ _ _) rfl (by decide) fl_X8_42 rfl ?_
      refine q_iload_n dX8_is_123 rfl ?_
      refine z_iald dX8_is_124 (by first | assumption | decide) rfl (vp_in_nI (n := f) f10 (by omega)) ?_
      refine q_iconst (v := (-1)) dX8_is_125 rfl ?_
      rw [nI_clamp (n := f) (by omega), k1 29 f (by omega) (by omega), show s1 40 0 (Int32.toNatClampNeg 0) = nI (spM sg A nT mo w (nI ia)).length from r0.1]
      refine q_icmp_ne 133 dX8_is_126 (by decide) (fun q' => ?_) (fun q' => ?_)
      · exact absurd q q'
      · refine q_iconst (v := 0) dX8_is_129 rfl ?_
        refine q_goto 139 dX8_is_130 (by decide) ?_
        refine q_aload_n dX8_is_139 rfl ?_
        refine z_get 15 dX8_is_140 (by first | assumption | decide) (sh_20 _ _ _) rfl (by decide) fl_X8_45 rfl ?_
        refine q_iload_n dX8_is_143 rfl ?_
        refine z_iald dX8_is_144 (by first | assumption | decide) rfl (vp_in_nI (n := f) f10 (by omega)) ?_
        refine q_iadd dX8_is_145 ?_
        rw [nI_clamp (n := f) (by omega), k1 30 f (by omega) (by omega)]
        have key := longer_iff (m := 0) (c := sg 30 0 f) la (by omega) c1 c2
        have eN : (spM sg A nT mo w (-1)).length = 0 := by unfold spM; rw [if_pos rfl]; rfl
        rw [ea] at key
        refine q_icmp_lt 153 dX8_is_146 (by decide) (fun z => ?_) (fun z => ?_)
        · refine q_iconst (v := 0) dX8_is_153 rfl ?_
          refine z_zret dX8_is_154 rfl (Or.inl rfl) ⟨?_, rfl, g1⟩
          unfold trM
          rw [h2, bC_iff trP_1, q, eN, ea, bC_f (key.mp z)]
        · refine q_iconst (v := 1) dX8_is_149 rfl ?_
          refine q_goto 154 dX8_is_150 (by decide) ?_
          refine z_zret dX8_is_154 rfl (Or.inr rfl) ⟨?_, rfl, g1⟩
          unfold trM
          rw [h2, bC_iff trP_1, q, eN, ea, bC_t (Classical.not_not.mp (fun n => z (key.mpr n)))]
    · refine q_goto 54 dX8_is_31 (by decide) ?_
      refine second (fun _ => True) (hb.resolve_left q) (fun s2 g2 ra rb => ?_)
      have k2 : ∀ K j, K ≠ 39 → K ≠ 40 → K ≠ 41 → K ≠ 20 → s2 K 0 j = sg K 0 j := fun K j a b c d => by rw [frI_row g2 a b c d]
      refine q_aload_n dX8_is_65 rfl ?_
      refine z_get 12 dX8_is_66 (by first | assumption | decide) (sh_20 _ _ _) rfl (by decide) fl_X8_36 rfl ?_
      refine q_iload_n dX8_is_69 rfl ?_
      refine z_iald dX8_is_70 (by first | assumption | decide) rfl (vp_in_nI (n := f) f10 (by omega)) ?_
      rw [nI_clamp (by omega), sw s2 g2]
      refine q_tableIn 113 dX8_is_71 (by decide) (by decide) rfl (by decide) ?_
      refine q_aload_n dX8_is_113 rfl ?_
      refine z_get 27 dX8_is_114 (by first | assumption | decide) (sh_20 _ _ _) rfl (by decide) fl_X8_75 rfl ?_
      refine q_iconst (v := 0) dX8_is_117 rfl ?_
      refine z_iald dX8_is_118 (by first | assumption | decide) rfl (vp_in_nI (n := 0) (by omega) (by omega)) ?_
      refine q_aload_n dX8_is_119 rfl ?_
      refine z_get 14 dX8_is_120 (by first | assumption | decide) (sh_20 _ _ _) rfl (by decide) fl_X8_42 rfl ?_
      refine q_iload_n dX8_is_123 rfl ?_
      refine z_iald dX8_is_124 (by first | assumption | decide) rfl (vp_in_nI (n := f) f10 (by omega)) ?_
      refine q_iconst (v := (-1)) dX8_is_125 rfl ?_
      rw [nI_clamp (n := f) (by omega), k2 29 f (by omega) (by omega) (by omega) (by omega), show s2 40 0 (Int32.toNatClampNeg 0) = nI (spM sg A nT mo w (sg 28 0 f)).length from ra.1]
      refine q_icmp_ne 133 dX8_is_126 (by decide) (fun q' => ?_) (fun q' => ?_)
      · refine q_aload_n dX8_is_133 rfl ?_
        refine z_get 27 dX8_is_134 (by first | assumption | decide) (sh_20 _ _ _) rfl (by decide) fl_X8_75 rfl ?_
        refine q_iconst (v := 1) dX8_is_137 rfl ?_
        refine z_iald dX8_is_138 (by first | assumption | decide) rfl (vp_in_nI (n := 1) (by omega) (by omega)) ?_
        refine q_aload_n dX8_is_139 rfl ?_
        refine z_get 15 dX8_is_140 (by first | assumption | decide) (sh_20 _ _ _) rfl (by decide) fl_X8_45 rfl ?_
        refine q_iload_n dX8_is_143 rfl ?_
        refine z_iald dX8_is_144 (by first | assumption | decide) rfl (vp_in_nI (n := f) f10 (by omega)) ?_
        refine q_iadd dX8_is_145 ?_
        rw [nI_clamp (n := f) (by omega), k2 30 f (by omega) (by omega) (by omega) (by omega), show s2 40 0 (Int32.toNatClampNeg 1) = nI (spM sg A nT mo w (sg 29 0 f)).length from rb.1]
        have key := longer_iff (c := sg 30 0 f) la rb.2.1 c1 c2
        refine q_icmp_lt 153 dX8_is_146 (by decide) (fun z => ?_) (fun z => ?_)
        · refine q_iconst (v := 0) dX8_is_153 rfl ?_
          refine z_zret dX8_is_154 rfl (Or.inl rfl) ⟨?_, rfl, g2⟩
          unfold trM
          rw [h2, bC_iff trP_1, bC_f (key.mp z)]
        · refine q_iconst (v := 1) dX8_is_149 rfl ?_
          refine q_goto 154 dX8_is_150 (by decide) ?_
          refine z_zret dX8_is_154 rfl (Or.inr rfl) ⟨?_, rfl, g2⟩
          unfold trM
          rw [h2, bC_iff trP_1, bC_t (Classical.not_not.mp (fun n => z (key.mpr n)))]
      · exact absurd q' q
