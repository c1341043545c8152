theorem low_sub {m p : Nat} (hp : m.testBit p = true) (hl : ∀ j, j < p → m.testBit j = false) (j : Nat) : (m - 1).testBit j = if j < p then true else if j = p then false else m.testBit j := by
  have e : m % 2 ^ (p + 1) = 2 ^ p := by
    apply Nat.eq_of_testBit_eq
    intro i
    rw [Nat.testBit_mod_two_pow, Nat.testBit_two_pow]
    by_cases h1 : i < p
    · rw [hl i h1]; simp; omega
    · by_cases h2 : i = p
      · subst h2; rw [hp]; simp
      · have h3 : ¬ i < p + 1 := by omega
        simp [h3]; omega
  have e2 := Nat.div_add_mod m (2 ^ (p + 1))
  rw [e] at e2
  have hpos := Nat.two_pow_pos p
  have hlt : 2 ^ p < 2 ^ (p + 1) := Nat.pow_lt_pow_right (by omega) (by omega)
  have e3 : m - 1 = 2 ^ (p + 1) * (m / 2 ^ (p + 1)) + (2 ^ p - 1) := by omega
  rw [e3, Nat.testBit_two_pow_mul_add _ (by omega), Nat.testBit_two_pow_sub_one]
  by_cases h1 : j < p
  · have : j < p + 1 := by omega
    simp [h1, this]
  · by_cases h2 : j = p
    · subst h2; simp
    · have h3 : ¬ j < p + 1 := by omega
      simp only [h1, h2, h3, if_false]
      have := Nat.testBit_two_pow_mul_add (m / 2 ^ (p + 1)) hlt j
      rw [e2, if_neg h3] at this
      exact this.symm
theorem lb_sub1 {R : Int64} {p : Nat} (hp64 : p < 64) (hp : lb R p = true) (hl : ∀ j, j < p → lb R j = false) {j : Nat} (hj : j < 64) : lb (R - 1) j = if j < p then true else if j = p then false else lb R j := by
  obtain ⟨m, hm, rfl⟩ := wb_of R
  have e1 : ∀ i, i < 64 → lb (lN m) i = m.testBit i := fun i hi => lb_lN i hi
  rw [e1 p hp64] at hp
  have hl2 : ∀ i, i < p → m.testBit i = false := fun i hi => by rw [← e1 i (by omega)]; exact hl i hi
  have hpos : 1 ≤ m := by
    apply Nat.pos_of_ne_zero
    intro q
    rw [q] at hp
    simp at hp
  have e2 : lN m - 1 = lN (m - 1) := lN_sub (a := m) (b := 1) hpos
  rw [e2, lb_lN j hj, low_sub hp hl2, e1 j hj]
theorem lb_low {R : Int64} {p : Nat} (hp64 : p < 64) (hp : lb R p = true) (hl : ∀ j, j < p → lb R j = false) {j : Nat} (hj : j < 64) : lb (R &&& (R - 1)) j = (lb R j && !decide (j = p)) := by
  rw [lb_and, lb_sub1 hp64 hp hl hj]
  by_cases h1 : j < p
  · rw [hl j h1]; simp
  · by_cases h2 : j = p
    · simp [h2]
    · simp [h1, h2]
theorem neg_not (R : Int64) : -R = (R - 1) ^^^ (-1) := by
  apply Int64.toBitVec_inj.mp
  rw [Int64.toBitVec_neg, Int64.toBitVec_xor, Int64.toBitVec_sub]
  have h1 : (-1 : Int64).toBitVec = BitVec.allOnes 64 := by decide
  have h2 : (1 : Int64).toBitVec = 1#64 := rfl
  rw [h1, h2, BitVec.xor_allOnes]
  apply BitVec.eq_of_toNat_eq
  rw [BitVec.toNat_neg, BitVec.toNat_not, BitVec.toNat_sub]
  have := R.toBitVec.isLt
  simp
  omega
theorem lb_iso {R : Int64} {p : Nat} (hp64 : p < 64) (hp : lb R p = true) (hl : ∀ j, j < p → lb R j = false) {j : Nat} (hj : j < 64) : lb (R &&& (-R)) j = decide (j = p) := by
  rw [neg_not, lb_and, lb_not _ hj, lb_sub1 hp64 hp hl hj]
  by_cases h1 : j < p
  · rw [hl j h1]; simp; omega
  · by_cases h2 : j = p
    · subst h2; simp [hp]
    · simp [h1, h2]
theorem bs_ones (p : Nat) : ∀ k, bs (2 ^ p - 1) k = min p k
  | 0 => by simp [bs, sumN]
  | k + 1 => by
    have ih := bs_ones p k
    show bs (2 ^ p - 1) k + ((2 ^ p - 1).testBit k).toNat = _
    rw [ih, Nat.testBit_two_pow_sub_one]
    by_cases h : k < p
    · simp [h]; omega
    · simp [h]; omega
/-- all set bits below p have less than a below them: so p has a at most -/
theorem rank_le {n a : Nat} : ∀ p, (∀ j, j < p → n.testBit j = true → bs n j < a) → bs n p ≤ a
  | 0, _ => by simp [bs, sumN]
  | p + 1, h => by
    have ih := rank_le p (fun j hj => h j (by omega))
    show bs n p + (n.testBit p).toNat ≤ a
    cases hb : n.testBit p with
    | false => simpa using ih
    | true => have := h p (by omega) hb; simp; omega
theorem bs_step (n j : Nat) : bs n (j + 1) = bs n j + (n.testBit j).toNat := rfl
theorem bs_mono (n : Nat) {a b : Nat} (h : a ≤ b) : bs n a ≤ bs n b := sumN_mono _ h
/-- the lowest bit -/
theorem lowest {R : Int64} : ∀ k, k ≤ 64 → (∃ j, j < k ∧ lb R j = true) → ∃ p, p < k ∧ lb R p = true ∧ ∀ j, j < p → lb R j = false
  | 0, _, h => by obtain ⟨j, h1, _⟩ := h; omega
  | k + 1, hk, h => by
    by_cases g : ∃ j, j < k ∧ lb R j = true
    · obtain ⟨p, a, b⟩ := lowest k (by omega) g
      exact ⟨p, by omega, b⟩
    · obtain ⟨j, h1, h2⟩ := h
      have : j = k := by
        apply Classical.byContradiction
        intro q
        exact g ⟨j, by omega, h2⟩
      subst this
      refine ⟨j, by omega, h2, fun i hi => ?_⟩
      cases hb : lb R i with
      | false => rfl
      | true => exact absurd ⟨i, hi, hb⟩ g
set_option maxRecDepth 100000 in
set_option maxHeartbeats 4000000 in
theorem c_placeOfBit (sg : zI) (ta : zJ) (y : Int64) (a : Nat) (ha : a < pcL y) : zP yX7_placeOfBit mX7_placeOfBit 1 [.long y, .int (nI a)] sg ta (fun v s t => s = sg ∧ t = ta ∧ ∃ p, p < 64 ∧ v = some (.int (nI p)) ∧ lb y p = true ∧ bs y.toBitVec.toNat p = a) := by
  have ha64 : a < 64 := Nat.lt_of_lt_of_le ha (bs_le _ 64)
  have hbit : ∀ j, j < 64 → lb y j = y.toBitVec.toNat.testBit j := fun j hj => lb_nat y hj
  -- a lowest bit of what is left
  have low : ∀ (i : Nat) (R : Int64), i ≤ a → (∀ j, j < 64 → (lb R j = true ↔ lb y j = true ∧ i ≤ bs y.toBitVec.toNat j)) → ∃ p, p < 64 ∧ lb R p = true ∧ (∀ j, j < p → lb R j = false) ∧ bs y.toBitVec.toNat p = i := by
    intro i R hi hR
    have hex : ∃ j, j < 64 ∧ lb R j = true := by
      apply Classical.byContradiction
      intro hno
      have := rank_le (n := y.toBitVec.toNat) (a := i) 64 (fun j hj hb => by
        apply Nat.lt_of_not_le
        intro q
        exact hno ⟨j, hj, (hR j hj).mpr ⟨by rw [hbit j hj]; exact hb, q⟩⟩)
      unfold pcL at ha
      omega
    obtain ⟨p, h1, h2, h3⟩ := lowest 64 (Nat.le_refl _) hex
    refine ⟨p, h1, h2, h3, ?_⟩
    have h4 := ((hR p h1).mp h2).2
    have h5 := rank_le (n := y.toBitVec.toNat) (a := i) p (fun j hj hb => by
      apply Nat.lt_of_not_le
      intro q
      have := (hR j (by omega)).mpr ⟨by rw [hbit j (by omega)]; exact hb, q⟩
      rw [h3 j hj] at this
      exact absurd this (by decide))
    omega
  refine zP_of (lv := [some (.long y), none, some (.int (nI a)), none, none, none, none]) (by decide +kernel) rfl (fun h => by cases h) rfl (Nat.le_of_ble_eq_true rfl) ?_
  have loop : ∀ (k i : Nat) (R : Int64), i + k = a → (∀ j, j < 64 → (lb R j = true ↔ lb y j = true ∧ i ≤ bs y.toBitVec.toNat j)) → Zq mX7_placeOfBit 1 (fun v s t => s = sg ∧ t = ta ∧ ∃ p, p < 64 ∧ v = some (.int (nI p)) ∧ lb y p = true ∧ bs y.toBitVec.toNat p = a) sg ta 5 [some (.long y), none, some (.int (nI a)), some (.long R), none, some (.int (nI i)), none] [] := by
    intro k
    induction k with
    | zero =>
      intro i R hi hR
      refine q_iload dX7_placeOfBit_5 rfl ?_
      refine q_iload_n dX7_placeOfBit_7 rfl ?_
      refine q_icmp_ge 23 dX7_placeOfBit_8 (by decide) (fun h => ?_) (fun h => ?_)
      · obtain ⟨p, p1, p2, p3, p4⟩ := low i R (by omega) hR
        refine q_lload_n dX7_placeOfBit_23 rfl ?_
        refine q_lload_n dX7_placeOfBit_24 rfl ?_
        refine q_lneg dX7_placeOfBit_25 ?_
        refine q_land dX7_placeOfBit_26 ?_
        refine q_lstore dX7_placeOfBit_27 (Nat.le_of_ble_eq_true rfl) rfl ?_
        dsimp only [List.set]
        refine q_lload dX7_placeOfBit_29 rfl ?_
        refine q_lconst (v := 1) dX7_placeOfBit_31 rfl ?_
        refine q_lsub dX7_placeOfBit_32 ?_
        have e1 : R &&& -R = lN (2 ^ p) := lb_ext (fun j hj => by
          rw [lb_iso p1 p2 p3 hj, lb_lN j hj, Nat.testBit_two_pow]
          by_cases e : j = p
          · subst e; simp
          · have : ¬ p = j := fun q => e q.symm
            simp [e, this])
        have e2 : lN (2 ^ p) - 1 = lN (2 ^ p - 1) := lN_sub (a := 2 ^ p) (b := 1) (Nat.two_pow_pos p)
        rw [e1, e2]
        refine z_callS (c_bitCountL sg ta (lN (2 ^ p - 1))) kS_X7_172 dX7_placeOfBit_33 rfl (by omega) (Nat.le_of_ble_eq_true rfl) (Nat.le_refl _) (Nat.le_refl _) rfl (fun v s2 t2 h => ?_)
        obtain ⟨rfl, rfl, rfl⟩ := h
        dsimp only [Option.toList, List.cons_append, List.nil_append]
        have e3 : pcL (lN (2 ^ p - 1)) = p := by
          unfold pcL
          have : 2 ^ p < 2 ^ 64 := Nat.pow_lt_pow_right (by omega) p1
          rw [wb_tn (by omega), bs_ones]
          omega
        rw [e3]
        exact z_iret dX7_placeOfBit_36 rfl ⟨rfl, rfl, p, p1, rfl, ((hR p p1).mp p2).1, by omega⟩
      · exact absurd (nI_le (by omega) (by omega)) h
    | succ k ih =>
      intro i R hi hR
      refine q_iload dX7_placeOfBit_5 rfl ?_
      refine q_iload_n dX7_placeOfBit_7 rfl ?_
      refine q_icmp_ge 23 dX7_placeOfBit_8 (by decide) (fun h => ?_) (fun h => ?_)
      · exact absurd h (nI_ge (by omega) (by omega))
      · obtain ⟨p, p1, p2, p3, p4⟩ := low i R (by omega) hR
        refine q_lload_n dX7_placeOfBit_11 rfl ?_
        refine q_lload_n dX7_placeOfBit_12 rfl ?_
        refine q_lconst (v := 1) dX7_placeOfBit_13 rfl ?_
        refine q_lsub dX7_placeOfBit_14 ?_
        refine q_land dX7_placeOfBit_15 ?_
        refine s_lstore_n 3 dX7_placeOfBit_16 rfl (Nat.le_of_ble_eq_true rfl) rfl ?_
        dsimp only [List.set]
        refine q_iinc dX7_placeOfBit_17 rfl (Nat.le_of_ble_eq_true rfl) rfl ?_
        dsimp only [List.set]
        refine q_goto 5 dX7_placeOfBit_20 (by decide) ?_
        rw [nI_inc]
        refine ih (i + 1) _ (by omega) (fun j hj => ?_)
        rw [lb_low p1 p2 p3 hj]
        simp only [Bool.and_eq_true, Bool.not_eq_true', decide_eq_false_iff_not]
        rw [hR j hj]
        constructor
        · rintro ⟨⟨a1, a2⟩, a3⟩
          refine ⟨a1, ?_⟩
          rcases Nat.lt_trichotomy j p with g | g | g
          · have := (hR j hj).mpr ⟨a1, a2⟩
            rw [p3 j g] at this
            exact absurd this (by decide)
          · exact absurd g a3
          · have h1 := bs_mono y.toBitVec.toNat (show p + 1 ≤ j from g)
            rw [bs_step, ← hbit p p1, ((hR p p1).mp p2).1] at h1
            simp at h1
            omega
        · rintro ⟨a1, a2⟩
          refine ⟨⟨a1, by omega⟩, fun e => ?_⟩
          subst e
          omega
  refine q_lload_n dX7_placeOfBit_0 rfl ?_
  refine s_lstore_n 3 dX7_placeOfBit_1 rfl (Nat.le_of_ble_eq_true rfl) rfl ?_
  dsimp only [List.set]
  refine q_iconst (v := 0) dX7_placeOfBit_2 rfl ?_
  refine q_istore dX7_placeOfBit_3 (Nat.le_of_ble_eq_true rfl) rfl ?_
  dsimp only [List.set]
  refine loop a 0 y (by omega) (fun j hj => ⟨fun q => ⟨q, Nat.zero_le _⟩, fun q => q.1⟩)
def frH : List (Nat × Nat) := (0, 0) :: (3, 1) :: (4, 1) :: (5, 1) :: (6, 1) :: frQ
theorem frH_not {K j : Nat} (h : K ≠ 0 ∧ K ≠ 3 ∧ K ≠ 4 ∧ K ≠ 5 ∧ K ≠ 6 ∧ K ≠ 13 ∧ K ≠ 14) : (K, j) ∉ frH := by
  unfold frH frQ
  simp
  omega
theorem frH_Q {a b : zI} (h : frm frQ a b) : frm frH a b := frm_mono (by intro q hq; unfold frH; simp [hq]) h
theorem frH_way {a b : zI} (h : frm [(3, 1), (4, 1), (5, 1), (6, 1)] a b) : frm frH a b := frm_mono (by unfold frH; intro q hq; simp at hq ⊢; rcases hq with h | h | h | h <;> simp [h]) h
theorem WayOk_at {a b : zI} {i A nT k : Nat} {mo : Nat → Nat} (h3 : b 3 i = a 3 i) (h4 : b 4 i = a 4 i) (h5 : b 5 i = a 5 i) (hw : WayOk a i A nT mo k) : WayOk b i A nT mo k := by
  unfold WayOk at *
  rw [h3, h4, h5]
  exact hw
theorem mdl_at {a b : zI} (h11 : b 11 = a 11) (h12 : b 12 = a 12) (h15 : b 15 = a 15) (h16 : b 16 = a 16) (h17 : b 17 = a 17) (A nT : Nat) (mo : Nat → Nat) (w f : Nat) : trW b A nT mo w f ↔ trW a A nT mo w f := by
  have e1 : spW b A nT mo w = spW a A nT mo w := by
    funext x
    unfold spW
    rw [h11, h12]
  have e2 : mxC b = mxC a := by
    funext x l
    unfold mxC
    rw [h15, h16]
  unfold trW
  rw [h17, e1, e2]
/-- QI rests on these rows alone -/
theorem QI_at {a b : zI} {ta : zJ} (h1 : b 1 = a 1) (h2 : b 2 = a 2) (h11 : b 11 = a 11) (h12 : b 12 = a 12) (h15 : b 15 = a 15) (h16 : b 16 = a 16) (h17 : b 17 = a 17) {A nT : Nat} {mo : Nat → Nat} {nf : Nat} (h9 : b 0 0 9 = a 0 0 9) (hw : ∃ k, WayOk b 0 A nT mo k) (hq : QI a ta A nT mo nf) : QI b ta A nT mo nf := by
  obtain ⟨q1, q2, q3, q4, q5, q6⟩ := hq
  refine ⟨?_, hw, q3, by rw [h9]; exact q4, fun f hf => ?_, fun f hf w hw => ?_⟩
  · unfold SpaceOk at *; rw [h1, h2]; exact q1
  · unfold FV TV at *; rw [h17, h11, h12]; exact q5 f hf
  · obtain ⟨a1, a2⟩ := q6 f hf w hw
    exact ⟨a1, fun j hs => by rw [mdl_at h11 h12 h15 h16 h17]; exact a2 j hs⟩
set_option maxRecDepth 100000 in
set_option maxHeartbeats 8000000 in
theorem c_takeInHand (sg : zI) (ta : zJ) (A nT : Nat) (mo : Nat → Nat) (nf : Nat) (x : Int32) (hQ : QI sg ta A nT mo nf) (hH : ∃ k, WayOk sg 1 A nT mo k) : zP yX7_takeInHand mX7_takeInHand 5 [.ref (nm 0 0), .int x] sg ta (fun v s t => QI s t A nT mo nf ∧ ∃ m, m < 1024 ∧ (∀ f, f < 10 → (m.testBit f = true ↔ f < nf ∧ sg 17 f 8 = 0)) ∧ ((v = some (.int 1) ∧ frm frH sg s ∧ (∀ j, j ≠ 10 → s 0 0 j = sg 0 0 j) ∧ s 0 0 10 = 1 ∧ ∃ a w, x = nI a ∧ a < 8000 ∧ w < wSize A mo nT ∧ mdl sg A nT mo nf (nI m) w ∧ sumN (isMn sg A nT mo nf (nI m)) w = a ∧ WayOk s 1 A nT mo (kOf A mo nT w) ∧ ∀ j, j < wTot mo nT (kOf A mo nT w) → s 6 1 j = nI (wLet A mo nT w j)) ∨ (v = some (.int 0) ∧ frm frQ sg s ∧ (x < 0 ∨ ∃ a, a < 2 ^ 31 ∧ x = nI a ∧ sumN (isMn sg A nT mo nf (nI m)) 8000 ≤ a)))) := by
  have i1 : 1 < cnt 3 := by decide
  have hsz := hQ.1.2.2.2.1
  obtain ⟨kh, hkh⟩ := hH
  refine zP_of (lv := [some (.ref (nm 0 0)), some (.int x), none, none, none, none, none, none]) (by decide +kernel) rfl (fun h => by cases h) rfl (Nat.le_of_ble_eq_true rfl) ?_
  refine q_aload_n dX7_takeInHand_0 rfl ?_
  refine z_callV (c_countingFormulas sg ta nf hQ.2.2.2.1 hQ.2.2.1) kV_X7_164 dX7_takeInHand_1 (by first | assumption | decide) (sh_0 _ _ _) rfl rfl rfl (by omega) (Nat.le_of_ble_eq_true rfl) (Nat.le_refl _) (Nat.le_refl _) rfl (fun v s0 t0 h => ?_)
  obtain ⟨rfl, rfl, m, hm, rfl, hb⟩ := h
  dsimp only [Option.toList, List.cons_append, List.nil_append]
  refine s_istore_n 2 dX7_takeInHand_4 rfl (Nat.le_of_ble_eq_true rfl) rfl ?_
  dsimp only [List.set]
  refine q_iload_n dX7_takeInHand_5 rfl ?_
  refine s_istore_n 3 dX7_takeInHand_6 rfl (Nat.le_of_ble_eq_true rfl) rfl ?_
  dsimp only [List.set]
  refine q_iconst (v := 0) dX7_takeInHand_7 rfl ?_
  refine q_istore dX7_takeInHand_8 (Nat.le_of_ble_eq_true rfl) rfl ?_
  dsimp only [List.set]
  by_cases hx0 : x < 0
  · refine q_iload dX7_takeInHand_10 rfl ?_
    refine q_bipush (v := 125) dX7_takeInHand_12 rfl ?_
    refine q_icmp_ge 80 dX7_takeInHand_14 (by decide) (fun h => ?_) (fun h => ?_)
    · exact absurd ((nI_leI (a := 125) (b := 0) (by omega) (by omega)).mp h) (by omega)
    · refine q_iload_n dX7_takeInHand_17 rfl ?_
      refine q_if_lt 80 dX7_takeInHand_18 (by decide) (fun h2 => ?_) (fun h2 => ?_)
      · refine q_iconst (v := 0) dX7_takeInHand_80 rfl ?_
        exact z_iret dX7_takeInHand_81 rfl ⟨hQ, m, hm, hb, Or.inr ⟨rfl, frm_refl _ _, Or.inl hx0⟩⟩
      · exact absurd hx0 h2
  · obtain ⟨a, ha31, rfl⟩ := nI_of hx0
    have loop : ∀ (k wd b : Nat) (z1 z2 : Option Value) (s : zI) (t : zJ), wd + k = 125 → frm frQ s0 s → QI s t A nT mo nf → sumN (isMn s0 A nT mo nf (nI m)) (wd * 64) + b = a → Zq mX7_takeInHand 5 (fun v s t => QI s t A nT mo nf ∧ ∃ m, m < 1024 ∧ (∀ f, f < 10 → (m.testBit f = true ↔ f < nf ∧ s0 17 f 8 = 0)) ∧ ((v = some (.int 1) ∧ frm frH s0 s ∧ (∀ j, j ≠ 10 → s 0 0 j = s0 0 0 j) ∧ s 0 0 10 = 1 ∧ ∃ a' w, nI a = nI a' ∧ a' < 8000 ∧ w < wSize A mo nT ∧ mdl s0 A nT mo nf (nI m) w ∧ sumN (isMn s0 A nT mo nf (nI m)) w = a' ∧ WayOk s 1 A nT mo (kOf A mo nT w) ∧ ∀ j, j < wTot mo nT (kOf A mo nT w) → s 6 1 j = nI (wLet A mo nT w j)) ∨ (v = some (.int 0) ∧ frm frQ s0 s ∧ (nI a < 0 ∨ ∃ a', a' < 2 ^ 31 ∧ nI a = nI a' ∧ sumN (isMn s0 A nT mo nf (nI m)) 8000 ≤ a')))) s t 10 [some (.ref (nm 0 0)), some (.int (nI a)), some (.int (nI m)), some (.int (nI b)), some (.int (nI wd)), z1, none, z2] [] := by
      intro k
      induction k with
      | zero =>
        intro wd b z1 z2 s t hk hf hq hs
        refine q_iload dX7_takeInHand_10 rfl ?_
        refine q_bipush (v := 125) dX7_takeInHand_12 rfl ?_
        refine q_icmp_ge 80 dX7_takeInHand_14 (by decide) (fun h => ?_) (fun h => ?_)
        · refine q_iconst (v := 0) dX7_takeInHand_80 rfl ?_
          exact z_iret dX7_takeInHand_81 rfl ⟨hq, m, hm, hb, Or.inr ⟨rfl, hf, Or.inr ⟨a, ha31, rfl, by rw [show 8000 = wd * 64 by omega]; omega⟩⟩⟩
        · exact absurd (nI_le (a := 125) (by omega) (by omega)) h
      | succ k ih =>
        intro wd b z1 z2 s t hk hf hq hs
        have hmono := sumN_mono (isMn s0 A nT mo nf (nI m)) (show wd * 64 ≤ (wd + 1) * 64 by omega)
        refine q_iload dX7_takeInHand_10 rfl ?_
        refine q_bipush (v := 125) dX7_takeInHand_12 rfl ?_
        refine q_icmp_ge 80 dX7_takeInHand_14 (by decide) (fun h => ?_) (fun h => ?_)
        · exact absurd ((nI_leI (a := 125) (by omega) (by omega)).mp h) (by omega)
        · refine q_iload_n dX7_takeInHand_17 rfl ?_
          refine q_if_lt 80 dX7_takeInHand_18 (by decide) (fun h2 => ?_) (fun h2 => ?_)
          · exact absurd h2 (nI_pos (by omega))
          · refine q_aload_n dX7_takeInHand_21 rfl ?_
            refine q_iload dX7_takeInHand_22 rfl ?_
            refine q_iload_n dX7_takeInHand_24 rfl ?_
            refine z_callV (c_modelsIn s t A nT mo nf wd (nI m) hq (by omega)) kV_X7_168 dX7_takeInHand_25 (by first | assumption | decide) (sh_0 _ _ _) rfl rfl rfl (by omega) (Nat.le_of_ble_eq_true rfl) (Nat.le_refl _) (Nat.le_refl _) rfl (fun v s2 t2 h => ?_)
            obtain ⟨hf2, hq2, y, rfl, hy⟩ := h
            dsimp only [Option.toList, List.cons_append, List.nil_append]
            refine q_lstore dX7_takeInHand_28 (Nat.le_of_ble_eq_true rfl) rfl ?_
            dsimp only [List.set]
            refine q_lload dX7_takeInHand_30 rfl ?_
            refine z_callS (c_bitCountL s2 t2 y) kS_X7_172 dX7_takeInHand_32 rfl (by omega) (Nat.le_of_ble_eq_true rfl) (Nat.le_refl _) (Nat.le_refl _) rfl (fun v s3 t3 h => ?_)
            obtain ⟨rfl, rfl, rfl⟩ := h
            dsimp only [Option.toList, List.cons_append, List.nil_append]
            have hy0 := isMn_bits hy
            rw [isMn_frm hf] at hy0
            have e1 : ∀ q, q ≤ 64 → bs y.toBitVec.toNat q = sumN (fun j => isMn s0 A nT mo nf (nI m) (wd * 64 + j)) q := pcL_eq hy0
            have hp64 : pcL y ≤ 64 := bs_le _ 64
            have hf3 := frm_trans hf hf2
            refine q_istore dX7_takeInHand_35 (Nat.le_of_ble_eq_true rfl) rfl ?_
            dsimp only [List.set]
            refine q_iload_n dX7_takeInHand_37 rfl ?_
            refine q_iload dX7_takeInHand_38 rfl ?_
            refine q_icmp_ge 69 dX7_takeInHand_40 (by decide) (fun h3 => ?_) (fun h3 => ?_)
            · have h4 : pcL y ≤ b := (nI_leI (by omega) (by omega)).mp h3
              refine q_iload_n dX7_takeInHand_69 rfl ?_
              refine q_iload dX7_takeInHand_70 rfl ?_
              refine q_isub dX7_takeInHand_72 ?_
              rw [pk_sub h4]
              refine s_istore_n 3 dX7_takeInHand_73 rfl (Nat.le_of_ble_eq_true rfl) rfl ?_
              dsimp only [List.set]
              refine q_iinc dX7_takeInHand_74 rfl (Nat.le_of_ble_eq_true rfl) rfl ?_
              dsimp only [List.set]
              refine q_goto 10 dX7_takeInHand_77 (by decide) ?_
              rw [nI_inc]
              refine ih (wd + 1) (b - pcL y) _ _ s3 t3 (by omega) hf3 hq2 ?_
              rw [show (wd + 1) * 64 = wd * 64 + 64 by omega, sumN_add]
              have := e1 64 (Nat.le_refl _)
              unfold pcL at h4 ⊢
              omega
            · have h4 : b < pcL y := Nat.lt_of_not_le (fun q => h3 (nI_le q (by omega)))
              refine q_aload_n dX7_takeInHand_43 rfl ?_
              refine z_get 2 dX7_takeInHand_44 (by first | assumption | decide) (sh_0 _ _ _) rfl (by decide) fl_X7_25 rfl ?_
              refine q_iload dX7_takeInHand_47 rfl ?_
              refine q_bipush (v := 64) dX7_takeInHand_49 rfl ?_
              refine q_imul dX7_takeInHand_51 ?_
              refine q_lload dX7_takeInHand_52 rfl ?_
              refine q_iload_n dX7_takeInHand_54 rfl ?_
              refine z_callS (c_placeOfBit s3 t3 y b h4) kS_X7_230 dX7_takeInHand_55 rfl (by omega) (Nat.le_of_ble_eq_true rfl) (Nat.le_refl _) (Nat.le_refl _) rfl (fun v s4 t4 h => ?_)
              obtain ⟨rfl, rfl, p, hp, rfl, hlp, hbs⟩ := h
              dsimp only [Option.toList, List.cons_append, List.nil_append]
              rw [show nI wd * 64 = nI (wd * 64) from pk_mul wd 64]
              refine q_iadd dX7_takeInHand_58 ?_
              rw [nI_add]
              have hmod := (hy p hp).mp hlp
              rw [mdl_frm hf] at hmod
              have hwayh : WayOk s4 1 A nT mo kh := WayOk_at (hf3 3 1 (by unfold frQ; simp)) (hf3 4 1 (by unfold frQ; simp)) (hf3 5 1 (by unfold frQ; simp)) hkh
              refine z_callV (c_Way_goTo s4 t4 1 A nT mo kh (wd * 64 + p) i1 hq2.1 hwayh hmod.1) kV_X7_234 dX7_takeInHand_59 (by first | assumption | decide) (sh_3 _ _ _) rfl rfl rfl (by omega) (Nat.le_of_ble_eq_true rfl) (Nat.le_refl _) (Nat.le_refl _) rfl (fun v s5 t5 h => ?_)
              obtain ⟨rfl, rfl, hf5, hw5, hr5⟩ := h
              dsimp only [Option.toList, List.cons_append, List.nil_append]
              refine q_aload_n dX7_takeInHand_62 rfl ?_
              refine q_iconst (v := 1) dX7_takeInHand_63 rfl ?_
              refine z_putz 10 dX7_takeInHand_64 (by first | assumption | decide) (sh_0 _ _ _) rfl (by decide) fl_X7_178 rfl pfZ (Nat.le_of_ble_eq_true rfl) (by first | exact Or.inl rfl | exact Or.inr rfl | assumption) rfl ?_
              refine q_iconst (v := 1) dX7_takeInHand_67 rfl ?_
              have hw0 : ∃ k, WayOk (up3 s5 0 0 10 1) 0 A nT mo k := by
                obtain ⟨k0, hk0⟩ := hq2.2.1
                exact ⟨k0, WayOk_at (by rw [up3_off (by omega)]; exact hf5 3 0 (by simp)) (by rw [up3_off (by omega)]; exact hf5 4 0 (by simp)) (by rw [up3_off (by omega)]; exact hf5 5 0 (by simp)) hk0⟩
              have row : ∀ K, K ≠ 0 → K ≠ 3 → K ≠ 4 → K ≠ 5 → K ≠ 6 → (up3 s5 0 0 10 1) K = s4 K := fun K a0 a3 a4 a5 a6 => by
                funext q
                rw [up3_off (by omega)]
                exact hf5 K q (by simp; omega)
              have hq5 : QI (up3 s5 0 0 10 1) t5 A nT mo nf := QI_at (row 1 (by omega) (by omega) (by omega) (by omega) (by omega)) (row 2 (by omega) (by omega) (by omega) (by omega) (by omega)) (row 11 (by omega) (by omega) (by omega) (by omega) (by omega)) (row 12 (by omega) (by omega) (by omega) (by omega) (by omega)) (row 15 (by omega) (by omega) (by omega) (by omega) (by omega)) (row 16 (by omega) (by omega) (by omega) (by omega) (by omega)) (row 17 (by omega) (by omega) (by omega) (by omega) (by omega)) (by rw [up3_get, if_neg (by omega), hf5 0 0 (by simp)]) hw0 hq2
              refine z_iret dX7_takeInHand_68 rfl ⟨hq5, m, hm, hb, Or.inl ⟨rfl, frm_up3 (by unfold frH; simp) (frm_trans (frH_Q hf3) (frH_way hf5)), fun j hj => ?_, ?_, a, wd * 64 + p, rfl, ?_, hmod.1, hmod.2, ?_, ?_, ?_⟩⟩
              · rw [up3_get, if_neg (by omega), hf5 0 0 (by simp), hf3 0 0 (frQ_not (by omega))]
              · rw [up3_get, if_pos ⟨rfl, rfl, rfl⟩]
              · have h7 : sumN (isMn s0 A nT mo nf (nI m)) (wd * 64) ≤ wd * 64 := by
                  have : ∀ q, sumN (isMn s0 A nT mo nf (nI m)) q ≤ q := by
                    intro q
                    induction q with
                    | zero => simp [sumN]
                    | succ q ihq =>
                      simp only [sumN]
                      have : isMn s0 A nT mo nf (nI m) q ≤ 1 := by
                        by_cases g : q < wSize A mo nT ∧ mdl s0 A nT mo nf (nI m) q
                        · rw [isMn_t g]; omega
                        · rw [isMn_f g]; omega
                      omega
                  exact this _
                omega
              · rw [sumN_add, ← e1 p (by omega), hbs]; exact hs
              · exact WayOk_at (by rw [up3_off (by omega)]) (by rw [up3_off (by omega)]) (by rw [up3_off (by omega)]) hw5
              · intro j hj
                rw [up3_off (by omega)]
                exact hr5 j hj
    exact loop 125 0 a none none s0 t0 (by omega) (frm_refl _ _) hQ (by simp [sumN])
