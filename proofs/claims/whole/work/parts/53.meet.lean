/-! two machines together: pairs of states, by how many letters they are reached -/
def rch (nx : Nat → Nat → Nat) (A : Nat) : Nat → Nat → Prop
  | 0, p => p = 0
  | n + 1, p => rch nx A n p ∨ ∃ q a, rch nx A n q ∧ a < A ∧ p = nx q a
/-- the least number of letters to a good pair, below 36; or -1 -/
def meetR (nx : Nat → Nat → Nat) (A : Nat) (gd : Nat → Prop) (r : Int32) : Prop := (∃ n, n < 36 ∧ r = nI n ∧ (∃ p, rch nx A n p ∧ gd p) ∧ ∀ n', n' < n → ∀ p, rch nx A n' p → ¬ gd p) ∨ (r = -1 ∧ ∀ n, n < 36 → ∀ p, rch nx A n p → ¬ gd p)
theorem rch_lt {nx : Nat → Nat → Nat} {A : Nat} (h : ∀ q a, q < 36 → a < A → nx q a < 36) : ∀ n p, rch nx A n p → p < 36
  | 0, p, e => by simp only [rch] at e; omega
  | n + 1, p, e => by
    rcases e with e | ⟨q, a, e1, e2, e3⟩
    · exact rch_lt h n p e
    · rw [e3]; exact h q a (rch_lt h n q e1) e2
theorem rch_stop {nx : Nat → Nat → Nat} {A n : Nat} (h : ∀ p, rch nx A (n + 1) p → rch nx A n p) : ∀ k p, rch nx A (n + k) p → rch nx A n p
  | 0, _, e => e
  | k + 1, p, e => by
    rcases (show rch nx A (n + k) p ∨ ∃ q a, rch nx A (n + k) q ∧ a < A ∧ p = nx q a from e) with e | ⟨q, a, e1, e2, e3⟩
    · exact rch_stop h k p e
    · exact h p (Or.inr ⟨q, a, rch_stop h k q e1, e2, e3⟩)
theorem rch_up {nx : Nat → Nat → Nat} {A n m p : Nat} (h : n ≤ m) (hr : rch nx A n p) : rch nx A m p := by
  obtain ⟨k, rfl⟩ : ∃ k, m = n + k := ⟨m - n, by omega⟩
  clear h
  induction k with
  | zero => exact hr
  | succ k ih => exact Or.inl ih
/-- a machine's steps, as numbers -/
def MV (sg : zI) (i : Nat) (nx : Nat → Nat → Nat) : Prop := ∀ s a, s < 6 → a < 3 → nx s a < 6 ∧ sg 16 i (3 * s + a) = nI (nx s a)
theorem mnx_MV {sg : zI} {i : Nat} {nx : Nat → Nat → Nat} (h : MV sg i nx) {s a : Nat} (hs : s < 6) (ha : a < 3) : mnx (sg 16 i) (nI s) (nI a) = nI (nx s a) := by
  unfold mnx
  have e : nI s * 3 + nI a = nI (3 * s + a) := by
    rw [show nI s * 3 = nI (s * 3) from pk_mul s 3, nI_add, Nat.mul_comm]
  rw [e, sel_t (vp_in_nI (by omega) (by omega)), nI_clamp (by omega)]
  exact (h s a hs ha).2
def nx2 (nx ny : Nat → Nat → Nat) (q a : Nat) : Nat := nx (q / 6) a * 6 + ny (q % 6) a
theorem lb_sshr (x : Int64) {k : Nat} (hk : k < 64) : lb (x >>> ((nI k).toInt64 &&& 63)) 0 = lb x k := by
  unfold lb
  rw [wb_c k hk, Int64.toBitVec_shiftRight, wb_tb, wb_sm k hk]
  show (BitVec.sshiftRight x.toBitVec (BitVec.ofNat 64 k).toNat).getLsbD 0 = _
  rw [BitVec.toNat_ofNat, Nat.mod_eq_of_lt (by omega), BitVec.getLsbD_sshiftRight]
  simp [hk]
theorem lb_stest (x : Int64) {k : Nat} (hk : k < 64) : ((x >>> ((nI k).toInt64 &&& 63)) &&& 1) = 0 ↔ lb x k = false := by
  rw [lb_and1, lb_sshr x hk]
set_option maxRecDepth 100000 in
set_option maxHeartbeats 8000000 in
theorem c_shortestWith (sg : zI) (ta : zJ) (i1 i2 A : Nat) (nx ny : Nat → Nat → Nat) (h1 : i1 < cnt 15) (h2 : i2 < cnt 15) (hA : A ≤ 3) (m1 : MV sg i1 nx) (m2 : MV sg i2 ny) : zP yX2_shortestWith mX2_shortestWith 1 [.ref (nm 15 i1), .ref (nm 15 i2), .int (nI A)] sg ta (fun v s t => s = sg ∧ t = ta ∧ ∃ r, v = some (.int r) ∧ meetR (nx2 nx ny) A (fun p => mgd (sg 15 i1 2) (nI (p / 6)) ∧ mgd (sg 15 i2 2) (nI (p % 6))) r) := by
  have hlt : ∀ q a, q < 36 → a < A → nx2 nx ny q a < 36 := fun q a hq ha => by
    have := (m1 (q / 6) a (by omega) (by omega)).1
    have := (m2 (q % 6) a (by omega) (by omega)).1
    unfold nx2; omega
  refine zP_of (lv := [some (.ref (nm 15 i1)), some (.ref (nm 15 i2)), some (.int (nI A)), none, none, none, none, none, none, none, none, none]) (by decide +kernel) rfl (fun h => by cases h) rfl (Nat.le_of_ble_eq_true rfl) ?_
  have outer : ∀ (k n : Nat) (R : Int64) (z6 z8 z9 z10 z11 : Option Value), n + k = 36 → (∀ j, j < 64 → (lb R j = true ↔ rch (nx2 nx ny) A n j)) → (∀ n', n' < n → ∀ p, rch (nx2 nx ny) A n' p → ¬ (mgd (sg 15 i1 2) (nI (p / 6)) ∧ mgd (sg 15 i2 2) (nI (p % 6)))) → Zq mX2_shortestWith 1 (fun v s t => s = sg ∧ t = ta ∧ ∃ r, v = some (.int r) ∧ meetR (nx2 nx ny) A (fun p => mgd (sg 15 i1 2) (nI (p / 6)) ∧ mgd (sg 15 i2 2) (nI (p % 6))) r) sg ta 5 [some (.ref (nm 15 i1)), some (.ref (nm 15 i2)), some (.int (nI A)), some (.long R), none, some (.int (nI n)), z6, none, z8, z9, z10, z11] [] := by
    intro k
    induction k with
    | zero =>
      intro n R z6 z8 z9 z10 z11 hk hR hno
      refine q_iload dX2_shortestWith_5 rfl ?_
      refine q_bipush (v := 36) dX2_shortestWith_7 rfl ?_
      refine q_icmp_ge 140 dX2_shortestWith_9 (by decide) (fun h => ?_) (fun h => ?_)
      · refine q_iconst (v := (-1)) dX2_shortestWith_140 rfl ?_
        exact z_iret dX2_shortestWith_141 rfl ⟨rfl, rfl, _, rfl, Or.inr ⟨rfl, fun n' hn' => hno n' (by omega)⟩⟩
      · exact absurd (nI_le (a := 36) (by omega) (by omega)) h
    | succ k ih =>
      intro n R z6 z8 z9 z10 z11 hk hR hno
      refine q_iload dX2_shortestWith_5 rfl ?_
      refine q_bipush (v := 36) dX2_shortestWith_7 rfl ?_
      refine q_icmp_ge 140 dX2_shortestWith_9 (by decide) (fun h => ?_) (fun h => ?_)
      · exact absurd ((nI_leI (a := 36) (by omega) (by omega)).mp h) (by omega)
      · -- the pairs
        have inner : ∀ (k2 p : Nat) (F : Int64) (z9 z10 z11 : Option Value), p + k2 = 36 → (∀ j, j < 64 → (lb F j = true ↔ rch (nx2 nx ny) A n j ∨ ∃ q a, q < p ∧ rch (nx2 nx ny) A n q ∧ a < A ∧ j = nx2 nx ny q a)) → (∀ q, q < p → rch (nx2 nx ny) A n q → ¬ (mgd (sg 15 i1 2) (nI (q / 6)) ∧ mgd (sg 15 i2 2) (nI (q % 6)))) → Zq mX2_shortestWith 1 (fun v s t => s = sg ∧ t = ta ∧ ∃ r, v = some (.int r) ∧ meetR (nx2 nx ny) A (fun p => mgd (sg 15 i1 2) (nI (p / 6)) ∧ mgd (sg 15 i2 2) (nI (p % 6))) r) sg ta 18 [some (.ref (nm 15 i1)), some (.ref (nm 15 i2)), some (.int (nI A)), some (.long R), none, some (.int (nI n)), some (.long F), none, some (.int (nI p)), z9, z10, z11] [] := by
          intro k2
          induction k2 with
          | zero =>
            intro p F z9 z10 z11 hp hF hg
            refine q_iload dX2_shortestWith_18 rfl ?_
            refine q_bipush (v := 36) dX2_shortestWith_20 rfl ?_
            refine q_icmp_ge 122 dX2_shortestWith_22 (by decide) (fun g => ?_) (fun g => ?_)
            · have hF2 : ∀ j, j < 64 → (lb F j = true ↔ rch (nx2 nx ny) A (n + 1) j) := fun j hj => by
                rw [hF j hj]
                constructor
                · rintro (q | ⟨q, a, b, c, d, e⟩)
                  · exact Or.inl q
                  · exact Or.inr ⟨q, a, c, d, e⟩
                · rintro (q | ⟨q, a, c, d, e⟩)
                  · exact Or.inl q
                  · exact Or.inr ⟨q, a, by have := rch_lt hlt n q c; omega, c, d, e⟩
              have hg2 : ∀ q, rch (nx2 nx ny) A n q → ¬ (mgd (sg 15 i1 2) (nI (q / 6)) ∧ mgd (sg 15 i2 2) (nI (q % 6))) := fun q hq => hg q (by have := rch_lt hlt n q hq; omega) hq
              refine q_lload dX2_shortestWith_122 rfl ?_
              refine q_lload_n dX2_shortestWith_124 rfl ?_
              refine q_lcmp dX2_shortestWith_125 ?_
              refine q_if_ne 131 dX2_shortestWith_126 (by decide) (fun g2 => ?_) (fun g2 => ?_)
              · refine q_lload dX2_shortestWith_131 rfl ?_
                refine s_lstore_n 3 dX2_shortestWith_133 rfl (Nat.le_of_ble_eq_true rfl) rfl ?_
                dsimp only [List.set]
                refine q_iinc dX2_shortestWith_134 rfl (Nat.le_of_ble_eq_true rfl) rfl ?_
                dsimp only [List.set]
                refine q_goto 5 dX2_shortestWith_137 (by decide) ?_
                rw [nI_inc]
                refine ih (n + 1) F _ _ _ _ _ (by omega) hF2 (fun n' hn' p hp => ?_)
                by_cases e : n' = n
                · subst e; exact hg2 p hp
                · exact hno n' (by omega) p hp
              · rw [lcmp0] at g2
                refine q_iconst (v := (-1)) dX2_shortestWith_129 rfl ?_
                refine z_iret dX2_shortestWith_130 rfl ⟨rfl, rfl, _, rfl, Or.inr ⟨rfl, fun n' hn' p hp => ?_⟩⟩
                have hst : ∀ p, rch (nx2 nx ny) A (n + 1) p → rch (nx2 nx ny) A n p := fun p hp => by
                  have hp36 := rch_lt hlt (n + 1) p hp
                  rw [← hR p (by omega), ← g2, hF2 p (by omega)]
                  exact hp
                rcases Nat.lt_or_ge n' n with e | e
                · exact hno n' e p hp
                · exact hg2 p (rch_stop hst (n' - n) p (by rw [show n + (n' - n) = n' by omega]; exact hp))
            · exact absurd (nI_le (a := 36) (by omega) (by omega)) g
          | succ k2 ih2 =>
            intro p F z9 z10 z11 hp hF hg
            have e1 : nI p / 6 = nI (p / 6) := pk_div (d := 6) (by omega) (by omega) (by omega)
            have e2 : nI p - nI p / 6 * 6 = nI (p % 6) := pk_rem (d := 6) (by omega) (by omega) (by omega)
            have nxt : ∀ (F : Int64) (z9 z10 z11 : Option Value), (∀ j, j < 64 → (lb F j = true ↔ rch (nx2 nx ny) A n j ∨ ∃ q a, q < p + 1 ∧ rch (nx2 nx ny) A n q ∧ a < A ∧ j = nx2 nx ny q a)) → (∀ q, q < p + 1 → rch (nx2 nx ny) A n q → ¬ (mgd (sg 15 i1 2) (nI (q / 6)) ∧ mgd (sg 15 i2 2) (nI (q % 6)))) → Zq mX2_shortestWith 1 (fun v s t => s = sg ∧ t = ta ∧ ∃ r, v = some (.int r) ∧ meetR (nx2 nx ny) A (fun p => mgd (sg 15 i1 2) (nI (p / 6)) ∧ mgd (sg 15 i2 2) (nI (p % 6))) r) sg ta 116 [some (.ref (nm 15 i1)), some (.ref (nm 15 i2)), some (.int (nI A)), some (.long R), none, some (.int (nI n)), some (.long F), none, some (.int (nI p)), z9, z10, z11] [] := by
              intro F z9 z10 z11 a b
              refine q_iinc dX2_shortestWith_116 rfl (Nat.le_of_ble_eq_true rfl) rfl ?_
              dsimp only [List.set]
              refine q_goto 18 dX2_shortestWith_119 (by decide) ?_
              rw [nI_inc]
              exact ih2 (p + 1) F _ _ _ (by omega) a b
            refine q_iload dX2_shortestWith_18 rfl ?_
            refine q_bipush (v := 36) dX2_shortestWith_20 rfl ?_
            refine q_icmp_ge 122 dX2_shortestWith_22 (by decide) (fun g => ?_) (fun g => ?_)
            · exact absurd ((nI_leI (a := 36) (by omega) (by omega)).mp g) (by omega)
            · refine q_lload_n dX2_shortestWith_25 rfl ?_
              refine q_iload dX2_shortestWith_26 rfl ?_
              refine q_lshr dX2_shortestWith_28 ?_
              refine q_lconst (v := 1) dX2_shortestWith_29 rfl ?_
              refine q_land dX2_shortestWith_30 ?_
              refine q_lconst (v := 0) dX2_shortestWith_31 rfl ?_
              refine q_lcmp dX2_shortestWith_32 ?_
              refine q_if_ne 39 dX2_shortestWith_33 (by decide) (fun g2 => ?_) (fun g2 => ?_)
              · rw [lcmp0, lb_stest R (by omega)] at g2
                have hrp : rch (nx2 nx ny) A n p := (hR p (by omega)).mp (by simpa using g2)
                refine q_iload dX2_shortestWith_39 rfl ?_
                refine q_bipush (v := 6) dX2_shortestWith_41 rfl ?_
                refine q_idiv dX2_shortestWith_43 (by decide) ?_
                rw [e1]
                refine q_istore dX2_shortestWith_44 (Nat.le_of_ble_eq_true rfl) rfl ?_
                dsimp only [List.set]
                refine q_iload dX2_shortestWith_46 rfl ?_
                refine q_bipush (v := 6) dX2_shortestWith_48 rfl ?_
                refine q_irem dX2_shortestWith_50 (by decide) ?_
                rw [e2]
                refine q_istore dX2_shortestWith_51 (Nat.le_of_ble_eq_true rfl) rfl ?_
                dsimp only [List.set]
                refine q_aload_n dX2_shortestWith_53 rfl ?_
                refine q_iload dX2_shortestWith_54 rfl ?_
                refine z_callV (c_Machine_isGood sg ta i1 (nI (p / 6)) h1) kV_X2_40 dX2_shortestWith_56 (by first | assumption | decide) (sh_15 _ _ _) rfl rfl rfl (by omega) (Nat.le_of_ble_eq_true rfl) (Nat.le_refl _) (Nat.le_refl _) rfl (fun v s2 t2 h => ?_)
                obtain ⟨rfl, rfl, rfl⟩ := h
                dsimp only [Option.toList, List.cons_append, List.nil_append]
                -- the letters
                have from74 : ¬ (mgd (s2 15 i1 2) (nI (p / 6)) ∧ mgd (s2 15 i2 2) (nI (p % 6))) → ∀ z11 : Option Value, Zq mX2_shortestWith 1 (fun v s t => s = s2 ∧ t = t2 ∧ ∃ r, v = some (.int r) ∧ meetR (nx2 nx ny) A (fun p => mgd (s2 15 i1 2) (nI (p / 6)) ∧ mgd (s2 15 i2 2) (nI (p % 6))) r) s2 t2 74 [some (.ref (nm 15 i1)), some (.ref (nm 15 i2)), some (.int (nI A)), some (.long R), none, some (.int (nI n)), some (.long F), none, some (.int (nI p)), some (.int (nI (p / 6))), some (.int (nI (p % 6))), z11] [] := by
                  intro hng z11
                  have letters : ∀ (k3 a : Nat) (F : Int64), a + k3 = A → (∀ j, j < 64 → (lb F j = true ↔ rch (nx2 nx ny) A n j ∨ (∃ q a', q < p ∧ rch (nx2 nx ny) A n q ∧ a' < A ∧ j = nx2 nx ny q a') ∨ ∃ a', a' < a ∧ j = nx2 nx ny p a')) → Zq mX2_shortestWith 1 (fun v s t => s = s2 ∧ t = t2 ∧ ∃ r, v = some (.int r) ∧ meetR (nx2 nx ny) A (fun p => mgd (s2 15 i1 2) (nI (p / 6)) ∧ mgd (s2 15 i2 2) (nI (p % 6))) r) s2 t2 77 [some (.ref (nm 15 i1)), some (.ref (nm 15 i2)), some (.int (nI A)), some (.long R), none, some (.int (nI n)), some (.long F), none, some (.int (nI p)), some (.int (nI (p / 6))), some (.int (nI (p % 6))), some (.int (nI a))] [] := by
                    intro k3
                    induction k3 with
                    | zero =>
                      intro a F ha hF3
                      refine q_iload dX2_shortestWith_77 rfl ?_
                      refine q_iload_n dX2_shortestWith_79 rfl ?_
                      refine q_icmp_ge 116 dX2_shortestWith_80 (by decide) (fun g3 => ?_) (fun g3 => ?_)
                      · refine nxt F _ _ _ (fun j hj => ?_) (fun q hq hr => ?_)
                        · rw [hF3 j hj]
                          constructor
                          · rintro (c | ⟨q, a', b, c, d, e⟩ | ⟨a', b, c⟩)
                            · exact Or.inl c
                            · exact Or.inr ⟨q, a', by omega, c, d, e⟩
                            · exact Or.inr ⟨p, a', by omega, hrp, by omega, c⟩
                          · rintro (c | ⟨q, a', b, c, d, e⟩)
                            · exact Or.inl c
                            · by_cases eq : q = p
                              · subst eq; exact Or.inr (Or.inr ⟨a', by omega, e⟩)
                              · exact Or.inr (Or.inl ⟨q, a', by omega, c, d, e⟩)
                        · by_cases eq : q = p
                          · subst eq; exact hng
                          · exact hg q (by omega) hr
                      · exact absurd (nI_le (by omega) (by omega)) g3
                    | succ k3 ih3 =>
                      intro a F ha hF3
                      refine q_iload dX2_shortestWith_77 rfl ?_
                      refine q_iload_n dX2_shortestWith_79 rfl ?_
                      refine q_icmp_ge 116 dX2_shortestWith_80 (by decide) (fun g3 => ?_) (fun g3 => ?_)
                      · exact absurd g3 (nI_ge (by omega) (by omega))
                      · have x1 := (m1 (p / 6) a (by omega) (by omega)).1
                        have x2 := (m2 (p % 6) a (by omega) (by omega)).1
                        refine q_lload dX2_shortestWith_83 rfl ?_
                        refine q_lconst (v := 1) dX2_shortestWith_85 rfl ?_
                        refine q_aload_n dX2_shortestWith_86 rfl ?_
                        refine q_iload dX2_shortestWith_87 rfl ?_
                        refine q_iload dX2_shortestWith_89 rfl ?_
                        refine z_callV (c_Machine_next s2 t2 i1 _ _ h1) kV_X2_36 dX2_shortestWith_91 (by first | assumption | decide) (sh_15 _ _ _) rfl rfl rfl (by omega) (Nat.le_of_ble_eq_true rfl) (Nat.le_refl _) (Nat.le_refl _) rfl (fun v s3 t3 h => ?_)
                        obtain ⟨rfl, rfl, rfl⟩ := h
                        dsimp only [Option.toList, List.cons_append, List.nil_append]
                        rw [mnx_MV m1 (by omega) (by omega)]
                        refine q_bipush (v := 6) dX2_shortestWith_94 rfl ?_
                        refine q_imul dX2_shortestWith_96 ?_
                        refine q_aload_n dX2_shortestWith_97 rfl ?_
                        refine q_iload dX2_shortestWith_98 rfl ?_
                        refine q_iload dX2_shortestWith_100 rfl ?_
                        refine z_callV (c_Machine_next s3 t3 i2 _ _ h2) kV_X2_36 dX2_shortestWith_102 (by first | assumption | decide) (sh_15 _ _ _) rfl rfl rfl (by omega) (Nat.le_of_ble_eq_true rfl) (Nat.le_refl _) (Nat.le_refl _) rfl (fun v s4 t4 h => ?_)
                        obtain ⟨rfl, rfl, rfl⟩ := h
                        dsimp only [Option.toList, List.cons_append, List.nil_append]
                        rw [mnx_MV m2 (by omega) (by omega)]
                        have e5 : nI (nx (p / 6) a) * 6 + nI (ny (p % 6) a) = nI (nx2 nx ny p a) := by
                          rw [show nI (nx (p / 6) a) * 6 = nI (nx (p / 6) a * 6) from pk_mul _ 6, nI_add]
                          rfl
                        refine q_iadd dX2_shortestWith_105 ?_
                        rw [e5]
                        have hk : nx2 nx ny p a < 64 := by unfold nx2; omega
                        refine q_lshl dX2_shortestWith_106 ?_
                        refine q_lor dX2_shortestWith_107 ?_
                        refine q_lstore dX2_shortestWith_108 (Nat.le_of_ble_eq_true rfl) rfl ?_
                        dsimp only [List.set]
                        refine q_iinc dX2_shortestWith_110 rfl (Nat.le_of_ble_eq_true rfl) rfl ?_
                        dsimp only [List.set]
                        refine q_goto 77 dX2_shortestWith_113 (by decide) ?_
                        rw [nI_inc]
                        refine ih3 (a + 1) _ (by omega) (fun j hj => ?_)
                        rw [lb_or, lb_one_shl hk hj]
                        simp only [Bool.or_eq_true, decide_eq_true_eq]
                        rw [hF3 j hj]
                        constructor
                        · rintro ((c | c | ⟨a', b, c⟩) | c)
                          · exact Or.inl c
                          · exact Or.inr (Or.inl c)
                          · exact Or.inr (Or.inr ⟨a', by omega, c⟩)
                          · exact Or.inr (Or.inr ⟨a, by omega, c⟩)
                        · rintro (c | c | ⟨a', b, c⟩)
                          · exact Or.inl (Or.inl c)
                          · exact Or.inl (Or.inr (Or.inl c))
                          · by_cases ea : a' = a
                            · subst ea; exact Or.inr c
                            · exact Or.inl (Or.inr (Or.inr ⟨a', by omega, c⟩))
                  refine q_iconst (v := 0) dX2_shortestWith_74 rfl ?_
                  refine q_istore dX2_shortestWith_75 (Nat.le_of_ble_eq_true rfl) rfl ?_
                  dsimp only [List.set]
                  refine letters A 0 F (by omega) (fun j hj => ?_)
                  rw [hF j hj]
                  constructor
                  · rintro (c | c)
                    · exact Or.inl c
                    · exact Or.inr (Or.inl c)
                  · rintro (c | c | ⟨a', b, _⟩)
                    · exact Or.inl c
                    · exact Or.inr c
                    · omega
                refine q_if_eq 74 dX2_shortestWith_59 (by decide) (fun g3 => ?_) (fun g3 => ?_)
                · exact from74 (fun q => bC_z.mp g3 q.1) _
                · refine q_aload_n dX2_shortestWith_62 rfl ?_
                  refine q_iload dX2_shortestWith_63 rfl ?_
                  refine z_callV (c_Machine_isGood s2 t2 i2 (nI (p % 6)) h2) kV_X2_40 dX2_shortestWith_65 (by first | assumption | decide) (sh_15 _ _ _) rfl rfl rfl (by omega) (Nat.le_of_ble_eq_true rfl) (Nat.le_refl _) (Nat.le_refl _) rfl (fun v s3 t3 h => ?_)
                  obtain ⟨rfl, rfl, rfl⟩ := h
                  dsimp only [Option.toList, List.cons_append, List.nil_append]
                  refine q_if_eq 74 dX2_shortestWith_68 (by decide) (fun g4 => ?_) (fun g4 => ?_)
                  · exact from74 (fun q => bC_z.mp g4 q.2) _
                  · refine q_iload dX2_shortestWith_71 rfl ?_
                    exact z_iret dX2_shortestWith_73 rfl ⟨rfl, rfl, _, rfl, Or.inl ⟨n, by omega, rfl, ⟨p, hrp, bC_nz.mp g3, bC_nz.mp g4⟩, hno⟩⟩
              · rw [lcmp0, lb_stest R (by omega)] at g2
                refine q_goto 116 dX2_shortestWith_36 (by decide) ?_
                refine nxt F _ _ _ (fun j hj => ?_) (fun q hq hr => ?_)
                · rw [hF j hj]
                  constructor
                  · rintro (c | ⟨q, a', b, c⟩)
                    · exact Or.inl c
                    · exact Or.inr ⟨q, a', by omega, c⟩
                  · rintro (c | ⟨q, a', b, c, d⟩)
                    · exact Or.inl c
                    · by_cases eq : q = p
                      · subst eq
                        have := (hR q (by omega)).mpr c
                        rw [g2] at this
                        exact absurd this (by decide)
                      · exact Or.inr ⟨q, a', by omega, c, d⟩
                · by_cases eq : q = p
                  · subst eq
                    have := (hR q (by omega)).mpr hr
                    rw [g2] at this
                    exact absurd this (by decide)
                  · exact hg q (by omega) hr
        refine q_lload_n dX2_shortestWith_12 rfl ?_
        refine q_lstore dX2_shortestWith_13 (Nat.le_of_ble_eq_true rfl) rfl ?_
        dsimp only [List.set]
        refine q_iconst (v := 0) dX2_shortestWith_15 rfl ?_
        refine q_istore dX2_shortestWith_16 (Nat.le_of_ble_eq_true rfl) rfl ?_
        dsimp only [List.set]
        refine inner 36 0 R _ _ _ (by omega) (fun j hj => ?_) (fun q hq => absurd hq (by omega))
        rw [hR j hj]
        constructor
        · exact Or.inl
        · rintro (c | ⟨q, a, b, _⟩)
          · exact c
          · omega
  refine q_lconst (v := 1) dX2_shortestWith_0 rfl ?_
  refine s_lstore_n 3 dX2_shortestWith_1 rfl (Nat.le_of_ble_eq_true rfl) rfl ?_
  dsimp only [List.set]
  refine q_iconst (v := 0) dX2_shortestWith_2 rfl ?_
  refine q_istore dX2_shortestWith_3 (Nat.le_of_ble_eq_true rfl) rfl ?_
  dsimp only [List.set]
  refine outer 36 0 1 _ _ _ _ _ (by omega) (fun j hj => ?_) (fun n' hn' => absurd hn' (by omega))
  rw [lb_1]
  simp [rch]
