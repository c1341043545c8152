/-! THE REFERENCE: two machines meet -/
def fstR (nx : Nat → Nat → Nat) (A d p : Nat) : Prop := rch nx A d p ∧ ∀ d', d' < d → ¬ rch nx A d' p
theorem fstR_uni {nx : Nat → Nat → Nat} {A d d' p : Nat} (h : fstR nx A d p) (h' : fstR nx A d' p) : d = d' := by
  rcases Nat.lt_trichotomy d d' with g | g | g
  · exact absurd h.1 (h'.2 d g)
  · exact g
  · exact absurd h'.1 (h.2 d' g)
/-- in round n, when the pairs before s and the letters before x of s are done -/
def farG (nx : Nat → Nat → Nat) (A n s x : Nat) (far : Nat → Int32) : Prop := ∀ p, p < 36 → (∃ d, d ≤ n ∧ far p = nI d ∧ fstR nx A d p) ∨ (far p = nI (n + 1) ∧ fstR nx A (n + 1) p) ∨ (far p = -1 ∧ ¬ rch nx A n p ∧ ∀ q a, fstR nx A n q → a < A → (q < s ∨ (q = s ∧ a < x)) → p ≠ nx q a)
theorem farG_eq {nx : Nat → Nat → Nat} {A n s x p : Nat} {far : Nat → Int32} (hn : n < 36) (h : farG nx A n s x far) (hp : p < 36) : far p = nI n ↔ fstR nx A n p := by
  rcases h p hp with ⟨d, h1, h2, h3⟩ | ⟨h2, h3⟩ | ⟨h2, h3, -⟩
  · rw [h2, nI_eq (by omega) (by omega)]
    exact ⟨fun e => by rw [← e]; exact h3, fun e => fstR_uni h3 e⟩
  · rw [h2, nI_eq (by omega) (by omega)]
    exact ⟨fun e => by omega, fun e => fstR_uni h3 e⟩
  · rw [h2]
    exact ⟨fun e => absurd e.symm (nI_m1 (by omega)), fun e => absurd e.1 h3⟩
theorem farG_skip {nx : Nat → Nat → Nat} {A n s x : Nat} {far : Nat → Int32} (h : farG nx A n s x far) (hs : ¬ fstR nx A n s ∨ A ≤ x) : farG nx A n (s + 1) 0 far := fun p hp => by
  rcases h p hp with h1 | h1 | ⟨h1, h2, h3⟩
  · exact Or.inl h1
  · exact Or.inr (Or.inl h1)
  · refine Or.inr (Or.inr ⟨h1, h2, fun q a hq ha hor => ?_⟩)
    rcases hor with g | ⟨-, g⟩
    · by_cases e : q = s
      · subst e
        rcases hs with z | z
        · exact absurd hq z
        · exact h3 q a hq ha (Or.inr ⟨rfl, by omega⟩)
      · exact h3 q a hq ha (Or.inl (by omega))
    · omega
theorem farG_step {nx : Nat → Nat → Nat} {A n s x : Nat} {far : Nat → Int32} (hn : n < 36) (hx : x < A) (hf : fstR nx A n s) (h : farG nx A n s x far) (hto : nx s x < 36) : (far (nx s x) = -1 → farG nx A n s (x + 1) (fun p => if p = nx s x then nI (n + 1) else far p)) ∧ (¬ far (nx s x) = -1 → farG nx A n s (x + 1) far) := by
  have grow : ∀ q a, (q < s ∨ q = s ∧ a < x + 1) → (q < s ∨ q = s ∧ a < x) ∨ (q = s ∧ a = x) := fun q a h => by omega
  constructor
  · intro e p hp
    dsimp only
    by_cases g : p = nx s x
    · subst g
      rw [if_pos rfl]
      refine Or.inr (Or.inl ⟨rfl, Or.inr ⟨s, x, hf.1, hx, rfl⟩, fun d' hd' z => ?_⟩)
      rcases h _ hp with ⟨d, h1, h2, -⟩ | ⟨h2, h3⟩ | ⟨-, h3, -⟩
      · rw [e] at h2; exact nI_m1 (by omega) h2.symm
      · rw [e] at h2; exact nI_m1 (by omega) h2.symm
      · exact h3 (rch_up (by omega) z)
    · rw [if_neg g]
      rcases h p hp with h1 | h1 | ⟨h1, h2, h3⟩
      · exact Or.inl h1
      · exact Or.inr (Or.inl h1)
      · refine Or.inr (Or.inr ⟨h1, h2, fun q a hq ha hor => ?_⟩)
        rcases grow q a hor with z | ⟨rfl, rfl⟩
        · exact h3 q a hq ha z
        · exact g
  · intro e p hp
    rcases h p hp with h1 | h1 | ⟨h1, h2, h3⟩
    · exact Or.inl h1
    · exact Or.inr (Or.inl h1)
    · refine Or.inr (Or.inr ⟨h1, h2, fun q a hq ha hor => ?_⟩)
      rcases grow q a hor with z | ⟨rfl, rfl⟩
      · exact h3 q a hq ha z
      · intro z; subst z; exact e h1
/-- the round is over -/
theorem farG_end {nx : Nat → Nat → Nat} {A n : Nat} {far : Nat → Int32} (hn : ∀ q a, q < 36 → a < A → nx q a < 36) (h : farG nx A n 36 0 far) : farG nx A (n + 1) 0 0 far := fun p hp => by
  rcases h p hp with ⟨d, h1, h2, h3⟩ | ⟨h2, h3⟩ | ⟨h1, h2, h3⟩
  · exact Or.inl ⟨d, by omega, h2, h3⟩
  · exact Or.inl ⟨n + 1, by omega, h2, h3⟩
  · refine Or.inr (Or.inr ⟨h1, ?_, fun q a _ _ hor => by omega⟩)
    rintro (z | ⟨q, a, hq, ha, e⟩)
    · exact h2 z
    · have q36 := rch_lt hn n q hq
      by_cases g : fstR nx A n q
      · exact h3 q a g ha (Or.inl q36) e
      · have : ∃ d', d' < n ∧ rch nx A d' q := by
          by_cases z : ∃ d', d' < n ∧ rch nx A d' q
          · exact z
          · exact absurd ⟨hq, fun d' hd' y => z ⟨d', hd', y⟩⟩ g
        obtain ⟨d', hd', hr⟩ := this
        exact h2 (rch_up (show d' + 1 ≤ n by omega) (Or.inr ⟨q, a, hr, ha, e⟩))
set_option maxRecDepth 100000 in
set_option maxHeartbeats 16000000 in
theorem j_meet (sg : zI) (ta : zJ) (A nT : Nat) (mo : Nat → Nat) (nt nc nf : Nat) (x y : Int32) (hM : MoOk sg A nT mo nt nc nf) : zP yX8_meet mX8_meet 1 [.ref (nm 20 0), .int x, .int y] sg ta (fun v s t => t = ta ∧ frm [(43, 0)] sg s ∧ (¬ (tk nc x ∧ tk nc y) → v = some (.int (-2))) ∧ ∀ i1 i2, i1 < nc → i2 < nc → x = nI i1 → y = nI i2 → ∃ r, v = some (.int r) ∧ meetM sg A i1 i2 r) := by
  have hA := hM.1.1
  have hC := hM.2.2.1
  have hnc := hC.1
  refine zP_of (lv := [some (.ref (nm 20 0)), some (.int x), some (.int y), none, none, none, none]) (by decide +kernel) rfl (fun h => by cases h) rfl (Nat.le_of_ble_eq_true rfl) ?_
  have no : ¬ (tk nc x ∧ tk nc y) → Zq mX8_meet 1 (fun v s t => t = ta ∧ frm [(43, 0)] sg s ∧ (¬ (tk nc x ∧ tk nc y) → v = some (.int (-2))) ∧ ∀ i1 i2, i1 < nc → i2 < nc → x = nI i1 → y = nI i2 → ∃ r, v = some (.int r) ∧ meetM sg A i1 i2 r) sg ta 28 [some (.ref (nm 20 0)), some (.int x), some (.int y), none, none, none, none] [] := by
    intro hno
    refine q_bipush (v := (-2)) dX8_meet_28 rfl ?_
    exact z_iret dX8_meet_30 rfl ⟨rfl, frm_refl _ _, fun _ => rfl, fun i1 i2 a b c d => absurd ⟨⟨i1, a, c⟩, ⟨i2, b, d⟩⟩ hno⟩
  refine q_iload_n dX8_meet_0 rfl ?_
  refine q_iconst (v := 0) dX8_meet_1 rfl ?_
  refine q_aload_n dX8_meet_2 rfl ?_
  refine z_get 7 dX8_meet_3 (by first | assumption | decide) (sh_20 _ _ _) rfl (by decide) fl_X8_107 rfl ?_
  refine q_iconst (v := 1) dX8_meet_6 rfl ?_
  refine q_isub dX8_meet_7 ?_
  rw [hC.2.1]
  refine z_callS (j_in sg ta x 0 _) kS_X8_94 dX8_meet_8 rfl (by omega) (Nat.le_of_ble_eq_true rfl) (Nat.le_refl _) (Nat.le_refl _) rfl (fun v s1 t1 h => ?_)
  obtain ⟨rfl, rfl, rfl⟩ := h
  dsimp only [Option.toList, List.cons_append, List.nil_append]
  refine q_if_eq 28 dX8_meet_11 (by decide) (fun h => ?_) (fun h => ?_)
  · exact no (fun k => bC_z.mp h ((tk_in (by omega) x).mp k.1))
  · obtain ⟨i1, hi1, rfl⟩ := (tk_in (n := nc) (by omega) x).mpr (bC_nz.mp h)
    refine q_iload_n dX8_meet_14 rfl ?_
    refine q_iconst (v := 0) dX8_meet_15 rfl ?_
    refine q_aload_n dX8_meet_16 rfl ?_
    refine z_get 7 dX8_meet_17 (by first | assumption | decide) (sh_20 _ _ _) rfl (by decide) fl_X8_107 rfl ?_
    refine q_iconst (v := 1) dX8_meet_20 rfl ?_
    refine q_isub dX8_meet_21 ?_
    rw [hC.2.1]
    refine z_callS (j_in s1 t1 y 0 _) kS_X8_94 dX8_meet_22 rfl (by omega) (Nat.le_of_ble_eq_true rfl) (Nat.le_refl _) (Nat.le_refl _) rfl (fun v s2 t2 h => ?_)
    obtain ⟨rfl, rfl, rfl⟩ := h
    dsimp only [Option.toList, List.cons_append, List.nil_append]
    refine q_if_ne 31 dX8_meet_25 (by decide) (fun h2 => ?_) (fun h2 => ?_)
    · obtain ⟨i2, hi2, rfl⟩ := (tk_in (n := nc) (by omega) y).mpr (bC_nz.mp h2)
      have n1 : ∀ s a, s < 6 → a < 3 → nxM s2 i1 s a < 6 ∧ s2 25 0 (18 * i1 + 3 * s + a) = nI (nxM s2 i1 s a) := fun s a hs ha => by
        obtain ⟨r, hr, e⟩ := (hC.2.2 i1 hi1).2.1 s a hs ha
        unfold nxM; rw [e, nI_clamp (by omega)]; exact ⟨hr, rfl⟩
      have n2 : ∀ s a, s < 6 → a < 3 → nxM s2 i2 s a < 6 ∧ s2 25 0 (18 * i2 + 3 * s + a) = nI (nxM s2 i2 s a) := fun s a hs ha => by
        obtain ⟨r, hr, e⟩ := (hC.2.2 i2 hi2).2.1 s a hs ha
        unfold nxM; rw [e, nI_clamp (by omega)]; exact ⟨hr, rfl⟩
      have hn36 := nx2_36 (nx := nxM s2 i1) (ny := nxM s2 i2) (A := A) (by omega) (fun s a hs ha => (n1 s a hs ha).1) (fun s a hs ha => (n2 s a hs ha).1)
      have g1 : ∀ s, s < 6 → s2 26 0 (6 * i1 + s) = 0 ∨ s2 26 0 (6 * i1 + s) = 1 := (hC.2.2 i1 hi1).2.2
      have g2 : ∀ s, s < 6 → s2 26 0 (6 * i2 + s) = 0 ∨ s2 26 0 (6 * i2 + s) = 1 := (hC.2.2 i2 hi2).2.2
      have d6 : ∀ s : Nat, s < 36 → nI s / 6 = nI (s / 6) := fun s hs => pk_div (d := 6) (by omega) (by omega) (by omega)
      have m6 : ∀ s : Nat, s < 36 → nI s - nI s / 6 * 6 = nI (s % 6) := fun s hs => pk_rem (d := 6) (by omega) (by omega) (by omega)
      -- an answer
      have ans : ∀ r, meetM s2 A i1 i2 r → ∀ s, frm [(43, 0)] s2 s → (t2 = t2 ∧ frm [(43, 0)] s2 s ∧ (¬ (tk nc (nI i1) ∧ tk nc (nI i2)) → some (Value.int r) = some (.int (-2))) ∧ ∀ j1 j2, j1 < nc → j2 < nc → nI i1 = nI j1 → nI i2 = nI j2 → ∃ r', some (Value.int r) = some (.int r') ∧ meetM s2 A j1 j2 r') := fun r hr s hs => ⟨rfl, hs, fun q => absurd ⟨⟨i1, hi1, rfl⟩, ⟨i2, hi2, rfl⟩⟩ q, fun j1 j2 a b c d => by
        rw [← (nI_eq (by omega) (by omega)).mp c, ← (nI_eq (by omega) (by omega)).mp d]
        exact ⟨r, rfl, hr⟩⟩
      -- the rounds
      have rounds : ∀ (k n : Nat) (s : zI) (z4 z5 z6 : Option Value), n + k = 36 → frm [(43, 0)] s2 s → farG (nx2 (nxM s2 i1) (nxM s2 i2)) A n 0 0 (s 43 0) → (∀ n', n' < n → ∀ p, rch (nx2 (nxM s2 i1) (nxM s2 i2)) A n' p → ¬ (s2 26 0 (6 * i1 + p / 6) = 1 ∧ s2 26 0 (6 * i2 + p % 6) = 1)) → Zq mX8_meet 1 (fun v s t => t = t2 ∧ frm [(43, 0)] s2 s ∧ (¬ (tk nc (nI i1) ∧ tk nc (nI i2)) → v = some (.int (-2))) ∧ ∀ j1 j2, j1 < nc → j2 < nc → nI i1 = nI j1 → nI i2 = nI j2 → ∃ r, v = some (.int r) ∧ meetM s2 A j1 j2 r) s t2 61 [some (.ref (nm 20 0)), some (.int (nI i1)), some (.int (nI i2)), some (.int (nI n)), z4, z5, z6] [] := by
        intro k
        induction k with
        | zero =>
          intro n s z4 z5 z6 hn hs hF hNG
          refine q_iload_n dX8_meet_61 rfl ?_
          refine q_bipush (v := 36) dX8_meet_62 rfl ?_
          refine q_icmp_ge 233 dX8_meet_64 (by decide) (fun g => ?_) (fun g => ?_)
          · refine q_iconst (v := (-1)) dX8_meet_233 rfl ?_
            exact z_iret dX8_meet_234 rfl (ans _ (Or.inr ⟨rfl, fun n' hn' => hNG n' (by omega)⟩) s hs)
          · exact absurd (nI_le (a := 36) (by omega) (by omega)) g
        | succ k ih =>
          intro n s z4 z5 z6 hn hs hF hNG
          have n36 : n < 36 := by omega
          -- the pairs of the round
          have pairs : ∀ (k2 q : Nat) (s : zI) (z5 z6 : Option Value), q + k2 = 36 → frm [(43, 0)] s2 s → farG (nx2 (nxM s2 i1) (nxM s2 i2)) A n q 0 (s 43 0) → (∀ p, p < q → fstR (nx2 (nxM s2 i1) (nxM s2 i2)) A n p → ¬ (s2 26 0 (6 * i1 + p / 6) = 1 ∧ s2 26 0 (6 * i2 + p % 6) = 1)) → Zq mX8_meet 1 (fun v s t => t = t2 ∧ frm [(43, 0)] s2 s ∧ (¬ (tk nc (nI i1) ∧ tk nc (nI i2)) → v = some (.int (-2))) ∧ ∀ j1 j2, j1 < nc → j2 < nc → nI i1 = nI j1 → nI i2 = nI j2 → ∃ r, v = some (.int r) ∧ meetM s2 A j1 j2 r) s t2 70 [some (.ref (nm 20 0)), some (.int (nI i1)), some (.int (nI i2)), some (.int (nI n)), some (.int (nI q)), z5, z6] [] := by
            intro k2
            induction k2 with
            | zero =>
              intro q s z5 z6 hq hs hF hng
              have : q = 36 := by omega
              subst this
              refine q_iload dX8_meet_70 rfl ?_
              refine q_bipush (v := 36) dX8_meet_72 rfl ?_
              refine q_icmp_ge 227 dX8_meet_74 (by decide) (fun g => ?_) (fun g => ?_)
              · refine q_iinc dX8_meet_227 rfl (Nat.le_of_ble_eq_true rfl) rfl ?_
                dsimp only [List.set]
                refine q_goto 61 dX8_meet_230 (by decide) ?_
                rw [nI_inc]
                refine ih (n + 1) s _ _ _ (by omega) hs (farG_end hn36 hF) (fun n' hn' p hp => ?_)
                by_cases e : n' < n
                · exact hNG n' e p hp
                · have e2 : n' = n := by omega
                  subst e2
                  have p36 := rch_lt hn36 n' p hp
                  rcases hF p p36 with ⟨d, h1, -, h3⟩ | ⟨-, h3⟩ | ⟨-, h3, -⟩
                  · by_cases e3 : d < n'
                    · exact hNG d e3 p h3.1
                    · rw [show d = n' by omega] at h3; exact hng p p36 h3
                  · exact absurd hp (h3.2 n' (by omega))
                  · exact absurd hp h3
              · exact absurd (nI_le (a := 36) (by omega) (by omega)) g
            | succ k2 ih2 =>
              intro q s z5 z6 hq hs hF hng
              have q36 : q < 36 := by omega
              have r : ∀ K, K ≠ 43 → ∀ i, s K i = s2 K i := fun K a i => hs K i (by simp; omega)
              refine q_iload dX8_meet_70 rfl ?_
              refine q_bipush (v := 36) dX8_meet_72 rfl ?_
              refine q_icmp_ge 227 dX8_meet_74 (by decide) (fun g => ?_) (fun g => ?_)
              · exact absurd g (nI_ge (b := 36) (by omega) (by omega))
              · refine q_aload_n dX8_meet_77 rfl ?_
                refine z_get 31 dX8_meet_78 (by first | assumption | decide) (sh_20 _ _ _) rfl (by decide) fl_X8_84 rfl ?_
                refine q_iload dX8_meet_81 rfl ?_
                refine z_iald dX8_meet_83 (by first | assumption | decide) rfl (vp_in_nI (n := q) q36 (by omega)) ?_
                refine q_iload_n dX8_meet_84 rfl ?_
                rw [nI_clamp (by omega)]
                refine q_icmp_ne 221 dX8_meet_85 (by decide) (fun gq => ?_) (fun gq => ?_)
                · have hno : ¬ fstR (nx2 (nxM s2 i1) (nxM s2 i2)) A n q := fun z => gq ((farG_eq n36 hF q36).mpr z)
                  refine q_iinc dX8_meet_221 rfl (Nat.le_of_ble_eq_true rfl) rfl ?_
                  dsimp only [List.set]
                  refine q_goto 70 dX8_meet_224 (by decide) ?_
                  rw [nI_inc]
                  refine ih2 (q + 1) s _ _ (by omega) hs (farG_skip hF (Or.inl hno)) (fun p hp hfp => ?_)
                  by_cases e : p = q
                  · subst e; exact absurd hfp hno
                  · exact hng p (by omega) hfp
                · have hfq := (farG_eq n36 hF q36).mp gq
                  -- the letters of the pair
                  have letters : (¬ (s2 26 0 (6 * i1 + q / 6) = 1 ∧ s2 26 0 (6 * i2 + q % 6) = 1)) → ∀ (k3 x : Nat) (s : zI) (z6 : Option Value), x + k3 = A → frm [(43, 0)] s2 s → farG (nx2 (nxM s2 i1) (nxM s2 i2)) A n q x (s 43 0) → Zq mX8_meet 1 (fun v s t => t = t2 ∧ frm [(43, 0)] s2 s ∧ (¬ (tk nc (nI i1) ∧ tk nc (nI i2)) → v = some (.int (-2))) ∧ ∀ j1 j2, j1 < nc → j2 < nc → nI i1 = nI j1 → nI i2 = nI j2 → ∃ r, v = some (.int r) ∧ meetM s2 A j1 j2 r) s t2 129 [some (.ref (nm 20 0)), some (.int (nI i1)), some (.int (nI i2)), some (.int (nI n)), some (.int (nI q)), some (.int (nI x)), z6] [] := by
                    intro hgd k3
                    induction k3 with
                    | zero =>
                      intro x s z6 hx hs hF
                      refine q_iload dX8_meet_129 rfl ?_
                      refine q_aload_n dX8_meet_131 rfl ?_
                      refine z_get 0 dX8_meet_132 (by first | assumption | decide) (sh_20 _ _ _) rfl (by decide) fl_X8_7 rfl ?_
                      rw [hs 20 0 (by simp), hM.1.2.2.2.2.1]
                      refine q_icmp_ge 221 dX8_meet_135 (by decide) (fun g => ?_) (fun g => ?_)
                      · refine q_iinc dX8_meet_221 rfl (Nat.le_of_ble_eq_true rfl) rfl ?_
                        dsimp only [List.set]
                        refine q_goto 70 dX8_meet_224 (by decide) ?_
                        rw [nI_inc]
                        refine ih2 (q + 1) s _ _ (by omega) hs (farG_skip hF (Or.inr (by omega))) (fun p hp hfp => ?_)
                        by_cases e : p = q
                        · subst e; exact hgd
                        · exact hng p (by omega) hfp
                      · exact absurd (nI_le (by omega) (by omega)) g
                    | succ k3 ih3 =>
                      intro x s z6 hx hs hF
                      have x3 : x < 3 := by omega
                      obtain ⟨l1, e1⟩ := n1 (q / 6) x (by omega) x3
                      obtain ⟨l2, e2⟩ := n2 (q % 6) x (by omega) x3
                      refine q_iload dX8_meet_129 rfl ?_
                      refine q_aload_n dX8_meet_131 rfl ?_
                      refine z_get 0 dX8_meet_132 (by first | assumption | decide) (sh_20 _ _ _) rfl (by decide) fl_X8_7 rfl ?_
                      rw [hs 20 0 (by simp), hM.1.2.2.2.2.1]
                      refine q_icmp_ge 221 dX8_meet_135 (by decide) (fun g => ?_) (fun g => ?_)
                      · exact absurd g (nI_ge (by omega) (by omega))
                      · refine q_bipush (v := 6) dX8_meet_138 rfl ?_
                        refine q_aload_n dX8_meet_140 rfl ?_
                        refine z_get 9 dX8_meet_141 (by first | assumption | decide) (sh_20 _ _ _) rfl (by decide) fl_X8_29 rfl ?_
                        refine q_bipush (v := 18) dX8_meet_144 rfl ?_
                        refine q_iload_n dX8_meet_146 rfl ?_
                        refine q_imul dX8_meet_147 ?_
                        refine q_iconst (v := 3) dX8_meet_148 rfl ?_
                        refine q_iload dX8_meet_149 rfl ?_
                        refine q_bipush (v := 6) dX8_meet_151 rfl ?_
                        refine q_idiv dX8_meet_153 (by decide) ?_
                        rw [d6 q q36]
                        refine q_imul dX8_meet_154 ?_
                        refine q_iadd dX8_meet_155 ?_
                        refine q_iload dX8_meet_156 rfl ?_
                        refine q_iadd dX8_meet_158 ?_
                        rw [show (18 : Int32) * nI i1 = nI (18 * i1) from pk_mul 18 i1, show (3 : Int32) * nI (q / 6) = nI (3 * (q / 6)) from pk_mul 3 _, nI_add, nI_add]
                        refine z_iald dX8_meet_159 (by first | assumption | decide) rfl (vp_in_nI (n := 18 * i1 + 3 * (q / 6) + x) (by omega) (by omega)) ?_
                        rw [nI_clamp (by omega), hs 25 0 (by simp), e1]
                        refine q_imul dX8_meet_160 ?_
                        refine q_aload_n dX8_meet_161 rfl ?_
                        refine z_get 9 dX8_meet_162 (by first | assumption | decide) (sh_20 _ _ _) rfl (by decide) fl_X8_29 rfl ?_
                        refine q_bipush (v := 18) dX8_meet_165 rfl ?_
                        refine q_iload_n dX8_meet_167 rfl ?_
                        refine q_imul dX8_meet_168 ?_
                        refine q_iconst (v := 3) dX8_meet_169 rfl ?_
                        refine q_iload dX8_meet_170 rfl ?_
                        refine q_bipush (v := 6) dX8_meet_172 rfl ?_
                        refine q_irem dX8_meet_174 (by decide) ?_
                        rw [m6 q q36]
                        refine q_imul dX8_meet_175 ?_
                        refine q_iadd dX8_meet_176 ?_
                        refine q_iload dX8_meet_177 rfl ?_
                        refine q_iadd dX8_meet_179 ?_
                        rw [show (18 : Int32) * nI i2 = nI (18 * i2) from pk_mul 18 i2, show (3 : Int32) * nI (q % 6) = nI (3 * (q % 6)) from pk_mul 3 _, nI_add, nI_add]
                        refine z_iald dX8_meet_180 (by first | assumption | decide) rfl (vp_in_nI (n := 18 * i2 + 3 * (q % 6) + x) (by omega) (by omega)) ?_
                        rw [nI_clamp (by omega), hs 25 0 (by simp), e2, show (6 : Int32) * nI (nxM s2 i1 (q / 6) x) = nI (6 * nxM s2 i1 (q / 6) x) from pk_mul 6 _]
                        refine q_iadd dX8_meet_181 ?_
                        rw [nI_add]
                        have eto : 6 * nxM s2 i1 (q / 6) x + nxM s2 i2 (q % 6) x = nx2 (nxM s2 i1) (nxM s2 i2) q x := by unfold nx2; rw [Nat.mul_comm]
                        rw [eto]
                        have t36 := hn36 q x q36 (by omega)
                        have hst := farG_step n36 (by omega) hfq hF t36
                        refine q_istore dX8_meet_182 (Nat.le_of_ble_eq_true rfl) rfl ?_
                        dsimp only [List.set]
                        refine q_aload_n dX8_meet_184 rfl ?_
                        refine z_get 31 dX8_meet_185 (by first | assumption | decide) (sh_20 _ _ _) rfl (by decide) fl_X8_84 rfl ?_
                        refine q_iload dX8_meet_188 rfl ?_
                        refine q_aload_n dX8_meet_190 rfl ?_
                        refine z_get 31 dX8_meet_191 (by first | assumption | decide) (sh_20 _ _ _) rfl (by decide) fl_X8_84 rfl ?_
                        refine q_iload dX8_meet_194 rfl ?_
                        refine z_iald dX8_meet_196 (by first | assumption | decide) rfl (vp_in_nI (n := nx2 (nxM s2 i1) (nxM s2 i2) q x) t36 (by omega)) ?_
                        refine q_iconst (v := (-1)) dX8_meet_197 rfl ?_
                        rw [nI_clamp (by omega)]
                        refine q_icmp_ne 207 dX8_meet_198 (by decide) (fun gf => ?_) (fun gf => ?_)
                        · refine q_aload_n dX8_meet_207 rfl ?_
                          refine z_get 31 dX8_meet_208 (by first | assumption | decide) (sh_20 _ _ _) rfl (by decide) fl_X8_84 rfl ?_
                          refine q_iload dX8_meet_211 rfl ?_
                          refine z_iald dX8_meet_213 (by first | assumption | decide) rfl (vp_in_nI (n := nx2 (nxM s2 i1) (nxM s2 i2) q x) t36 (by omega)) ?_
                          rw [nI_clamp (by omega)]
                          refine z_iast dX8_meet_214 (by first | assumption | decide) (fun _ _ => rfl) (vp_in_nI (n := nx2 (nxM s2 i1) (nxM s2 i2) q x) t36 (by omega)) ?_
                          refine q_iinc dX8_meet_215 rfl (Nat.le_of_ble_eq_true rfl) rfl ?_
                          dsimp only [List.set]
                          refine q_goto 129 dX8_meet_218 (by decide) ?_
                          rw [nI_clamp (by omega), nI_inc]
                          refine ih3 (x + 1) _ _ (by omega) (frm_up3 (by simp) hs) ?_
                          have ef : (up3 s 43 0 (nx2 (nxM s2 i1) (nxM s2 i2) q x) (s 43 0 (nx2 (nxM s2 i1) (nxM s2 i2) q x))) 43 0 = s 43 0 := by
                            funext p
                            rw [up3_get]
                            by_cases e : p = nx2 (nxM s2 i1) (nxM s2 i2) q x
                            · rw [if_pos ⟨rfl, rfl, e⟩, e]
                            · rw [if_neg (fun z => e z.2.2)]
                          rw [ef]
                          exact hst.2 gf
                        · refine q_iload_n dX8_meet_201 rfl ?_
                          refine q_iconst (v := 1) dX8_meet_202 rfl ?_
                          refine q_iadd dX8_meet_203 ?_
                          rw [nI_1]
                          refine q_goto 214 dX8_meet_204 (by decide) ?_
                          refine z_iast dX8_meet_214 (by first | assumption | decide) (fun _ _ => rfl) (vp_in_nI (n := nx2 (nxM s2 i1) (nxM s2 i2) q x) t36 (by omega)) ?_
                          refine q_iinc dX8_meet_215 rfl (Nat.le_of_ble_eq_true rfl) rfl ?_
                          dsimp only [List.set]
                          refine q_goto 129 dX8_meet_218 (by decide) ?_
                          rw [nI_clamp (by omega), nI_inc]
                          refine ih3 (x + 1) _ _ (by omega) (frm_up3 (by simp) hs) ?_
                          have ef : (up3 s 43 0 (nx2 (nxM s2 i1) (nxM s2 i2) q x) (nI (n + 1))) 43 0 = (fun p => if p = nx2 (nxM s2 i1) (nxM s2 i2) q x then nI (n + 1) else s 43 0 p) := by
                            funext p
                            rw [up3_get]
                            by_cases e : p = nx2 (nxM s2 i1) (nxM s2 i2) q x
                            · rw [if_pos ⟨rfl, rfl, e⟩, if_pos e]
                            · rw [if_neg (fun z => e z.2.2), if_neg e]
                          rw [ef]
                          exact hst.1 gf
                  have lets : (¬ (s2 26 0 (6 * i1 + q / 6) = 1 ∧ s2 26 0 (6 * i2 + q % 6) = 1)) → Zq mX8_meet 1 (fun v s t => t = t2 ∧ frm [(43, 0)] s2 s ∧ (¬ (tk nc (nI i1) ∧ tk nc (nI i2)) → v = some (.int (-2))) ∧ ∀ j1 j2, j1 < nc → j2 < nc → nI i1 = nI j1 → nI i2 = nI j2 → ∃ r, v = some (.int r) ∧ meetM s2 A j1 j2 r) s t2 126 [some (.ref (nm 20 0)), some (.int (nI i1)), some (.int (nI i2)), some (.int (nI n)), some (.int (nI q)), z5, z6] [] := by
                    intro hgd
                    refine q_iconst (v := 0) dX8_meet_126 rfl ?_
                    refine q_istore dX8_meet_127 (Nat.le_of_ble_eq_true rfl) rfl ?_
                    dsimp only [List.set]
                    exact letters hgd A 0 s _ (by omega) hs hF
                  refine q_aload_n dX8_meet_88 rfl ?_
                  refine z_get 10 dX8_meet_89 (by first | assumption | decide) (sh_20 _ _ _) rfl (by decide) fl_X8_32 rfl ?_
                  refine q_bipush (v := 6) dX8_meet_92 rfl ?_
                  refine q_iload_n dX8_meet_94 rfl ?_
                  refine q_imul dX8_meet_95 ?_
                  refine q_iload dX8_meet_96 rfl ?_
                  refine q_bipush (v := 6) dX8_meet_98 rfl ?_
                  refine q_idiv dX8_meet_100 (by decide) ?_
                  rw [d6 q q36, show (6 : Int32) * nI i1 = nI (6 * i1) from pk_mul 6 i1]
                  refine q_iadd dX8_meet_101 ?_
                  rw [nI_add]
                  refine z_zald dX8_meet_102 (by first | assumption | decide) rfl (vp_in_nI (n := 6 * i1 + q / 6) (by omega) (by omega)) ?_
                  rw [nI_clamp (by omega), hs 26 0 (by simp)]
                  refine q_if_eq 126 dX8_meet_103 (by decide) (fun b1 => ?_) (fun b1 => ?_)
                  · exact lets (fun z => by rw [b1] at z; exact absurd z.1 (by decide))
                  · have c1 := b01 (g1 (q / 6) (by omega)) b1
                    refine q_aload_n dX8_meet_106 rfl ?_
                    refine z_get 10 dX8_meet_107 (by first | assumption | decide) (sh_20 _ _ _) rfl (by decide) fl_X8_32 rfl ?_
                    refine q_bipush (v := 6) dX8_meet_110 rfl ?_
                    refine q_iload_n dX8_meet_112 rfl ?_
                    refine q_imul dX8_meet_113 ?_
                    refine q_iload dX8_meet_114 rfl ?_
                    refine q_bipush (v := 6) dX8_meet_116 rfl ?_
                    refine q_irem dX8_meet_118 (by decide) ?_
                    rw [m6 q q36, show (6 : Int32) * nI i2 = nI (6 * i2) from pk_mul 6 i2]
                    refine q_iadd dX8_meet_119 ?_
                    rw [nI_add]
                    refine z_zald dX8_meet_120 (by first | assumption | decide) rfl (vp_in_nI (n := 6 * i2 + q % 6) (by omega) (by omega)) ?_
                    rw [nI_clamp (by omega), hs 26 0 (by simp)]
                    refine q_if_eq 126 dX8_meet_121 (by decide) (fun b2 => ?_) (fun b2 => ?_)
                    · exact lets (fun z => by rw [b2] at z; exact absurd z.2 (by decide))
                    · have c2 := b01 (g2 (q % 6) (by omega)) b2
                      refine q_iload_n dX8_meet_124 rfl ?_
                      exact z_iret dX8_meet_125 rfl (ans _ (Or.inl ⟨n, n36, rfl, ⟨q, hfq.1, c1, c2⟩, hNG⟩) s hs)
          refine q_iload_n dX8_meet_61 rfl ?_
          refine q_bipush (v := 36) dX8_meet_62 rfl ?_
          refine q_icmp_ge 233 dX8_meet_64 (by decide) (fun g => ?_) (fun g => ?_)
          · exact absurd g (nI_ge (b := 36) (by omega) (by omega))
          · refine q_iconst (v := 0) dX8_meet_67 rfl ?_
            refine q_istore dX8_meet_68 (Nat.le_of_ble_eq_true rfl) rfl ?_
            dsimp only [List.set]
            exact pairs 36 0 s _ _ (by omega) hs hF (fun p hp => absurd hp (by omega))
      -- all are far
      have fill : ∀ (k j : Nat) (s : zI), j + k = 36 → frm [(43, 0)] s2 s → (∀ q, q < j → s 43 0 q = -1) → Zq mX8_meet 1 (fun v s t => t = t2 ∧ frm [(43, 0)] s2 s ∧ (¬ (tk nc (nI i1) ∧ tk nc (nI i2)) → v = some (.int (-2))) ∧ ∀ j1 j2, j1 < nc → j2 < nc → nI i1 = nI j1 → nI i2 = nI j2 → ∃ r, v = some (.int r) ∧ meetM s2 A j1 j2 r) s t2 33 [some (.ref (nm 20 0)), some (.int (nI i1)), some (.int (nI i2)), some (.int (nI j)), none, none, none] [] := by
        intro k
        induction k with
        | zero =>
          intro j s hj hs h1
          have : j = 36 := by omega
          subst this
          refine q_iload_n dX8_meet_33 rfl ?_
          refine q_bipush (v := 36) dX8_meet_34 rfl ?_
          refine q_icmp_ge 52 dX8_meet_36 (by decide) (fun g => ?_) (fun g => ?_)
          · refine q_aload_n dX8_meet_52 rfl ?_
            refine z_get 31 dX8_meet_53 (by first | assumption | decide) (sh_20 _ _ _) rfl (by decide) fl_X8_84 rfl ?_
            refine q_iconst (v := 0) dX8_meet_56 rfl ?_
            refine q_iconst (v := 0) dX8_meet_57 rfl ?_
            refine z_iast dX8_meet_58 (by first | assumption | decide) (fun _ _ => rfl) (vp_in_nI (n := 0) (by omega) (by omega)) ?_
            refine q_iconst (v := 0) dX8_meet_59 rfl ?_
            refine s_istore_n 3 dX8_meet_60 rfl (Nat.le_of_ble_eq_true rfl) rfl ?_
            dsimp only [List.set]
            rw [show Int32.toNatClampNeg 0 = 0 from rfl]
            refine rounds 36 0 _ none none none (by omega) (frm_up3 (by simp) hs) (fun p hp => ?_) (fun n' hn' => absurd hn' (by omega))
            rw [up3_get]
            by_cases e : p = 0
            · subst e
              rw [if_pos ⟨rfl, rfl, rfl⟩]
              exact Or.inl ⟨0, by omega, rfl, rfl, fun d' hd' => absurd hd' (by omega)⟩
            · rw [if_neg (by omega), h1 p hp]
              exact Or.inr (Or.inr ⟨rfl, e, fun q a _ _ hor => absurd hor (by omega)⟩)
          · exact absurd (nI_le (a := 36) (by omega) (by omega)) g
        | succ k ih =>
          intro j s hj hs h1
          refine q_iload_n dX8_meet_33 rfl ?_
          refine q_bipush (v := 36) dX8_meet_34 rfl ?_
          refine q_icmp_ge 52 dX8_meet_36 (by decide) (fun g => ?_) (fun g => ?_)
          · exact absurd g (nI_ge (b := 36) (by omega) (by omega))
          · refine q_aload_n dX8_meet_39 rfl ?_
            refine z_get 31 dX8_meet_40 (by first | assumption | decide) (sh_20 _ _ _) rfl (by decide) fl_X8_84 rfl ?_
            refine q_iload_n dX8_meet_43 rfl ?_
            refine q_iconst (v := (-1)) dX8_meet_44 rfl ?_
            refine z_iast dX8_meet_45 (by first | assumption | decide) (fun _ _ => rfl) (vp_in_nI (n := j) (by omega) (by omega)) ?_
            refine q_iinc dX8_meet_46 rfl (Nat.le_of_ble_eq_true rfl) rfl ?_
            dsimp only [List.set]
            refine q_goto 33 dX8_meet_49 (by decide) ?_
            rw [nI_clamp (by omega), nI_inc]
            refine ih (j + 1) _ (by omega) (frm_up3 (by simp) hs) (fun q hq => ?_)
            rw [up3_get]
            by_cases e : q = j
            · rw [if_pos ⟨rfl, rfl, e⟩]
            · rw [if_neg (by omega)]; exact h1 q (by omega)
      refine q_iconst (v := 0) dX8_meet_31 rfl ?_
      refine s_istore_n 3 dX8_meet_32 rfl (Nat.le_of_ble_eq_true rfl) rfl ?_
      dsimp only [List.set]
      exact fill 36 0 s2 (by omega) (frm_refl _ _) (fun q hq => absurd hq (by omega))
    · exact no (fun k => bC_z.mp h2 ((tk_in (by omega) y).mp k.2))
