theorem nm11 {i : Nat} (h : i < 12) : nm 11 i = 26 + 2 * i := by show (if i = 12 then 16 else 26 + 2 * i) = _; rw [if_neg (by omega)]
theorem nm12 {i : Nat} (h : i < 12) : nm 12 i = 27 + 2 * i := by show (if i = 12 then 17 else 27 + 2 * i) = _; rw [if_neg (by omega)]
theorem cE_11 {i : Nat} (h : i < 12) : cE (26 + 2 * i) = .inr (5, [.ref (27 + 2 * i), .int 0]) := by
  rw [← nm11 h, cE_nm (K := 11) (show i < 13 by omega), sh_11, nm12 h]; rfl
theorem cE_12 {i : Nat} (h : i < 12) : cE (27 + 2 * i) = .inl (0, 6, .inl (fun _ => 0)) := by
  rw [← nm12 h, cE_nm (K := 12) (show i < 13 by omega), sh_12]; rfl
theorem cE_15 {i : Nat} (h : i < 3) : cE (50 + 2 * i) = .inr (2, [.ref (51 + 2 * i), .int 1, .int 0]) := by
  have := cE_nm (K := 15) (i := i) h
  rw [sh_15] at this
  exact this
theorem cE_16 {i : Nat} (h : i < 3) : cE (51 + 2 * i) = .inl (0, 18, .inl (fun _ => 0)) := by
  have := cE_nm (K := 16) (i := i) h
  rw [sh_16] at this
  exact this
theorem cE_17 {i : Nat} (h : i < 10) : cE (56 + 3 * i) = .inr (0, [.ref (57 + 3 * i), .ref (58 + 3 * i), .int 0, .int 0, .int 0, .int 0, .int 0, .int 0, .int 0]) := by
  have := cE_nm (K := 17) (i := i) h
  rw [sh_17] at this
  exact this
theorem cE_18 {i : Nat} (h : i < 10) : cE (57 + 3 * i) = .inl (1, 125, .inr (.inl (fun _ => 0))) := by
  have := cE_nm (K := 18) (i := i) h
  rw [sh_18] at this
  exact this
theorem cE_19 {i : Nat} (h : i < 10) : cE (58 + 3 * i) = .inl (1, 125, .inr (.inl (fun _ => 0))) := by
  have := cE_nm (K := 19) (i := i) h
  rw [sh_19] at this
  exact this
theorem vuo_e {f : Nat → Option Nat} {k : Nat} {x : Option Nat} : va_up f k x k = x := if_pos rfl
theorem vuo_n {f : Nat → Option Nat} {k j : Nat} {x : Option Nat} (h : j ≠ k) : va_up f k x j = f j := if_neg h
def arrF (t n : Nat) (f : Nat → Option Nat) : zE := .inl (t, n, .inr (.inr (.inr (.inr f))))
theorem arrF_up {f : Nat → Option Nat} {i n a b : Nat} (h : ∀ j, f j = if j < i then some (a + b * j) else none) : ∀ j, va_up f i (some (a + b * i)) j = if j < i + 1 then some (a + b * j) else none := fun j => by
  by_cases e : j = i
  · subst e; rw [vuo_e, if_pos (by omega)]
  · rw [vuo_n e, h j]
    by_cases e2 : j < i
    · rw [if_pos e2, if_pos (by omega)]
    · rw [if_neg e2, if_neg (by omega)]
set_option maxRecDepth 100000 in
set_option maxHeartbeats 8000000 in
theorem i_TextSolver (g : Nat → zE) (hk : g 1 = .inr (7, [.null, .null, .null, .null, .null, .null, .null, .int 0, .int 0, .int 0, .int 0, .int 0, .int 0])) : zC yX7_init mX7_init 3 84 2995 [.ref 1] 1 g (fun v N2 g2 => v = none ∧ N2 = 85 ∧ ∀ j, 1 ≤ j → j ≤ 85 → g2 j = cE j) := by
  refine zC_of (lv := [some (.ref 1), none]) (by decide +kernel) rfl (fun _ => rfl) rfl (Nat.le_of_ble_eq_true rfl) ?_
  -- the formulas
  have loopF : ∀ (k i c sl n : Nat) (G : Nat → zE) (f : Nat → Option Nat), i + k = 10 → c = 54 + 3 * i → sl = 405 + 259 * i → n = 55 + 3 * i → G 1 = .inr (7, [.ref 2, .ref 4, .ref 8, .ref 12, .ref 13, .ref 14, .ref 15, .int 0, .int 0, .int 0, .int 0, .int 0, .int 0]) → (∀ j, 2 ≤ j → j ≤ n → j ≠ 14 → G j = cE j) → G 14 = arrF 5 10 f → (∀ j, f j = if j < i then some (56 + 3 * j) else none) → Wq mX7_init 3 none 84 2995 (fun v N2 g2 => v = none ∧ N2 = 85 ∧ ∀ j, 1 ≤ j → j ≤ 85 → g2 j = cE j) c sl n G 145 [some (.ref 1), some (.int (nI i))] [] := by
    intro k
    induction k with
    | zero =>
      intro i c sl n G f hi hc hsl hn h1 hE h14 hf
      have : i = 10 := by omega
      subst this
      refine q_iload_n dX7_init_145 rfl ?_
      refine q_bipush (v := 10) dX7_init_146 rfl ?_
      refine q_icmp_ge 170 dX7_init_148 (by decide) (fun q => ?_) (fun q => ?_)
      · refine q_ret (v := none) ⟨rfl, by omega, fun j a b => ?_⟩ ⟨dX7_init_170, rfl⟩ (by omega) (by omega)
        by_cases e1 : j = 1
        · subst e1; rw [h1]; rfl
        · by_cases e2 : j = 14
          · subst e2
            rw [h14]
            have ef : f = (fun j => if j < 10 then some (nm 17 j) else none) := funext hf
            rw [ef]; rfl
          · exact hE j (by omega) (by omega) e2
      · exact absurd (nI_le (a := 10) (by omega) (by omega)) q
    | succ k ih =>
      intro i c sl n G f hi hc hsl hn h1 hE h14 hf
      have i10 : i < 10 := by omega
      refine q_iload_n dX7_init_145 rfl ?_
      refine q_bipush (v := 10) dX7_init_146 rfl ?_
      refine q_icmp_ge 170 dX7_init_148 (by decide) (fun q => ?_) (fun q => ?_)
      · exact absurd q (nI_ge (b := 10) (by omega) (by omega))
      · refine q_aload_n dX7_init_151 rfl ?_
        refine q_get 5 dX7_init_152 (h1) (by omega) (by omega) rfl (by decide) fl_X7_42 rfl ?_
        refine q_iload_n dX7_init_155 rfl ?_
        refine q_new (ci := 0) (fs := [.null, .null, .int 0, .int 0, .int 0, .int 0, .int 0, .int 0, .int 0]) dX7_init_156 rfl cl_X7_40 it_RX0 in_RX0 tyX0 tyX0_ok (fun j hj => match j, hj with | 0, _ => rfl | 1, _ => rfl | 2, _ => rfl | 3, _ => rfl | 4, _ => rfl | 5, _ => rfl | 6, _ => rfl | 7, _ => rfl | 8, _ => rfl | j + 9, h => absurd h (by omega)) (fun _ _ => rfl) (by omega) (by omega) ?_
        refine q_dup dX7_init_159 rfl ?_
        refine q_callN (i_Formula (n + 1) (n + 1) _ vu_e (by omega) (by omega)) kN_X7_57 dX7_init_160 rfl (by omega) (Nat.le_of_ble_eq_true rfl) (by omega) (by omega) rfl (fun v N2 g2 h => ?_)
        obtain ⟨rfl, rfl, ek, en, en2, oth⟩ := h
        dsimp only [Option.toList, List.nil_append]
        have h14' : g2 14 = arrF 5 10 f := (oth 14 (by omega) (by omega) (by omega)).trans ((vu_n (by omega)).trans h14)
        refine q_aast (t := 5) (n := 10) (ci := 0) dX7_init_163 h14' (by omega) (by omega) (fun _ => rfl) ek (by omega) (by omega) rfl (vp_in_nI (n := i) i10 (by omega)) ?_
        rw [nI_clamp (by omega)]
        refine q_iinc dX7_init_164 rfl (Nat.le_of_ble_eq_true rfl) rfl ?_
        dsimp only [List.set]
        refine q_goto 145 dX7_init_167 (by decide) ?_
        rw [nI_inc]
        have o2 : ∀ j, j ≤ n → g2 j = G j := fun j hj => (oth j (by omega) (by omega) (by omega)).trans (vu_n (by omega))
        refine ih (i + 1) _ _ _ _ (va_up f i (some (n + 1))) (by omega) (by omega) (by omega) (by omega) ?_ (fun j a b e => ?_) vu_e ?_
        · rw [vu_n (by omega), o2 1 (by omega)]; exact h1
        · rw [vu_n e]
          by_cases e1 : j = n + 1
          · subst e1; rw [ek, show n + 1 + 1 = 57 + 3 * i by omega, show n + 1 + 2 = 58 + 3 * i by omega, show n + 1 = 56 + 3 * i by omega, cE_17 i10]
          · by_cases e2 : j = n + 1 + 1
            · subst e2; rw [en, show n + 1 + 1 = 57 + 3 * i by omega, cE_18 i10]
            · by_cases e3 : j = n + 1 + 2
              · subst e3; rw [en2, show n + 1 + 2 = 58 + 3 * i by omega, cE_19 i10]
              · rw [o2 j (by omega)]; exact hE j a (by omega) e
        · rw [show n + 1 = 56 + 3 * i by omega]; exact arrF_up (n := 10) hf
  -- the machines
  have loopM : ∀ (k i c sl n : Nat) (G : Nat → zE) (f : Nat → Option Nat), i + k = 3 → c = 48 + 2 * i → sl = 342 + 21 * i → n = 49 + 2 * i → G 1 = .inr (7, [.ref 2, .ref 4, .ref 8, .ref 12, .ref 13, .ref 14, .ref 15, .int 0, .int 0, .int 0, .int 0, .int 0, .int 0]) → (∀ j, 2 ≤ j → j ≤ n → j ≠ 13 → j ≠ 14 → G j = cE j) → G 13 = arrF 4 3 f → G 14 = arrF 5 10 (fun _ => none) → (∀ j, f j = if j < i then some (50 + 2 * j) else none) → Wq mX7_init 3 none 84 2995 (fun v N2 g2 => v = none ∧ N2 = 85 ∧ ∀ j, 1 ≤ j → j ≤ 85 → g2 j = cE j) c sl n G 119 [some (.ref 1), some (.int (nI i))] [] := by
    intro k
    induction k with
    | zero =>
      intro i c sl n G f hi hc hsl hn h1 hE hA h14 hf
      have : i = 3 := by omega
      subst this
      refine q_iload_n dX7_init_119 rfl ?_
      refine q_iconst (v := 3) dX7_init_120 rfl ?_
      refine q_icmp_ge 143 dX7_init_121 (by decide) (fun q => ?_) (fun q => ?_)
      · refine q_iconst (v := 0) dX7_init_143 rfl ?_
        refine s_istore_n 1 dX7_init_144 rfl (Nat.le_of_ble_eq_true rfl) rfl ?_
        dsimp only [List.set]
        refine loopF 10 0 _ _ _ G _ (by omega) (by omega) (by omega) (by omega) h1 (fun j a b e => ?_) h14 (fun j => by rw [if_neg (by omega)])
        by_cases e2 : j = 13
        · subst e2
          rw [hA]
          have ef : f = (fun j => if j < 3 then some (nm 15 j) else none) := funext hf
          rw [ef]; rfl
        · exact hE j a (by omega) e2 e
      · exact absurd (nI_le (a := 3) (by omega) (by omega)) q
    | succ k ih =>
      intro i c sl n G f hi hc hsl hn h1 hE hA h14 hf
      have i10 : i < 3 := by omega
      refine q_iload_n dX7_init_119 rfl ?_
      refine q_iconst (v := 3) dX7_init_120 rfl ?_
      refine q_icmp_ge 143 dX7_init_121 (by decide) (fun q => ?_) (fun q => ?_)
      · exact absurd q (nI_ge (b := 3) (by omega) (by omega))
      · refine q_aload_n dX7_init_124 rfl ?_
        refine q_get 4 dX7_init_125 (h1) (by omega) (by omega) rfl (by decide) fl_X7_36 rfl ?_
        refine q_iload_n dX7_init_128 rfl ?_
        refine q_new (ci := 2) (fs := [.null, .int 0, .int 0]) dX7_init_129 rfl cl_X7_34 it_RX2 in_RX2 tyX2 tyX2_ok (fun j hj => match j, hj with | 0, _ => rfl | 1, _ => rfl | 2, _ => rfl | j + 3, h => absurd h (by omega)) (fun _ _ => rfl) (by omega) (by omega) ?_
        refine q_dup dX7_init_132 rfl ?_
        refine q_callN (i_Machine (n + 1) (n + 1) _ vu_e (by omega) (by omega)) kN_X7_56 dX7_init_133 rfl (by omega) (Nat.le_of_ble_eq_true rfl) (by omega) (by omega) rfl (fun v N2 g2 h => ?_)
        obtain ⟨rfl, rfl, ek, en, oth⟩ := h
        dsimp only [Option.toList, List.nil_append]
        have hA' : g2 13 = arrF 4 3 f := (oth 13 (by omega) (by omega)).trans ((vu_n (by omega)).trans hA)
        refine q_aast (t := 4) (n := 3) (ci := 2) dX7_init_136 hA' (by omega) (by omega) (fun _ => rfl) ek (by omega) (by omega) rfl (vp_in_nI (n := i) i10 (by omega)) ?_
        rw [nI_clamp (by omega)]
        refine q_iinc dX7_init_137 rfl (Nat.le_of_ble_eq_true rfl) rfl ?_
        dsimp only [List.set]
        refine q_goto 119 dX7_init_140 (by decide) ?_
        rw [nI_inc]
        have o2 : ∀ j, j ≤ n → g2 j = G j := fun j hj => (oth j (by omega) (by omega)).trans (vu_n (by omega))
        refine ih (i + 1) _ _ _ _ (va_up f i (some (n + 1))) (by omega) (by omega) (by omega) (by omega) ?_ (fun j a b e e14 => ?_) vu_e ?_ ?_
        · rw [vu_n (by omega), o2 1 (by omega)]; exact h1
        · rw [vu_n e]
          by_cases e1 : j = n + 1
          · subst e1; rw [ek, show n + 1 + 1 = 51 + 2 * i by omega, show n + 1 = 50 + 2 * i by omega, cE_15 i10]
          · by_cases e2 : j = n + 1 + 1
            · subst e2; rw [en, show n + 1 + 1 = 51 + 2 * i by omega, cE_16 i10]
            · rw [o2 j (by omega)]; exact hE j a (by omega) e e14
        · rw [vu_n (by omega), o2 14 (by omega)]; exact h14
        · rw [show n + 1 = 50 + 2 * i by omega]; exact arrF_up (n := 3) hf
  -- the terms
  have loopT : ∀ (k i c sl n : Nat) (G : Nat → zE) (f : Nat → Option Nat), i + k = 12 → c = 24 + 2 * i → sl = 246 + 8 * i → n = 25 + 2 * i → G 1 = .inr (7, [.ref 2, .ref 4, .ref 8, .ref 12, .ref 13, .ref 14, .ref 15, .int 0, .int 0, .int 0, .int 0, .int 0, .int 0]) → (∀ j, 2 ≤ j → j ≤ n → j ≠ 12 → j ≠ 13 → j ≠ 14 → G j = cE j) → G 12 = arrF 3 12 f → G 13 = arrF 4 3 (fun _ => none) → G 14 = arrF 5 10 (fun _ => none) → (∀ j, f j = if j < i then some (26 + 2 * j) else none) → Wq mX7_init 3 none 84 2995 (fun v N2 g2 => v = none ∧ N2 = 85 ∧ ∀ j, 1 ≤ j → j ≤ 85 → g2 j = cE j) c sl n G 92 [some (.ref 1), some (.int (nI i))] [] := by
    intro k
    induction k with
    | zero =>
      intro i c sl n G f hi hc hsl hn h1 hE hA h13 h14 hf
      have : i = 12 := by omega
      subst this
      refine q_iload_n dX7_init_92 rfl ?_
      refine q_bipush (v := 12) dX7_init_93 rfl ?_
      refine q_icmp_ge 117 dX7_init_95 (by decide) (fun q => ?_) (fun q => ?_)
      · refine q_iconst (v := 0) dX7_init_117 rfl ?_
        refine s_istore_n 1 dX7_init_118 rfl (Nat.le_of_ble_eq_true rfl) rfl ?_
        dsimp only [List.set]
        refine loopM 3 0 _ _ _ G _ (by omega) (by omega) (by omega) (by omega) h1 (fun j a b e e14 => ?_) h13 h14 (fun j => by rw [if_neg (by omega)])
        by_cases e2 : j = 12
        · subst e2
          rw [hA]
          have ef : f = (fun j => if j < 12 then some (nm 11 j) else none) := by
            funext j
            rw [hf j]
            by_cases e3 : j < 12
            · rw [if_pos e3, if_pos e3, nm11 e3]
            · rw [if_neg e3, if_neg e3]
          rw [ef]; rfl
        · exact hE j a (by omega) e2 e e14
      · exact absurd (nI_le (a := 12) (by omega) (by omega)) q
    | succ k ih =>
      intro i c sl n G f hi hc hsl hn h1 hE hA h13 h14 hf
      have i10 : i < 12 := by omega
      refine q_iload_n dX7_init_92 rfl ?_
      refine q_bipush (v := 12) dX7_init_93 rfl ?_
      refine q_icmp_ge 117 dX7_init_95 (by decide) (fun q => ?_) (fun q => ?_)
      · exact absurd q (nI_ge (b := 12) (by omega) (by omega))
      · refine q_aload_n dX7_init_98 rfl ?_
        refine q_get 3 dX7_init_99 (h1) (by omega) (by omega) rfl (by decide) fl_X7_30 rfl ?_
        refine q_iload_n dX7_init_102 rfl ?_
        refine q_new (ci := 5) (fs := [.null, .int 0]) dX7_init_103 rfl cl_X7_28 it_RX5 in_RX5 tyX5 tyX5_ok (fun j hj => match j, hj with | 0, _ => rfl | 1, _ => rfl | j + 2, h => absurd h (by omega)) (fun _ _ => rfl) (by omega) (by omega) ?_
        refine q_dup dX7_init_106 rfl ?_
        refine q_callN (i_Term (n + 1) (n + 1) _ vu_e (by omega) (by omega)) kN_X7_55 dX7_init_107 rfl (by omega) (Nat.le_of_ble_eq_true rfl) (by omega) (by omega) rfl (fun v N2 g2 h => ?_)
        obtain ⟨rfl, rfl, ek, en, oth⟩ := h
        dsimp only [Option.toList, List.nil_append]
        have hA' : g2 12 = arrF 3 12 f := (oth 12 (by omega) (by omega)).trans ((vu_n (by omega)).trans hA)
        refine q_aast (t := 3) (n := 12) (ci := 5) dX7_init_110 hA' (by omega) (by omega) (fun _ => rfl) ek (by omega) (by omega) rfl (vp_in_nI (n := i) i10 (by omega)) ?_
        rw [nI_clamp (by omega)]
        refine q_iinc dX7_init_111 rfl (Nat.le_of_ble_eq_true rfl) rfl ?_
        dsimp only [List.set]
        refine q_goto 92 dX7_init_114 (by decide) ?_
        rw [nI_inc]
        have o2 : ∀ j, j ≤ n → g2 j = G j := fun j hj => (oth j (by omega) (by omega)).trans (vu_n (by omega))
        refine ih (i + 1) _ _ _ _ (va_up f i (some (n + 1))) (by omega) (by omega) (by omega) (by omega) ?_ (fun j a b e e13 e14 => ?_) vu_e ?_ ?_ ?_
        · rw [vu_n (by omega), o2 1 (by omega)]; exact h1
        · rw [vu_n e]
          by_cases e1 : j = n + 1
          · subst e1; rw [ek, show n + 1 + 1 = 27 + 2 * i by omega, show n + 1 = 26 + 2 * i by omega, cE_11 i10]
          · by_cases e2 : j = n + 1 + 1
            · subst e2; rw [en, show n + 1 + 1 = 27 + 2 * i by omega, cE_12 i10]
            · rw [o2 j (by omega)]; exact hE j a (by omega) e e13 e14
        · rw [vu_n (by omega), o2 13 (by omega)]; exact h13
        · rw [vu_n (by omega), o2 14 (by omega)]; exact h14
        · rw [show n + 1 = 26 + 2 * i by omega]; exact arrF_up (n := 12) hf
  suffices key : ∀ G : Nat → zE, G 1 = .inr (7, [.null, .null, .null, .null, .null, .null, .null, .int 0, .int 0, .int 0, .int 0, .int 0, .int 0]) → Wq mX7_init 3 none 84 2995 (fun v N2 g2 => v = none ∧ N2 = 85 ∧ ∀ j, 1 ≤ j → j ≤ 85 → g2 j = cE j) 0 0 1 G 0 [some (.ref 1), none] [] from key g hk
  clear hk
  intro G hk
  have hE : ∀ j, 2 ≤ j → j ≤ 1 → G j = cE j := fun j a b => absurd a (by omega)
  refine q_aload_n dX7_init_0 rfl ?_
  refine q_objInit dX7_init_1 ml_X7_3 (by omega) (Nat.le_of_ble_eq_true rfl) ?_
  refine q_aload_n dX7_init_4 rfl ?_
  refine q_new (ci := 4) (fs := [.null, .int 0, .int 0, .int 0]) dX7_init_5 rfl cl_X7_9 it_RX4 in_RX4 tyX4 tyX4_ok (fun j hj => match j, hj with | 0, _ => rfl | 1, _ => rfl | 2, _ => rfl | 3, _ => rfl | j + 4, h => absurd h (by omega)) (fun _ _ => rfl) (by omega) (by omega) ?_
  refine q_dup dX7_init_8 rfl ?_
  refine q_callN (i_Space 2 2 _ vu_e (by omega) (by omega)) kN_X7_11 dX7_init_9 rfl (by omega) (Nat.le_of_ble_eq_true rfl) (by omega) (by omega) rfl (fun v N2 g2 h => ?_)
  obtain ⟨rfl, rfl, ek, en, oth⟩ := h
  dsimp only [Option.toList, List.nil_append]
  have hk2 : g2 1 = .inr (7, [.null, .null, .null, .null, .null, .null, .null, .int 0, .int 0, .int 0, .int 0, .int 0, .int 0]) := (oth 1 (by omega) (by omega)).trans ((vu_n (by omega)).trans hk)
  refine q_putr 0 dX7_init_12 (hk2) (by omega) (by omega) rfl (by decide) fl_X7_12 rfl rfl rfl (tyX7_ok 0 (by decide)) (fun _ => rfl) (fun _ => rfl) (Nat.le_of_ble_eq_true rfl) ?_
  dsimp only [List.set]
  have hE2 : ∀ j, 2 ≤ j → j ≤ 3 → (va_up g2 1 (.inr (7, [.ref 2, .null, .null, .null, .null, .null, .null, .int 0, .int 0, .int 0, .int 0, .int 0, .int 0]))) j = cE j := fun j a b => by
    rw [vu_n (by omega)]
    by_cases e1 : j = 2
    · subst e1; rw [ek]; rfl
    · have e2 : j = 3 := by omega
      subst e2; exact en
  have hk3 : (va_up g2 1 (.inr (7, [.ref 2, .null, .null, .null, .null, .null, .null, .int 0, .int 0, .int 0, .int 0, .int 0, .int 0]))) 1 = .inr (7, [.ref 2, .null, .null, .null, .null, .null, .null, .int 0, .int 0, .int 0, .int 0, .int 0, .int 0]) := vu_e
  generalize hG2 : va_up g2 1 (.inr (7, [.ref 2, .null, .null, .null, .null, .null, .null, .int 0, .int 0, .int 0, .int 0, .int 0, .int 0])) = G2 at hE2 hk3 ⊢
  clear hG2
  clear hE hk
  obtain ⟨G, hG⟩ : ∃ G, G = G2 := ⟨G2, rfl⟩
  rw [← hG] at hE2 hk3 ⊢
  clear hG
  have hE := hE2
  have hk := hk3
  clear hE2 hk3

  refine q_aload_n dX7_init_15 rfl ?_
  refine q_new (ci := 6) (fs := [.null, .null, .null, .null, .int 0, .int 0, .int 0]) dX7_init_16 rfl cl_X7_16 it_RX6 in_RX6 tyX6 tyX6_ok (fun j hj => match j, hj with | 0, _ => rfl | 1, _ => rfl | 2, _ => rfl | 3, _ => rfl | 4, _ => rfl | 5, _ => rfl | 6, _ => rfl | j + 7, h => absurd h (by omega)) (fun _ _ => rfl) (by omega) (by omega) ?_
  refine q_dup dX7_init_19 rfl ?_
  refine q_aload_n dX7_init_20 rfl ?_
  refine q_get 0 dX7_init_21 ((vu_n (by omega)).trans hk) (by omega) (by omega) rfl (by decide) fl_X7_12 rfl ?_
  refine q_callI (i_Way 4 4 2 _ vu_e (by omega) (by omega)) kI_X7_18 dX7_init_24 rfl (by omega) (Nat.le_of_ble_eq_true rfl) (by omega) (by omega) rfl (fun v N2 g2 h => ?_)
  obtain ⟨rfl, rfl, ek, en1, en2, en3, oth⟩ := h
  dsimp only [Option.toList, List.nil_append]
  have hk2 : g2 1 = .inr (7, [.ref 2, .null, .null, .null, .null, .null, .null, .int 0, .int 0, .int 0, .int 0, .int 0, .int 0]) := (oth 1 (by omega) (by omega) (by omega) (by omega)).trans ((vu_n (by omega)).trans hk)
  refine q_putr 1 dX7_init_27 (hk2) (by omega) (by omega) rfl (by decide) fl_X7_21 rfl rfl rfl (tyX7_ok 1 (by decide)) (fun _ => rfl) (fun _ => rfl) (Nat.le_of_ble_eq_true rfl) ?_
  dsimp only [List.set]
  have hE2 : ∀ j, 2 ≤ j → j ≤ 7 → (va_up g2 1 (.inr (7, [.ref 2, .ref 4, .null, .null, .null, .null, .null, .int 0, .int 0, .int 0, .int 0, .int 0, .int 0]))) j = cE j := fun j a b => by
    rw [vu_n (by omega)]
    by_cases e1 : j = 4
    · subst e1; rw [ek]; rfl
    · by_cases e2 : j = 5
      · subst e2; exact en1
      · by_cases e3 : j = 6
        · subst e3; exact en2
        · by_cases e4 : j = 7
          · subst e4; exact en3
          · rw [oth j e1 e2 e3 e4, vu_n e1]; exact hE j a (by omega)
  have hk3 : (va_up g2 1 (.inr (7, [.ref 2, .ref 4, .null, .null, .null, .null, .null, .int 0, .int 0, .int 0, .int 0, .int 0, .int 0]))) 1 = .inr (7, [.ref 2, .ref 4, .null, .null, .null, .null, .null, .int 0, .int 0, .int 0, .int 0, .int 0, .int 0]) := vu_e
  generalize hG2 : va_up g2 1 (.inr (7, [.ref 2, .ref 4, .null, .null, .null, .null, .null, .int 0, .int 0, .int 0, .int 0, .int 0, .int 0])) = G2 at hE2 hk3 ⊢
  clear hG2
  clear hE hk
  obtain ⟨G, hG⟩ : ∃ G, G = G2 := ⟨G2, rfl⟩
  rw [← hG] at hE2 hk3 ⊢
  clear hG
  have hE := hE2
  have hk := hk3
  clear hE2 hk3

  refine q_aload_n dX7_init_30 rfl ?_
  refine q_new (ci := 6) (fs := [.null, .null, .null, .null, .int 0, .int 0, .int 0]) dX7_init_31 rfl cl_X7_16 it_RX6 in_RX6 tyX6 tyX6_ok (fun j hj => match j, hj with | 0, _ => rfl | 1, _ => rfl | 2, _ => rfl | 3, _ => rfl | 4, _ => rfl | 5, _ => rfl | 6, _ => rfl | j + 7, h => absurd h (by omega)) (fun _ _ => rfl) (by omega) (by omega) ?_
  refine q_dup dX7_init_34 rfl ?_
  refine q_aload_n dX7_init_35 rfl ?_
  refine q_get 0 dX7_init_36 ((vu_n (by omega)).trans hk) (by omega) (by omega) rfl (by decide) fl_X7_12 rfl ?_
  refine q_callI (i_Way 8 8 2 _ vu_e (by omega) (by omega)) kI_X7_18 dX7_init_39 rfl (by omega) (Nat.le_of_ble_eq_true rfl) (by omega) (by omega) rfl (fun v N2 g2 h => ?_)
  obtain ⟨rfl, rfl, ek, en1, en2, en3, oth⟩ := h
  dsimp only [Option.toList, List.nil_append]
  have hk2 : g2 1 = .inr (7, [.ref 2, .ref 4, .null, .null, .null, .null, .null, .int 0, .int 0, .int 0, .int 0, .int 0, .int 0]) := (oth 1 (by omega) (by omega) (by omega) (by omega)).trans ((vu_n (by omega)).trans hk)
  refine q_putr 2 dX7_init_42 (hk2) (by omega) (by omega) rfl (by decide) fl_X7_25 rfl rfl rfl (tyX7_ok 2 (by decide)) (fun _ => rfl) (fun _ => rfl) (Nat.le_of_ble_eq_true rfl) ?_
  dsimp only [List.set]
  have hE2 : ∀ j, 2 ≤ j → j ≤ 11 → (va_up g2 1 (.inr (7, [.ref 2, .ref 4, .ref 8, .null, .null, .null, .null, .int 0, .int 0, .int 0, .int 0, .int 0, .int 0]))) j = cE j := fun j a b => by
    rw [vu_n (by omega)]
    by_cases e1 : j = 8
    · subst e1; rw [ek]; rfl
    · by_cases e2 : j = 9
      · subst e2; exact en1
      · by_cases e3 : j = 10
        · subst e3; exact en2
        · by_cases e4 : j = 11
          · subst e4; exact en3
          · rw [oth j e1 e2 e3 e4, vu_n e1]; exact hE j a (by omega)
  have hk3 : (va_up g2 1 (.inr (7, [.ref 2, .ref 4, .ref 8, .null, .null, .null, .null, .int 0, .int 0, .int 0, .int 0, .int 0, .int 0]))) 1 = .inr (7, [.ref 2, .ref 4, .ref 8, .null, .null, .null, .null, .int 0, .int 0, .int 0, .int 0, .int 0, .int 0]) := vu_e
  generalize hG2 : va_up g2 1 (.inr (7, [.ref 2, .ref 4, .ref 8, .null, .null, .null, .null, .int 0, .int 0, .int 0, .int 0, .int 0, .int 0])) = G2 at hE2 hk3 ⊢
  clear hG2
  clear hE hk
  obtain ⟨G, hG⟩ : ∃ G, G = G2 := ⟨G2, rfl⟩
  rw [← hG] at hE2 hk3 ⊢
  clear hG
  have hE := hE2
  have hk := hk3
  clear hE2 hk3

  refine q_aload_n dX7_init_45 rfl ?_
  refine q_bipush (v := 12) dX7_init_46 rfl ?_
  refine q_anew (t := 3) (n := 12) (C0 := RX5) dX7_init_48 cl_X7_28 (fun U h => h.2.1) (fun _ => rfl) (by decide) rfl (by decide) (by omega) (by omega) ?_
  have hkA := (vu_n (g := G) (k := 12) (x := arrF 3 12 (fun _ => none)) (j := 1) (by omega)).trans hk
  refine q_putr 3 dX7_init_51 (hkA) (by omega) (by omega) rfl (by decide) fl_X7_30 rfl rfl rfl (tyX7_ok 3 (by decide)) (fun _ => rfl) (fun _ => rfl) (Nat.le_of_ble_eq_true rfl) ?_
  dsimp only [List.set]
  have hE2 : ∀ j, 2 ≤ j → j ≤ 12 → j ≠ 12 → j ≠ 13 → j ≠ 14 → (va_up (va_up G 12 (arrF 3 12 (fun _ => none))) 1 (.inr (7, [.ref 2, .ref 4, .ref 8, .ref 12, .null, .null, .null, .int 0, .int 0, .int 0, .int 0, .int 0, .int 0]))) j = cE j := fun j a b e12 e13 e14 => by
    rw [vu_n (by omega), vu_n (by omega)]; exact hE j a (by omega)
  have hk3 : (va_up (va_up G 12 (arrF 3 12 (fun _ => none))) 1 (.inr (7, [.ref 2, .ref 4, .ref 8, .ref 12, .null, .null, .null, .int 0, .int 0, .int 0, .int 0, .int 0, .int 0]))) 1 = .inr (7, [.ref 2, .ref 4, .ref 8, .ref 12, .null, .null, .null, .int 0, .int 0, .int 0, .int 0, .int 0, .int 0]) := vu_e
  have h122 : (va_up (va_up G 12 (arrF 3 12 (fun _ => none))) 1 (.inr (7, [.ref 2, .ref 4, .ref 8, .ref 12, .null, .null, .null, .int 0, .int 0, .int 0, .int 0, .int 0, .int 0]))) 12 = arrF 3 12 (fun _ => none) := by rw [vu_n (by omega)]; exact vu_e
  replace hkA := trivial
  change Wq mX7_init 3 none 84 2995 (fun v N2 g2 => v = none ∧ N2 = 85 ∧ ∀ j, 1 ≤ j → j ≤ 85 → g2 j = cE j) _ _ _ (va_up (va_up G 12 (arrF 3 12 (fun _ => none))) 1 (.inr (7, [.ref 2, .ref 4, .ref 8, .ref 12, .null, .null, .null, .int 0, .int 0, .int 0, .int 0, .int 0, .int 0]))) _ _ _
  generalize hG2 : (va_up (va_up G 12 (arrF 3 12 (fun _ => none))) 1 (.inr (7, [.ref 2, .ref 4, .ref 8, .ref 12, .null, .null, .null, .int 0, .int 0, .int 0, .int 0, .int 0, .int 0]))) = G2 at hE2 hk3 h122 ⊢
  clear hG2
  clear hE hk hkA 
  obtain ⟨G, hG⟩ : ∃ G, G = G2 := ⟨G2, rfl⟩
  rw [← hG] at hE2 hk3 h122 ⊢
  clear hG
  have hE := hE2
  have hk := hk3
  have h12 := h122
  clear hE2 hk3 h122

  refine q_aload_n dX7_init_54 rfl ?_
  refine q_iconst (v := 3) dX7_init_55 rfl ?_
  refine q_anew (t := 4) (n := 3) (C0 := RX2) dX7_init_56 cl_X7_34 (fun U h => h.2.2.1) (fun _ => rfl) (by decide) rfl (by decide) (by omega) (by omega) ?_
  have hkA := (vu_n (g := G) (k := 13) (x := arrF 4 3 (fun _ => none)) (j := 1) (by omega)).trans hk
  refine q_putr 4 dX7_init_59 (hkA) (by omega) (by omega) rfl (by decide) fl_X7_36 rfl rfl rfl (tyX7_ok 4 (by decide)) (fun _ => rfl) (fun _ => rfl) (Nat.le_of_ble_eq_true rfl) ?_
  dsimp only [List.set]
  have hE2 : ∀ j, 2 ≤ j → j ≤ 13 → j ≠ 12 → j ≠ 13 → j ≠ 14 → (va_up (va_up G 13 (arrF 4 3 (fun _ => none))) 1 (.inr (7, [.ref 2, .ref 4, .ref 8, .ref 12, .ref 13, .null, .null, .int 0, .int 0, .int 0, .int 0, .int 0, .int 0]))) j = cE j := fun j a b e12 e13 e14 => by
    rw [vu_n (by omega), vu_n (by omega)]; exact hE j a (by omega) e12 e13 e14
  have hk3 : (va_up (va_up G 13 (arrF 4 3 (fun _ => none))) 1 (.inr (7, [.ref 2, .ref 4, .ref 8, .ref 12, .ref 13, .null, .null, .int 0, .int 0, .int 0, .int 0, .int 0, .int 0]))) 1 = .inr (7, [.ref 2, .ref 4, .ref 8, .ref 12, .ref 13, .null, .null, .int 0, .int 0, .int 0, .int 0, .int 0, .int 0]) := vu_e
  have h122 : (va_up (va_up G 13 (arrF 4 3 (fun _ => none))) 1 (.inr (7, [.ref 2, .ref 4, .ref 8, .ref 12, .ref 13, .null, .null, .int 0, .int 0, .int 0, .int 0, .int 0, .int 0]))) 12 = arrF 3 12 (fun _ => none) := by rw [vu_n (by omega), vu_n (by omega)]; exact h12
  have h132 : (va_up (va_up G 13 (arrF 4 3 (fun _ => none))) 1 (.inr (7, [.ref 2, .ref 4, .ref 8, .ref 12, .ref 13, .null, .null, .int 0, .int 0, .int 0, .int 0, .int 0, .int 0]))) 13 = arrF 4 3 (fun _ => none) := by rw [vu_n (by omega)]; exact vu_e
  replace hkA := trivial
  change Wq mX7_init 3 none 84 2995 (fun v N2 g2 => v = none ∧ N2 = 85 ∧ ∀ j, 1 ≤ j → j ≤ 85 → g2 j = cE j) _ _ _ (va_up (va_up G 13 (arrF 4 3 (fun _ => none))) 1 (.inr (7, [.ref 2, .ref 4, .ref 8, .ref 12, .ref 13, .null, .null, .int 0, .int 0, .int 0, .int 0, .int 0, .int 0]))) _ _ _
  generalize hG2 : (va_up (va_up G 13 (arrF 4 3 (fun _ => none))) 1 (.inr (7, [.ref 2, .ref 4, .ref 8, .ref 12, .ref 13, .null, .null, .int 0, .int 0, .int 0, .int 0, .int 0, .int 0]))) = G2 at hE2 hk3 h122 h132 ⊢
  clear hG2
  clear hE hk hkA h12
  obtain ⟨G, hG⟩ : ∃ G, G = G2 := ⟨G2, rfl⟩
  rw [← hG] at hE2 hk3 h122 h132 ⊢
  clear hG
  have hE := hE2
  have hk := hk3
  have h12 := h122
  have h13 := h132
  clear hE2 hk3 h122 h132

  refine q_aload_n dX7_init_62 rfl ?_
  refine q_bipush (v := 10) dX7_init_63 rfl ?_
  refine q_anew (t := 5) (n := 10) (C0 := RX0) dX7_init_65 cl_X7_40 (fun U h => h.2.2.2) (fun _ => rfl) (by decide) rfl (by decide) (by omega) (by omega) ?_
  have hkA := (vu_n (g := G) (k := 14) (x := arrF 5 10 (fun _ => none)) (j := 1) (by omega)).trans hk
  refine q_putr 5 dX7_init_68 (hkA) (by omega) (by omega) rfl (by decide) fl_X7_42 rfl rfl rfl (tyX7_ok 5 (by decide)) (fun _ => rfl) (fun _ => rfl) (Nat.le_of_ble_eq_true rfl) ?_
  dsimp only [List.set]
  have hE2 : ∀ j, 2 ≤ j → j ≤ 14 → j ≠ 12 → j ≠ 13 → j ≠ 14 → (va_up (va_up G 14 (arrF 5 10 (fun _ => none))) 1 (.inr (7, [.ref 2, .ref 4, .ref 8, .ref 12, .ref 13, .ref 14, .null, .int 0, .int 0, .int 0, .int 0, .int 0, .int 0]))) j = cE j := fun j a b e12 e13 e14 => by
    rw [vu_n (by omega), vu_n (by omega)]; exact hE j a (by omega) e12 e13 e14
  have hk3 : (va_up (va_up G 14 (arrF 5 10 (fun _ => none))) 1 (.inr (7, [.ref 2, .ref 4, .ref 8, .ref 12, .ref 13, .ref 14, .null, .int 0, .int 0, .int 0, .int 0, .int 0, .int 0]))) 1 = .inr (7, [.ref 2, .ref 4, .ref 8, .ref 12, .ref 13, .ref 14, .null, .int 0, .int 0, .int 0, .int 0, .int 0, .int 0]) := vu_e
  have h122 : (va_up (va_up G 14 (arrF 5 10 (fun _ => none))) 1 (.inr (7, [.ref 2, .ref 4, .ref 8, .ref 12, .ref 13, .ref 14, .null, .int 0, .int 0, .int 0, .int 0, .int 0, .int 0]))) 12 = arrF 3 12 (fun _ => none) := by rw [vu_n (by omega), vu_n (by omega)]; exact h12
  have h132 : (va_up (va_up G 14 (arrF 5 10 (fun _ => none))) 1 (.inr (7, [.ref 2, .ref 4, .ref 8, .ref 12, .ref 13, .ref 14, .null, .int 0, .int 0, .int 0, .int 0, .int 0, .int 0]))) 13 = arrF 4 3 (fun _ => none) := by rw [vu_n (by omega), vu_n (by omega)]; exact h13
  have h142 : (va_up (va_up G 14 (arrF 5 10 (fun _ => none))) 1 (.inr (7, [.ref 2, .ref 4, .ref 8, .ref 12, .ref 13, .ref 14, .null, .int 0, .int 0, .int 0, .int 0, .int 0, .int 0]))) 14 = arrF 5 10 (fun _ => none) := by rw [vu_n (by omega)]; exact vu_e
  replace hkA := trivial
  change Wq mX7_init 3 none 84 2995 (fun v N2 g2 => v = none ∧ N2 = 85 ∧ ∀ j, 1 ≤ j → j ≤ 85 → g2 j = cE j) _ _ _ (va_up (va_up G 14 (arrF 5 10 (fun _ => none))) 1 (.inr (7, [.ref 2, .ref 4, .ref 8, .ref 12, .ref 13, .ref 14, .null, .int 0, .int 0, .int 0, .int 0, .int 0, .int 0]))) _ _ _
  generalize hG2 : (va_up (va_up G 14 (arrF 5 10 (fun _ => none))) 1 (.inr (7, [.ref 2, .ref 4, .ref 8, .ref 12, .ref 13, .ref 14, .null, .int 0, .int 0, .int 0, .int 0, .int 0, .int 0]))) = G2 at hE2 hk3 h122 h132 h142 ⊢
  clear hG2
  clear hE hk hkA h12 h13
  obtain ⟨G, hG⟩ : ∃ G, G = G2 := ⟨G2, rfl⟩
  rw [← hG] at hE2 hk3 h122 h132 h142 ⊢
  clear hG
  have hE := hE2
  have hk := hk3
  have h12 := h122
  have h13 := h132
  have h14 := h142
  clear hE2 hk3 h122 h132 h142

  refine q_aload_n dX7_init_71 rfl ?_
  refine q_new (ci := 1) (fs := [.null, .null, .null, .null, .null, .null, .null]) dX7_init_72 rfl cl_X7_46 it_RX1 in_RX1 tyX1 tyX1_ok (fun j hj => match j, hj with | 0, _ => rfl | 1, _ => rfl | 2, _ => rfl | 3, _ => rfl | 4, _ => rfl | 5, _ => rfl | 6, _ => rfl | j + 7, h => absurd h (by omega)) (fun _ _ => rfl) (by omega) (by omega) ?_
  refine q_dup dX7_init_75 rfl ?_
  refine q_aload_n dX7_init_76 rfl ?_
  refine q_get 3 dX7_init_77 ((vu_n (by omega)).trans hk) (by omega) (by omega) rfl (by decide) fl_X7_30 rfl ?_
  refine q_aload_n dX7_init_80 rfl ?_
  refine q_get 4 dX7_init_81 ((vu_n (by omega)).trans hk) (by omega) (by omega) rfl (by decide) fl_X7_36 rfl ?_
  refine q_callI (i_Judge _ vu_e) kI_X7_48 dX7_init_84 rfl (by omega) (Nat.le_of_ble_eq_true rfl) (by omega) (by omega) rfl (fun v N2 g2 h => ?_)
  obtain ⟨rfl, rfl, ek, en, oth⟩ := h
  dsimp only [Option.toList, List.nil_append]
  have o2 : ∀ j, j < 15 → g2 j = G j := fun j hj => (oth j hj).trans (vu_n (by omega))
  have hk2 : g2 1 = .inr (7, [.ref 2, .ref 4, .ref 8, .ref 12, .ref 13, .ref 14, .null, .int 0, .int 0, .int 0, .int 0, .int 0, .int 0]) := (o2 1 (by omega)).trans hk
  refine q_putr 6 dX7_init_87 (hk2) (by omega) (by omega) rfl (by decide) fl_X7_51 rfl rfl rfl (tyX7_ok 6 (by decide)) (fun _ => rfl) (fun _ => rfl) (Nat.le_of_ble_eq_true rfl) ?_
  dsimp only [List.set]
  refine q_iconst (v := 0) dX7_init_90 rfl ?_
  refine s_istore_n 1 dX7_init_91 rfl (Nat.le_of_ble_eq_true rfl) rfl ?_
  dsimp only [List.set]
  refine loopT 12 0 _ _ _ _ _ (by omega) (by omega) (by omega) (by omega) vu_e (fun j a b e12 e13 e14 => ?_) ((vu_n (by omega)).trans ((o2 12 (by omega)).trans h12)) ((vu_n (by omega)).trans ((o2 13 (by omega)).trans h13)) ((vu_n (by omega)).trans ((o2 14 (by omega)).trans h14)) (fun j => by rw [if_neg (by omega)])
  rw [vu_n (by omega)]
  by_cases e1 : j = 15
  · subst e1; rw [ek]; rfl
  · by_cases e2 : j < 15
    · rw [o2 j e2]; exact hE j a (by omega) e12 e13 e14
    · exact en j (by omega) (by omega)
