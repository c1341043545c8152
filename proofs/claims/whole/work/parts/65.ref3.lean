theorem nI_ne {a b : Nat} (ha : a < 2 ^ 31) (hb : b < 2 ^ 31) (h : a ≠ b) : ¬ nI a = nI b := fun e => h ((nI_eq ha hb).mp e)
theorem oth_b {nt nc kd : Nat} {b c d : Int32} (hnt : nt ≤ 12) (hk : kd = 0 ∨ kd = 3 ∨ kd = 4) : othOk (nI nt) (nI nc) (nI kd) b c d ↔ tk nt b := by
  rw [tk_iff (by omega)]
  constructor
  · intro h
    refine h.2.2.1 ?_
    rcases hk with rfl | rfl | rfl
    · exact Or.inl rfl
    · exact Or.inr (Or.inl rfl)
    · exact Or.inr (Or.inr (Or.inl rfl))
  · intro h
    exact ⟨fun e => absurd e (nI_ne (b := 1) (by omega) (by omega) (by omega)), fun e => absurd e (nI_ne (b := 2) (by omega) (by omega) (by omega)), fun _ => h, fun e => absurd e (nI_ne (b := 6) (by omega) (by omega) (by omega))⟩
theorem oth_1 {nt nc : Nat} {b c d : Int32} (hnt : nt ≤ 12) : othOk (nI nt) (nI nc) (nI 1) b c d ↔ (b = -1 ∨ tk nt b) := by
  rw [tk_iff (by omega)]
  exact ⟨fun h => h.1 rfl, fun h => ⟨fun _ => h, fun e => absurd e (by decide), fun e => absurd e (by decide), fun e => absurd e (by decide)⟩⟩
theorem oth_2 {nt nc : Nat} {b c d : Int32} (hnc : nc ≤ 3) : othOk (nI nt) (nI nc) (nI 2) b c d ↔ tk nc b := by
  rw [tk_iff (by omega)]
  exact ⟨fun h => h.2.1 rfl, fun h => ⟨fun e => absurd e (by decide), fun _ => h, fun e => absurd e (by decide), fun e => absurd e (by decide)⟩⟩
theorem oth_5 {nt nc : Nat} {b c d : Int32} : othOk (nI nt) (nI nc) (nI 5) b c d :=
  ⟨fun e => absurd e (by decide), fun e => absurd e (by decide), fun e => absurd e (by decide), fun e => absurd e (by decide)⟩
theorem oth_6 {nt nc : Nat} {b c d : Int32} (hnt : nt ≤ 12) : othOk (nI nt) (nI nc) (nI 6) b c d ↔ (tk nt b ∧ tk nt c ∧ tk nt d) := by
  rw [tk_iff (by omega), tk_iff (by omega), tk_iff (by omega)]
  exact ⟨fun h => ⟨h.2.2.1 (Or.inr (Or.inr (Or.inr rfl))), h.2.2.2 rfl⟩, fun h => ⟨fun e => absurd e (by decide), fun e => absurd e (by decide), fun _ => h.1, fun _ => h.2⟩⟩
theorem num_o {kd : Nat} {b c : Int32} (h1 : kd ≠ 1) (h5 : kd ≠ 5) (hk : kd ≤ 6) : numOk (nI kd) b c := ⟨fun e => absurd e (nI_ne (b := 1) (by omega) (by omega) h1), fun e => absurd e (nI_ne (b := 5) (by omega) (by omega) h5)⟩
theorem num_1 {b c : Int32} : numOk (nI 1) b c ↔ (-40 ≤ c ∧ c ≤ 40) := ⟨fun h => h.1 rfl, fun h => ⟨fun _ => h, fun e => absurd e (by decide)⟩⟩
theorem num_5 {b c : Int32} : numOk (nI 5) b c ↔ ((2 ≤ b ∧ b ≤ 16) ∧ (0 ≤ c ∧ c ≤ b - 1)) := by
  have key : (2 ≤ b ∧ b ≤ 16) → ((0 ≤ c ∧ c < b) ↔ (0 ≤ c ∧ c ≤ b - 1)) := by
    rintro ⟨h1, h2⟩
    obtain ⟨p, hp, e⟩ := nI_of (x := b) (Int32.not_lt.mpr (Int32.le_trans (by decide) h1))
    rw [e, ← tk_iff (by omega), ← tk_in (by omega)]
  constructor
  · intro h
    obtain ⟨a1, a2, a3, a4⟩ := h.2 rfl
    exact ⟨⟨a1, a2⟩, (key ⟨a1, a2⟩).mp ⟨a3, a4⟩⟩
  · rintro ⟨a, b⟩
    exact ⟨fun e => absurd e (by decide), fun _ => ⟨a.1, a.2, (key a).mpr b⟩⟩
set_option maxRecDepth 100000 in
set_option maxHeartbeats 8000000 in
theorem j_formula (sg : zI) (ta : zJ) (nt nc nf : Nat) (x a b c d : Int32) (h4 : sg 20 0 4 = nI nt) (hnt : nt ≤ 12) (h7 : sg 20 0 7 = nI nc) (hnc : nc ≤ 3) (h11 : sg 20 0 11 = nI nf) (hnf : nf ≤ 10) : zP yX8_formula mX8_formula 2 [.ref (nm 20 0), .int x, .int a, .int b, .int c, .int d] sg ta (fun v s t => t = ta ∧ (¬ (0 ≤ x ∧ x ≤ 6) → v = some (.int (-3)) ∧ s = sg) ∧ ((0 ≤ x ∧ x ≤ 6) → (¬ (tk nt a ∧ othOk (nI nt) (nI nc) x b c d) → v = some (.int (-2)) ∧ s = sg) ∧ (tk nt a → othOk (nI nt) (nI nc) x b c d → (¬ numOk x b c → v = some (.int (-3)) ∧ s = sg) ∧ (numOk x b c → (nf = 10 → v = some (.int (-5)) ∧ s = sg) ∧ (nf < 10 → v = some (.int (nI nf)) ∧ s = uForm sg nf x a b c d))))) := by
  refine zP_of (lv := [some (.ref (nm 20 0)), some (.int x), some (.int a), some (.int b), some (.int c), some (.int d), none, none]) (by decide +kernel) rfl (fun h => by cases h) rfl (Nat.le_of_ble_eq_true rfl) ?_
  refine q_iload_n dX8_formula_0 rfl ?_
  refine q_iconst (v := 0) dX8_formula_1 rfl ?_
  refine q_bipush (v := 6) dX8_formula_2 rfl ?_
  refine z_callS (j_in sg ta x 0 6) kS_X8_94 dX8_formula_4 rfl (by omega) (Nat.le_of_ble_eq_true rfl) (Nat.le_refl _) (Nat.le_refl _) rfl (fun v s1 t1 h => ?_)
  obtain ⟨rfl, rfl, rfl⟩ := h
  dsimp only [Option.toList, List.cons_append, List.nil_append]
  refine q_if_ne 13 dX8_formula_7 (by decide) (fun h => ?_) (fun h => ?_)
  · have hx := bC_nz.mp h
    obtain ⟨kd, hkd, rfl⟩ := i32_le (n := 6) (by omega) (Int32.not_lt.mpr hx.1) hx.2
    have N : ∀ k : Nat, k ≤ 6 → kd ≠ k → ¬ nI kd = nI k := fun k hk h => nI_ne (by omega) (by omega) h
    -- the numbers are inside
    have g203 : ∀ F, tk nt a → othOk (nI nt) (nI nc) (nI kd) b c d → numOk (nI kd) b c → Zq mX8_formula 2 (fun v s t => t = t1 ∧ (¬ (0 ≤ nI kd ∧ nI kd ≤ 6) → v = some (.int (-3)) ∧ s = s1) ∧ ((0 ≤ nI kd ∧ nI kd ≤ 6) → (¬ (tk nt a ∧ othOk (nI nt) (nI nc) (nI kd) b c d) → v = some (.int (-2)) ∧ s = s1) ∧ (tk nt a → othOk (nI nt) (nI nc) (nI kd) b c d → (¬ numOk (nI kd) b c → v = some (.int (-3)) ∧ s = s1) ∧ (numOk (nI kd) b c → (nf = 10 → v = some (.int (-5)) ∧ s = s1) ∧ (nf < 10 → v = some (.int (nI nf)) ∧ s = uForm s1 nf (nI kd) a b c d))))) s1 t1 203 [some (.ref (nm 20 0)), some (.int (nI kd)), some (.int a), some (.int b), some (.int c), some (.int d), some (.int F), none] [] := by
      intro F hta hot hnu
      refine q_aload_n dX8_formula_203 rfl ?_
      refine z_get 11 dX8_formula_204 (by first | assumption | decide) (sh_20 _ _ _) rfl (by decide) fl_X8_98 rfl ?_
      refine q_bipush (v := 10) dX8_formula_207 rfl ?_
      rw [h11]
      refine q_icmp_ne 215 dX8_formula_209 (by decide) (fun g => ?_) (fun g => ?_)
      · have h10 : nf < 10 := by
          have : nf ≠ 10 := fun q => g (by rw [q]; rfl)
          omega
        refine q_aload_n dX8_formula_215 rfl ?_
        refine z_get 11 dX8_formula_216 (by first | assumption | decide) (sh_20 _ _ _) rfl (by decide) fl_X8_98 rfl ?_
        rw [h11]
        refine q_istore dX8_formula_219 (Nat.le_of_ble_eq_true rfl) rfl ?_
        dsimp only [List.set]
        refine q_aload_n dX8_formula_221 rfl ?_
        refine z_get 12 dX8_formula_222 (by first | assumption | decide) (sh_20 _ _ _) rfl (by decide) fl_X8_36 rfl ?_
        refine q_iload dX8_formula_225 rfl ?_
        refine q_iload_n dX8_formula_227 rfl ?_
        refine z_iast dX8_formula_228 (by first | assumption | decide) (fun _ _ => rfl) (vp_in_nI (n := nf) h10 (by omega)) ?_
        refine q_aload_n dX8_formula_229 rfl ?_
        refine z_get 13 dX8_formula_230 (by first | assumption | decide) (sh_20 _ _ _) rfl (by decide) fl_X8_39 rfl ?_
        refine q_iload dX8_formula_233 rfl ?_
        refine q_iload_n dX8_formula_235 rfl ?_
        refine z_iast dX8_formula_236 (by first | assumption | decide) (fun _ _ => rfl) (vp_in_nI (n := nf) h10 (by omega)) ?_
        refine q_aload_n dX8_formula_237 rfl ?_
        refine z_get 14 dX8_formula_238 (by first | assumption | decide) (sh_20 _ _ _) rfl (by decide) fl_X8_42 rfl ?_
        refine q_iload dX8_formula_241 rfl ?_
        refine q_iload_n dX8_formula_243 rfl ?_
        refine z_iast dX8_formula_244 (by first | assumption | decide) (fun _ _ => rfl) (vp_in_nI (n := nf) h10 (by omega)) ?_
        refine q_aload_n dX8_formula_245 rfl ?_
        refine z_get 15 dX8_formula_246 (by first | assumption | decide) (sh_20 _ _ _) rfl (by decide) fl_X8_45 rfl ?_
        refine q_iload dX8_formula_249 rfl ?_
        refine q_iload dX8_formula_251 rfl ?_
        refine z_iast dX8_formula_253 (by first | assumption | decide) (fun _ _ => rfl) (vp_in_nI (n := nf) h10 (by omega)) ?_
        refine q_aload_n dX8_formula_254 rfl ?_
        refine z_get 16 dX8_formula_255 (by first | assumption | decide) (sh_20 _ _ _) rfl (by decide) fl_X8_48 rfl ?_
        refine q_iload dX8_formula_258 rfl ?_
        refine q_iload dX8_formula_260 rfl ?_
        refine z_iast dX8_formula_262 (by first | assumption | decide) (fun _ _ => rfl) (vp_in_nI (n := nf) h10 (by omega)) ?_
        refine q_aload_n dX8_formula_263 rfl ?_
        refine z_get 17 dX8_formula_264 (by first | assumption | decide) (sh_20 _ _ _) rfl (by decide) fl_X8_51 rfl ?_
        refine q_iload dX8_formula_267 rfl ?_
        refine q_iconst (v := 0) dX8_formula_269 rfl ?_
        refine z_zast dX8_formula_270 (by first | assumption | decide) (fun _ _ => rfl) (vp_in_nI (n := nf) h10 (by omega)) (Or.inl rfl) ?_
        refine q_aload_n dX8_formula_271 rfl ?_
        refine z_get 18 dX8_formula_272 (by first | assumption | decide) (sh_20 _ _ _) rfl (by decide) fl_X8_54 rfl ?_
        refine q_iload dX8_formula_275 rfl ?_
        refine q_iconst (v := 0) dX8_formula_277 rfl ?_
        refine z_zast dX8_formula_278 (by first | assumption | decide) (fun _ _ => rfl) (vp_in_nI (n := nf) h10 (by omega)) (Or.inl rfl) ?_
        refine q_aload_n dX8_formula_279 rfl ?_
        refine q_dup dX8_formula_280 rfl ?_
        refine z_get 11 dX8_formula_281 (by first | assumption | decide) (sh_20 _ _ _) rfl (by decide) fl_X8_98 rfl ?_
        rw [nI_clamp (by omega)]
        rw [up3_ne (by omega), up3_ne (by omega), up3_ne (by omega), up3_ne (by omega), up3_ne (by omega), up3_ne (by omega), up3_ne (by omega), h11]
        refine q_iconst (v := 1) dX8_formula_284 rfl ?_
        refine q_iadd dX8_formula_285 ?_
        rw [nI_1]
        refine z_puti 11 dX8_formula_286 (by first | assumption | decide) (sh_20 _ _ _) rfl (by decide) fl_X8_98 rfl pfI (Nat.le_of_ble_eq_true rfl) rfl ?_
        refine q_aload_n dX8_formula_289 rfl ?_
        refine z_callV (j_changed _ t1) kV_X8_110 dX8_formula_290 (by first | assumption | decide) (sh_20 _ _ _) rfl rfl rfl (by omega) (Nat.le_of_ble_eq_true rfl) (Nat.le_refl _) (Nat.le_refl _) rfl (fun v s2 t2 h => ?_)
        obtain ⟨rfl, rfl, rfl⟩ := h
        dsimp only [Option.toList, List.cons_append, List.nil_append]
        refine q_iload dX8_formula_293 rfl ?_
        exact z_iret dX8_formula_295 rfl ⟨rfl, fun q => absurd hx q, fun _ => ⟨fun q => absurd ⟨hta, hot⟩ q, fun _ _ => ⟨fun q => absurd hnu q, fun _ => ⟨fun q => absurd q (by omega), fun _ => ⟨rfl, rfl⟩⟩⟩⟩⟩
      · have h10 : nf = 10 := (nI_eq (b := 10) (by omega) (by omega)).mp g
        refine q_bipush (v := (-5)) dX8_formula_212 rfl ?_
        exact z_iret dX8_formula_214 rfl ⟨rfl, fun q => absurd hx q, fun _ => ⟨fun q => absurd ⟨hta, hot⟩ q, fun _ _ => ⟨fun q => absurd hnu q, fun _ => ⟨fun _ => ⟨rfl, rfl⟩, fun q => absurd q (by omega)⟩⟩⟩⟩
    have g200 : ∀ F, tk nt a → othOk (nI nt) (nI nc) (nI kd) b c d → ¬ numOk (nI kd) b c → Zq mX8_formula 2 (fun v s t => t = t1 ∧ (¬ (0 ≤ nI kd ∧ nI kd ≤ 6) → v = some (.int (-3)) ∧ s = s1) ∧ ((0 ≤ nI kd ∧ nI kd ≤ 6) → (¬ (tk nt a ∧ othOk (nI nt) (nI nc) (nI kd) b c d) → v = some (.int (-2)) ∧ s = s1) ∧ (tk nt a → othOk (nI nt) (nI nc) (nI kd) b c d → (¬ numOk (nI kd) b c → v = some (.int (-3)) ∧ s = s1) ∧ (numOk (nI kd) b c → (nf = 10 → v = some (.int (-5)) ∧ s = s1) ∧ (nf < 10 → v = some (.int (nI nf)) ∧ s = uForm s1 nf (nI kd) a b c d))))) s1 t1 200 [some (.ref (nm 20 0)), some (.int (nI kd)), some (.int a), some (.int b), some (.int c), some (.int d), some (.int F), none] [] := by
      intro F hta hot hnu
      refine q_bipush (v := (-3)) dX8_formula_200 rfl ?_
      exact z_iret dX8_formula_202 rfl ⟨rfl, fun q => absurd hx q, fun _ => ⟨fun q => absurd ⟨hta, hot⟩ q, fun _ _ => ⟨fun _ => ⟨rfl, rfl⟩, fun q => absurd q hnu⟩⟩⟩
    have g148 : ∀ F, F = bC (tk nt a ∧ othOk (nI nt) (nI nc) (nI kd) b c d) → Zq mX8_formula 2 (fun v s t => t = t1 ∧ (¬ (0 ≤ nI kd ∧ nI kd ≤ 6) → v = some (.int (-3)) ∧ s = s1) ∧ ((0 ≤ nI kd ∧ nI kd ≤ 6) → (¬ (tk nt a ∧ othOk (nI nt) (nI nc) (nI kd) b c d) → v = some (.int (-2)) ∧ s = s1) ∧ (tk nt a → othOk (nI nt) (nI nc) (nI kd) b c d → (¬ numOk (nI kd) b c → v = some (.int (-3)) ∧ s = s1) ∧ (numOk (nI kd) b c → (nf = 10 → v = some (.int (-5)) ∧ s = s1) ∧ (nf < 10 → v = some (.int (nI nf)) ∧ s = uForm s1 nf (nI kd) a b c d))))) s1 t1 148 [some (.ref (nm 20 0)), some (.int (nI kd)), some (.int a), some (.int b), some (.int c), some (.int d), some (.int F), none] [] := by
      intro F hF
      subst hF
      refine q_iload dX8_formula_148 rfl ?_
      refine q_if_ne 156 dX8_formula_150 (by decide) (fun g => ?_) (fun g => ?_)
      · obtain ⟨hta, hot⟩ := bC_nz.mp g
        refine q_iload_n dX8_formula_156 rfl ?_
        refine q_iconst (v := 1) dX8_formula_157 rfl ?_
        refine q_icmp_ne 173 dX8_formula_158 (by decide) (fun e1 => ?_) (fun e1 => ?_)
        · have k1 : kd ≠ 1 := fun q => e1 (by rw [q]; rfl)
          refine q_iload_n dX8_formula_173 rfl ?_
          refine q_iconst (v := 5) dX8_formula_174 rfl ?_
          refine q_icmp_ne 203 dX8_formula_175 (by decide) (fun e5 => ?_) (fun e5 => ?_)
          · have k5 : kd ≠ 5 := fun q => e5 (by rw [q]; rfl)
            exact g203 _ hta hot (num_o k1 k5 hkd)
          · have k5 : kd = 5 := (nI_eq (b := 5) (by omega) (by omega)).mp e5
            subst k5
            refine q_iload_n dX8_formula_178 rfl ?_
            refine q_iconst (v := 2) dX8_formula_179 rfl ?_
            refine q_bipush (v := 16) dX8_formula_180 rfl ?_
            refine z_callS (j_in s1 t1 b 2 16) kS_X8_94 dX8_formula_182 rfl (by omega) (Nat.le_of_ble_eq_true rfl) (Nat.le_refl _) (Nat.le_refl _) rfl (fun v s2 t2 h => ?_)
            obtain ⟨rfl, rfl, rfl⟩ := h
            dsimp only [Option.toList, List.cons_append, List.nil_append]
            refine q_if_eq 200 dX8_formula_185 (by decide) (fun e6 => ?_) (fun e6 => ?_)
            · exact g200 _ hta hot (fun q => bC_z.mp e6 (num_5.mp q).1)
            · refine q_iload dX8_formula_188 rfl ?_
              refine q_iconst (v := 0) dX8_formula_190 rfl ?_
              refine q_iload_n dX8_formula_191 rfl ?_
              refine q_iconst (v := 1) dX8_formula_192 rfl ?_
              refine q_isub dX8_formula_193 ?_
              refine z_callS (j_in s2 t2 c 0 _) kS_X8_94 dX8_formula_194 rfl (by omega) (Nat.le_of_ble_eq_true rfl) (Nat.le_refl _) (Nat.le_refl _) rfl (fun v s3 t3 h => ?_)
              obtain ⟨rfl, rfl, rfl⟩ := h
              dsimp only [Option.toList, List.cons_append, List.nil_append]
              refine q_if_ne 203 dX8_formula_197 (by decide) (fun e7 => ?_) (fun e7 => ?_)
              · exact g203 _ hta hot (num_5.mpr ⟨bC_nz.mp e6, bC_nz.mp e7⟩)
              · exact g200 _ hta hot (fun q => bC_z.mp e7 (num_5.mp q).2)
        · have k1 : kd = 1 := (nI_eq (b := 1) (by omega) (by omega)).mp e1
          subst k1
          refine q_iload dX8_formula_161 rfl ?_
          refine q_bipush (v := (-40)) dX8_formula_163 rfl ?_
          refine q_bipush (v := 40) dX8_formula_165 rfl ?_
          refine z_callS (j_in s1 t1 c (-40) 40) kS_X8_94 dX8_formula_167 rfl (by omega) (Nat.le_of_ble_eq_true rfl) (Nat.le_refl _) (Nat.le_refl _) rfl (fun v s2 t2 h => ?_)
          obtain ⟨rfl, rfl, rfl⟩ := h
          dsimp only [Option.toList, List.cons_append, List.nil_append]
          refine q_if_eq 200 dX8_formula_170 (by decide) (fun e2 => ?_) (fun e2 => ?_)
          · exact g200 _ hta hot (fun q => bC_z.mp e2 (num_1.mp q))
          · refine q_iload_n dX8_formula_173 rfl ?_
            refine q_iconst (v := 5) dX8_formula_174 rfl ?_
            refine q_icmp_ne 203 dX8_formula_175 (by decide) (fun e5 => ?_) (fun e5 => ?_)
            · exact g203 _ hta hot (num_1.mpr (bC_nz.mp e2))
            · exact absurd e5 (by decide)
      · have hn := bC_z.mp g
        refine q_bipush (v := (-2)) dX8_formula_153 rfl ?_
        exact z_iret dX8_formula_155 rfl ⟨rfl, fun q => absurd hx q, fun _ => ⟨fun _ => ⟨rfl, rfl⟩, fun q q' => absurd ⟨q, q'⟩ hn⟩⟩
    have g112 : ∀ (P : Prop), (kd ≠ 6 → (P ↔ (tk nt a ∧ othOk (nI nt) (nI nc) (nI kd) b c d))) → (kd = 6 → (P ↔ (tk nt a ∧ tk nt b))) → Zq mX8_formula 2 (fun v s t => t = t1 ∧ (¬ (0 ≤ nI kd ∧ nI kd ≤ 6) → v = some (.int (-3)) ∧ s = s1) ∧ ((0 ≤ nI kd ∧ nI kd ≤ 6) → (¬ (tk nt a ∧ othOk (nI nt) (nI nc) (nI kd) b c d) → v = some (.int (-2)) ∧ s = s1) ∧ (tk nt a → othOk (nI nt) (nI nc) (nI kd) b c d → (¬ numOk (nI kd) b c → v = some (.int (-3)) ∧ s = s1) ∧ (numOk (nI kd) b c → (nf = 10 → v = some (.int (-5)) ∧ s = s1) ∧ (nf < 10 → v = some (.int (nI nf)) ∧ s = uForm s1 nf (nI kd) a b c d))))) s1 t1 112 [some (.ref (nm 20 0)), some (.int (nI kd)), some (.int a), some (.int b), some (.int c), some (.int d), some (.int (bC P)), none] [] := by
      intro P h1 h2
      refine q_iload_n dX8_formula_112 rfl ?_
      refine q_bipush (v := 6) dX8_formula_113 rfl ?_
      refine q_icmp_ne 148 dX8_formula_115 (by decide) (fun e => ?_) (fun e => ?_)
      · have k6 : kd ≠ 6 := fun q => e (by rw [q]; rfl)
        exact g148 _ (bC_iff (h1 k6))
      · have k6 : kd = 6 := (nI_eq (b := 6) (by omega) (by omega)).mp e
        subst k6
        have hP := h2 rfl
        refine q_iload dX8_formula_118 rfl ?_
        have no : ¬ (tk nt a ∧ othOk (nI nt) (nI nc) (nI 6) b c d) → Zq mX8_formula 2 (fun v s t => t = t1 ∧ (¬ (0 ≤ nI 6 ∧ nI 6 ≤ 6) → v = some (.int (-3)) ∧ s = s1) ∧ ((0 ≤ nI 6 ∧ nI 6 ≤ 6) → (¬ (tk nt a ∧ othOk (nI nt) (nI nc) (nI 6) b c d) → v = some (.int (-2)) ∧ s = s1) ∧ (tk nt a → othOk (nI nt) (nI nc) (nI 6) b c d → (¬ numOk (nI 6) b c → v = some (.int (-3)) ∧ s = s1) ∧ (numOk (nI 6) b c → (nf = 10 → v = some (.int (-5)) ∧ s = s1) ∧ (nf < 10 → v = some (.int (nI nf)) ∧ s = uForm s1 nf (nI 6) a b c d))))) s1 t1 145 [some (.ref (nm 20 0)), some (.int (nI 6)), some (.int a), some (.int b), some (.int c), some (.int d), some (.int (bC P)), none] [] := by
          intro hn
          refine q_iconst (v := 0) dX8_formula_145 rfl ?_
          refine q_istore dX8_formula_146 (Nat.le_of_ble_eq_true rfl) rfl ?_
          dsimp only [List.set]
          exact g148 _ (bC_f hn).symm
        refine q_if_eq 145 dX8_formula_120 (by decide) (fun g => ?_) (fun g => ?_)
        · exact no (fun q => bC_z.mp g (hP.mpr ⟨q.1, ((oth_6 hnt).mp q.2).1⟩))
        · have hab := hP.mp (bC_nz.mp g)
          refine q_aload_n dX8_formula_123 rfl ?_
          refine q_iload dX8_formula_124 rfl ?_
          refine z_callV (j_isTerm s1 t1 nt c h4 hnt) kV_X8_113 dX8_formula_126 (by first | assumption | decide) (sh_20 _ _ _) rfl rfl rfl (by omega) (Nat.le_of_ble_eq_true rfl) (Nat.le_refl _) (Nat.le_refl _) rfl (fun v s2 t2 h => ?_)
          obtain ⟨rfl, rfl, rfl⟩ := h
          dsimp only [Option.toList, List.cons_append, List.nil_append]
          refine q_if_eq 145 dX8_formula_129 (by decide) (fun g2 => ?_) (fun g2 => ?_)
          · exact no (fun q => bC_z.mp g2 ((oth_6 hnt).mp q.2).2.1)
          · refine q_aload_n dX8_formula_132 rfl ?_
            refine q_iload dX8_formula_133 rfl ?_
            refine z_callV (j_isTerm s2 t2 nt d h4 hnt) kV_X8_113 dX8_formula_135 (by first | assumption | decide) (sh_20 _ _ _) rfl rfl rfl (by omega) (Nat.le_of_ble_eq_true rfl) (Nat.le_refl _) (Nat.le_refl _) rfl (fun v s3 t3 h => ?_)
            obtain ⟨rfl, rfl, rfl⟩ := h
            dsimp only [Option.toList, List.cons_append, List.nil_append]
            refine q_if_eq 145 dX8_formula_138 (by decide) (fun g3 => ?_) (fun g3 => ?_)
            · exact no (fun q => bC_z.mp g3 ((oth_6 hnt).mp q.2).2.2)
            · refine q_iconst (v := 1) dX8_formula_141 rfl ?_
              refine q_goto 146 dX8_formula_142 (by decide) ?_
              refine q_istore dX8_formula_146 (Nat.le_of_ble_eq_true rfl) rfl ?_
              dsimp only [List.set]
              exact g148 _ (bC_t ⟨hab.1, (oth_6 hnt).mpr ⟨hab.2, bC_nz.mp g2, bC_nz.mp g3⟩⟩).symm
    refine q_aload_n dX8_formula_13 rfl ?_
    refine q_iload_n dX8_formula_14 rfl ?_
    refine z_callV (j_isTerm s1 t1 nt a h4 hnt) kV_X8_113 dX8_formula_15 (by first | assumption | decide) (sh_20 _ _ _) rfl rfl rfl (by omega) (Nat.le_of_ble_eq_true rfl) (Nat.le_refl _) (Nat.le_refl _) rfl (fun v s2 t2 h => ?_)
    obtain ⟨rfl, rfl, rfl⟩ := h
    dsimp only [Option.toList, List.cons_append, List.nil_append]
    refine q_istore dX8_formula_18 (Nat.le_of_ble_eq_true rfl) rfl ?_
    dsimp only [List.set]
    refine q_iload_n dX8_formula_20 rfl ?_
    refine q_iconst (v := 1) dX8_formula_21 rfl ?_
    refine q_icmp_ne 53 dX8_formula_22 (by decide) (fun e1 => ?_) (fun e1 => ?_)
    · have k1 : kd ≠ 1 := fun q => e1 (by rw [q]; rfl)
      refine q_iload_n dX8_formula_53 rfl ?_
      refine q_iconst (v := 2) dX8_formula_54 rfl ?_
      refine q_icmp_ne 87 dX8_formula_55 (by decide) (fun e2 => ?_) (fun e2 => ?_)
      · have k2 : kd ≠ 2 := fun q => e2 (by rw [q]; rfl)
        refine q_iload_n dX8_formula_87 rfl ?_
        refine q_iconst (v := 5) dX8_formula_88 rfl ?_
        refine q_icmp_eq 112 dX8_formula_89 (by decide) (fun e5 => ?_) (fun e5 => ?_)
        · have k5 : kd = 5 := (nI_eq (b := 5) (by omega) (by omega)).mp e5
          subst k5
          exact g112 _ (fun _ => ⟨fun q => ⟨q, oth_5⟩, fun q => q.1⟩) (fun q => absurd q (by omega))
        · have k5 : kd ≠ 5 := fun q => e5 (by rw [q]; rfl)
          have fin : ∀ F P, F = bC P → (P ↔ tk nt a ∧ tk nt b) → Zq mX8_formula 2 (fun v s t => t = t2 ∧ (¬ (0 ≤ nI kd ∧ nI kd ≤ 6) → v = some (.int (-3)) ∧ s = s2) ∧ ((0 ≤ nI kd ∧ nI kd ≤ 6) → (¬ (tk nt a ∧ othOk (nI nt) (nI nc) (nI kd) b c d) → v = some (.int (-2)) ∧ s = s2) ∧ (tk nt a → othOk (nI nt) (nI nc) (nI kd) b c d → (¬ numOk (nI kd) b c → v = some (.int (-3)) ∧ s = s2) ∧ (numOk (nI kd) b c → (nf = 10 → v = some (.int (-5)) ∧ s = s2) ∧ (nf < 10 → v = some (.int (nI nf)) ∧ s = uForm s2 nf (nI kd) a b c d))))) s2 t2 112 [some (.ref (nm 20 0)), some (.int (nI kd)), some (.int a), some (.int b), some (.int c), some (.int d), some (.int F), none] [] := by
            intro F P hF hP
            rw [hF]
            refine g112 _ (fun k6 => ?_) (fun _ => hP)
            rw [oth_b hnt (by omega)]
            exact hP
          refine q_iload dX8_formula_92 rfl ?_
          refine q_if_eq 109 dX8_formula_94 (by decide) (fun g => ?_) (fun g => ?_)
          · refine q_iconst (v := 0) dX8_formula_109 rfl ?_
            refine q_istore dX8_formula_110 (Nat.le_of_ble_eq_true rfl) rfl ?_
            dsimp only [List.set]
            exact fin _ (tk nt a ∧ tk nt b) (bC_f (fun q => bC_z.mp g q.1)).symm Iff.rfl
          · refine q_aload_n dX8_formula_97 rfl ?_
            refine q_iload_n dX8_formula_98 rfl ?_
            refine z_callV (j_isTerm s2 t2 nt b h4 hnt) kV_X8_113 dX8_formula_99 (by first | assumption | decide) (sh_20 _ _ _) rfl rfl rfl (by omega) (Nat.le_of_ble_eq_true rfl) (Nat.le_refl _) (Nat.le_refl _) rfl (fun v s3 t3 h => ?_)
            obtain ⟨rfl, rfl, rfl⟩ := h
            dsimp only [Option.toList, List.cons_append, List.nil_append]
            refine q_if_eq 109 dX8_formula_102 (by decide) (fun g2 => ?_) (fun g2 => ?_)
            · refine q_iconst (v := 0) dX8_formula_109 rfl ?_
              refine q_istore dX8_formula_110 (Nat.le_of_ble_eq_true rfl) rfl ?_
              dsimp only [List.set]
              exact fin _ (tk nt a ∧ tk nt b) (bC_f (fun q => bC_z.mp g2 q.2)).symm Iff.rfl
            · refine q_iconst (v := 1) dX8_formula_105 rfl ?_
              refine q_goto 110 dX8_formula_106 (by decide) ?_
              refine q_istore dX8_formula_110 (Nat.le_of_ble_eq_true rfl) rfl ?_
              dsimp only [List.set]
              exact fin _ (tk nt a ∧ tk nt b) (bC_t ⟨bC_nz.mp g, bC_nz.mp g2⟩).symm Iff.rfl
      · have k2 : kd = 2 := (nI_eq (b := 2) (by omega) (by omega)).mp e2
        subst k2
        have fin : ∀ F P, F = bC P → (P ↔ tk nt a ∧ tk nc b) → Zq mX8_formula 2 (fun v s t => t = t2 ∧ (¬ (0 ≤ nI 2 ∧ nI 2 ≤ 6) → v = some (.int (-3)) ∧ s = s2) ∧ ((0 ≤ nI 2 ∧ nI 2 ≤ 6) → (¬ (tk nt a ∧ othOk (nI nt) (nI nc) (nI 2) b c d) → v = some (.int (-2)) ∧ s = s2) ∧ (tk nt a → othOk (nI nt) (nI nc) (nI 2) b c d → (¬ numOk (nI 2) b c → v = some (.int (-3)) ∧ s = s2) ∧ (numOk (nI 2) b c → (nf = 10 → v = some (.int (-5)) ∧ s = s2) ∧ (nf < 10 → v = some (.int (nI nf)) ∧ s = uForm s2 nf (nI 2) a b c d))))) s2 t2 112 [some (.ref (nm 20 0)), some (.int (nI 2)), some (.int a), some (.int b), some (.int c), some (.int d), some (.int F), none] [] := by
          intro F P hF hP
          rw [hF]
          refine g112 _ (fun k6 => ?_) (fun q => absurd q (by omega))
          rw [oth_2 hnc]
          exact hP
        refine q_iload dX8_formula_58 rfl ?_
        refine q_if_eq 81 dX8_formula_60 (by decide) (fun g => ?_) (fun g => ?_)
        · refine q_iconst (v := 0) dX8_formula_81 rfl ?_
          refine q_istore dX8_formula_82 (Nat.le_of_ble_eq_true rfl) rfl ?_
          dsimp only [List.set]
          refine q_goto 112 dX8_formula_84 (by decide) ?_
          exact fin _ (tk nt a ∧ tk nc b) (bC_f (fun q => bC_z.mp g q.1)).symm Iff.rfl
        · refine q_iload_n dX8_formula_63 rfl ?_
          refine q_iconst (v := 0) dX8_formula_64 rfl ?_
          refine q_aload_n dX8_formula_65 rfl ?_
          refine z_get 7 dX8_formula_66 (by first | assumption | decide) (sh_20 _ _ _) rfl (by decide) fl_X8_107 rfl ?_
          refine q_iconst (v := 1) dX8_formula_69 rfl ?_
          refine q_isub dX8_formula_70 ?_
          rw [h7]
          refine z_callS (j_in s2 t2 b 0 _) kS_X8_94 dX8_formula_71 rfl (by omega) (Nat.le_of_ble_eq_true rfl) (Nat.le_refl _) (Nat.le_refl _) rfl (fun v s3 t3 h => ?_)
          obtain ⟨rfl, rfl, rfl⟩ := h
          dsimp only [Option.toList, List.cons_append, List.nil_append]
          refine q_if_eq 81 dX8_formula_74 (by decide) (fun g2 => ?_) (fun g2 => ?_)
          · refine q_iconst (v := 0) dX8_formula_81 rfl ?_
            refine q_istore dX8_formula_82 (Nat.le_of_ble_eq_true rfl) rfl ?_
            dsimp only [List.set]
            refine q_goto 112 dX8_formula_84 (by decide) ?_
            exact fin _ (tk nt a ∧ tk nc b) (bC_f (fun q => bC_z.mp g2 ((tk_in (by omega) b).mp q.2))).symm Iff.rfl
          · refine q_iconst (v := 1) dX8_formula_77 rfl ?_
            refine q_goto 82 dX8_formula_78 (by decide) ?_
            refine q_istore dX8_formula_82 (Nat.le_of_ble_eq_true rfl) rfl ?_
            dsimp only [List.set]
            refine q_goto 112 dX8_formula_84 (by decide) ?_
            exact fin _ (tk nt a ∧ tk nc b) (bC_t ⟨bC_nz.mp g, (tk_in (by omega) b).mpr (bC_nz.mp g2)⟩).symm Iff.rfl
    · have k1 : kd = 1 := (nI_eq (b := 1) (by omega) (by omega)).mp e1
      subst k1
      have fin : ∀ F P, F = bC P → (P ↔ tk nt a ∧ (b = -1 ∨ tk nt b)) → Zq mX8_formula 2 (fun v s t => t = t2 ∧ (¬ (0 ≤ nI 1 ∧ nI 1 ≤ 6) → v = some (.int (-3)) ∧ s = s2) ∧ ((0 ≤ nI 1 ∧ nI 1 ≤ 6) → (¬ (tk nt a ∧ othOk (nI nt) (nI nc) (nI 1) b c d) → v = some (.int (-2)) ∧ s = s2) ∧ (tk nt a → othOk (nI nt) (nI nc) (nI 1) b c d → (¬ numOk (nI 1) b c → v = some (.int (-3)) ∧ s = s2) ∧ (numOk (nI 1) b c → (nf = 10 → v = some (.int (-5)) ∧ s = s2) ∧ (nf < 10 → v = some (.int (nI nf)) ∧ s = uForm s2 nf (nI 1) a b c d))))) s2 t2 112 [some (.ref (nm 20 0)), some (.int (nI 1)), some (.int a), some (.int b), some (.int c), some (.int d), some (.int F), none] [] := by
        intro F P hF hP
        rw [hF]
        refine g112 _ (fun k6 => ?_) (fun q => absurd q (by omega))
        rw [oth_1 hnt]
        exact hP
      refine q_iload dX8_formula_25 rfl ?_
      refine q_if_eq 47 dX8_formula_27 (by decide) (fun g => ?_) (fun g => ?_)
      · refine q_iconst (v := 0) dX8_formula_47 rfl ?_
        refine q_istore dX8_formula_48 (Nat.le_of_ble_eq_true rfl) rfl ?_
        dsimp only [List.set]
        refine q_goto 112 dX8_formula_50 (by decide) ?_
        exact fin _ (tk nt a ∧ (b = -1 ∨ tk nt b)) (bC_f (fun q => bC_z.mp g q.1)).symm Iff.rfl
      · refine q_iload_n dX8_formula_30 rfl ?_
        refine q_iconst (v := (-1)) dX8_formula_31 rfl ?_
        refine q_icmp_eq 43 dX8_formula_32 (by decide) (fun g2 => ?_) (fun g2 => ?_)
        · refine q_iconst (v := 1) dX8_formula_43 rfl ?_
          refine q_goto 48 dX8_formula_44 (by decide) ?_
          refine q_istore dX8_formula_48 (Nat.le_of_ble_eq_true rfl) rfl ?_
          dsimp only [List.set]
          refine q_goto 112 dX8_formula_50 (by decide) ?_
          exact fin _ (tk nt a ∧ (b = -1 ∨ tk nt b)) (bC_t ⟨bC_nz.mp g, Or.inl g2⟩).symm Iff.rfl
        · refine q_aload_n dX8_formula_35 rfl ?_
          refine q_iload_n dX8_formula_36 rfl ?_
          refine z_callV (j_isTerm s2 t2 nt b h4 hnt) kV_X8_113 dX8_formula_37 (by first | assumption | decide) (sh_20 _ _ _) rfl rfl rfl (by omega) (Nat.le_of_ble_eq_true rfl) (Nat.le_refl _) (Nat.le_refl _) rfl (fun v s3 t3 h => ?_)
          obtain ⟨rfl, rfl, rfl⟩ := h
          dsimp only [Option.toList, List.cons_append, List.nil_append]
          refine q_if_eq 47 dX8_formula_40 (by decide) (fun g3 => ?_) (fun g3 => ?_)
          · refine q_iconst (v := 0) dX8_formula_47 rfl ?_
            refine q_istore dX8_formula_48 (Nat.le_of_ble_eq_true rfl) rfl ?_
            dsimp only [List.set]
            refine q_goto 112 dX8_formula_50 (by decide) ?_
            exact fin _ (tk nt a ∧ (b = -1 ∨ tk nt b)) (bC_f (fun q => q.2.elim g2 (bC_z.mp g3))).symm Iff.rfl
          · refine q_iconst (v := 1) dX8_formula_43 rfl ?_
            refine q_goto 48 dX8_formula_44 (by decide) ?_
            refine q_istore dX8_formula_48 (Nat.le_of_ble_eq_true rfl) rfl ?_
            dsimp only [List.set]
            refine q_goto 112 dX8_formula_50 (by decide) ?_
            exact fin _ (tk nt a ∧ (b = -1 ∨ tk nt b)) (bC_t ⟨bC_nz.mp g, Or.inr (bC_nz.mp g3)⟩).symm Iff.rfl
  · refine q_bipush (v := (-3)) dX8_formula_10 rfl ?_
    exact z_iret dX8_formula_12 rfl ⟨rfl, fun _ => ⟨rfl, rfl⟩, fun q => absurd q (bC_z.mp h)⟩
set_option maxRecDepth 100000 in
set_option maxHeartbeats 4000000 in
theorem j_length (sg : zI) (ta : zJ) (nT : Nat) (x : Int32) (hT : nT ≤ 4) (h1 : sg 20 0 1 = nI nT) : zP yX8_length mX8_length 1 [.ref (nm 20 0), .int x] sg ta (fun v s t => s = sg ∧ t = ta ∧ (¬ tk nT x → v = some (.int (-2))) ∧ (tk nT x → sg 20 0 19 = 0 → v = some (.int (-4))) ∧ ∀ u, u < nT → x = nI u → ¬ sg 20 0 19 = 0 → v = some (.int (sg 34 0 u))) := by
  refine zP_of (lv := [some (.ref (nm 20 0)), some (.int x)]) (by decide +kernel) rfl (fun h => by cases h) rfl (Nat.le_of_ble_eq_true rfl) ?_
  refine q_iload_n dX8_length_0 rfl ?_
  refine q_iconst (v := 0) dX8_length_1 rfl ?_
  refine q_aload_n dX8_length_2 rfl ?_
  refine z_get 1 dX8_length_3 (by first | assumption | decide) (sh_20 _ _ _) rfl (by decide) fl_X8_101 rfl ?_
  refine q_iconst (v := 1) dX8_length_6 rfl ?_
  refine q_isub dX8_length_7 ?_
  rw [h1]
  refine z_callS (j_in sg ta x 0 _) kS_X8_94 dX8_length_8 rfl (by omega) (Nat.le_of_ble_eq_true rfl) (Nat.le_refl _) (Nat.le_refl _) rfl (fun v s1 t1 h => ?_)
  obtain ⟨rfl, rfl, rfl⟩ := h
  dsimp only [Option.toList, List.cons_append, List.nil_append]
  refine q_if_ne 19 dX8_length_11 (by decide) (fun h => ?_) (fun h => ?_)
  · obtain ⟨u, hu, rfl⟩ := (tk_in (n := nT) (by omega) x).mpr (bC_nz.mp h)
    refine q_aload_n dX8_length_19 rfl ?_
    refine z_get 19 dX8_length_20 (by first | assumption | decide) (sh_20 _ _ _) rfl (by decide) fl_X8_87 rfl ?_
    refine q_if_ne 31 dX8_length_23 (by decide) (fun g => ?_) (fun g => ?_)
    · refine q_aload_n dX8_length_31 rfl ?_
      refine z_get 20 dX8_length_32 (by first | assumption | decide) (sh_20 _ _ _) rfl (by decide) fl_X8_57 rfl ?_
      refine q_iload_n dX8_length_35 rfl ?_
      refine z_iald dX8_length_36 (by first | assumption | decide) rfl (vp_in_nI (n := u) (by omega) (by omega)) ?_
      rw [nI_clamp (by omega)]
      refine z_iret dX8_length_37 rfl ⟨rfl, rfl, fun k => absurd ⟨u, hu, rfl⟩ k, fun _ q => absurd q g, fun u' a b _ => ?_⟩
      rw [(nI_eq (by omega) (by omega)).mp b]
    · refine q_bipush (v := (-4)) dX8_length_26 rfl ?_
      refine q_goto 37 dX8_length_28 (by decide) ?_
      exact z_iret dX8_length_37 rfl ⟨rfl, rfl, fun k => absurd ⟨u, hu, rfl⟩ k, fun _ _ => rfl, fun u' a b q => absurd g q⟩
  · have hno : ¬ tk nT x := fun k => bC_z.mp h ((tk_in (by omega) x).mp k)
    refine q_bipush (v := (-2)) dX8_length_14 rfl ?_
    refine q_goto 37 dX8_length_16 (by decide) ?_
    exact z_iret dX8_length_37 rfl ⟨rfl, rfl, fun _ => rfl, fun k => absurd k hno, fun f a b => absurd ⟨f, a, b⟩ hno⟩
set_option maxRecDepth 100000 in
set_option maxHeartbeats 4000000 in
theorem j_letter (sg : zI) (ta : zJ) (nT : Nat) (x y : Int32) (hT : nT ≤ 4) (h1 : sg 20 0 1 = nI nT) (hL : ¬ sg 20 0 19 = 0 → ∀ u, u < nT → ∃ l, l ≤ 5 ∧ sg 34 0 u = nI l) : zP yX8_letter mX8_letter 1 [.ref (nm 20 0), .int x, .int y] sg ta (fun v s t => s = sg ∧ t = ta ∧ (¬ tk nT x → v = some (.int (-2))) ∧ (tk nT x → sg 20 0 19 = 0 → v = some (.int (-4))) ∧ ∀ u l, u < nT → x = nI u → ¬ sg 20 0 19 = 0 → l ≤ 5 → sg 34 0 u = nI l → (¬ tk l y → v = some (.int (-1))) ∧ ∀ j, j < l → y = nI j → v = some (.int (sg 35 0 (5 * u + j)))) := by
  refine zP_of (lv := [some (.ref (nm 20 0)), some (.int x), some (.int y)]) (by decide +kernel) rfl (fun h => by cases h) rfl (Nat.le_of_ble_eq_true rfl) ?_
  refine q_iload_n dX8_letter_0 rfl ?_
  refine q_iconst (v := 0) dX8_letter_1 rfl ?_
  refine q_aload_n dX8_letter_2 rfl ?_
  refine z_get 1 dX8_letter_3 (by first | assumption | decide) (sh_20 _ _ _) rfl (by decide) fl_X8_101 rfl ?_
  refine q_iconst (v := 1) dX8_letter_6 rfl ?_
  refine q_isub dX8_letter_7 ?_
  rw [h1]
  refine z_callS (j_in sg ta x 0 _) kS_X8_94 dX8_letter_8 rfl (by omega) (Nat.le_of_ble_eq_true rfl) (Nat.le_refl _) (Nat.le_refl _) rfl (fun v s1 t1 h => ?_)
  obtain ⟨rfl, rfl, rfl⟩ := h
  dsimp only [Option.toList, List.cons_append, List.nil_append]
  refine q_if_ne 19 dX8_letter_11 (by decide) (fun h => ?_) (fun h => ?_)
  · obtain ⟨u, hu, rfl⟩ := (tk_in (n := nT) (by omega) x).mpr (bC_nz.mp h)
    refine q_aload_n dX8_letter_19 rfl ?_
    refine z_get 19 dX8_letter_20 (by first | assumption | decide) (sh_20 _ _ _) rfl (by decide) fl_X8_87 rfl ?_
    refine q_if_ne 31 dX8_letter_23 (by decide) (fun g => ?_) (fun g => ?_)
    · obtain ⟨l, hl, e⟩ := hL g u hu
      refine q_iload_n dX8_letter_31 rfl ?_
      refine q_iconst (v := 0) dX8_letter_32 rfl ?_
      refine q_aload_n dX8_letter_33 rfl ?_
      refine z_get 20 dX8_letter_34 (by first | assumption | decide) (sh_20 _ _ _) rfl (by decide) fl_X8_57 rfl ?_
      refine q_iload_n dX8_letter_37 rfl ?_
      refine z_iald dX8_letter_38 (by first | assumption | decide) rfl (vp_in_nI (n := u) (by omega) (by omega)) ?_
      rw [nI_clamp (by omega), e]
      refine q_iconst (v := 1) dX8_letter_39 rfl ?_
      refine q_isub dX8_letter_40 ?_
      refine z_callS (j_in s1 t1 y 0 _) kS_X8_94 dX8_letter_41 rfl (by omega) (Nat.le_of_ble_eq_true rfl) (Nat.le_refl _) (Nat.le_refl _) rfl (fun v s2 t2 h => ?_)
      obtain ⟨rfl, rfl, rfl⟩ := h
      dsimp only [Option.toList, List.cons_append, List.nil_append]
      have inj : ∀ u' l', u' < nT → nI u = nI u' → l' ≤ 5 → s2 34 0 u' = nI l' → u' = u ∧ l' = l := fun u' l' a b c d => by
        have e1 := ((nI_eq (by omega) (by omega)).mp b).symm
        subst e1
        rw [e] at d
        exact ⟨rfl, ((nI_eq (by omega) (by omega)).mp d).symm⟩
      refine q_if_eq 60 dX8_letter_44 (by decide) (fun g2 => ?_) (fun g2 => ?_)
      · refine q_iconst (v := (-1)) dX8_letter_60 rfl ?_
        refine z_iret dX8_letter_61 rfl ⟨rfl, rfl, fun k => absurd ⟨u, hu, rfl⟩ k, fun _ q => absurd q g, fun u' l' a b _ c d => ?_⟩
        obtain ⟨rfl, rfl⟩ := inj u' l' a b c d
        have hn : ¬ tk l' y := fun k => bC_z.mp g2 ((tk_in (by omega) y).mp k)
        exact ⟨fun _ => rfl, fun j k1 k2 => absurd ⟨j, k1, k2⟩ hn⟩
      · obtain ⟨j, hj, rfl⟩ := (tk_in (n := l) (by omega) y).mpr (bC_nz.mp g2)
        refine q_aload_n dX8_letter_47 rfl ?_
        refine z_get 21 dX8_letter_48 (by first | assumption | decide) (sh_20 _ _ _) rfl (by decide) fl_X8_60 rfl ?_
        refine q_iconst (v := 5) dX8_letter_51 rfl ?_
        refine q_iload_n dX8_letter_52 rfl ?_
        refine q_imul dX8_letter_53 ?_
        refine q_iload_n dX8_letter_54 rfl ?_
        refine q_iadd dX8_letter_55 ?_
        rw [show (5 : Int32) * nI u = nI (5 * u) from pk_mul 5 u, nI_add]
        refine z_iald dX8_letter_56 (by first | assumption | decide) rfl (vp_in_nI (n := 5 * u + j) (by omega) (by omega)) ?_
        refine q_goto 61 dX8_letter_57 (by decide) ?_
        rw [nI_clamp (by omega)]
        refine z_iret dX8_letter_61 rfl ⟨rfl, rfl, fun k => absurd ⟨u, hu, rfl⟩ k, fun _ q => absurd q g, fun u' l' a b _ c d => ?_⟩
        obtain ⟨rfl, rfl⟩ := inj u' l' a b c d
        refine ⟨fun k => absurd ⟨j, hj, rfl⟩ k, fun j' k1 k2 => ?_⟩
        rw [(nI_eq (by omega) (by omega)).mp k2]
    · refine q_bipush (v := (-4)) dX8_letter_26 rfl ?_
      refine q_goto 61 dX8_letter_28 (by decide) ?_
      exact z_iret dX8_letter_61 rfl ⟨rfl, rfl, fun k => absurd ⟨u, hu, rfl⟩ k, fun _ _ => rfl, fun u' l' a b q => absurd g q⟩
  · have hno : ¬ tk nT x := fun k => bC_z.mp h ((tk_in (by omega) x).mp k)
    refine q_bipush (v := (-2)) dX8_letter_14 rfl ?_
    refine q_goto 61 dX8_letter_16 (by decide) ?_
    exact z_iret dX8_letter_61 rfl ⟨rfl, rfl, fun _ => rfl, fun k => absurd k hno, fun f l a b => absurd ⟨f, a, b⟩ hno⟩
set_option maxRecDepth 100000 in
set_option maxHeartbeats 4000000 in
theorem j_inCore (sg : zI) (ta : zJ) (nf : Nat) (x : Int32) (hnf : nf ≤ 10) (h11 : sg 20 0 11 = nI nf) (h01 : ¬ sg 20 0 22 = 0 → ∀ f, f < nf → sg 36 0 f = 0 ∨ sg 36 0 f = 1) : zP yX8_inCore mX8_inCore 1 [.ref (nm 20 0), .int x] sg ta (fun v s t => s = sg ∧ t = ta ∧ (¬ tk nf x → v = some (.int (-2))) ∧ (tk nf x → sg 20 0 22 = 0 → v = some (.int (-4))) ∧ ∀ f, f < nf → x = nI f → ¬ sg 20 0 22 = 0 → v = some (.int (sg 36 0 f))) := by
  refine zP_of (lv := [some (.ref (nm 20 0)), some (.int x)]) (by decide +kernel) rfl (fun h => by cases h) rfl (Nat.le_of_ble_eq_true rfl) ?_
  refine q_iload_n dX8_inCore_0 rfl ?_
  refine q_iconst (v := 0) dX8_inCore_1 rfl ?_
  refine q_aload_n dX8_inCore_2 rfl ?_
  refine z_get 11 dX8_inCore_3 (by first | assumption | decide) (sh_20 _ _ _) rfl (by decide) fl_X8_98 rfl ?_
  refine q_iconst (v := 1) dX8_inCore_6 rfl ?_
  refine q_isub dX8_inCore_7 ?_
  rw [h11]
  refine z_callS (j_in sg ta x 0 _) kS_X8_94 dX8_inCore_8 rfl (by omega) (Nat.le_of_ble_eq_true rfl) (Nat.le_refl _) (Nat.le_refl _) rfl (fun v s1 t1 h => ?_)
  obtain ⟨rfl, rfl, rfl⟩ := h
  dsimp only [Option.toList, List.cons_append, List.nil_append]
  refine q_if_ne 19 dX8_inCore_11 (by decide) (fun h => ?_) (fun h => ?_)
  · obtain ⟨u, hu, rfl⟩ := (tk_in (n := nf) (by omega) x).mpr (bC_nz.mp h)
    refine q_aload_n dX8_inCore_19 rfl ?_
    refine z_get 22 dX8_inCore_20 (by first | assumption | decide) (sh_20 _ _ _) rfl (by decide) fl_X8_91 rfl ?_
    refine q_if_ne 31 dX8_inCore_23 (by decide) (fun g => ?_) (fun g => ?_)
    · have hb := h01 g u hu
      refine q_aload_n dX8_inCore_31 rfl ?_
      refine z_get 23 dX8_inCore_32 (by first | assumption | decide) (sh_20 _ _ _) rfl (by decide) fl_X8_63 rfl ?_
      refine q_iload_n dX8_inCore_35 rfl ?_
      refine z_zald dX8_inCore_36 (by first | assumption | decide) rfl (vp_in_nI (n := u) (by omega) (by omega)) ?_
      rw [nI_clamp (by omega)]
      refine q_if_eq 44 dX8_inCore_37 (by decide) (fun g2 => ?_) (fun g2 => ?_)
      · refine q_iconst (v := 0) dX8_inCore_44 rfl ?_
        refine z_iret dX8_inCore_45 rfl ⟨rfl, rfl, fun k => absurd ⟨u, hu, rfl⟩ k, fun _ q => absurd q g, fun u' a b _ => ?_⟩
        rw [← (nI_eq (by omega) (by omega)).mp b, g2]
      · refine q_iconst (v := 1) dX8_inCore_40 rfl ?_
        refine q_goto 45 dX8_inCore_41 (by decide) ?_
        refine z_iret dX8_inCore_45 rfl ⟨rfl, rfl, fun k => absurd ⟨u, hu, rfl⟩ k, fun _ q => absurd q g, fun u' a b _ => ?_⟩
        rw [← (nI_eq (by omega) (by omega)).mp b, b01 hb g2]
    · refine q_bipush (v := (-4)) dX8_inCore_26 rfl ?_
      refine q_goto 45 dX8_inCore_28 (by decide) ?_
      exact z_iret dX8_inCore_45 rfl ⟨rfl, rfl, fun k => absurd ⟨u, hu, rfl⟩ k, fun _ _ => rfl, fun u' a b q => absurd g q⟩
  · have hno : ¬ tk nf x := fun k => bC_z.mp h ((tk_in (by omega) x).mp k)
    refine q_bipush (v := (-2)) dX8_inCore_14 rfl ?_
    refine q_goto 45 dX8_inCore_16 (by decide) ?_
    exact z_iret dX8_inCore_45 rfl ⟨rfl, rfl, fun _ => rfl, fun k => absurd k hno, fun f a b => absurd ⟨f, a, b⟩ hno⟩
theorem tell_in {mu : zI} {k : Nat} {r : Int32} (hk : k ≤ 6) (h : r = mu 20 0 (if k = 0 then 0 else if k = 1 then 1 else if k = 2 then 4 else if k = 3 then 7 else if k = 4 then 11 else if k = 5 then 3 else 19)) : tellM mu (nI k) r := by
  have n : ∀ j : Nat, j ≤ 6 → nI k = nI j → k = j := fun j hj e => (nI_eq (by omega) (by omega)).mp e
  refine ⟨fun e => ?_, fun e => ?_, fun e => ?_, fun e => ?_, fun e => ?_, fun e => ?_, fun e => ?_, fun e => absurd ⟨nI_pos' (by omega), nI_le (b := 6) hk (by omega)⟩ e⟩
  · rw [h, n 0 (by omega) e]; rfl
  · rw [h, n 1 (by omega) e]; rfl
  · rw [h, n 2 (by omega) e]; rfl
  · rw [h, n 3 (by omega) e]; rfl
  · rw [h, n 4 (by omega) e]; rfl
  · rw [h, n 5 (by omega) e]; rfl
  · rw [h, n 6 (by omega) e]; rfl
theorem tell_out {mu : zI} {x : Int32} (h : ¬ (0 ≤ x ∧ x ≤ 6)) : tellM mu x (-3) := by
  refine ⟨fun e => ?_, fun e => ?_, fun e => ?_, fun e => ?_, fun e => ?_, fun e => ?_, fun e => ?_, fun _ => rfl⟩ <;> exact absurd (by rw [e]; decide) h
theorem tell_uni {mu : zI} {x r r' : Int32} (h : tellM mu x r) (h' : tellM mu x r') : r = r' := by
  by_cases g : 0 ≤ x ∧ x ≤ 6
  · obtain ⟨k, hk, e⟩ := i32_le (n := 6) (by omega) (Int32.not_lt.mpr g.1) g.2
    obtain ⟨a0, a1, a2, a3, a4, a5, a6, -⟩ := h
    obtain ⟨b0, b1, b2, b3, b4, b5, b6, -⟩ := h'
    rcases (show k = 0 ∨ k = 1 ∨ k = 2 ∨ k = 3 ∨ k = 4 ∨ k = 5 ∨ k = 6 by omega) with rfl | rfl | rfl | rfl | rfl | rfl | rfl
    · rw [a0 e, b0 e]
    · rw [a1 e, b1 e]
    · rw [a2 e, b2 e]
    · rw [a3 e, b3 e]
    · rw [a4 e, b4 e]
    · rw [a5 e, b5 e]
    · rw [a6 e, b6 e]
  · rw [h.2.2.2.2.2.2.2 g, h'.2.2.2.2.2.2.2 g]
set_option maxRecDepth 100000 in
set_option maxHeartbeats 4000000 in
theorem j_told (sg : zI) (ta : zJ) (x : Int32) (h01 : sg 20 0 19 = 0 ∨ sg 20 0 19 = 1) : zP yX8_told mX8_told 1 [.ref (nm 20 0), .int x] sg ta (fun v s t => s = sg ∧ t = ta ∧ ∃ r, v = some (.int r) ∧ tellM sg x r) := by
  refine zP_of (lv := [some (.ref (nm 20 0)), some (.int x)]) (by decide +kernel) rfl (fun h => by cases h) rfl (Nat.le_of_ble_eq_true rfl) ?_
  refine q_iload_n dX8_told_0 rfl ?_
  by_cases g : 0 ≤ x ∧ x ≤ 6
  · obtain ⟨k, hk, e⟩ := i32_le (n := 6) (by omega) (Int32.not_lt.mpr g.1) g.2
    subst e
    rcases (show k = 0 ∨ k = 1 ∨ k = 2 ∨ k = 3 ∨ k = 4 ∨ k = 5 ∨ k = 6 by omega) with rfl | rfl | rfl | rfl | rfl | rfl | rfl
    · refine q_tableIn 44 dX8_told_1 (by decide) (by decide) rfl (by decide) ?_
      refine q_aload_n dX8_told_44 rfl ?_
      refine z_get 0 dX8_told_45 (by first | assumption | decide) (sh_20 _ _ _) rfl (by decide) fl_X8_7 rfl ?_
      exact z_iret dX8_told_48 rfl ⟨rfl, rfl, _, rfl, tell_in (by omega) rfl⟩
    · refine q_tableIn 49 dX8_told_1 (by decide) (by decide) rfl (by decide) ?_
      refine q_aload_n dX8_told_49 rfl ?_
      refine z_get 1 dX8_told_50 (by first | assumption | decide) (sh_20 _ _ _) rfl (by decide) fl_X8_101 rfl ?_
      exact z_iret dX8_told_53 rfl ⟨rfl, rfl, _, rfl, tell_in (by omega) rfl⟩
    · refine q_tableIn 54 dX8_told_1 (by decide) (by decide) rfl (by decide) ?_
      refine q_aload_n dX8_told_54 rfl ?_
      refine z_get 4 dX8_told_55 (by first | assumption | decide) (sh_20 _ _ _) rfl (by decide) fl_X8_104 rfl ?_
      exact z_iret dX8_told_58 rfl ⟨rfl, rfl, _, rfl, tell_in (by omega) rfl⟩
    · refine q_tableIn 59 dX8_told_1 (by decide) (by decide) rfl (by decide) ?_
      refine q_aload_n dX8_told_59 rfl ?_
      refine z_get 7 dX8_told_60 (by first | assumption | decide) (sh_20 _ _ _) rfl (by decide) fl_X8_107 rfl ?_
      exact z_iret dX8_told_63 rfl ⟨rfl, rfl, _, rfl, tell_in (by omega) rfl⟩
    · refine q_tableIn 64 dX8_told_1 (by decide) (by decide) rfl (by decide) ?_
      refine q_aload_n dX8_told_64 rfl ?_
      refine z_get 11 dX8_told_65 (by first | assumption | decide) (sh_20 _ _ _) rfl (by decide) fl_X8_98 rfl ?_
      exact z_iret dX8_told_68 rfl ⟨rfl, rfl, _, rfl, tell_in (by omega) rfl⟩
    · refine q_tableIn 69 dX8_told_1 (by decide) (by decide) rfl (by decide) ?_
      refine q_aload_n dX8_told_69 rfl ?_
      refine z_get 3 dX8_told_70 (by first | assumption | decide) (sh_20 _ _ _) rfl (by decide) fl_X8_17 rfl ?_
      exact z_iret dX8_told_73 rfl ⟨rfl, rfl, _, rfl, tell_in (by omega) rfl⟩
    · refine q_tableIn 74 dX8_told_1 (by decide) (by decide) rfl (by decide) ?_
      refine q_aload_n dX8_told_74 rfl ?_
      refine z_get 19 dX8_told_75 (by first | assumption | decide) (sh_20 _ _ _) rfl (by decide) fl_X8_87 rfl ?_
      refine q_if_eq 85 dX8_told_78 (by decide) (fun h => ?_) (fun h => ?_)
      · refine q_iconst (v := 0) dX8_told_85 rfl ?_
        exact z_iret dX8_told_86 rfl ⟨rfl, rfl, _, rfl, tell_in (by omega) h.symm⟩
      · refine q_iconst (v := 1) dX8_told_81 rfl ?_
        refine q_goto 86 dX8_told_82 (by decide) ?_
        exact z_iret dX8_told_86 rfl ⟨rfl, rfl, _, rfl, tell_in (by omega) (b01 h01 h).symm⟩
  · refine q_tableOut 87 dX8_told_1 ?_ (by decide) ?_
    · have hh : x.toInt < 0 ∨ 6 < x.toInt := by
        by_cases q : x.toInt < 0
        · exact Or.inl q
        · refine Or.inr ?_
          by_cases q2 : 6 < x.toInt
          · exact q2
          · exact absurd ⟨Int32.le_iff_toInt_le.mpr (by show (0 : Int) ≤ _; omega), Int32.le_iff_toInt_le.mpr (by show _ ≤ (6 : Int); omega)⟩ g
      exact hh
    refine q_bipush (v := (-3)) dX8_told_87 rfl ?_
    exact z_iret dX8_told_89 rfl ⟨rfl, rfl, _, rfl, tell_out g⟩
set_option maxRecDepth 100000 in
set_option maxHeartbeats 4000000 in
theorem k_told (sg : zI) (ta : zJ) (mu : zI) (A nT : Nat) (mo : Nat → Nat) (nt nc nf : Nat) (x : Int32) (hM : MoOk mu A nT mo nt nc nf) (hR : RcOk sg ta mu A nT mo nt nc nf) (h10 : sg 0 0 10 = mu 20 0 19) (h01 : mu 20 0 19 = 0 ∨ mu 20 0 19 = 1) : zP yX7_told mX7_told 1 [.ref (nm 0 0), .int x] sg ta (fun v s t => s = sg ∧ t = ta ∧ ∃ r, v = some (.int r) ∧ tellM mu x r) := by
  refine zP_of (lv := [some (.ref (nm 0 0)), some (.int x)]) (by decide +kernel) rfl (fun h => by cases h) rfl (Nat.le_of_ble_eq_true rfl) ?_
  refine q_iload_n dX7_told_0 rfl ?_
  by_cases g : 0 ≤ x ∧ x ≤ 6
  · obtain ⟨k, hk, e⟩ := i32_le (n := 6) (by omega) (Int32.not_lt.mpr g.1) g.2
    subst e
    rcases (show k = 0 ∨ k = 1 ∨ k = 2 ∨ k = 3 ∨ k = 4 ∨ k = 5 ∨ k = 6 by omega) with rfl | rfl | rfl | rfl | rfl | rfl | rfl
    · refine q_tableIn 44 dX7_told_1 (by decide) (by decide) rfl (by decide) ?_
      refine q_aload_n dX7_told_44 rfl ?_
      refine z_get 0 dX7_told_45 (by first | assumption | decide) (sh_0 _ _ _) rfl (by decide) fl_X7_12 rfl ?_
      refine z_get 1 dX7_told_48 (by first | assumption | decide) (sh_1 _ _ _) rfl (by decide) fl_X7_219 rfl ?_
      exact z_iret dX7_told_51 rfl ⟨rfl, rfl, _, rfl, tell_in (by omega) (hR.1.2.2.2.2.1.trans hM.1.2.2.2.2.1.symm)⟩
    · refine q_tableIn 52 dX7_told_1 (by decide) (by decide) rfl (by decide) ?_
      refine q_aload_n dX7_told_52 rfl ?_
      refine z_get 0 dX7_told_53 (by first | assumption | decide) (sh_0 _ _ _) rfl (by decide) fl_X7_12 rfl ?_
      refine z_get 2 dX7_told_56 (by first | assumption | decide) (sh_1 _ _ _) rfl (by decide) fl_X7_85 rfl ?_
      exact z_iret dX7_told_59 rfl ⟨rfl, rfl, _, rfl, tell_in (by omega) (hR.1.2.2.2.2.2.1.trans hM.1.2.2.2.2.2.1.symm)⟩
    · refine q_tableIn 60 dX7_told_1 (by decide) (by decide) rfl (by decide) ?_
      refine q_aload_n dX7_told_60 rfl ?_
      refine z_get 7 dX7_told_61 (by first | assumption | decide) (sh_0 _ _ _) rfl (by decide) fl_X7_66 rfl ?_
      exact z_iret dX7_told_64 rfl ⟨rfl, rfl, _, rfl, tell_in (by omega) (hR.2.2.1.1.trans hM.2.1.2.1.symm)⟩
    · refine q_tableIn 65 dX7_told_1 (by decide) (by decide) rfl (by decide) ?_
      refine q_aload_n dX7_told_65 rfl ?_
      refine z_get 8 dX7_told_66 (by first | assumption | decide) (sh_0 _ _ _) rfl (by decide) fl_X7_69 rfl ?_
      exact z_iret dX7_told_69 rfl ⟨rfl, rfl, _, rfl, tell_in (by omega) (hR.2.2.2.1.1.trans hM.2.2.1.2.1.symm)⟩
    · refine q_tableIn 70 dX7_told_1 (by decide) (by decide) rfl (by decide) ?_
      refine q_aload_n dX7_told_70 rfl ?_
      refine z_get 9 dX7_told_71 (by first | assumption | decide) (sh_0 _ _ _) rfl (by decide) fl_X7_58 rfl ?_
      exact z_iret dX7_told_74 rfl ⟨rfl, rfl, _, rfl, tell_in (by omega) (hR.2.2.2.2.1.1.trans hM.2.2.2.2.1.symm)⟩
    · refine q_tableIn 75 dX7_told_1 (by decide) (by decide) rfl (by decide) ?_
      refine q_aload_n dX7_told_75 rfl ?_
      refine z_get 0 dX7_told_76 (by first | assumption | decide) (sh_0 _ _ _) rfl (by decide) fl_X7_12 rfl ?_
      refine z_get 3 dX7_told_79 (by first | assumption | decide) (sh_1 _ _ _) rfl (by decide) fl_X7_226 rfl ?_
      exact z_iret dX7_told_82 rfl ⟨rfl, rfl, _, rfl, tell_in (by omega) (hR.1.2.2.2.2.2.2.1.trans hM.1.2.2.2.2.2.2.1.symm)⟩
    · refine q_tableIn 83 dX7_told_1 (by decide) (by decide) rfl (by decide) ?_
      refine q_aload_n dX7_told_83 rfl ?_
      refine z_get 10 dX7_told_84 (by first | assumption | decide) (sh_0 _ _ _) rfl (by decide) fl_X7_178 rfl ?_
      refine z_callS (c_asNumber sg ta _) kS_X7_131 dX7_told_87 rfl (by omega) (Nat.le_of_ble_eq_true rfl) (Nat.le_refl _) (Nat.le_refl _) rfl (fun v s1 t1 h => ?_)
      obtain ⟨rfl, rfl, rfl⟩ := h
      dsimp only [Option.toList, List.cons_append, List.nil_append]
      refine z_iret dX7_told_90 rfl ⟨rfl, rfl, _, rfl, tell_in (by omega) ?_⟩
      rw [h10]
      rcases h01 with q | q
      · rw [q, bC_f (fun z => z rfl)]; exact q.symm
      · rw [q, bC_t (by decide)]; exact q.symm
  · refine q_tableOut 91 dX7_told_1 ?_ (by decide) ?_
    · have hh : x.toInt < 0 ∨ 6 < x.toInt := by
        by_cases q : x.toInt < 0
        · exact Or.inl q
        · refine Or.inr ?_
          by_cases q2 : 6 < x.toInt
          · exact q2
          · exact absurd ⟨Int32.le_iff_toInt_le.mpr (by show (0 : Int) ≤ _; omega), Int32.le_iff_toInt_le.mpr (by show _ ≤ (6 : Int); omega)⟩ g
      exact hh
    refine q_bipush (v := (-3)) dX7_told_91 rfl ?_
    exact z_iret dX7_told_93 rfl ⟨rfl, rfl, _, rfl, tell_out g⟩
