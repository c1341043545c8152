/-! THE LAW: one round of its loop, operation by operation, and the loop -/
def QL : zQ := fun v _ _ => v = some (.int 1)
abbrev WL (L : Nat) (xs : Nat → Int32) (sg : zI) (ta : zJ) (pc i : Nat) : Prop := Wq mL_law 9 (some (L, xs)) 600000 7302250 QL 109 3573 109 (mk sg ta) pc [some (.ref 0), some (.ref (nm 0 0)), some (.ref (nm 20 0)), some (.int (nI i))] []
theorem lw_in {i k L : Nat} {y : Int32} (hy : y = nI k) (h : i + k < L) (hL : L ≤ 384) : vp_in (nI i + y) L := by rw [hy, nI_add]; exact pk_in (i + k) L h
set_option maxHeartbeats 2000000 in
theorem w_clear {L : Nat} {xs : Nat → Int32} {i : Nat} {sg : zI} {ta : zJ} (hL : L ≤ 384) (hi : i + 6 ≤ L) (hI : Inv sg ta) (kk : ∀ (s : zI) (t : zJ), Inv s t → WL L xs s t 753 i) : WL L xs sg ta 132 i := by
  have h1 : vp_in (nI i + 1) L := lw_in (k := 1) rfl (by omega) hL
  refine q_aload_n dL_law_132 rfl ?_
  refine q_aload_n dL_law_133 rfl ?_
  refine q_iload_n dL_law_134 rfl ?_
  refine q_iconst (v := 1) dL_law_135 rfl ?_
  refine q_iadd dL_law_136 ?_
  refine q_sld rfl dL_law_137 (by assumption) ?_
  refine z_callV (l_clear _ _ _ hI) kV_L_13 dL_law_138 (by decide) (sh_0 _ _ _) rfl rfl rfl (by omega) (Nat.le_of_ble_eq_true rfl) (by omega) (by omega) rfl (fun v s1 t1 h => ?_)
  obtain ⟨r, rfl, hz⟩ := h
  dsimp only [Option.toList, List.cons_append, List.nil_append]
  refine q_aload_n dL_law_141 rfl ?_
  refine q_aload_n dL_law_142 rfl ?_
  refine q_iload_n dL_law_143 rfl ?_
  refine q_iconst (v := 1) dL_law_144 rfl ?_
  refine q_iadd dL_law_145 ?_
  refine q_sld rfl dL_law_146 (by assumption) ?_
  refine z_callV hz kV_L_17 dL_law_147 (by decide) (sh_20 _ _ _) rfl rfl rfl (by omega) (Nat.le_of_ble_eq_true rfl) (by omega) (by omega) rfl (fun v s2 t2 h => ?_)
  obtain ⟨rfl, hI2⟩ := h
  dsimp only [Option.toList, List.cons_append, List.nil_append]
  exact q_icmp_eq 753 dL_law_150 (by decide) (fun _ => kk s2 t2 hI2) (fun h => absurd rfl h)
set_option maxHeartbeats 2000000 in
theorem w_text {L : Nat} {xs : Nat → Int32} {i : Nat} {sg : zI} {ta : zJ} (hL : L ≤ 384) (hi : i + 6 ≤ L) (hI : Inv sg ta) (kk : ∀ (s : zI) (t : zJ), Inv s t → WL L xs s t 753 i) : WL L xs sg ta 155 i := by
  have h1 : vp_in (nI i + 1) L := lw_in (k := 1) rfl (by omega) hL
  refine q_aload_n dL_law_155 rfl ?_
  refine q_aload_n dL_law_156 rfl ?_
  refine q_iload_n dL_law_157 rfl ?_
  refine q_iconst (v := 1) dL_law_158 rfl ?_
  refine q_iadd dL_law_159 ?_
  refine q_sld rfl dL_law_160 (by assumption) ?_
  refine z_callV (l_text _ _ _ hI) kV_L_18 dL_law_161 (by decide) (sh_0 _ _ _) rfl rfl rfl (by omega) (Nat.le_of_ble_eq_true rfl) (by omega) (by omega) rfl (fun v s1 t1 h => ?_)
  obtain ⟨r, rfl, hz⟩ := h
  dsimp only [Option.toList, List.cons_append, List.nil_append]
  refine q_aload_n dL_law_164 rfl ?_
  refine q_aload_n dL_law_165 rfl ?_
  refine q_iload_n dL_law_166 rfl ?_
  refine q_iconst (v := 1) dL_law_167 rfl ?_
  refine q_iadd dL_law_168 ?_
  refine q_sld rfl dL_law_169 (by assumption) ?_
  refine z_callV hz kV_L_21 dL_law_170 (by decide) (sh_20 _ _ _) rfl rfl rfl (by omega) (Nat.le_of_ble_eq_true rfl) (by omega) (by omega) rfl (fun v s2 t2 h => ?_)
  obtain ⟨rfl, hI2⟩ := h
  dsimp only [Option.toList, List.cons_append, List.nil_append]
  exact q_icmp_eq 753 dL_law_173 (by decide) (fun _ => kk s2 t2 hI2) (fun h => absurd rfl h)
set_option maxHeartbeats 2000000 in
theorem w_term {L : Nat} {xs : Nat → Int32} {i : Nat} {sg : zI} {ta : zJ} (hL : L ≤ 384) (hi : i + 6 ≤ L) (hI : Inv sg ta) (kk : ∀ (s : zI) (t : zJ), Inv s t → WL L xs s t 753 i) : WL L xs sg ta 178 i := by
  refine q_aload_n dL_law_178 rfl ?_
  refine z_callV (l_term _ _ hI) kV_L_22 dL_law_179 (by decide) (sh_0 _ _ _) rfl rfl rfl (by omega) (Nat.le_of_ble_eq_true rfl) (by omega) (by omega) rfl (fun v s1 t1 h => ?_)
  obtain ⟨r, rfl, hz⟩ := h
  dsimp only [Option.toList, List.cons_append, List.nil_append]
  refine q_aload_n dL_law_182 rfl ?_
  refine z_callV hz kV_L_26 dL_law_183 (by decide) (sh_20 _ _ _) rfl rfl rfl (by omega) (Nat.le_of_ble_eq_true rfl) (by omega) (by omega) rfl (fun v s2 t2 h => ?_)
  obtain ⟨rfl, hI2⟩ := h
  dsimp only [Option.toList, List.cons_append, List.nil_append]
  exact q_icmp_eq 753 dL_law_186 (by decide) (fun _ => kk s2 t2 hI2) (fun h => absurd rfl h)
set_option maxHeartbeats 2000000 in
theorem w_part {L : Nat} {xs : Nat → Int32} {i : Nat} {sg : zI} {ta : zJ} (hL : L ≤ 384) (hi : i + 6 ≤ L) (hI : Inv sg ta) (kk : ∀ (s : zI) (t : zJ), Inv s t → WL L xs s t 753 i) : WL L xs sg ta 191 i := by
  have h1 : vp_in (nI i + 1) L := lw_in (k := 1) rfl (by omega) hL
  have h2 : vp_in (nI i + 2) L := lw_in (k := 2) rfl (by omega) hL
  refine q_aload_n dL_law_191 rfl ?_
  refine q_aload_n dL_law_192 rfl ?_
  refine q_iload_n dL_law_193 rfl ?_
  refine q_iconst (v := 1) dL_law_194 rfl ?_
  refine q_iadd dL_law_195 ?_
  refine q_sld rfl dL_law_196 (by assumption) ?_
  refine q_aload_n dL_law_197 rfl ?_
  refine q_iload_n dL_law_198 rfl ?_
  refine q_iconst (v := 2) dL_law_199 rfl ?_
  refine q_iadd dL_law_200 ?_
  refine q_sld rfl dL_law_201 (by assumption) ?_
  refine z_callV (l_part _ _ _ _ hI) kV_L_27 dL_law_202 (by decide) (sh_0 _ _ _) rfl rfl rfl (by omega) (Nat.le_of_ble_eq_true rfl) (by omega) (by omega) rfl (fun v s1 t1 h => ?_)
  obtain ⟨r, rfl, hz⟩ := h
  dsimp only [Option.toList, List.cons_append, List.nil_append]
  refine q_aload_n dL_law_205 rfl ?_
  refine q_aload_n dL_law_206 rfl ?_
  refine q_iload_n dL_law_207 rfl ?_
  refine q_iconst (v := 1) dL_law_208 rfl ?_
  refine q_iadd dL_law_209 ?_
  refine q_sld rfl dL_law_210 (by assumption) ?_
  refine q_aload_n dL_law_211 rfl ?_
  refine q_iload_n dL_law_212 rfl ?_
  refine q_iconst (v := 2) dL_law_213 rfl ?_
  refine q_iadd dL_law_214 ?_
  refine q_sld rfl dL_law_215 (by assumption) ?_
  refine z_callV hz kV_L_31 dL_law_216 (by decide) (sh_20 _ _ _) rfl rfl rfl (by omega) (Nat.le_of_ble_eq_true rfl) (by omega) (by omega) rfl (fun v s2 t2 h => ?_)
  obtain ⟨rfl, hI2⟩ := h
  dsimp only [Option.toList, List.cons_append, List.nil_append]
  exact q_icmp_eq 753 dL_law_219 (by decide) (fun _ => kk s2 t2 hI2) (fun h => absurd rfl h)
set_option maxHeartbeats 2000000 in
theorem w_machine {L : Nat} {xs : Nat → Int32} {i : Nat} {sg : zI} {ta : zJ} (hL : L ≤ 384) (hi : i + 6 ≤ L) (hI : Inv sg ta) (kk : ∀ (s : zI) (t : zJ), Inv s t → WL L xs s t 753 i) : WL L xs sg ta 224 i := by
  have h1 : vp_in (nI i + 1) L := lw_in (k := 1) rfl (by omega) hL
  refine q_aload_n dL_law_224 rfl ?_
  refine q_aload_n dL_law_225 rfl ?_
  refine q_iload_n dL_law_226 rfl ?_
  refine q_iconst (v := 1) dL_law_227 rfl ?_
  refine q_iadd dL_law_228 ?_
  refine q_sld rfl dL_law_229 (by assumption) ?_
  refine z_callV (l_machine _ _ _ hI) kV_L_32 dL_law_230 (by decide) (sh_0 _ _ _) rfl rfl rfl (by omega) (Nat.le_of_ble_eq_true rfl) (by omega) (by omega) rfl (fun v s1 t1 h => ?_)
  obtain ⟨r, rfl, hz⟩ := h
  dsimp only [Option.toList, List.cons_append, List.nil_append]
  refine q_aload_n dL_law_233 rfl ?_
  refine q_aload_n dL_law_234 rfl ?_
  refine q_iload_n dL_law_235 rfl ?_
  refine q_iconst (v := 1) dL_law_236 rfl ?_
  refine q_iadd dL_law_237 ?_
  refine q_sld rfl dL_law_238 (by assumption) ?_
  refine z_callV hz kV_L_35 dL_law_239 (by decide) (sh_20 _ _ _) rfl rfl rfl (by omega) (Nat.le_of_ble_eq_true rfl) (by omega) (by omega) rfl (fun v s2 t2 h => ?_)
  obtain ⟨rfl, hI2⟩ := h
  dsimp only [Option.toList, List.cons_append, List.nil_append]
  exact q_icmp_eq 753 dL_law_242 (by decide) (fun _ => kk s2 t2 hI2) (fun h => absurd rfl h)
set_option maxHeartbeats 2000000 in
theorem w_step {L : Nat} {xs : Nat → Int32} {i : Nat} {sg : zI} {ta : zJ} (hL : L ≤ 384) (hi : i + 6 ≤ L) (hI : Inv sg ta) (kk : ∀ (s : zI) (t : zJ), Inv s t → WL L xs s t 753 i) : WL L xs sg ta 247 i := by
  have h1 : vp_in (nI i + 1) L := lw_in (k := 1) rfl (by omega) hL
  have h2 : vp_in (nI i + 2) L := lw_in (k := 2) rfl (by omega) hL
  have h3 : vp_in (nI i + 3) L := lw_in (k := 3) rfl (by omega) hL
  have h4 : vp_in (nI i + 4) L := lw_in (k := 4) rfl (by omega) hL
  refine q_aload_n dL_law_247 rfl ?_
  refine q_aload_n dL_law_248 rfl ?_
  refine q_iload_n dL_law_249 rfl ?_
  refine q_iconst (v := 1) dL_law_250 rfl ?_
  refine q_iadd dL_law_251 ?_
  refine q_sld rfl dL_law_252 (by assumption) ?_
  refine q_aload_n dL_law_253 rfl ?_
  refine q_iload_n dL_law_254 rfl ?_
  refine q_iconst (v := 2) dL_law_255 rfl ?_
  refine q_iadd dL_law_256 ?_
  refine q_sld rfl dL_law_257 (by assumption) ?_
  refine q_aload_n dL_law_258 rfl ?_
  refine q_iload_n dL_law_259 rfl ?_
  refine q_iconst (v := 3) dL_law_260 rfl ?_
  refine q_iadd dL_law_261 ?_
  refine q_sld rfl dL_law_262 (by assumption) ?_
  refine q_aload_n dL_law_263 rfl ?_
  refine q_iload_n dL_law_264 rfl ?_
  refine q_iconst (v := 4) dL_law_265 rfl ?_
  refine q_iadd dL_law_266 ?_
  refine q_sld rfl dL_law_267 (by assumption) ?_
  refine z_callV (l_step _ _ _ _ _ _ hI) kV_L_36 dL_law_268 (by decide) (sh_0 _ _ _) rfl rfl rfl (by omega) (Nat.le_of_ble_eq_true rfl) (by omega) (by omega) rfl (fun v s1 t1 h => ?_)
  obtain ⟨r, rfl, hz⟩ := h
  dsimp only [Option.toList, List.cons_append, List.nil_append]
  refine q_aload_n dL_law_271 rfl ?_
  refine q_aload_n dL_law_272 rfl ?_
  refine q_iload_n dL_law_273 rfl ?_
  refine q_iconst (v := 1) dL_law_274 rfl ?_
  refine q_iadd dL_law_275 ?_
  refine q_sld rfl dL_law_276 (by assumption) ?_
  refine q_aload_n dL_law_277 rfl ?_
  refine q_iload_n dL_law_278 rfl ?_
  refine q_iconst (v := 2) dL_law_279 rfl ?_
  refine q_iadd dL_law_280 ?_
  refine q_sld rfl dL_law_281 (by assumption) ?_
  refine q_aload_n dL_law_282 rfl ?_
  refine q_iload_n dL_law_283 rfl ?_
  refine q_iconst (v := 3) dL_law_284 rfl ?_
  refine q_iadd dL_law_285 ?_
  refine q_sld rfl dL_law_286 (by assumption) ?_
  refine q_aload_n dL_law_287 rfl ?_
  refine q_iload_n dL_law_288 rfl ?_
  refine q_iconst (v := 4) dL_law_289 rfl ?_
  refine q_iadd dL_law_290 ?_
  refine q_sld rfl dL_law_291 (by assumption) ?_
  refine z_callV hz kV_L_40 dL_law_292 (by decide) (sh_20 _ _ _) rfl rfl rfl (by omega) (Nat.le_of_ble_eq_true rfl) (by omega) (by omega) rfl (fun v s2 t2 h => ?_)
  obtain ⟨rfl, hI2⟩ := h
  dsimp only [Option.toList, List.cons_append, List.nil_append]
  exact q_icmp_eq 753 dL_law_295 (by decide) (fun _ => kk s2 t2 hI2) (fun h => absurd rfl h)
set_option maxHeartbeats 2000000 in
theorem w_good {L : Nat} {xs : Nat → Int32} {i : Nat} {sg : zI} {ta : zJ} (hL : L ≤ 384) (hi : i + 6 ≤ L) (hI : Inv sg ta) (kk : ∀ (s : zI) (t : zJ), Inv s t → WL L xs s t 753 i) : WL L xs sg ta 300 i := by
  have h1 : vp_in (nI i + 1) L := lw_in (k := 1) rfl (by omega) hL
  have h2 : vp_in (nI i + 2) L := lw_in (k := 2) rfl (by omega) hL
  have h3 : vp_in (nI i + 3) L := lw_in (k := 3) rfl (by omega) hL
  by_cases hx : xs (nI i + 3).toNatClampNeg = 0
  · skip
    refine q_aload_n dL_law_300 rfl ?_
    refine q_aload_n dL_law_301 rfl ?_
    refine q_iload_n dL_law_302 rfl ?_
    refine q_iconst (v := 1) dL_law_303 rfl ?_
    refine q_iadd dL_law_304 ?_
    refine q_sld rfl dL_law_305 (by assumption) ?_
    refine q_aload_n dL_law_306 rfl ?_
    refine q_iload_n dL_law_307 rfl ?_
    refine q_iconst (v := 2) dL_law_308 rfl ?_
    refine q_iadd dL_law_309 ?_
    refine q_sld rfl dL_law_310 (by assumption) ?_
    refine q_aload_n dL_law_311 rfl ?_
    refine q_iload_n dL_law_312 rfl ?_
    refine q_iconst (v := 3) dL_law_313 rfl ?_
    refine q_iadd dL_law_314 ?_
    refine q_sld rfl dL_law_315 (by assumption) ?_
    refine q_if_eq 323 dL_law_316 (by decide) (fun _ => ?_) (fun h => absurd hx h)
    refine q_iconst (v := 0) dL_law_323 rfl ?_
    refine z_callV (l_good _ _ _ _ _ (Or.inl rfl) hI) kV_L_41 dL_law_324 (by decide) (sh_0 _ _ _) rfl rfl rfl (by omega) (Nat.le_of_ble_eq_true rfl) (by omega) (by omega) rfl (fun v s1 t1 h => ?_)
    obtain ⟨r, rfl, hz⟩ := h
    dsimp only [Option.toList, List.cons_append, List.nil_append]
    refine q_aload_n dL_law_327 rfl ?_
    refine q_aload_n dL_law_328 rfl ?_
    refine q_iload_n dL_law_329 rfl ?_
    refine q_iconst (v := 1) dL_law_330 rfl ?_
    refine q_iadd dL_law_331 ?_
    refine q_sld rfl dL_law_332 (by assumption) ?_
    refine q_aload_n dL_law_333 rfl ?_
    refine q_iload_n dL_law_334 rfl ?_
    refine q_iconst (v := 2) dL_law_335 rfl ?_
    refine q_iadd dL_law_336 ?_
    refine q_sld rfl dL_law_337 (by assumption) ?_
    refine q_aload_n dL_law_338 rfl ?_
    refine q_iload_n dL_law_339 rfl ?_
    refine q_iconst (v := 3) dL_law_340 rfl ?_
    refine q_iadd dL_law_341 ?_
    refine q_sld rfl dL_law_342 (by assumption) ?_
    refine q_if_eq 350 dL_law_343 (by decide) (fun _ => ?_) (fun h => absurd hx h)
    refine q_iconst (v := 0) dL_law_350 rfl ?_
    refine z_callV hz kV_L_45 dL_law_351 (by decide) (sh_20 _ _ _) rfl rfl rfl (by omega) (Nat.le_of_ble_eq_true rfl) (by omega) (by omega) rfl (fun v s2 t2 h => ?_)
    obtain ⟨rfl, hI2⟩ := h
    dsimp only [Option.toList, List.cons_append, List.nil_append]
    exact q_icmp_eq 753 dL_law_354 (by decide) (fun _ => kk s2 t2 hI2) (fun h => absurd rfl h)
  · skip
    refine q_aload_n dL_law_300 rfl ?_
    refine q_aload_n dL_law_301 rfl ?_
    refine q_iload_n dL_law_302 rfl ?_
    refine q_iconst (v := 1) dL_law_303 rfl ?_
    refine q_iadd dL_law_304 ?_
    refine q_sld rfl dL_law_305 (by assumption) ?_
    refine q_aload_n dL_law_306 rfl ?_
    refine q_iload_n dL_law_307 rfl ?_
    refine q_iconst (v := 2) dL_law_308 rfl ?_
    refine q_iadd dL_law_309 ?_
    refine q_sld rfl dL_law_310 (by assumption) ?_
    refine q_aload_n dL_law_311 rfl ?_
    refine q_iload_n dL_law_312 rfl ?_
    refine q_iconst (v := 3) dL_law_313 rfl ?_
    refine q_iadd dL_law_314 ?_
    refine q_sld rfl dL_law_315 (by assumption) ?_
    refine q_if_eq 323 dL_law_316 (by decide) (fun h => absurd h hx) (fun _ => ?_)
    refine q_iconst (v := 1) dL_law_319 rfl ?_
    refine q_goto 324 dL_law_320 (by decide) ?_
    refine z_callV (l_good _ _ _ _ _ (Or.inr rfl) hI) kV_L_41 dL_law_324 (by decide) (sh_0 _ _ _) rfl rfl rfl (by omega) (Nat.le_of_ble_eq_true rfl) (by omega) (by omega) rfl (fun v s1 t1 h => ?_)
    obtain ⟨r, rfl, hz⟩ := h
    dsimp only [Option.toList, List.cons_append, List.nil_append]
    refine q_aload_n dL_law_327 rfl ?_
    refine q_aload_n dL_law_328 rfl ?_
    refine q_iload_n dL_law_329 rfl ?_
    refine q_iconst (v := 1) dL_law_330 rfl ?_
    refine q_iadd dL_law_331 ?_
    refine q_sld rfl dL_law_332 (by assumption) ?_
    refine q_aload_n dL_law_333 rfl ?_
    refine q_iload_n dL_law_334 rfl ?_
    refine q_iconst (v := 2) dL_law_335 rfl ?_
    refine q_iadd dL_law_336 ?_
    refine q_sld rfl dL_law_337 (by assumption) ?_
    refine q_aload_n dL_law_338 rfl ?_
    refine q_iload_n dL_law_339 rfl ?_
    refine q_iconst (v := 3) dL_law_340 rfl ?_
    refine q_iadd dL_law_341 ?_
    refine q_sld rfl dL_law_342 (by assumption) ?_
    refine q_if_eq 350 dL_law_343 (by decide) (fun h => absurd h hx) (fun _ => ?_)
    refine q_iconst (v := 1) dL_law_346 rfl ?_
    refine q_goto 351 dL_law_347 (by decide) ?_
    refine z_callV hz kV_L_45 dL_law_351 (by decide) (sh_20 _ _ _) rfl rfl rfl (by omega) (Nat.le_of_ble_eq_true rfl) (by omega) (by omega) rfl (fun v s2 t2 h => ?_)
    obtain ⟨rfl, hI2⟩ := h
    dsimp only [Option.toList, List.cons_append, List.nil_append]
    exact q_icmp_eq 753 dL_law_354 (by decide) (fun _ => kk s2 t2 hI2) (fun h => absurd rfl h)
set_option maxHeartbeats 2000000 in
theorem w_formula {L : Nat} {xs : Nat → Int32} {i : Nat} {sg : zI} {ta : zJ} (hL : L ≤ 384) (hi : i + 6 ≤ L) (hI : Inv sg ta) (kk : ∀ (s : zI) (t : zJ), Inv s t → WL L xs s t 753 i) : WL L xs sg ta 359 i := by
  have h1 : vp_in (nI i + 1) L := lw_in (k := 1) rfl (by omega) hL
  have h2 : vp_in (nI i + 2) L := lw_in (k := 2) rfl (by omega) hL
  have h3 : vp_in (nI i + 3) L := lw_in (k := 3) rfl (by omega) hL
  have h4 : vp_in (nI i + 4) L := lw_in (k := 4) rfl (by omega) hL
  have h5 : vp_in (nI i + 5) L := lw_in (k := 5) rfl (by omega) hL
  refine q_aload_n dL_law_359 rfl ?_
  refine q_aload_n dL_law_360 rfl ?_
  refine q_iload_n dL_law_361 rfl ?_
  refine q_iconst (v := 1) dL_law_362 rfl ?_
  refine q_iadd dL_law_363 ?_
  refine q_sld rfl dL_law_364 (by assumption) ?_
  refine q_aload_n dL_law_365 rfl ?_
  refine q_iload_n dL_law_366 rfl ?_
  refine q_iconst (v := 2) dL_law_367 rfl ?_
  refine q_iadd dL_law_368 ?_
  refine q_sld rfl dL_law_369 (by assumption) ?_
  refine q_aload_n dL_law_370 rfl ?_
  refine q_iload_n dL_law_371 rfl ?_
  refine q_iconst (v := 3) dL_law_372 rfl ?_
  refine q_iadd dL_law_373 ?_
  refine q_sld rfl dL_law_374 (by assumption) ?_
  refine q_aload_n dL_law_375 rfl ?_
  refine q_iload_n dL_law_376 rfl ?_
  refine q_iconst (v := 4) dL_law_377 rfl ?_
  refine q_iadd dL_law_378 ?_
  refine q_sld rfl dL_law_379 (by assumption) ?_
  refine q_aload_n dL_law_380 rfl ?_
  refine q_iload_n dL_law_381 rfl ?_
  refine q_iconst (v := 5) dL_law_382 rfl ?_
  refine q_iadd dL_law_383 ?_
  refine q_sld rfl dL_law_384 (by assumption) ?_
  refine z_callV (l_formula _ _ _ _ _ _ _ hI) kV_L_46 dL_law_385 (by decide) (sh_0 _ _ _) rfl rfl rfl (by omega) (Nat.le_of_ble_eq_true rfl) (by omega) (by omega) rfl (fun v s1 t1 h => ?_)
  obtain ⟨r, rfl, hz⟩ := h
  dsimp only [Option.toList, List.cons_append, List.nil_append]
  refine q_aload_n dL_law_388 rfl ?_
  refine q_aload_n dL_law_389 rfl ?_
  refine q_iload_n dL_law_390 rfl ?_
  refine q_iconst (v := 1) dL_law_391 rfl ?_
  refine q_iadd dL_law_392 ?_
  refine q_sld rfl dL_law_393 (by assumption) ?_
  refine q_aload_n dL_law_394 rfl ?_
  refine q_iload_n dL_law_395 rfl ?_
  refine q_iconst (v := 2) dL_law_396 rfl ?_
  refine q_iadd dL_law_397 ?_
  refine q_sld rfl dL_law_398 (by assumption) ?_
  refine q_aload_n dL_law_399 rfl ?_
  refine q_iload_n dL_law_400 rfl ?_
  refine q_iconst (v := 3) dL_law_401 rfl ?_
  refine q_iadd dL_law_402 ?_
  refine q_sld rfl dL_law_403 (by assumption) ?_
  refine q_aload_n dL_law_404 rfl ?_
  refine q_iload_n dL_law_405 rfl ?_
  refine q_iconst (v := 4) dL_law_406 rfl ?_
  refine q_iadd dL_law_407 ?_
  refine q_sld rfl dL_law_408 (by assumption) ?_
  refine q_aload_n dL_law_409 rfl ?_
  refine q_iload_n dL_law_410 rfl ?_
  refine q_iconst (v := 5) dL_law_411 rfl ?_
  refine q_iadd dL_law_412 ?_
  refine q_sld rfl dL_law_413 (by assumption) ?_
  refine z_callV hz kV_L_50 dL_law_414 (by decide) (sh_20 _ _ _) rfl rfl rfl (by omega) (Nat.le_of_ble_eq_true rfl) (by omega) (by omega) rfl (fun v s2 t2 h => ?_)
  obtain ⟨rfl, hI2⟩ := h
  dsimp only [Option.toList, List.cons_append, List.nil_append]
  exact q_icmp_eq 753 dL_law_417 (by decide) (fun _ => kk s2 t2 hI2) (fun h => absurd rfl h)
set_option maxHeartbeats 2000000 in
theorem w_deny {L : Nat} {xs : Nat → Int32} {i : Nat} {sg : zI} {ta : zJ} (hL : L ≤ 384) (hi : i + 6 ≤ L) (hI : Inv sg ta) (kk : ∀ (s : zI) (t : zJ), Inv s t → WL L xs s t 753 i) : WL L xs sg ta 422 i := by
  have h1 : vp_in (nI i + 1) L := lw_in (k := 1) rfl (by omega) hL
  have h2 : vp_in (nI i + 2) L := lw_in (k := 2) rfl (by omega) hL
  by_cases hx : xs (nI i + 2).toNatClampNeg = 0
  · skip
    refine q_aload_n dL_law_422 rfl ?_
    refine q_aload_n dL_law_423 rfl ?_
    refine q_iload_n dL_law_424 rfl ?_
    refine q_iconst (v := 1) dL_law_425 rfl ?_
    refine q_iadd dL_law_426 ?_
    refine q_sld rfl dL_law_427 (by assumption) ?_
    refine q_aload_n dL_law_428 rfl ?_
    refine q_iload_n dL_law_429 rfl ?_
    refine q_iconst (v := 2) dL_law_430 rfl ?_
    refine q_iadd dL_law_431 ?_
    refine q_sld rfl dL_law_432 (by assumption) ?_
    refine q_if_eq 440 dL_law_433 (by decide) (fun _ => ?_) (fun h => absurd hx h)
    refine q_iconst (v := 0) dL_law_440 rfl ?_
    refine z_callV (l_deny _ _ _ _ (Or.inl rfl) hI) kV_L_51 dL_law_441 (by decide) (sh_0 _ _ _) rfl rfl rfl (by omega) (Nat.le_of_ble_eq_true rfl) (by omega) (by omega) rfl (fun v s1 t1 h => ?_)
    obtain ⟨r, rfl, hz⟩ := h
    dsimp only [Option.toList, List.cons_append, List.nil_append]
    refine q_aload_n dL_law_444 rfl ?_
    refine q_aload_n dL_law_445 rfl ?_
    refine q_iload_n dL_law_446 rfl ?_
    refine q_iconst (v := 1) dL_law_447 rfl ?_
    refine q_iadd dL_law_448 ?_
    refine q_sld rfl dL_law_449 (by assumption) ?_
    refine q_aload_n dL_law_450 rfl ?_
    refine q_iload_n dL_law_451 rfl ?_
    refine q_iconst (v := 2) dL_law_452 rfl ?_
    refine q_iadd dL_law_453 ?_
    refine q_sld rfl dL_law_454 (by assumption) ?_
    refine q_if_eq 462 dL_law_455 (by decide) (fun _ => ?_) (fun h => absurd hx h)
    refine q_iconst (v := 0) dL_law_462 rfl ?_
    refine z_callV hz kV_L_55 dL_law_463 (by decide) (sh_20 _ _ _) rfl rfl rfl (by omega) (Nat.le_of_ble_eq_true rfl) (by omega) (by omega) rfl (fun v s2 t2 h => ?_)
    obtain ⟨rfl, hI2⟩ := h
    dsimp only [Option.toList, List.cons_append, List.nil_append]
    exact q_icmp_eq 753 dL_law_466 (by decide) (fun _ => kk s2 t2 hI2) (fun h => absurd rfl h)
  · skip
    refine q_aload_n dL_law_422 rfl ?_
    refine q_aload_n dL_law_423 rfl ?_
    refine q_iload_n dL_law_424 rfl ?_
    refine q_iconst (v := 1) dL_law_425 rfl ?_
    refine q_iadd dL_law_426 ?_
    refine q_sld rfl dL_law_427 (by assumption) ?_
    refine q_aload_n dL_law_428 rfl ?_
    refine q_iload_n dL_law_429 rfl ?_
    refine q_iconst (v := 2) dL_law_430 rfl ?_
    refine q_iadd dL_law_431 ?_
    refine q_sld rfl dL_law_432 (by assumption) ?_
    refine q_if_eq 440 dL_law_433 (by decide) (fun h => absurd h hx) (fun _ => ?_)
    refine q_iconst (v := 1) dL_law_436 rfl ?_
    refine q_goto 441 dL_law_437 (by decide) ?_
    refine z_callV (l_deny _ _ _ _ (Or.inr rfl) hI) kV_L_51 dL_law_441 (by decide) (sh_0 _ _ _) rfl rfl rfl (by omega) (Nat.le_of_ble_eq_true rfl) (by omega) (by omega) rfl (fun v s1 t1 h => ?_)
    obtain ⟨r, rfl, hz⟩ := h
    dsimp only [Option.toList, List.cons_append, List.nil_append]
    refine q_aload_n dL_law_444 rfl ?_
    refine q_aload_n dL_law_445 rfl ?_
    refine q_iload_n dL_law_446 rfl ?_
    refine q_iconst (v := 1) dL_law_447 rfl ?_
    refine q_iadd dL_law_448 ?_
    refine q_sld rfl dL_law_449 (by assumption) ?_
    refine q_aload_n dL_law_450 rfl ?_
    refine q_iload_n dL_law_451 rfl ?_
    refine q_iconst (v := 2) dL_law_452 rfl ?_
    refine q_iadd dL_law_453 ?_
    refine q_sld rfl dL_law_454 (by assumption) ?_
    refine q_if_eq 462 dL_law_455 (by decide) (fun h => absurd h hx) (fun _ => ?_)
    refine q_iconst (v := 1) dL_law_458 rfl ?_
    refine q_goto 463 dL_law_459 (by decide) ?_
    refine z_callV hz kV_L_55 dL_law_463 (by decide) (sh_20 _ _ _) rfl rfl rfl (by omega) (Nat.le_of_ble_eq_true rfl) (by omega) (by omega) rfl (fun v s2 t2 h => ?_)
    obtain ⟨rfl, hI2⟩ := h
    dsimp only [Option.toList, List.cons_append, List.nil_append]
    exact q_icmp_eq 753 dL_law_466 (by decide) (fun _ => kk s2 t2 hI2) (fun h => absurd rfl h)
set_option maxHeartbeats 2000000 in
theorem w_leave {L : Nat} {xs : Nat → Int32} {i : Nat} {sg : zI} {ta : zJ} (hL : L ≤ 384) (hi : i + 6 ≤ L) (hI : Inv sg ta) (kk : ∀ (s : zI) (t : zJ), Inv s t → WL L xs s t 753 i) : WL L xs sg ta 471 i := by
  have h1 : vp_in (nI i + 1) L := lw_in (k := 1) rfl (by omega) hL
  have h2 : vp_in (nI i + 2) L := lw_in (k := 2) rfl (by omega) hL
  by_cases hx : xs (nI i + 2).toNatClampNeg = 0
  · skip
    refine q_aload_n dL_law_471 rfl ?_
    refine q_aload_n dL_law_472 rfl ?_
    refine q_iload_n dL_law_473 rfl ?_
    refine q_iconst (v := 1) dL_law_474 rfl ?_
    refine q_iadd dL_law_475 ?_
    refine q_sld rfl dL_law_476 (by assumption) ?_
    refine q_aload_n dL_law_477 rfl ?_
    refine q_iload_n dL_law_478 rfl ?_
    refine q_iconst (v := 2) dL_law_479 rfl ?_
    refine q_iadd dL_law_480 ?_
    refine q_sld rfl dL_law_481 (by assumption) ?_
    refine q_if_eq 489 dL_law_482 (by decide) (fun _ => ?_) (fun h => absurd hx h)
    refine q_iconst (v := 0) dL_law_489 rfl ?_
    refine z_callV (l_leave _ _ _ _ (Or.inl rfl) hI) kV_L_56 dL_law_490 (by decide) (sh_0 _ _ _) rfl rfl rfl (by omega) (Nat.le_of_ble_eq_true rfl) (by omega) (by omega) rfl (fun v s1 t1 h => ?_)
    obtain ⟨r, rfl, hz⟩ := h
    dsimp only [Option.toList, List.cons_append, List.nil_append]
    refine q_aload_n dL_law_493 rfl ?_
    refine q_aload_n dL_law_494 rfl ?_
    refine q_iload_n dL_law_495 rfl ?_
    refine q_iconst (v := 1) dL_law_496 rfl ?_
    refine q_iadd dL_law_497 ?_
    refine q_sld rfl dL_law_498 (by assumption) ?_
    refine q_aload_n dL_law_499 rfl ?_
    refine q_iload_n dL_law_500 rfl ?_
    refine q_iconst (v := 2) dL_law_501 rfl ?_
    refine q_iadd dL_law_502 ?_
    refine q_sld rfl dL_law_503 (by assumption) ?_
    refine q_if_eq 511 dL_law_504 (by decide) (fun _ => ?_) (fun h => absurd hx h)
    refine q_iconst (v := 0) dL_law_511 rfl ?_
    refine z_callV hz kV_L_59 dL_law_512 (by decide) (sh_20 _ _ _) rfl rfl rfl (by omega) (Nat.le_of_ble_eq_true rfl) (by omega) (by omega) rfl (fun v s2 t2 h => ?_)
    obtain ⟨rfl, hI2⟩ := h
    dsimp only [Option.toList, List.cons_append, List.nil_append]
    exact q_icmp_eq 753 dL_law_515 (by decide) (fun _ => kk s2 t2 hI2) (fun h => absurd rfl h)
  · skip
    refine q_aload_n dL_law_471 rfl ?_
    refine q_aload_n dL_law_472 rfl ?_
    refine q_iload_n dL_law_473 rfl ?_
    refine q_iconst (v := 1) dL_law_474 rfl ?_
    refine q_iadd dL_law_475 ?_
    refine q_sld rfl dL_law_476 (by assumption) ?_
    refine q_aload_n dL_law_477 rfl ?_
    refine q_iload_n dL_law_478 rfl ?_
    refine q_iconst (v := 2) dL_law_479 rfl ?_
    refine q_iadd dL_law_480 ?_
    refine q_sld rfl dL_law_481 (by assumption) ?_
    refine q_if_eq 489 dL_law_482 (by decide) (fun h => absurd h hx) (fun _ => ?_)
    refine q_iconst (v := 1) dL_law_485 rfl ?_
    refine q_goto 490 dL_law_486 (by decide) ?_
    refine z_callV (l_leave _ _ _ _ (Or.inr rfl) hI) kV_L_56 dL_law_490 (by decide) (sh_0 _ _ _) rfl rfl rfl (by omega) (Nat.le_of_ble_eq_true rfl) (by omega) (by omega) rfl (fun v s1 t1 h => ?_)
    obtain ⟨r, rfl, hz⟩ := h
    dsimp only [Option.toList, List.cons_append, List.nil_append]
    refine q_aload_n dL_law_493 rfl ?_
    refine q_aload_n dL_law_494 rfl ?_
    refine q_iload_n dL_law_495 rfl ?_
    refine q_iconst (v := 1) dL_law_496 rfl ?_
    refine q_iadd dL_law_497 ?_
    refine q_sld rfl dL_law_498 (by assumption) ?_
    refine q_aload_n dL_law_499 rfl ?_
    refine q_iload_n dL_law_500 rfl ?_
    refine q_iconst (v := 2) dL_law_501 rfl ?_
    refine q_iadd dL_law_502 ?_
    refine q_sld rfl dL_law_503 (by assumption) ?_
    refine q_if_eq 511 dL_law_504 (by decide) (fun h => absurd h hx) (fun _ => ?_)
    refine q_iconst (v := 1) dL_law_507 rfl ?_
    refine q_goto 512 dL_law_508 (by decide) ?_
    refine z_callV hz kV_L_59 dL_law_512 (by decide) (sh_20 _ _ _) rfl rfl rfl (by omega) (Nat.le_of_ble_eq_true rfl) (by omega) (by omega) rfl (fun v s2 t2 h => ?_)
    obtain ⟨rfl, hI2⟩ := h
    dsimp only [Option.toList, List.cons_append, List.nil_append]
    exact q_icmp_eq 753 dL_law_515 (by decide) (fun _ => kk s2 t2 hI2) (fun h => absurd rfl h)
set_option maxHeartbeats 2000000 in
theorem w_solve {L : Nat} {xs : Nat → Int32} {i : Nat} {sg : zI} {ta : zJ} (hL : L ≤ 384) (hi : i + 6 ≤ L) (hI : Inv sg ta) (kk : ∀ (s : zI) (t : zJ), Inv s t → WL L xs s t 753 i) : WL L xs sg ta 520 i := by
  refine q_aload_n dL_law_520 rfl ?_
  refine z_callV (l_solve _ _ hI) kV_L_60 dL_law_521 (by decide) (sh_0 _ _ _) rfl rfl rfl (by omega) (Nat.le_of_ble_eq_true rfl) (by omega) (by omega) rfl (fun v s1 t1 h => ?_)
  obtain ⟨r, rfl, hz⟩ := h
  dsimp only [Option.toList, List.cons_append, List.nil_append]
  refine q_aload_n dL_law_524 rfl ?_
  refine z_callV hz kV_L_63 dL_law_525 (by decide) (sh_20 _ _ _) rfl rfl rfl (by omega) (Nat.le_of_ble_eq_true rfl) (by omega) (by omega) rfl (fun v s2 t2 h => ?_)
  obtain ⟨rfl, hI2⟩ := h
  dsimp only [Option.toList, List.cons_append, List.nil_append]
  exact q_icmp_eq 753 dL_law_528 (by decide) (fun _ => kk s2 t2 hI2) (fun h => absurd rfl h)
set_option maxHeartbeats 2000000 in
theorem w_model {L : Nat} {xs : Nat → Int32} {i : Nat} {sg : zI} {ta : zJ} (hL : L ≤ 384) (hi : i + 6 ≤ L) (hI : Inv sg ta) (kk : ∀ (s : zI) (t : zJ), Inv s t → WL L xs s t 753 i) : WL L xs sg ta 533 i := by
  have h1 : vp_in (nI i + 1) L := lw_in (k := 1) rfl (by omega) hL
  refine q_aload_n dL_law_533 rfl ?_
  refine q_aload_n dL_law_534 rfl ?_
  refine q_iload_n dL_law_535 rfl ?_
  refine q_iconst (v := 1) dL_law_536 rfl ?_
  refine q_iadd dL_law_537 ?_
  refine q_sld rfl dL_law_538 (by assumption) ?_
  refine z_callV (l_model _ _ _ hI) kV_L_64 dL_law_539 (by decide) (sh_0 _ _ _) rfl rfl rfl (by omega) (Nat.le_of_ble_eq_true rfl) (by omega) (by omega) rfl (fun v s1 t1 h => ?_)
  obtain ⟨r, rfl, hz⟩ := h
  dsimp only [Option.toList, List.cons_append, List.nil_append]
  refine q_aload_n dL_law_542 rfl ?_
  refine q_aload_n dL_law_543 rfl ?_
  refine q_iload_n dL_law_544 rfl ?_
  refine q_iconst (v := 1) dL_law_545 rfl ?_
  refine q_iadd dL_law_546 ?_
  refine q_sld rfl dL_law_547 (by assumption) ?_
  refine z_callV hz kV_L_67 dL_law_548 (by decide) (sh_20 _ _ _) rfl rfl rfl (by omega) (Nat.le_of_ble_eq_true rfl) (by omega) (by omega) rfl (fun v s2 t2 h => ?_)
  obtain ⟨rfl, hI2⟩ := h
  dsimp only [Option.toList, List.cons_append, List.nil_append]
  exact q_icmp_eq 753 dL_law_551 (by decide) (fun _ => kk s2 t2 hI2) (fun h => absurd rfl h)
set_option maxHeartbeats 2000000 in
theorem w_models {L : Nat} {xs : Nat → Int32} {i : Nat} {sg : zI} {ta : zJ} (hL : L ≤ 384) (hi : i + 6 ≤ L) (hI : Inv sg ta) (kk : ∀ (s : zI) (t : zJ), Inv s t → WL L xs s t 753 i) : WL L xs sg ta 556 i := by
  refine q_aload_n dL_law_556 rfl ?_
  refine z_callV (l_models _ _ hI) kV_L_68 dL_law_557 (by decide) (sh_0 _ _ _) rfl rfl rfl (by omega) (Nat.le_of_ble_eq_true rfl) (by omega) (by omega) rfl (fun v s1 t1 h => ?_)
  obtain ⟨r, rfl, hz⟩ := h
  dsimp only [Option.toList, List.cons_append, List.nil_append]
  refine q_aload_n dL_law_560 rfl ?_
  refine z_callV hz kV_L_71 dL_law_561 (by decide) (sh_20 _ _ _) rfl rfl rfl (by omega) (Nat.le_of_ble_eq_true rfl) (by omega) (by omega) rfl (fun v s2 t2 h => ?_)
  obtain ⟨rfl, hI2⟩ := h
  dsimp only [Option.toList, List.cons_append, List.nil_append]
  exact q_icmp_eq 753 dL_law_564 (by decide) (fun _ => kk s2 t2 hI2) (fun h => absurd rfl h)
set_option maxHeartbeats 2000000 in
theorem w_length {L : Nat} {xs : Nat → Int32} {i : Nat} {sg : zI} {ta : zJ} (hL : L ≤ 384) (hi : i + 6 ≤ L) (hI : Inv sg ta) (kk : ∀ (s : zI) (t : zJ), Inv s t → WL L xs s t 753 i) : WL L xs sg ta 569 i := by
  have h1 : vp_in (nI i + 1) L := lw_in (k := 1) rfl (by omega) hL
  refine q_aload_n dL_law_569 rfl ?_
  refine q_aload_n dL_law_570 rfl ?_
  refine q_iload_n dL_law_571 rfl ?_
  refine q_iconst (v := 1) dL_law_572 rfl ?_
  refine q_iadd dL_law_573 ?_
  refine q_sld rfl dL_law_574 (by assumption) ?_
  refine z_callV (l_length _ _ _ hI) kV_L_72 dL_law_575 (by decide) (sh_0 _ _ _) rfl rfl rfl (by omega) (Nat.le_of_ble_eq_true rfl) (by omega) (by omega) rfl (fun v s1 t1 h => ?_)
  obtain ⟨r, rfl, hz⟩ := h
  dsimp only [Option.toList, List.cons_append, List.nil_append]
  refine q_aload_n dL_law_578 rfl ?_
  refine q_aload_n dL_law_579 rfl ?_
  refine q_iload_n dL_law_580 rfl ?_
  refine q_iconst (v := 1) dL_law_581 rfl ?_
  refine q_iadd dL_law_582 ?_
  refine q_sld rfl dL_law_583 (by assumption) ?_
  refine z_callV hz kV_L_75 dL_law_584 (by decide) (sh_20 _ _ _) rfl rfl rfl (by omega) (Nat.le_of_ble_eq_true rfl) (by omega) (by omega) rfl (fun v s2 t2 h => ?_)
  obtain ⟨rfl, hI2⟩ := h
  dsimp only [Option.toList, List.cons_append, List.nil_append]
  exact q_icmp_eq 753 dL_law_587 (by decide) (fun _ => kk s2 t2 hI2) (fun h => absurd rfl h)
set_option maxHeartbeats 2000000 in
theorem w_letter {L : Nat} {xs : Nat → Int32} {i : Nat} {sg : zI} {ta : zJ} (hL : L ≤ 384) (hi : i + 6 ≤ L) (hI : Inv sg ta) (kk : ∀ (s : zI) (t : zJ), Inv s t → WL L xs s t 753 i) : WL L xs sg ta 592 i := by
  have h1 : vp_in (nI i + 1) L := lw_in (k := 1) rfl (by omega) hL
  have h2 : vp_in (nI i + 2) L := lw_in (k := 2) rfl (by omega) hL
  refine q_aload_n dL_law_592 rfl ?_
  refine q_aload_n dL_law_593 rfl ?_
  refine q_iload_n dL_law_594 rfl ?_
  refine q_iconst (v := 1) dL_law_595 rfl ?_
  refine q_iadd dL_law_596 ?_
  refine q_sld rfl dL_law_597 (by assumption) ?_
  refine q_aload_n dL_law_598 rfl ?_
  refine q_iload_n dL_law_599 rfl ?_
  refine q_iconst (v := 2) dL_law_600 rfl ?_
  refine q_iadd dL_law_601 ?_
  refine q_sld rfl dL_law_602 (by assumption) ?_
  refine z_callV (l_letter _ _ _ _ hI) kV_L_76 dL_law_603 (by decide) (sh_0 _ _ _) rfl rfl rfl (by omega) (Nat.le_of_ble_eq_true rfl) (by omega) (by omega) rfl (fun v s1 t1 h => ?_)
  obtain ⟨r, rfl, hz⟩ := h
  dsimp only [Option.toList, List.cons_append, List.nil_append]
  refine q_aload_n dL_law_606 rfl ?_
  refine q_aload_n dL_law_607 rfl ?_
  refine q_iload_n dL_law_608 rfl ?_
  refine q_iconst (v := 1) dL_law_609 rfl ?_
  refine q_iadd dL_law_610 ?_
  refine q_sld rfl dL_law_611 (by assumption) ?_
  refine q_aload_n dL_law_612 rfl ?_
  refine q_iload_n dL_law_613 rfl ?_
  refine q_iconst (v := 2) dL_law_614 rfl ?_
  refine q_iadd dL_law_615 ?_
  refine q_sld rfl dL_law_616 (by assumption) ?_
  refine z_callV hz kV_L_79 dL_law_617 (by decide) (sh_20 _ _ _) rfl rfl rfl (by omega) (Nat.le_of_ble_eq_true rfl) (by omega) (by omega) rfl (fun v s2 t2 h => ?_)
  obtain ⟨rfl, hI2⟩ := h
  dsimp only [Option.toList, List.cons_append, List.nil_append]
  exact q_icmp_eq 753 dL_law_620 (by decide) (fun _ => kk s2 t2 hI2) (fun h => absurd rfl h)
set_option maxHeartbeats 2000000 in
theorem w_holdz {L : Nat} {xs : Nat → Int32} {i : Nat} {sg : zI} {ta : zJ} (hL : L ≤ 384) (hi : i + 6 ≤ L) (hI : Inv sg ta) (kk : ∀ (s : zI) (t : zJ), Inv s t → WL L xs s t 753 i) : WL L xs sg ta 625 i := by
  have h1 : vp_in (nI i + 1) L := lw_in (k := 1) rfl (by omega) hL
  refine q_aload_n dL_law_625 rfl ?_
  refine q_aload_n dL_law_626 rfl ?_
  refine q_iload_n dL_law_627 rfl ?_
  refine q_iconst (v := 1) dL_law_628 rfl ?_
  refine q_iadd dL_law_629 ?_
  refine q_sld rfl dL_law_630 (by assumption) ?_
  refine z_callV (l_holdz _ _ _ hI) kV_L_80 dL_law_631 (by decide) (sh_0 _ _ _) rfl rfl rfl (by omega) (Nat.le_of_ble_eq_true rfl) (by omega) (by omega) rfl (fun v s1 t1 h => ?_)
  obtain ⟨r, rfl, hz⟩ := h
  dsimp only [Option.toList, List.cons_append, List.nil_append]
  refine q_aload_n dL_law_634 rfl ?_
  refine q_aload_n dL_law_635 rfl ?_
  refine q_iload_n dL_law_636 rfl ?_
  refine q_iconst (v := 1) dL_law_637 rfl ?_
  refine q_iadd dL_law_638 ?_
  refine q_sld rfl dL_law_639 (by assumption) ?_
  refine z_callV hz kV_L_83 dL_law_640 (by decide) (sh_20 _ _ _) rfl rfl rfl (by omega) (Nat.le_of_ble_eq_true rfl) (by omega) (by omega) rfl (fun v s2 t2 h => ?_)
  obtain ⟨rfl, hI2⟩ := h
  dsimp only [Option.toList, List.cons_append, List.nil_append]
  exact q_icmp_eq 753 dL_law_643 (by decide) (fun _ => kk s2 t2 hI2) (fun h => absurd rfl h)
set_option maxHeartbeats 2000000 in
theorem w_core {L : Nat} {xs : Nat → Int32} {i : Nat} {sg : zI} {ta : zJ} (hL : L ≤ 384) (hi : i + 6 ≤ L) (hI : Inv sg ta) (kk : ∀ (s : zI) (t : zJ), Inv s t → WL L xs s t 753 i) : WL L xs sg ta 648 i := by
  refine q_aload_n dL_law_648 rfl ?_
  refine z_callV (l_core _ _ hI) kV_L_84 dL_law_649 (by decide) (sh_0 _ _ _) rfl rfl rfl (by omega) (Nat.le_of_ble_eq_true rfl) (by omega) (by omega) rfl (fun v s1 t1 h => ?_)
  obtain ⟨r, rfl, hz⟩ := h
  dsimp only [Option.toList, List.cons_append, List.nil_append]
  refine q_aload_n dL_law_652 rfl ?_
  refine z_callV hz kV_L_87 dL_law_653 (by decide) (sh_20 _ _ _) rfl rfl rfl (by omega) (Nat.le_of_ble_eq_true rfl) (by omega) (by omega) rfl (fun v s2 t2 h => ?_)
  obtain ⟨rfl, hI2⟩ := h
  dsimp only [Option.toList, List.cons_append, List.nil_append]
  exact q_icmp_eq 753 dL_law_656 (by decide) (fun _ => kk s2 t2 hI2) (fun h => absurd rfl h)
set_option maxHeartbeats 2000000 in
theorem w_inCore {L : Nat} {xs : Nat → Int32} {i : Nat} {sg : zI} {ta : zJ} (hL : L ≤ 384) (hi : i + 6 ≤ L) (hI : Inv sg ta) (kk : ∀ (s : zI) (t : zJ), Inv s t → WL L xs s t 753 i) : WL L xs sg ta 661 i := by
  have h1 : vp_in (nI i + 1) L := lw_in (k := 1) rfl (by omega) hL
  refine q_aload_n dL_law_661 rfl ?_
  refine q_aload_n dL_law_662 rfl ?_
  refine q_iload_n dL_law_663 rfl ?_
  refine q_iconst (v := 1) dL_law_664 rfl ?_
  refine q_iadd dL_law_665 ?_
  refine q_sld rfl dL_law_666 (by assumption) ?_
  refine z_callV (l_inCore _ _ _ hI) kV_L_88 dL_law_667 (by decide) (sh_0 _ _ _) rfl rfl rfl (by omega) (Nat.le_of_ble_eq_true rfl) (by omega) (by omega) rfl (fun v s1 t1 h => ?_)
  obtain ⟨r, rfl, hz⟩ := h
  dsimp only [Option.toList, List.cons_append, List.nil_append]
  refine q_aload_n dL_law_670 rfl ?_
  refine q_aload_n dL_law_671 rfl ?_
  refine q_iload_n dL_law_672 rfl ?_
  refine q_iconst (v := 1) dL_law_673 rfl ?_
  refine q_iadd dL_law_674 ?_
  refine q_sld rfl dL_law_675 (by assumption) ?_
  refine z_callV hz kV_L_91 dL_law_676 (by decide) (sh_20 _ _ _) rfl rfl rfl (by omega) (Nat.le_of_ble_eq_true rfl) (by omega) (by omega) rfl (fun v s2 t2 h => ?_)
  obtain ⟨rfl, hI2⟩ := h
  dsimp only [Option.toList, List.cons_append, List.nil_append]
  exact q_icmp_eq 753 dL_law_679 (by decide) (fun _ => kk s2 t2 hI2) (fun h => absurd rfl h)
set_option maxHeartbeats 2000000 in
theorem w_spans {L : Nat} {xs : Nat → Int32} {i : Nat} {sg : zI} {ta : zJ} (hL : L ≤ 384) (hi : i + 6 ≤ L) (hI : Inv sg ta) (kk : ∀ (s : zI) (t : zJ), Inv s t → WL L xs s t 753 i) : WL L xs sg ta 684 i := by
  refine q_aload_n dL_law_684 rfl ?_
  refine z_callV (l_spans _ _ hI) kV_L_92 dL_law_685 (by decide) (sh_0 _ _ _) rfl rfl rfl (by omega) (Nat.le_of_ble_eq_true rfl) (by omega) (by omega) rfl (fun v s1 t1 h => ?_)
  obtain ⟨r, rfl, hz⟩ := h
  dsimp only [Option.toList, List.cons_append, List.nil_append]
  refine q_aload_n dL_law_688 rfl ?_
  refine z_callV hz kV_L_95 dL_law_689 (by decide) (sh_20 _ _ _) rfl rfl rfl (by omega) (Nat.le_of_ble_eq_true rfl) (by omega) (by omega) rfl (fun v s2 t2 h => ?_)
  obtain ⟨rfl, hI2⟩ := h
  dsimp only [Option.toList, List.cons_append, List.nil_append]
  exact q_icmp_eq 753 dL_law_692 (by decide) (fun _ => kk s2 t2 hI2) (fun h => absurd rfl h)
set_option maxHeartbeats 2000000 in
theorem w_meet {L : Nat} {xs : Nat → Int32} {i : Nat} {sg : zI} {ta : zJ} (hL : L ≤ 384) (hi : i + 6 ≤ L) (hI : Inv sg ta) (kk : ∀ (s : zI) (t : zJ), Inv s t → WL L xs s t 753 i) : WL L xs sg ta 697 i := by
  have h1 : vp_in (nI i + 1) L := lw_in (k := 1) rfl (by omega) hL
  have h2 : vp_in (nI i + 2) L := lw_in (k := 2) rfl (by omega) hL
  refine q_aload_n dL_law_697 rfl ?_
  refine q_aload_n dL_law_698 rfl ?_
  refine q_iload_n dL_law_699 rfl ?_
  refine q_iconst (v := 1) dL_law_700 rfl ?_
  refine q_iadd dL_law_701 ?_
  refine q_sld rfl dL_law_702 (by assumption) ?_
  refine q_aload_n dL_law_703 rfl ?_
  refine q_iload_n dL_law_704 rfl ?_
  refine q_iconst (v := 2) dL_law_705 rfl ?_
  refine q_iadd dL_law_706 ?_
  refine q_sld rfl dL_law_707 (by assumption) ?_
  refine z_callV (l_meet _ _ _ _ hI) kV_L_96 dL_law_708 (by decide) (sh_0 _ _ _) rfl rfl rfl (by omega) (Nat.le_of_ble_eq_true rfl) (by omega) (by omega) rfl (fun v s1 t1 h => ?_)
  obtain ⟨r, rfl, hz⟩ := h
  dsimp only [Option.toList, List.cons_append, List.nil_append]
  refine q_aload_n dL_law_711 rfl ?_
  refine q_aload_n dL_law_712 rfl ?_
  refine q_iload_n dL_law_713 rfl ?_
  refine q_iconst (v := 1) dL_law_714 rfl ?_
  refine q_iadd dL_law_715 ?_
  refine q_sld rfl dL_law_716 (by assumption) ?_
  refine q_aload_n dL_law_717 rfl ?_
  refine q_iload_n dL_law_718 rfl ?_
  refine q_iconst (v := 2) dL_law_719 rfl ?_
  refine q_iadd dL_law_720 ?_
  refine q_sld rfl dL_law_721 (by assumption) ?_
  refine z_callV hz kV_L_99 dL_law_722 (by decide) (sh_20 _ _ _) rfl rfl rfl (by omega) (Nat.le_of_ble_eq_true rfl) (by omega) (by omega) rfl (fun v s2 t2 h => ?_)
  obtain ⟨rfl, hI2⟩ := h
  dsimp only [Option.toList, List.cons_append, List.nil_append]
  exact q_icmp_eq 753 dL_law_725 (by decide) (fun _ => kk s2 t2 hI2) (fun h => absurd rfl h)
set_option maxHeartbeats 2000000 in
theorem w_told {L : Nat} {xs : Nat → Int32} {i : Nat} {sg : zI} {ta : zJ} (hL : L ≤ 384) (hi : i + 6 ≤ L) (hI : Inv sg ta) (kk : ∀ (s : zI) (t : zJ), Inv s t → WL L xs s t 753 i) : WL L xs sg ta 730 i := by
  have h1 : vp_in (nI i + 1) L := lw_in (k := 1) rfl (by omega) hL
  refine q_aload_n dL_law_730 rfl ?_
  refine q_aload_n dL_law_731 rfl ?_
  refine q_iload_n dL_law_732 rfl ?_
  refine q_iconst (v := 1) dL_law_733 rfl ?_
  refine q_iadd dL_law_734 ?_
  refine q_sld rfl dL_law_735 (by assumption) ?_
  refine z_callV (l_told _ _ _ hI) kV_L_100 dL_law_736 (by decide) (sh_0 _ _ _) rfl rfl rfl (by omega) (Nat.le_of_ble_eq_true rfl) (by omega) (by omega) rfl (fun v s1 t1 h => ?_)
  obtain ⟨r, rfl, hz⟩ := h
  dsimp only [Option.toList, List.cons_append, List.nil_append]
  refine q_aload_n dL_law_739 rfl ?_
  refine q_aload_n dL_law_740 rfl ?_
  refine q_iload_n dL_law_741 rfl ?_
  refine q_iconst (v := 1) dL_law_742 rfl ?_
  refine q_iadd dL_law_743 ?_
  refine q_sld rfl dL_law_744 (by assumption) ?_
  refine z_callV hz kV_L_103 dL_law_745 (by decide) (sh_20 _ _ _) rfl rfl rfl (by omega) (Nat.le_of_ble_eq_true rfl) (by omega) (by omega) rfl (fun v s2 t2 h => ?_)
  obtain ⟨rfl, hI2⟩ := h
  dsimp only [Option.toList, List.cons_append, List.nil_append]
  exact q_icmp_eq 753 dL_law_748 (by decide) (fun _ => kk s2 t2 hI2) (fun h => absurd rfl h)
