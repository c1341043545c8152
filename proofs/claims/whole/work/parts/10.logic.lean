/-! THE JUDGEMENT Wq: the machine at a frame, the whole heap a function from cell numbers to contents (cell k + 1 at address base + k; cell 0 the script) -/
theorem TB_goodIn {w : Cond} (h : w ∈ TB) : (w.onTables && w.keeps) = true ∨ ∃ ty, w = .arrayClass ty := good_of_word (List.mem_filter.mp h).2
theorem zGood {w : Cond} (h : w ∈ TB) : GoodIn TB (w :: TB) := fun x hx => by
  have hm : x ∈ TB := by
    rcases List.mem_cons.mp hx with e | e
    · rw [e]; exact h
    · exact e
  exact ⟨hm, TB_goodIn hm⟩
abbrev zE : Type := (Nat × vp_A) ⊕ (Nat × List Value)
def zA (b base : Nat) : Nat → Nat
  | 0 => b
  | k + 1 => base + k
def zV (b base : Nat) : Value → Value
  | .ref k => .ref (zA b base k)
  | v => v
def zF (b base : Nat) : vp_A → vp_A
  | (n, .inr (.inr (.inr (.inr f)))) => (n, .inr (.inr (.inr (.inr (fun j => (f j).map (zA b base))))))
  | (n, .inl f) => (n, .inl f)
  | (n, .inr (.inl f)) => (n, .inr (.inl f))
  | (n, .inr (.inr (.inl f))) => (n, .inr (.inr (.inl f)))
  | (n, .inr (.inr (.inr (.inl f)))) => (n, .inr (.inr (.inr (.inl f))))
def zX (cA : Nat → ClassId) (b base : Nat) : zE → va_E
  | .inl (t, a) => .inl (cA t, zF b base a)
  | .inr (ci, fs) => .inr (ci, fs.map (zV b base))
def zW (cA : Nat → ClassId) (b base N : Nat) (g : Nat → zE) : va_W := (List.range N).map (fun k => (base + k, zX cA b base (g (k + 1))))
def zTys (cA : Nat → ClassId) : List (ClassId × FieldType) := [(cA 0, .int), (cA 1, .long), (cA 2, .boolean), (cA 3, .object RX5), (cA 4, .object RX2), (cA 5, .object RX0)]
def zR (D : va_G) (cA : Nat → ClassId) (b base N : Nat) (g : Nat → zE) (H : Heap) : Prop := H.size = base + N ∧ va_P D vwCl (zW cA b base N g) H
theorem zV_cat (b base : Nat) (v : Value) : (zV b base v).category = v.category := by cases v <;> rfl
theorem zW_len {cA : Nat → ClassId} {b base N : Nat} {g : Nat → zE} : (zW cA b base N g).length = N := by simp [zW]
theorem zW_get {cA : Nat → ClassId} {b base N : Nat} {g : Nat → zE} {k : Nat} (hk : k < N) : (zW cA b base N g)[k]? = some (base + k, zX cA b base (g (k + 1))) := by
  simp [zW, hk]
theorem zW_inv {cA : Nat → ClassId} {b base N : Nat} {g : Nat → zE} {k : Nat} {q : Nat × va_E} (h : (zW cA b base N g)[k]? = some q) : k < N ∧ q = (base + k, zX cA b base (g (k + 1))) := by
  have hl : k < N := by
    have := (List.getElem?_eq_some_iff.mp h).1
    rw [zW_len] at this
    exact this
  rw [zW_get hl] at h
  exact ⟨hl, (Option.some.inj h).symm⟩
theorem zW_D {cA : Nat → ClassId} {b base N : Nat} {g : Nat → zE} : va_D (fun q : Nat => base ≤ q) (zW cA b base N g) := by
  refine ⟨fun i j p q hi hj h => ?_, fun k q hk => ?_⟩
  · obtain ⟨-, rfl⟩ := zW_inv hi
    obtain ⟨-, rfl⟩ := zW_inv hj
    have h : base + i = base + j := h
    omega
  · obtain ⟨-, rfl⟩ := zW_inv hk
    exact Nat.le_add_right base k
theorem zW_set {cA : Nat → ClassId} {b base N : Nat} {g : Nat → zE} {k : Nat} {e : zE} {e' : va_E} (he : zX cA b base e = e') : (zW cA b base N g).set k (base + k, e') = zW cA b base N (va_up g (k + 1) e) := by
  apply List.ext_getElem?
  intro i
  by_cases hi : i < N
  · by_cases hik : i = k
    · subst hik
      rw [List.getElem?_set_self (by rw [zW_len]; exact hi), zW_get hi]
      simp [va_up, he]
    · rw [List.getElem?_set_ne (Ne.symm hik), zW_get hi, zW_get hi]
      simp [va_up, hik]
  · rw [List.getElem?_eq_none (by rw [List.length_set, zW_len]; omega), List.getElem?_eq_none (by rw [zW_len]; omega)]
theorem zW_push {cA : Nat → ClassId} {b base N : Nat} {g : Nat → zE} {e : zE} : zW cA b base (N + 1) (va_up g (N + 1) e) = zW cA b base N g ++ [(base + N, zX cA b base e)] := by
  apply List.ext_getElem?
  intro i
  by_cases hi : i < N
  · rw [zW_get (by omega), List.getElem?_append_left (by rw [zW_len]; exact hi), zW_get hi]
    have : ¬ i = N := by omega
    simp [va_up, this]
  · by_cases hN : i = N
    · subst hN
      rw [zW_get (by omega), List.getElem?_append_right (by rw [zW_len]; exact Nat.le_refl i), zW_len, Nat.sub_self]
      simp [va_up]
    · rw [List.getElem?_eq_none (by rw [zW_len]; omega), List.getElem?_eq_none (by rw [List.length_append, zW_len]; simp; omega)]
theorem zW_congr {cA : Nat → ClassId} {b base N : Nat} {g g' : Nat → zE} (h : ∀ k, k < N → g (k + 1) = g' (k + 1)) : zW cA b base N g = zW cA b base N g' := by
  apply List.ext_getElem?
  intro i
  by_cases hi : i < N
  · rw [zW_get hi, zW_get hi, h i hi]
  · rw [List.getElem?_eq_none (by rw [zW_len]; omega), List.getElem?_eq_none (by rw [zW_len]; omega)]
/-- words that aren't of the list: links to private members of nest mates, arrays of own classes -/
def zNL : List (String × Nat × MethodName × String) := [(RX7, 11, yX4_init, "TextSolver"), (RX7, 55, yX5_init, "TextSolver"), (RX7, 56, yX2_init, "TextSolver"), (RX7, 57, yX0_init, "TextSolver"), (RX1, 11, yX5_init, "TextSolver"), (RX1, 20, yX3_init, "TextSolver")]
def zNest (U : State) : Prop := (∀ q ∈ zNL, va_Nw (.methodLinkNest q.1 q.2.1 q.2.2.1 q.2.2.2) U) ∧ va_AO RX5 U ∧ va_AO RX2 U ∧ va_AO RX0 U
theorem zNest.warm {s U : State} (hW : s.WarmedH U.vm) (h : zNest s) : zNest U := ⟨fun q hq => va_Nw.warmM hW (h.1 q hq), h.2.1.moved hW.alike, h.2.2.1.moved hW.alike, h.2.2.2.moved hW.alike⟩
theorem zNest.same {u U : State} (hv : u.vm = U.vm) (h : zNest u) : zNest U := ⟨fun q hq => va_Nw.same rfl hv (h.1 q hq), h.2.1.moved (hv ▸ Vm.Alike.refl u.vm), h.2.2.1.moved (hv ▸ Vm.Alike.refl u.vm), h.2.2.2.moved (hv ▸ Vm.Alike.refl u.vm)⟩
/-- locals, by their places -/
def zL (b base : Nat) (ls : Array Slot) (nL : Nat) (lv : List (Option Value)) : Prop := ls.size = nL ∧ lv_wf ls ∧ ∀ (i : Nat) (v : Value), lv[i]? = some (some v) → ls[i]? = some (.val (zV b base v))
def zl (b base : Nat) (lv : List (Option Value)) : List (Nat × Value) := (List.range lv.length).filterMap (fun i => match lv[i]? with
  | some (some v) => some (i, zV b base v)
  | _ => none)
theorem zl_mem {b base : Nat} {lv : List (Option Value)} {i : Nat} {v : Value} (h : lv[i]? = some (some v)) : (i, zV b base v) ∈ zl b base lv := by
  refine List.mem_filterMap.mpr ⟨i, List.mem_range.mpr (List.getElem?_eq_some_iff.mp h).1, ?_⟩
  rw [h]
theorem zl_inv {b base : Nat} {lv : List (Option Value)} {q : Nat × Value} (h : q ∈ zl b base lv) : ∃ v, lv[q.1]? = some (some v) ∧ q.2 = zV b base v := by
  obtain ⟨i, -, h⟩ := List.mem_filterMap.mp h
  cases hi : lv[i]? with
  | none => rw [hi] at h; cases h
  | some o =>
    cases o with
    | none => rw [hi] at h; cases h
    | some v =>
      rw [hi] at h
      cases h
      exact ⟨v, hi, rfl⟩
theorem zL.has {b base : Nat} {ls : Array Slot} {nL : Nat} {lv : List (Option Value)} (h : zL b base ls nL lv) : lv_has ls nL (zl b base lv) := by
  refine ⟨h.1, h.2.1, fun q hq => ?_⟩
  obtain ⟨v, h1, h2⟩ := zl_inv hq
  rw [h2]
  exact h.2.2 _ _ h1
def zok (lv : List (Option Value)) : Nat → Bool
  | 0 => true
  | j + 1 => match lv[j]? with
    | some (some v) => v.category == 1
    | _ => true
theorem zok_spec {lv : List (Option Value)} {i j : Nat} {v : Value} (h : zok lv i = true) (hj : j + 1 = i) (hv : lv[j]? = some (some v)) : v.category = 1 := by
  subst hj
  simp only [zok, hv] at h
  simpa using h
theorem zL_store1 {b base : Nat} {ls : Array Slot} {nL i : Nat} {lv : List (Option Value)} {v : Value} (ho : zok lv i = true) (h : lv_has ls nL ((i, zV b base v) :: (zl b base lv).filter (fun q => !(q.1 == i) && !(q.1 + 1 == i && q.2.category == 2)))) : zL b base ls nL (lv.set i (some v)) := by
  refine ⟨h.1, h.2.1, fun j w hj => ?_⟩
  by_cases hji : j = i
  · subst hji
    have hl : j < lv.length := by
      have := (List.getElem?_eq_some_iff.mp hj).1
      rwa [List.length_set] at this
    rw [List.getElem?_set_self hl] at hj
    cases hj
    exact h.2.2 (j, zV b base v) List.mem_cons_self
  · rw [List.getElem?_set_ne (Ne.symm hji)] at hj
    refine h.2.2 (j, zV b base w) (List.mem_cons_of_mem _ (List.mem_filter.mpr ⟨zl_mem hj, ?_⟩))
    have h2 : ∀ e : j + 1 = i, (zV b base w).category = 1 := fun e => by rw [zV_cat]; exact zok_spec ho e hj
    by_cases e : j + 1 = i
    · simp [hji, h2 e]
    · simp [hji, e]
theorem zL_store2 {b base : Nat} {ls : Array Slot} {nL i : Nat} {lv : List (Option Value)} {v : Value} (ho : zok lv i = true) (h : lv_has ls nL ((i, zV b base v) :: (zl b base lv).filter (fun q => !(q.1 == i) && (!(q.1 == i + 1) && !(q.1 + 1 == i && q.2.category == 2))))) : zL b base ls nL ((lv.set i (some v)).set (i + 1) none) := by
  refine ⟨h.1, h.2.1, fun j w hj => ?_⟩
  by_cases hj1 : j = i + 1
  · subst hj1
    exfalso
    by_cases hl : i + 1 < (lv.set i (some v)).length
    · rw [List.getElem?_set_self hl] at hj
      cases hj
    · rw [List.getElem?_eq_none (by rw [List.length_set]; omega)] at hj
      cases hj
  · rw [List.getElem?_set_ne (Ne.symm hj1)] at hj
    by_cases hji : j = i
    · subst hji
      have hl : j < lv.length := by
        have := (List.getElem?_eq_some_iff.mp hj).1
        rwa [List.length_set] at this
      rw [List.getElem?_set_self hl] at hj
      cases hj
      exact h.2.2 (j, zV b base v) List.mem_cons_self
    · rw [List.getElem?_set_ne (Ne.symm hji)] at hj
      refine h.2.2 (j, zV b base w) (List.mem_cons_of_mem _ (List.mem_filter.mpr ⟨zl_mem hj, ?_⟩))
      have h2 : ∀ e : j + 1 = i, (zV b base w).category = 1 := fun e => by rw [zV_cat]; exact zok_spec ho e hj
      by_cases e : j + 1 = i
      · simp [hji, hj1, h2 e]
      · simp [hji, hj1, e]
abbrev zQ : Type := Option Value → Nat → (Nat → zE) → Prop
abbrev zS : Type := Option (Nat × (Nat → Int32))
def zRet (M : zM) (pc : Nat) : Option Value → Prop
  | none => decode (zcc M) pc = .ok (.return_, 1) ∧ zret M = none
  | some (.int x) => decode (zcc M) pc = .ok (.ireturn, 1) ∧ (zret M = some .int ∨ zret M = some .boolean ∧ (x = 0 ∨ x = 1))
  | some (.long _) => decode (zcc M) pc = .ok (.lreturn, 1) ∧ zret M = some .long
  | some (.ref _) => decode (zcc M) pc = .ok (.areturn, 1) ∧ ∃ n, zret M = some (.object n)
  | some .null => decode (zcc M) pc = .ok (.areturn, 1) ∧ ∃ n, zret M = some (.object n)
  | some _ => False
def zCtx (M : zM) (d : Nat) (sc : zS) (mc ms : Nat) (Q : zQ) (l : Launch) (p : Program) (e : Env) (R : Room) (s : State) (m : MethodId) (args : Array Value) (below : List Frame) (meth : Method) (c : Code) (D : va_G) (cA : Nat → ClassId) (b base : Nat) (QM : State → Prop) : Prop :=
  p.tables.exec = Jvm.exec ∧ c.code = zcc M ∧ c.maxLocals = znl M ∧ meth.sig.returnType = zret M ∧ meth.locks = false ∧ s.vm.findClass (zown M) = some m.cls ∧ (∀ w ∈ TB, w.before args s = true) ∧ (zini M = true → meth.name = "<init>") ∧ (d ≤ R.frames ∧ 36 * d ≤ R.locals ∧ mc ≤ R.cells ∧ ms ≤ R.slots) ∧ va_K D vwCl (zTys cA) s ∧ zNest s ∧ base ≤ s.heap.size ∧
  (∀ (L : Nat) (xs : Nat → Int32), sc = some (L, xs) → va_X b L xs s s.heap ∧ b < base ∧ b < s.heap.size) ∧
  ∀ (v : Option Value) (N : Nat) (g : Nat → zE) (H : Heap) (locs : List Loc) (ls : Array Slot) (pc : Nat), Q v N g → zR D cA b base N g H → va_S (fun q : Nat => base ≤ q) s.heap H locs → zRet M pc v → W p l e R s m args below meth c H locs mc ms QM (F0 m pc ls (v.toList.map (zV b base)))
def Wq (M : zM) (d : Nat) (sc : zS) (mc ms : Nat) (Q : zQ) (cells slots N : Nat) (g : Nat → zE) (pc : Nat) (lv : List (Option Value)) (st : List Value) : Prop :=
  ∀ (l : Launch) (p : Program) (e : Env) (R : Room) (s : State) (m : MethodId) (args : Array Value) (below : List Frame) (meth : Method) (c : Code) (D : va_G) (cA : Nat → ClassId) (b base : Nat) (QM : State → Prop), zCtx M d sc mc ms Q l p e R s m args below meth c D cA b base QM →
    ∀ (H : Heap) (locs : List Loc) (ls : Array Slot), zR D cA b base N g H → va_S (fun q : Nat => base ≤ q) s.heap H locs → zL b base ls (znl M) lv → W p l e R s m args below meth c H locs cells slots QM (F0 m pc ls (st.map (zV b base)))
/-! contracts -/
def zPc (D : va_G) (cA : Nat → ClassId) (b base : Nat) (args : List Value) (N : Nat) (g : Nat → zE) : Array Value → State → Prop := va_Pc (args.map (zV b base)) (fun U => zR D cA b base N g U.heap ∧ va_K D vwCl (zTys cA) U ∧ zNest U)
def zQc (D : va_G) (cA : Nat → ClassId) (b base : Nat) (Q : zQ) : Array Value → State → Outcome → State → Prop := fun _ st oc t => (∃ (v : Option Value) (N : Nat) (g : Nat → zE), oc = .returned (v.map (zV b base)) ∧ Q v N g ∧ zR D cA b base N g t.heap) ∧ va_F (fun q : Nat => base ≤ q) st t
def zRm (d mc ms : Nat) : Room := { frames := d, cells := mc, slots := ms, locals := 36 * d }
def zC (y : MethodName) (M : zM) (d mc ms : Nat) (args : List Value) (N : Nat) (g : Nat → zE) (Q : zQ) : Prop :=
  ∀ (l : Launch) (D : va_G) (cA : Nat → ClassId) (b base : Nat), Met l y (Cond.code y (zcc M) (znl M) (zret M) :: TB) (zRm d mc ms) (zPc D cA b base args N g) (zQc D cA b base Q) mc ms (fun q : Nat => base ≤ q)
theorem zPc_blind {D : va_G} {cA : Nat → ClassId} {b base : Nat} {args : List Value} {N : Nat} {g : Nat → zE} : FrameBlind (zPc D cA b base args N g) := fun a U gg mk q => ⟨q.1, q.2.1, va_K.moved (u := U) (U := U.calling gg mk a) (Vm.Alike.refl U.vm) q.2.2.1, zNest.same (u := U) (U := U.calling gg mk a) rfl q.2.2.2⟩
/-- the locals at a method's entry -/
def zargs : List Value → List (Option Value)
  | [] => []
  | v :: vs => if v.category = 2 then some v :: none :: zargs vs else some v :: zargs vs
def zent (nL : Nat) (vs : List Value) : List (Option Value) := zargs vs ++ List.replicate (nL - (zargs vs).length) none
theorem zargs_mem {b base : Nat} : ∀ (vs : List Value) (k i : Nat) (v : Value), (zargs vs)[i]? = some (some v) → (k + i, zV b base v) ∈ lv_args k (vs.map (zV b base))
  | [], k, i, v, h => by simp [zargs] at h
  | w :: vs, k, i, v, h => by
    simp only [List.map_cons, lv_args, zV_cat]
    by_cases hc : w.category = 2
    · simp only [zargs, hc, if_true] at h ⊢
      match i, h with
      | 0, h => cases h; exact List.mem_cons_self
      | 1, h => cases h
      | i + 2, h =>
        have := zargs_mem (b := b) (base := base) vs (k + 2) i v h
        rw [show k + (i + 2) = k + 2 + i by omega]
        exact List.mem_cons_of_mem _ this
    · simp only [zargs, hc, if_false] at h ⊢
      match i, h with
      | 0, h => cases h; exact List.mem_cons_self
      | i + 1, h =>
        have := zargs_mem (b := b) (base := base) vs (k + 1) i v h
        rw [show k + (i + 1) = k + 1 + i by omega]
        exact List.mem_cons_of_mem _ this
theorem zargs_sl {b base : Nat} : ∀ (vs : List Value), (lg_sl (vs.map (zV b base))).length = (zargs vs).length
  | [] => rfl
  | w :: vs => by
    have ih := zargs_sl (b := b) (base := base) vs
    unfold lg_sl at ih ⊢
    rw [List.map_cons, List.flatMap_cons, List.length_append, ih, zV_cat]
    show _ = (if w.category = 2 then some w :: none :: zargs vs else some w :: zargs vs).length
    by_cases hc : w.category = 2
    · simp [hc]; omega
    · simp [hc]; omega
theorem zent_zL {b base nL : Nat} {vs : List Value} (h : (zargs vs).length ≤ nL) : zL b base ((lg_sl (vs.map (zV b base)) ++ List.replicate (nL - (lg_sl (vs.map (zV b base))).length) Slot.unset).toArray) nL (zent nL vs) := by
  have hh := lv_entry (vs.map (zV b base)) (n := nL) (by rw [zargs_sl]; exact h)
  refine ⟨hh.1, hh.2.1, fun i v hi => ?_⟩
  have hi2 : (zargs vs)[i]? = some (some v) := by
    unfold zent at hi
    by_cases hl : i < (zargs vs).length
    · rwa [List.getElem?_append_left hl] at hi
    · rw [List.getElem?_append_right (by omega), List.getElem?_replicate] at hi
      split at hi <;> cases hi
  have := hh.2.2 _ (zargs_mem (b := b) (base := base) vs 0 i v hi2)
  rwa [Nat.zero_add] at this
/-- the end of a method: its contract's post -/
theorem zC_end {M : zM} {D : va_G} {cA : Nat → ClassId} {b base mc ms : Nat} {Q : zQ} {p : Program} {l : Launch} {e : Env} {R : Room} {s : State} {m : MethodId} {args : Array Value} {below : List Frame} {meth : Method} {c : Code} {H : Heap} {locs : List Loc} {ls : Array Slot} {pc N : Nat} {g : Nat → zE} {v : Option Value}
    (hx : p.tables.exec = Jvm.exec) (hb : c.code = zcc M) (hr : meth.sig.returnType = zret M) (hlocks : meth.locks = false) (hq : Q v N g) (hR : zR D cA b base N g H) (hS : va_S (fun q : Nat => base ≤ q) s.heap H locs) (hv : zRet M pc v) :
    W p l e R s m args below meth c H locs mc ms (MQ below (zQc D cA b base Q) args s mc ms (fun q : Nat => base ≤ q)) (F0 m pc ls (v.toList.map (zV b base))) := by
  have hQc : ∀ t : State, t.heap = H → zQc D cA b base Q args s (.returned (v.map (zV b base))) t := fun t ht => ⟨⟨v, N, g, rfl, hq, by rw [ht]; exact hR⟩, hS.F ht⟩
  match v, hv, hQc with
  | none, hv, hQc => exact W.vret hx hb (hr.trans hv.2) (fun t ht _ => hQc t ht) hS.2.2 hv.1 hlocks
  | some (.int x), hv, hQc =>
    rcases hv.2 with h | ⟨h, h01⟩
    · exact W.iret hx hb (hr.trans h) (fun t ht _ => hQc t ht) hS.2.2 hv.1 hlocks
    · refine W.zret hx hb (hr.trans h) ?_ (fun t ht _ => hQc t ht) hS.2.2 hv.1 hlocks
      rcases h01 with rfl | rfl <;> rfl
  | some (.long x), hv, hQc => exact W.lret hx hb (hr.trans hv.2) (fun t ht _ => hQc t ht) hS.2.2 hv.1 hlocks
  | some (.ref x), hv, hQc =>
    obtain ⟨n, hn⟩ := hv.2
    exact W.aret hx hb (hr.trans hn) (Or.inl ⟨n, rfl⟩) (Or.inr ⟨_, rfl⟩) (fun t ht _ => hQc t ht) hS.2.2 hv.1 hlocks
  | some .null, hv, hQc =>
    obtain ⟨n, hn⟩ := hv.2
    exact W.aret hx hb (hr.trans hn) (Or.inl ⟨n, rfl⟩) (Or.inl rfl) (fun t ht _ => hQc t ht) hS.2.2 hv.1 hlocks
theorem zC_of {y : MethodName} {M : zM} {d mc ms : Nat} {args : List Value} {N : Nat} {g : Nat → zE} {Q : zQ} {lv : List (Option Value)} (hy : plainName y.cls = true) (ho : zown M = y.cls) (hi : zini M = true → y.name = "<init>") (hlv : zent (znl M) args = lv) (hlen : (zargs args).length ≤ znl M)
    (h : Wq M d none mc ms Q 0 0 N g 0 lv []) : zC y M d mc ms args N g Q := by
  intro l D cA b base
  refine Met.ofW (cc := zcc M) (maxL := znl M) (ret := zret M) hy rfl ?_
  intro p e s m args' below meth c s₁ B hml hv
  obtain ⟨rfl, hR, hK, hN⟩ := hv
  have hts := atoms_spec (ws := Cond.code y (zcc M) (znl M) (zret M) :: TB) B.pre
  have hown : s.vm.findClass (zown M) = some m.cls := by rw [ho]; exact findClass_of_methodNamed B.named
  have hname := (name_of_methodNamed B.named B.method).1
  rw [lg_entry_eq]
  subst hlv
  refine h l p e _ s m _ below meth c D cA b base _ ⟨B.exec, B.bytes, hml, B.returns, B.notSynchronized, hown, fun w hw => hts w (List.mem_cons_of_mem _ hw), fun h1 => hname.trans (hi h1), ⟨Nat.le_refl _, Nat.le_refl _, Nat.le_refl _, Nat.le_refl _⟩, hK, hN, ?_, ?_, ?_⟩ s.heap [] _ hR va_S.rf (zent_zL hlen)
  · rw [hR.1]; exact Nat.le_add_right _ _
  · intro L xs h2; cases h2
  · intro v N' g' H locs ls pc hq hR' hS' hret
    exact zC_end B.exec B.bytes B.returns B.notSynchronized hq hR' hS' hret
