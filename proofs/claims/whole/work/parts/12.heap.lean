/-! what is known of each class -/
theorem zcl : ∀ (ci : Nat) (C : String) (T : u_T) (n : Nat), vwCl[ci]? = some (C, T, n) → (∀ w ∈ u_ws C T n, w ∈ TB) ∧ (∃ ty0 : Nat → FieldType, ∀ k, k < n → parseFieldDescriptor (T k).2.2.1 = some (ty0 k)) ∧ (∀ a, a < n → ∀ b, b < n → a ≠ b → (T a).2.1 ≠ (T b).2.1)
  | 0, C, T, n, h => by
    have h2 : some (RX0, TX0, 9) = some (C, T, n) := h
    cases h2
    exact ⟨inlX0, ⟨tyX0, tyX0_ok⟩, nmX0⟩
  | 1, C, T, n, h => by
    have h2 : some (RX1, TX1, 7) = some (C, T, n) := h
    cases h2
    exact ⟨inlX1, ⟨tyX1, tyX1_ok⟩, nmX1⟩
  | 2, C, T, n, h => by
    have h2 : some (RX2, TX2, 3) = some (C, T, n) := h
    cases h2
    exact ⟨inlX2, ⟨tyX2, tyX2_ok⟩, nmX2⟩
  | 3, C, T, n, h => by
    have h2 : some (RX3, TX3, 2) = some (C, T, n) := h
    cases h2
    exact ⟨inlX3, ⟨tyX3, tyX3_ok⟩, nmX3⟩
  | 4, C, T, n, h => by
    have h2 : some (RX4, TX4, 4) = some (C, T, n) := h
    cases h2
    exact ⟨inlX4, ⟨tyX4, tyX4_ok⟩, nmX4⟩
  | 5, C, T, n, h => by
    have h2 : some (RX5, TX5, 2) = some (C, T, n) := h
    cases h2
    exact ⟨inlX5, ⟨tyX5, tyX5_ok⟩, nmX5⟩
  | 6, C, T, n, h => by
    have h2 : some (RX6, TX6, 7) = some (C, T, n) := h
    cases h2
    exact ⟨inlX6, ⟨tyX6, tyX6_ok⟩, nmX6⟩
  | 7, C, T, n, h => by
    have h2 : some (RX7, TX7, 13) = some (C, T, n) := h
    cases h2
    exact ⟨inlX7, ⟨tyX7, tyX7_ok⟩, nmX7⟩
  | 8, C, T, n, h => by
    have h2 : some (RX8, TX8, 32) = some (C, T, n) := h
    cases h2
    exact ⟨inlX8, ⟨tyX8, tyX8_ok⟩, nmX8⟩
  | k + 9, C, T, n, h => by simp [vwCl] at h
section ZH
variable {p : Program} {l : Launch} {e : Env} {R : Room} {s : State} {m : MethodId} {args : Array Value} {below : List Frame} {meth : Method} {c : Code} {H : Heap} {locs : List Loc} {cells slots : Nat} {Q : State → Prop}
variable {cc : ByteArray} {pc : Nat} {ls : Array Slot} {rest : List Value} {D : va_G} {cl : List vw_C} {A : Nat → Prop} {a : Nat} {tys : List (ClassId × FieldType)} {ws : va_W} {H0 : Heap}
/-- va_put, with what it leaves of the heap's size -/
theorem zput (hexec : p.tables.exec = Jvm.exec) (hb : c.code = cc) {own ref C : String} {T : u_T} {N ci index : Nat} {Ts : List Cond} (hts : ∀ w ∈ Ts, w.before args s = true) (hin : ∀ w ∈ u_ws C T N, w ∈ Ts) (ty0 : Nat → FieldType) (hty : ∀ k, k < N → parseFieldDescriptor (T k).2.2.1 = some (ty0 k)) (hnm : ∀ a, a < N → ∀ b, b < N → a ≠ b → (T a).2.1 ≠ (T b).2.1) (hown : s.vm.findClass own = some m.cls) (hK : va_K D cl tys s) (hP : va_P D cl ws H) (hD : va_D A ws) (hS0 : va_S A H0 H locs) (q0 : Nat) {fs : List Value} (he : ws[q0]? = some (a, .inr (ci, fs))) (hc : cl[ci]? = some (C, T, N)) (k : Nat) (hk : k < N) (hlink : (Cond.fieldLink own index ref (T k).2.1 (T k).2.2.1).before args s = true) (hsame : ∀ x, s.fieldFound? (T k).1 (T k).2.1 (T k).2.2.1 = some x → s.fieldFound? ref (T k).2.1 (T k).2.2.1 = some x) (hfin : (T k).2.2.2 = false) {ty : FieldType} {v : Value} (hd : parseFieldDescriptor (T k).2.2.1 = some ty) (hn : narrow ty v = v) (hfit : fits ty v = true) (hl : k < fs.length)
    (hdg : decode cc pc = .ok (.putfield index, 3)) (kk : ∀ (H1 : Heap) (locs1 : List Loc), H1.size = H.size → va_P D cl (ws.set q0 (a, .inr (ci, fs.set k v))) H1 → va_S A H0 H1 locs1 → W p l e R s m args below meth c H1 locs1 cells slots Q (F0 m (pc + 3) ls rest)) : W p l e R s m args below meth c H locs cells slots Q (F0 m pc ls (v :: .ref a :: rest)) := by
  have hap := va_apart (own := own) hts hin ty0 hty hnm hK hc
  obtain ⟨r, h1, cell, q1, q2, q3, q4⟩ := hP q0 _ he
  have hr : r = (C, T, N) := Option.some.inj (h1.symm.trans hc)
  subst hr
  obtain ⟨hS, hfc, kC, hkC, hkind⟩ := hK.1 ci _ hc
  obtain ⟨cf, kf, fi, f, hi, hsl⟩ := hS k hk
  have hlay := hts _ (hin _ (u_in_lay hk))
  unfold u_lay at hlay
  rw [if_neg (by rw [hfin]; decide)] at hlay
  have hst := (u_facts hfc hkC (u_lays hts hin hk) hi).1
  have h6 := u_store hfc hkC hkind hlay hi hd hn hfit
  refine W.putK hexec hb (f := f) ⟨hown, hlink, ⟨_, _, _, hsame _ hi⟩, hst⟩ (by rw [q2]; exact h6) q1 q3 (by rw [hsl]; exact k2_hasslot (q4 k hk)) rfl rfl hdg fun H' e1 e2 e3 => ?_
  rw [hsl] at e1 ⊢
  exact kk H' _ e2 (hP.set hD he ⟨_, hc, t_OB.to (V := updV (vp_V fs) k v) ⟨_, e1, q2, q3, t_set q4 hap hk v⟩ (fun j _ => vp_updV_set hl v j)⟩ e3) (hS0.put e2 e3 (hD.2 q0 _ he))
theorem zputF (hexec : p.tables.exec = Jvm.exec) (hb : c.code = cc) {own ref C : String} {T : u_T} {N ci index : Nat} {Ts : List Cond} (hts : ∀ w ∈ Ts, w.before args s = true) (hin : ∀ w ∈ u_ws C T N, w ∈ Ts) (ty0 : Nat → FieldType) (hty : ∀ k, k < N → parseFieldDescriptor (T k).2.2.1 = some (ty0 k)) (hnm : ∀ a, a < N → ∀ b, b < N → a ≠ b → (T a).2.1 ≠ (T b).2.1) (hown : s.vm.findClass own = some m.cls) (hK : va_K D cl tys s) (hP : va_P D cl ws H) (hD : va_D A ws) (hS0 : va_S A H0 H locs) (q0 : Nat) {fs : List Value} (he : ws[q0]? = some (a, .inr (ci, fs))) (hc : cl[ci]? = some (C, T, N)) (k : Nat) (hk : k < N) (hlink : (Cond.fieldLink own index ref (T k).2.1 (T k).2.2.1).before args s = true) (hsame : ∀ x, s.fieldFound? (T k).1 (T k).2.1 (T k).2.2.1 = some x → s.fieldFound? ref (T k).2.1 (T k).2.2.1 = some x) (hfin : (T k).2.2.2 = true) (hin2 : meth.name = "<init>") (hdecl : (T k).1 = own) {ty : FieldType} {v : Value} (hd : parseFieldDescriptor (T k).2.2.1 = some ty) (hn : narrow ty v = v) (hfit : fits ty v = true) (hl : k < fs.length)
    (hdg : decode cc pc = .ok (.putfield index, 3)) (kk : ∀ (H1 : Heap) (locs1 : List Loc), H1.size = H.size → va_P D cl (ws.set q0 (a, .inr (ci, fs.set k v))) H1 → va_S A H0 H1 locs1 → W p l e R s m args below meth c H1 locs1 cells slots Q (F0 m (pc + 3) ls rest)) : W p l e R s m args below meth c H locs cells slots Q (F0 m pc ls (v :: .ref a :: rest)) := by
  have hap := va_apart (own := own) hts hin ty0 hty hnm hK hc
  obtain ⟨r, h1, cell, q1, q2, q3, q4⟩ := hP q0 _ he
  have hr : r = (C, T, N) := Option.some.inj (h1.symm.trans hc)
  subst hr
  obtain ⟨hS, hfc, kC, hkC, hkind⟩ := hK.1 ci _ hc
  obtain ⟨cf, kf, fi, f, hi, hsl⟩ := hS k hk
  have hlay := hts _ (hin _ (u_in_lay hk))
  unfold u_lay at hlay
  rw [if_pos hfin] at hlay
  have hst := (u_facts hfc hkC (u_lays hts hin hk) hi).1
  have hcf : m.cls = cf := by
    obtain ⟨_, _, c', _, _, _, -, -, hf', -, -, -, hown2, -⟩ := Cond.laysFinal_spec hlay
    have e1 : c' = cf := by have := hi.symm.trans hf'; simp at this; exact this.1.symm
    rw [hdecl] at hown2
    rw [← e1]; exact Option.some.inj (hown.symm.trans hown2)
  have h6 := u_fits hfc hkC hkind (Or.inr hlay) hi hd hn hfit
  refine W.putFinK hexec hb hown hlink (hsame _ hi) hst hcf hin2 (by rw [q2]; exact h6) q1 q3 (by rw [hsl]; exact k2_hasslot (q4 k hk)) rfl rfl hdg fun H' e1 e2 e3 => ?_
  rw [hsl] at e1 ⊢
  exact kk H' _ e2 (hP.set hD he ⟨_, hc, t_OB.to (V := updV (vp_V fs) k v) ⟨_, e1, q2, q3, t_set q4 hap hk v⟩ (fun j _ => vp_updV_set hl v j)⟩ e3) (hS0.put e2 e3 (hD.2 q0 _ he))
theorem ziast (hexec : p.tables.exec = Jvm.exec) (hb : c.code = cc) (hK : va_K D cl tys s) (hP : va_P D cl ws H) (hD : va_D A ws) (hS : va_S A H0 H locs) (q0 t0 : Nat) {cA : ClassId} {n : Nat} {f : Nat → Int32} (ha : ws[q0]? = some (a, .inl (cA, n, .inl f))) (ht : tys[t0]? = some (cA, .int)) {i : Int32} {x : Int32} (hin : vp_in i n) (hdg : decode cc pc = .ok (.iastore, 1))
    (kk : ∀ (H1 : Heap) (locs1 : List Loc), H1.size = H.size → va_P D cl (ws.set q0 (a, .inl (cA, n, .inl (upd f i.toNatClampNeg x)))) H1 → va_S A H0 H1 locs1 → W p l e R s m args below meth c H1 locs1 cells slots Q (F0 m (pc + 1) ls rest)) : W p l e R s m args below meth c H locs cells slots Q (F0 m pc ls (.int x :: .int i :: .ref a :: rest)) := by
  refine W.iast hexec hb (hP q0 _ ha) ((hK.2 t0 _ ht).1 n (fun j => .int (f j))) (fun q => by cases q) (by show ¬ (i < 0 ∨ (arrV _ _ _).slots.size ≤ _); rw [arrV_size]; exact hin) rfl rfl hdg fun H1 e z oq => ?_
  refine kk H1 _ z (hP.set hD ha ?_ oq) (hS.put z oq (hD.2 q0 _ ha))
  show H1[a]? = some (vp_cell _ _)
  rw [e]
  rw [vp_cell_i, vp_cell_i, arrV_store]
  congr 2
  funext q
  by_cases hq : q = i.toNatClampNeg
  · subst hq
    simp [updV, upd]
    try rfl
  · simp [updV, upd, hq]
theorem zzast (hexec : p.tables.exec = Jvm.exec) (hb : c.code = cc) (hK : va_K D cl tys s) (hP : va_P D cl ws H) (hD : va_D A ws) (hS : va_S A H0 H locs) (q0 t0 : Nat) {cA : ClassId} {n : Nat} {f : Nat → Int32} (ha : ws[q0]? = some (a, .inl (cA, n, .inl f))) (ht : tys[t0]? = some (cA, .boolean)) {i : Int32} {x : Int32} (hin : vp_in i n) (hdg : decode cc pc = .ok (.bastore, 1))
    (kk : ∀ (H1 : Heap) (locs1 : List Loc), H1.size = H.size → va_P D cl (ws.set q0 (a, .inl (cA, n, .inl (upd f i.toNatClampNeg (vp_nar .boolean x))))) H1 → va_S A H0 H1 locs1 → W p l e R s m args below meth c H1 locs1 cells slots Q (F0 m (pc + 1) ls rest)) : W p l e R s m args below meth c H locs cells slots Q (F0 m pc ls (.int x :: .int i :: .ref a :: rest)) := by
  refine W.zast hexec hb (hP q0 _ ha) ((hK.2 t0 _ ht).1 n (fun j => .int (f j))) (fun q => by cases q) (by show ¬ (i < 0 ∨ (arrV _ _ _).slots.size ≤ _); rw [arrV_size]; exact hin) rfl rfl hdg fun H1 e z oq => ?_
  refine kk H1 _ z (hP.set hD ha ?_ oq) (hS.put z oq (hD.2 q0 _ ha))
  show H1[a]? = some (vp_cell _ _)
  rw [e]
  rw [vp_cell_i, vp_cell_i, arrV_store]
  congr 2
  funext q
  by_cases hq : q = i.toNatClampNeg
  · subst hq
    simp [updV, upd, vp_nar]
    try rfl
  · simp [updV, upd, vp_nar, hq]
theorem zlast (hexec : p.tables.exec = Jvm.exec) (hb : c.code = cc) (hK : va_K D cl tys s) (hP : va_P D cl ws H) (hD : va_D A ws) (hS : va_S A H0 H locs) (q0 t0 : Nat) {cA : ClassId} {n : Nat} {f : Nat → Int64} (ha : ws[q0]? = some (a, .inl (cA, n, .inr (.inl f)))) (ht : tys[t0]? = some (cA, .long)) {i : Int32} {x : Int64} (hin : vp_in i n) (hdg : decode cc pc = .ok (.lastore, 1))
    (kk : ∀ (H1 : Heap) (locs1 : List Loc), H1.size = H.size → va_P D cl (ws.set q0 (a, .inl (cA, n, .inr (.inl (vp_updL f i.toNatClampNeg x))))) H1 → va_S A H0 H1 locs1 → W p l e R s m args below meth c H1 locs1 cells slots Q (F0 m (pc + 1) ls rest)) : W p l e R s m args below meth c H locs cells slots Q (F0 m pc ls (.long x :: .int i :: .ref a :: rest)) := by
  refine W.last hexec hb (hP q0 _ ha) ((hK.2 t0 _ ht).1 n (fun j => .long (f j))) (fun q => by cases q) (by show ¬ (i < 0 ∨ (arrV _ _ _).slots.size ≤ _); rw [arrV_size]; exact hin) rfl rfl hdg fun H1 e z oq => ?_
  refine kk H1 _ z (hP.set hD ha ?_ oq) (hS.put z oq (hD.2 q0 _ ha))
  show H1[a]? = some (vp_cell _ _)
  rw [e]
  rw [vp_cell_l, vp_cell_l, arrV_store]
  congr 2
  funext q
  by_cases hq : q = i.toNatClampNeg
  · subst hq
    simp [updV, vp_updL]
    try rfl
  · simp [updV, vp_updL, hq]
theorem zastq (hexec : p.tables.exec = Jvm.exec) (hb : c.code = cc) (hK : va_K D cl tys s) (hP : va_P D cl ws H) (hD : va_D A ws) (hS : va_S A H0 H locs) (q0 t0 qk ci : Nat) {cA : ClassId} {r : vw_C} {n v : Nat} {vs : List Value} {f : Nat → Option Nat} (ha : ws[q0]? = some (a, .inl (cA, n, .inr (.inr (.inr (.inr f)))))) (ht : tys[t0]? = some (cA, .object r.1)) (hv : ws[qk]? = some (v, .inr (ci, vs))) (hc : cl[ci]? = some r) {i : Int32} (hin : vp_in i n) (hdg : decode cc pc = .ok (.aastore, 1))
    (kk : ∀ (H1 : Heap) (locs1 : List Loc), H1.size = H.size → va_P D cl (ws.set q0 (a, .inl (cA, n, .inr (.inr (.inr (.inr (va_up f i.toNatClampNeg (some v)))))))) H1 → va_S A H0 H1 locs1 → W p l e R s m args below meth c H1 locs1 cells slots Q (F0 m (pc + 1) ls rest)) : W p l e R s m args below meth c H locs cells slots Q (F0 m pc ls (.ref v :: .int i :: .ref a :: rest)) := by
  have hlt : i.toNatClampNeg < n := Nat.not_le.mp fun q => hin (Or.inr q)
  have h0 : ¬ i < 0 := fun q => hin (Or.inl q)
  obtain ⟨r', hr', cellV, g1, g2, g3, -⟩ := hP qk _ hv
  have hcls := (hK.1 ci r hc).2
  obtain ⟨kA, comp, k1, k2, k3, -⟩ := (hK.2 t0 _ ht).2
  have hcomp : comp = D.1 ci := Option.some.inj (k3.symm.trans hcls.1)
  subst hcomp
  obtain ⟨kC, hkC, -⟩ := hcls.2
  refine W.aast hexec hb (hP q0 _ ha) (fun q h => by cases h) (fun h => by cases h) k1 k2 rfl hkC ⟨h0, by show _ < (arrV _ _ _).slots.size; rw [arrV_size]; exact hlt⟩ g1 (fun q h => by rw [g3] at h; cases h) (by rw [g2]; exact hkC) (by rw [g2]; exact va_assign hcls) rfl rfl hdg fun H1 e z oq => ?_
  refine kk H1 _ z (hP.set hD ha ?_ oq) (hS.put z oq (hD.2 q0 _ ha))
  show H1[a]? = some (vp_cell _ _)
  rw [e]
  rw [vp_cell_q, vp_cell_q, arrV_store]
  congr 2
  funext q
  by_cases hq : q = i.toNatClampNeg
  · subst hq
    simp [updV, va_up, va_rf]
  · simp [updV, va_up, hq]
end ZH
theorem q_get {M : zM} {d : Nat} {sc : zS} {mc ms : Nat} {Q : zQ} {cells slots N : Nat} {g : Nat → zE} {pc : Nat} {lv : List (Option Value)} {st : List Value} {idx kc ci : Nat} {fs : List Value} {CC : String} {T : u_T} {n : Nat} {v : Value} (j : Nat) (hd : decode (zcc M) pc = .ok (.getfield idx, 3)) (hk : g kc = .inr (ci, fs)) (h1 : 1 ≤ kc) (h2 : kc ≤ N) (hc : vwCl[ci]? = some (CC, T, n)) (hj : j < n) (hl : Cond.fieldLink (zown M) idx (T j).1 (T j).2.1 (T j).2.2.1 ∈ TB) (hv : fs[j]? = some v) (kk : Wq M d sc mc ms Q cells slots N g (pc + 3) lv (v :: st)) : Wq M d sc mc ms Q cells slots N g pc lv (.ref kc :: st) := by
  intro l p e R s m args below meth c D cA b base QM C H locs ls hR hS hL
  obtain ⟨k, rfl⟩ : ∃ k, kc = k + 1 := ⟨kc - 1, by omega⟩
  have hkN : k < N := by omega
  have hg := zW_get (cA := cA) (b := b) (base := base) (g := g) hkN
  rw [hk] at hg
  exact va_get C.1 C.2.1 C.2.2.2.2.2.2.1 (zcl ci CC T n hc).1 C.2.2.2.2.2.1 C.2.2.2.2.2.2.2.2.2.1 hR.2 k hg hc j hj (C.2.2.2.2.2.2.1 _ hl) (fun _ h => h) (v := zV b base v) (by rw [List.getElem?_map, hv]; rfl) hd (kk l p e R s m args below meth c D cA b base QM C H locs ls hR hS hL)
theorem q_puti {M : zM} {d : Nat} {sc : zS} {mc ms : Nat} {Q : zQ} {cells slots N : Nat} {g : Nat → zE} {pc : Nat} {lv : List (Option Value)} {st : List Value} {idx kc ci : Nat} {fs : List Value} {CC : String} {T : u_T} {n : Nat} {x : Int32} (j : Nat) (hd : decode (zcc M) pc = .ok (.putfield idx, 3)) (hk : g kc = .inr (ci, fs)) (h1 : 1 ≤ kc) (h2 : kc ≤ N) (hc : vwCl[ci]? = some (CC, T, n)) (hj : j < n) (hl : Cond.fieldLink (zown M) idx (T j).1 (T j).2.1 (T j).2.2.1 ∈ TB) (hfin : (T j).2.2.2 = false) (hty : parseFieldDescriptor (T j).2.2.1 = some .int) (hlen : j < fs.length) (kk : Wq M d sc mc ms Q cells slots N (va_up g kc (.inr (ci, fs.set j (.int x)))) (pc + 3) lv st) : Wq M d sc mc ms Q cells slots N g pc lv (.int x :: .ref kc :: st) := by
  intro l p e R s m args below meth c D cA b base QM C H locs ls hR hS hL
  obtain ⟨k, rfl⟩ : ∃ k, kc = k + 1 := ⟨kc - 1, by omega⟩
  have hkN : k < N := by omega
  have hg := zW_get (cA := cA) (b := b) (base := base) (g := g) hkN
  rw [hk] at hg
  obtain ⟨hz1, ⟨ty0, hz2⟩, hz3⟩ := zcl ci CC T n hc
  refine zput C.1 C.2.1 C.2.2.2.2.2.2.1 hz1 ty0 hz2 hz3 C.2.2.2.2.2.1 C.2.2.2.2.2.2.2.2.2.1 hR.2 zW_D hS k hg hc j hj (C.2.2.2.2.2.2.1 _ hl) (fun _ h => h) hfin hty (v := (.int x)) rfl rfl (by rw [List.length_map]; exact hlen) hd (fun H1 locs1 hz hP1 hS1 => ?_)
  rw [zW_set (e := .inr (ci, fs.set j (.int x))) (by show Sum.inr _ = _; rw [List.map_set]; rfl)] at hP1
  exact kk l p e R s m args below meth c D cA b base QM C H1 locs1 ls ⟨hz.trans hR.1, hP1⟩ hS1 hL
theorem q_putz {M : zM} {d : Nat} {sc : zS} {mc ms : Nat} {Q : zQ} {cells slots N : Nat} {g : Nat → zE} {pc : Nat} {lv : List (Option Value)} {st : List Value} {idx kc ci : Nat} {fs : List Value} {CC : String} {T : u_T} {n : Nat} {x : Int32} (j : Nat) (hd : decode (zcc M) pc = .ok (.putfield idx, 3)) (hk : g kc = .inr (ci, fs)) (h1 : 1 ≤ kc) (h2 : kc ≤ N) (hc : vwCl[ci]? = some (CC, T, n)) (hj : j < n) (hl : Cond.fieldLink (zown M) idx (T j).1 (T j).2.1 (T j).2.2.1 ∈ TB) (hfin : (T j).2.2.2 = false) (hty : parseFieldDescriptor (T j).2.2.1 = some .boolean) (hlen : j < fs.length) (h01 : x = 0 ∨ x = 1) (kk : Wq M d sc mc ms Q cells slots N (va_up g kc (.inr (ci, fs.set j (.int x)))) (pc + 3) lv st) : Wq M d sc mc ms Q cells slots N g pc lv (.int x :: .ref kc :: st) := by
  intro l p e R s m args below meth c D cA b base QM C H locs ls hR hS hL
  obtain ⟨k, rfl⟩ : ∃ k, kc = k + 1 := ⟨kc - 1, by omega⟩
  have hkN : k < N := by omega
  have hg := zW_get (cA := cA) (b := b) (base := base) (g := g) hkN
  rw [hk] at hg
  obtain ⟨hz1, ⟨ty0, hz2⟩, hz3⟩ := zcl ci CC T n hc
  refine zput C.1 C.2.1 C.2.2.2.2.2.2.1 hz1 ty0 hz2 hz3 C.2.2.2.2.2.1 C.2.2.2.2.2.2.2.2.2.1 hR.2 zW_D hS k hg hc j hj (C.2.2.2.2.2.2.1 _ hl) (fun _ h => h) hfin hty (v := (.int x)) (by rcases h01 with rfl | rfl <;> rfl) (by rcases h01 with rfl | rfl <;> rfl) (by rw [List.length_map]; exact hlen) hd (fun H1 locs1 hz hP1 hS1 => ?_)
  rw [zW_set (e := .inr (ci, fs.set j (.int x))) (by show Sum.inr _ = _; rw [List.map_set]; rfl)] at hP1
  exact kk l p e R s m args below meth c D cA b base QM C H1 locs1 ls ⟨hz.trans hR.1, hP1⟩ hS1 hL
theorem q_putr {M : zM} {d : Nat} {sc : zS} {mc ms : Nat} {Q : zQ} {cells slots N : Nat} {g : Nat → zE} {pc : Nat} {lv : List (Option Value)} {st : List Value} {idx kc ci kv : Nat} {fs : List Value} {CC : String} {T : u_T} {n : Nat} {ty : FieldType} (j : Nat) (hd : decode (zcc M) pc = .ok (.putfield idx, 3)) (hk : g kc = .inr (ci, fs)) (h1 : 1 ≤ kc) (h2 : kc ≤ N) (hc : vwCl[ci]? = some (CC, T, n)) (hj : j < n) (hl : Cond.fieldLink (zown M) idx (T j).1 (T j).2.1 (T j).2.2.1 ∈ TB) (hfin : (T j).2.2.2 = true) (hini : zini M = true) (hdecl : (T j).1 = zown M) (hty : parseFieldDescriptor (T j).2.2.1 = some ty) (hn : ∀ a : Nat, narrow ty (.ref a) = .ref a) (hf : ∀ a : Nat, fits ty (.ref a) = true) (hlen : j < fs.length) (kk : Wq M d sc mc ms Q cells slots N (va_up g kc (.inr (ci, fs.set j (.ref kv)))) (pc + 3) lv st) : Wq M d sc mc ms Q cells slots N g pc lv (.ref kv :: .ref kc :: st) := by
  intro l p e R s m args below meth c D cA b base QM C H locs ls hR hS hL
  obtain ⟨k, rfl⟩ : ∃ k, kc = k + 1 := ⟨kc - 1, by omega⟩
  have hkN : k < N := by omega
  have hg := zW_get (cA := cA) (b := b) (base := base) (g := g) hkN
  rw [hk] at hg
  obtain ⟨hz1, ⟨ty0, hz2⟩, hz3⟩ := zcl ci CC T n hc
  refine zputF C.1 C.2.1 C.2.2.2.2.2.2.1 hz1 ty0 hz2 hz3 C.2.2.2.2.2.1 C.2.2.2.2.2.2.2.2.2.1 hR.2 zW_D hS k hg hc j hj (C.2.2.2.2.2.2.1 _ hl) (fun _ h => h) hfin (C.2.2.2.2.2.2.2.1 hini) hdecl hty (v := .ref (zA b base kv)) (hn _) (hf _) (by rw [List.length_map]; exact hlen) hd (fun H1 locs1 hz hP1 hS1 => ?_)
  rw [zW_set (e := .inr (ci, fs.set j (.ref kv))) (by show Sum.inr _ = _; rw [List.map_set]; rfl)] at hP1
  exact kk l p e R s m args below meth c D cA b base QM C H1 locs1 ls ⟨hz.trans hR.1, hP1⟩ hS1 hL
theorem q_iald {M : zM} {d : Nat} {sc : zS} {mc ms : Nat} {Q : zQ} {cells slots N : Nat} {g : Nat → zE} {pc : Nat} {lv : List (Option Value)} {st : List Value} {kc n : Nat} {f : Nat → Int32} {i : Int32} (hd : decode (zcc M) pc = .ok (.iaload, 1)) (hk : g kc = .inl (0, n, .inl f)) (h1 : 1 ≤ kc) (h2 : kc ≤ N) (hin : vp_in i n) (kk : Wq M d sc mc ms Q cells slots N g (pc + 1) lv (.int (f i.toNatClampNeg) :: st)) : Wq M d sc mc ms Q cells slots N g pc lv (.int i :: .ref kc :: st) := by
  intro l p e R s m args below meth c D cA b base QM C H locs ls hR hS hL
  obtain ⟨k, rfl⟩ : ∃ k, kc = k + 1 := ⟨kc - 1, by omega⟩
  have hkN : k < N := by omega
  have hg := zW_get (cA := cA) (b := b) (base := base) (g := g) hkN
  rw [hk] at hg
  exact va_iald C.1 C.2.1 C.2.2.2.2.2.2.2.2.2.1 hR.2 k 0 hg rfl hin hd (kk l p e R s m args below meth c D cA b base QM C H locs ls hR hS hL)
theorem q_zald {M : zM} {d : Nat} {sc : zS} {mc ms : Nat} {Q : zQ} {cells slots N : Nat} {g : Nat → zE} {pc : Nat} {lv : List (Option Value)} {st : List Value} {kc n : Nat} {f : Nat → Int32} {i : Int32} (hd : decode (zcc M) pc = .ok (.baload, 1)) (hk : g kc = .inl (2, n, .inl f)) (h1 : 1 ≤ kc) (h2 : kc ≤ N) (hin : vp_in i n) (kk : Wq M d sc mc ms Q cells slots N g (pc + 1) lv (.int (f i.toNatClampNeg) :: st)) : Wq M d sc mc ms Q cells slots N g pc lv (.int i :: .ref kc :: st) := by
  intro l p e R s m args below meth c D cA b base QM C H locs ls hR hS hL
  obtain ⟨k, rfl⟩ : ∃ k, kc = k + 1 := ⟨kc - 1, by omega⟩
  have hkN : k < N := by omega
  have hg := zW_get (cA := cA) (b := b) (base := base) (g := g) hkN
  rw [hk] at hg
  exact va_zald C.1 C.2.1 C.2.2.2.2.2.2.2.2.2.1 hR.2 k 2 hg rfl hin hd (kk l p e R s m args below meth c D cA b base QM C H locs ls hR hS hL)
theorem q_lald {M : zM} {d : Nat} {sc : zS} {mc ms : Nat} {Q : zQ} {cells slots N : Nat} {g : Nat → zE} {pc : Nat} {lv : List (Option Value)} {st : List Value} {kc n : Nat} {f : Nat → Int64} {i : Int32} (hd : decode (zcc M) pc = .ok (.laload, 1)) (hk : g kc = .inl (1, n, .inr (.inl f))) (h1 : 1 ≤ kc) (h2 : kc ≤ N) (hin : vp_in i n) (kk : Wq M d sc mc ms Q cells slots N g (pc + 1) lv (.long (f i.toNatClampNeg) :: st)) : Wq M d sc mc ms Q cells slots N g pc lv (.int i :: .ref kc :: st) := by
  intro l p e R s m args below meth c D cA b base QM C H locs ls hR hS hL
  obtain ⟨k, rfl⟩ : ∃ k, kc = k + 1 := ⟨kc - 1, by omega⟩
  have hkN : k < N := by omega
  have hg := zW_get (cA := cA) (b := b) (base := base) (g := g) hkN
  rw [hk] at hg
  exact va_lald C.1 C.2.1 C.2.2.2.2.2.2.2.2.2.1 hR.2 k 1 hg rfl hin hd (kk l p e R s m args below meth c D cA b base QM C H locs ls hR hS hL)
theorem q_aald {M : zM} {d : Nat} {sc : zS} {mc ms : Nat} {Q : zQ} {cells slots N : Nat} {g : Nat → zE} {pc : Nat} {lv : List (Option Value)} {st : List Value} {kc n t : Nat} {C0 : String} {f : Nat → Option Nat} {i : Int32} {kv : Nat} (hd : decode (zcc M) pc = .ok (.aaload, 1)) (hk : g kc = .inl (t, n, .inr (.inr (.inr (.inr f))))) (h1 : 1 ≤ kc) (h2 : kc ≤ N) (ht : ∀ cA : Nat → ClassId, (zTys cA)[t]? = some (cA t, .object C0)) (hin : vp_in i n) (hf : f i.toNatClampNeg = some kv) (kk : Wq M d sc mc ms Q cells slots N g (pc + 1) lv (.ref kv :: st)) : Wq M d sc mc ms Q cells slots N g pc lv (.int i :: .ref kc :: st) := by
  intro l p e R s m args below meth c D cA b base QM C H locs ls hR hS hL
  obtain ⟨k, rfl⟩ : ∃ k, kc = k + 1 := ⟨kc - 1, by omega⟩
  have hkN : k < N := by omega
  have hg := zW_get (cA := cA) (b := b) (base := base) (g := g) hkN
  rw [hk] at hg
  refine va_aldq C.1 C.2.1 C.2.2.2.2.2.2.2.2.2.1 hR.2 k t hg (ht cA) hin hd ?_
  show W _ _ _ _ _ _ _ _ _ _ _ _ _ _ _ (F0 m (pc + 1) ls (va_rf ((f i.toNatClampNeg).map (zA b base)) :: _))
  rw [hf]
  exact kk l p e R s m args below meth c D cA b base QM C H locs ls hR hS hL
theorem q_alen {M : zM} {d : Nat} {sc : zS} {mc ms : Nat} {Q : zQ} {cells slots N : Nat} {g : Nat → zE} {pc : Nat} {lv : List (Option Value)} {st : List Value} {kc t : Nat} {x : vp_A} {ty : FieldType} {v : Int32} (hd : decode (zcc M) pc = .ok (.arraylength, 1)) (hk : g kc = .inl (t, x)) (h1 : 1 ≤ kc) (h2 : kc ≤ N) (ht : ∀ cA : Nat → ClassId, (zTys cA)[t]? = some (cA t, ty)) (hv : Int32.ofNat x.1 = v) (kk : Wq M d sc mc ms Q cells slots N g (pc + 1) lv (.int v :: st)) : Wq M d sc mc ms Q cells slots N g pc lv (.ref kc :: st) := by
  intro l p e R s m args below meth c D cA b base QM C H locs ls hR hS hL
  obtain ⟨k, rfl⟩ : ∃ k, kc = k + 1 := ⟨kc - 1, by omega⟩
  have hkN : k < N := by omega
  have hg := zW_get (cA := cA) (b := b) (base := base) (g := g) hkN
  rw [hk] at hg
  refine va_alen C.1 C.2.1 C.2.2.2.2.2.2.2.2.2.1 hR.2 k t hg (ht cA) (v := v) ?_ hd (kk l p e R s m args below meth c D cA b base QM C H locs ls hR hS hL)
  rw [← hv]
  obtain ⟨n, a⟩ := x
  match a with
  | .inl _ => rfl
  | .inr (.inl _) => rfl
  | .inr (.inr (.inl _)) => rfl
  | .inr (.inr (.inr (.inl _))) => rfl
  | .inr (.inr (.inr (.inr _))) => rfl
theorem q_iast {M : zM} {d : Nat} {sc : zS} {mc ms : Nat} {Q : zQ} {cells slots N : Nat} {g : Nat → zE} {pc : Nat} {lv : List (Option Value)} {st : List Value} {kc n : Nat} {f : Nat → Int32} {i : Int32} {x : Int32} (hd : decode (zcc M) pc = .ok (.iastore, 1)) (hk : g kc = .inl (0, n, .inl f)) (h1 : 1 ≤ kc) (h2 : kc ≤ N) (hin : vp_in i n) (kk : Wq M d sc mc ms Q cells slots N (va_up g kc (.inl (0, n, .inl (upd f i.toNatClampNeg x)))) (pc + 1) lv st) : Wq M d sc mc ms Q cells slots N g pc lv (.int x :: .int i :: .ref kc :: st) := by
  intro l p e R s m args below meth c D cA b base QM C H locs ls hR hS hL
  obtain ⟨k, rfl⟩ : ∃ k, kc = k + 1 := ⟨kc - 1, by omega⟩
  have hkN : k < N := by omega
  have hg := zW_get (cA := cA) (b := b) (base := base) (g := g) hkN
  rw [hk] at hg
  refine ziast C.1 C.2.1 C.2.2.2.2.2.2.2.2.2.1 hR.2 zW_D hS k 0 hg rfl hin hd (fun H1 locs1 hz hP1 hS1 => ?_)
  rw [zW_set (e := .inl (0, n, .inl (upd f i.toNatClampNeg x))) (e' := .inl (cA 0, n, .inl (upd f i.toNatClampNeg x))) rfl] at hP1
  exact kk l p e R s m args below meth c D cA b base QM C H1 locs1 ls ⟨hz.trans hR.1, hP1⟩ hS1 hL
theorem q_last {M : zM} {d : Nat} {sc : zS} {mc ms : Nat} {Q : zQ} {cells slots N : Nat} {g : Nat → zE} {pc : Nat} {lv : List (Option Value)} {st : List Value} {kc n : Nat} {f : Nat → Int64} {i : Int32} {x : Int64} (hd : decode (zcc M) pc = .ok (.lastore, 1)) (hk : g kc = .inl (1, n, .inr (.inl f))) (h1 : 1 ≤ kc) (h2 : kc ≤ N) (hin : vp_in i n) (kk : Wq M d sc mc ms Q cells slots N (va_up g kc (.inl (1, n, .inr (.inl (vp_updL f i.toNatClampNeg x))))) (pc + 1) lv st) : Wq M d sc mc ms Q cells slots N g pc lv (.long x :: .int i :: .ref kc :: st) := by
  intro l p e R s m args below meth c D cA b base QM C H locs ls hR hS hL
  obtain ⟨k, rfl⟩ : ∃ k, kc = k + 1 := ⟨kc - 1, by omega⟩
  have hkN : k < N := by omega
  have hg := zW_get (cA := cA) (b := b) (base := base) (g := g) hkN
  rw [hk] at hg
  refine zlast C.1 C.2.1 C.2.2.2.2.2.2.2.2.2.1 hR.2 zW_D hS k 1 hg rfl hin hd (fun H1 locs1 hz hP1 hS1 => ?_)
  rw [zW_set (e := .inl (1, n, .inr (.inl (vp_updL f i.toNatClampNeg x)))) (e' := .inl (cA 1, n, .inr (.inl (vp_updL f i.toNatClampNeg x)))) rfl] at hP1
  exact kk l p e R s m args below meth c D cA b base QM C H1 locs1 ls ⟨hz.trans hR.1, hP1⟩ hS1 hL
theorem q_zast {M : zM} {d : Nat} {sc : zS} {mc ms : Nat} {Q : zQ} {cells slots N : Nat} {g : Nat → zE} {pc : Nat} {lv : List (Option Value)} {st : List Value} {kc n : Nat} {f : Nat → Int32} {i : Int32} {x : Int32} (hd : decode (zcc M) pc = .ok (.bastore, 1)) (hk : g kc = .inl (2, n, .inl f)) (h1 : 1 ≤ kc) (h2 : kc ≤ N) (hin : vp_in i n) (h01 : x = 0 ∨ x = 1) (kk : Wq M d sc mc ms Q cells slots N (va_up g kc (.inl (2, n, .inl (upd f i.toNatClampNeg x)))) (pc + 1) lv st) : Wq M d sc mc ms Q cells slots N g pc lv (.int x :: .int i :: .ref kc :: st) := by
  intro l p e R s m args below meth c D cA b base QM C H locs ls hR hS hL
  obtain ⟨k, rfl⟩ : ∃ k, kc = k + 1 := ⟨kc - 1, by omega⟩
  have hkN : k < N := by omega
  have hg := zW_get (cA := cA) (b := b) (base := base) (g := g) hkN
  rw [hk] at hg
  have hnx : vp_nar .boolean x = x := by rcases h01 with rfl | rfl <;> rfl
  refine zzast C.1 C.2.1 C.2.2.2.2.2.2.2.2.2.1 hR.2 zW_D hS k 2 hg rfl hin hd (fun H1 locs1 hz hP1 hS1 => ?_)
  rw [hnx] at hP1
  rw [zW_set (e := .inl (2, n, .inl (upd f i.toNatClampNeg x))) (e' := .inl (cA 2, n, .inl (upd f i.toNatClampNeg x))) rfl] at hP1
  exact kk l p e R s m args below meth c D cA b base QM C H1 locs1 ls ⟨hz.trans hR.1, hP1⟩ hS1 hL
theorem q_aast {M : zM} {d : Nat} {sc : zS} {mc ms : Nat} {Q : zQ} {cells slots N : Nat} {g : Nat → zE} {pc : Nat} {lv : List (Option Value)} {st : List Value} {kc kv n t ci : Nat} {r : vw_C} {vs : List Value} {f : Nat → Option Nat} {i : Int32} (hd : decode (zcc M) pc = .ok (.aastore, 1)) (hk : g kc = .inl (t, n, .inr (.inr (.inr (.inr f))))) (h1 : 1 ≤ kc) (h2 : kc ≤ N) (ht : ∀ cA : Nat → ClassId, (zTys cA)[t]? = some (cA t, .object r.1)) (hkv : g kv = .inr (ci, vs)) (h3 : 1 ≤ kv) (h4 : kv ≤ N) (hc : vwCl[ci]? = some r) (hin : vp_in i n) (kk : Wq M d sc mc ms Q cells slots N (va_up g kc (.inl (t, n, .inr (.inr (.inr (.inr (va_up f i.toNatClampNeg (some kv)))))))) (pc + 1) lv st) : Wq M d sc mc ms Q cells slots N g pc lv (.ref kv :: .int i :: .ref kc :: st) := by
  intro l p e R s m args below meth c D cA b base QM C H locs ls hR hS hL
  obtain ⟨k, rfl⟩ : ∃ k, kc = k + 1 := ⟨kc - 1, by omega⟩
  have hkN : k < N := by omega
  have hg := zW_get (cA := cA) (b := b) (base := base) (g := g) hkN
  rw [hk] at hg
  obtain ⟨k2, rfl⟩ : ∃ k2, kv = k2 + 1 := ⟨kv - 1, by omega⟩
  have hg2 := zW_get (cA := cA) (b := b) (base := base) (g := g) (show k2 < N by omega)
  rw [hkv] at hg2
  refine zastq C.1 C.2.1 C.2.2.2.2.2.2.2.2.2.1 hR.2 zW_D hS k t k2 ci hg (ht cA) hg2 hc hin hd (fun H1 locs1 hz hP1 hS1 => ?_)
  rw [zW_set (e := .inl (t, n, .inr (.inr (.inr (.inr (va_up f i.toNatClampNeg (some (k2 + 1)))))))) ?_] at hP1
  · exact kk l p e R s m args below meth c D cA b base QM C H1 locs1 ls ⟨hz.trans hR.1, hP1⟩ hS1 hL
  · show (Sum.inl (cA t, n, Sum.inr (Sum.inr (Sum.inr (Sum.inr (fun j => ((va_up f i.toNatClampNeg (some (k2 + 1))) j).map (zA b base)))))) : va_E) = _
    refine congrArg (fun h => (Sum.inl (cA t, n, Sum.inr (Sum.inr (Sum.inr (Sum.inr h)))) : va_E)) ?_
    funext j
    by_cases hj : j = i.toNatClampNeg
    · subst hj; simp [va_up, zA]
    · simp [va_up, hj]
theorem q_sld {M : zM} {d : Nat} {sc : zS} {mc ms : Nat} {Q : zQ} {cells slots N : Nat} {g : Nat → zE} {pc : Nat} {lv : List (Option Value)} {st : List Value} {L : Nat} {xs : Nat → Int32} {i : Int32} (hsc : sc = some (L, xs)) (hd : decode (zcc M) pc = .ok (.iaload, 1)) (hin : vp_in i L) (kk : Wq M d sc mc ms Q cells slots N g (pc + 1) lv (.int (xs i.toNatClampNeg) :: st)) : Wq M d sc mc ms Q cells slots N g pc lv (.int i :: .ref 0 :: st) := by
  intro l p e R s m args below meth c D cA b base QM C H locs ls hR hS hL
  obtain ⟨hX, hb1, hb2⟩ := C.2.2.2.2.2.2.2.2.2.2.2.2.1 L xs hsc
  exact va_sld C.1 C.2.1 hX hb2 (Nat.not_le.mpr hb1) hS hin hd (kk l p e R s m args below meth c D cA b base QM C H locs ls hR hS hL)
theorem q_slen {M : zM} {d : Nat} {sc : zS} {mc ms : Nat} {Q : zQ} {cells slots N : Nat} {g : Nat → zE} {pc : Nat} {lv : List (Option Value)} {st : List Value} {L : Nat} {xs : Nat → Int32} (hsc : sc = some (L, xs)) (hd : decode (zcc M) pc = .ok (.arraylength, 1)) (kk : Wq M d sc mc ms Q cells slots N g (pc + 1) lv (.int (Int32.ofNat L) :: st)) : Wq M d sc mc ms Q cells slots N g pc lv (.ref 0 :: st) := by
  intro l p e R s m args below meth c D cA b base QM C H locs ls hR hS hL
  obtain ⟨hX, hb1, hb2⟩ := C.2.2.2.2.2.2.2.2.2.2.2.2.1 L xs hsc
  exact va_slen C.1 C.2.1 hX hb2 (Nat.not_le.mpr hb1) hS hd (kk l p e R s m args below meth c D cA b base QM C H locs ls hR hS hL)
theorem zR_push {D : va_G} {cA : Nat → ClassId} {b base N : Nat} {g : Nat → zE} {H H1 : Heap} {x : zE} (hR : zR D cA b base N g H) (hz : H1.size = H.size + 1) (ho : ∀ q, q < H.size → H1[q]? = H[q]?) (hx : va_at D vwCl (base + N, zX cA b base x) H1) : zR D cA b base (N + 1) (va_up g (N + 1) x) H1 := by
  refine ⟨by rw [hz, hR.1]; omega, ?_⟩
  rw [zW_push]
  refine va_P.app (hR.2.kept (fun k q hq => ho q.1 ((hR.2 k q hq).lt))) (fun k q hq => ?_)
  have hz : k < 1 := (List.getElem?_eq_some_iff.mp hq).1
  rw [show k = 0 by omega] at hq
  cases hq
  exact hx
theorem zS_push {A : Nat → Prop} {H0 H H1 : Heap} {locs : List Loc} (hS : va_S A H0 H locs) (hz : H1.size = H.size + 1) (ho : ∀ q, q < H.size → H1[q]? = H[q]?) : va_S A H0 H1 locs :=
  ⟨Nat.le_trans hS.1 (by omega), fun x h1 h2 => (ho x (Nat.lt_of_lt_of_le h1 hS.1)).trans (hS.2.1 x h1 h2), hS.2.2⟩
theorem q_new {M : zM} {d : Nat} {sc : zS} {mc ms : Nat} {Q : zQ} {cells slots N : Nat} {g : Nat → zE} {pc : Nat} {lv : List (Option Value)} {st : List Value} {idx ci : Nat} {CC : String} {T : u_T} {n : Nat} {fs : List Value} (hd : decode (zcc M) pc = .ok (.new idx, 3)) (hc : vwCl[ci]? = some (CC, T, n)) (hl : Cond.classLink (zown M) idx CC ∈ TB) (hi : Cond.instantiable CC n ∈ TB) (hini : Cond.initialized CC ∈ TB) (ty : Nat → FieldType) (hty : ∀ k, k < n → parseFieldDescriptor (T k).2.2.1 = some (ty k)) (hfs : ∀ j, j < n → defaultValue (ty j) = vp_V fs j) (hfz : ∀ b base : Nat, fs.map (zV b base) = fs) (hcl : cells + 1 ≤ mc) (hsl : slots + n ≤ ms) (kk : Wq M d sc mc ms Q (cells + 1) (slots + n) (N + 1) (va_up g (N + 1) (.inr (ci, fs))) (pc + 3) lv (.ref (N + 1) :: st)) : Wq M d sc mc ms Q cells slots N g pc lv st := by
  intro l p e R s m args below meth c D cA b base QM C H locs ls hR hS hL
  have hKn := (C.2.2.2.2.2.2.2.2.2.1).1 ci _ hc
  refine W.newcK C.1 C.2.1 C.2.2.2.2.2.1 (C.2.2.2.2.2.2.1 _ hl) (C.2.2.2.2.2.2.1 _ hi) (C.2.2.2.2.2.2.1 _ hini) rfl hd (Nat.le_trans hcl (C.2.2.2.2.2.2.2.2.1).2.2.1) (Nat.le_trans hsl (C.2.2.2.2.2.2.2.2.1).2.2.2) hKn.2.1 rfl fun H1 kC hkC e1 z1 o1 => ?_
  have hR1 : zR D cA b base (N + 1) (va_up g (N + 1) (.inr (ci, fs))) H1 := by
    refine zR_push hR z1 o1 ⟨_, hc, ?_⟩
    have hb := (u_born ty C.2.2.2.2.2.2.1 (zcl ci CC T n hc).1 hKn hkC e1 hty).to hfs
    show t_OB (base + N) _ _ _ _ (vp_V (fs.map (zV b base)))
    rw [hfz, ← hR.1]
    exact hb
  have hk := kk l p e R s m args below meth c D cA b base QM C H1 locs ls hR1 (zS_push hS z1 o1) hL
  rw [show H.size = base + N from hR.1]
  exact hk
theorem q_newa {M : zM} {d : Nat} {sc : zS} {mc ms : Nat} {Q : zQ} {cells slots N : Nat} {g : Nat → zE} {pc : Nat} {lv : List (Option Value)} {st : List Value} {atype : ArrayType} {ty : FieldType} {t n : Nat} {i : Int32} {a0 : vp_A} (hd : decode (zcc M) pc = .ok (.newarray atype, 2)) (hw : Cond.arrayClass (newarray.typeOf atype) ∈ TB) (hty : newarray.typeOf atype = ty) (ht : ∀ cA : Nat → ClassId, (zTys cA)[t]? = some (cA t, ty)) (hra : ∀ (U : State) (cA : ClassId), va_RA U cA ty = (U.vm.findClass ("[" ++ ty.toString) = some cA)) (ha : ∀ cA : ClassId, vp_cell cA a0 = arrV cA n (fun _ => defaultValue ty)) (hza : ∀ b base : Nat, zF b base a0 = a0) (hi : ¬ i < 0) (hn : i.toNatClampNeg = n) (hby : n * componentBytes ty ≤ 536870912) (hcl : cells + 1 ≤ mc) (hsl : slots + n ≤ ms) (kk : Wq M d sc mc ms Q (cells + 1) (slots + n) (N + 1) (va_up g (N + 1) (.inl (t, a0))) (pc + 2) lv (.ref (N + 1) :: st)) : Wq M d sc mc ms Q cells slots N g pc lv (.int i :: st) := by
  intro l p e R s m args below meth c D cA b base QM C H locs ls hR hS hL
  subst hty
  refine va_newaK C.1 C.2.1 (C.2.2.2.2.2.2.1 _ hw) rfl hd rfl hi hn hby (Nat.le_trans hcl (C.2.2.2.2.2.2.2.2.1).2.2.1) (Nat.le_trans hsl (C.2.2.2.2.2.2.2.2.1).2.2.2) rfl fun H1 cB e1 z1 o1 hAr hNm => ?_
  have hcc : cB = cA t := by
    have h := ((C.2.2.2.2.2.2.2.2.2.1).2 t _ (ht cA)).2
    rw [hra] at h
    exact Option.some.inj (hNm.symm.trans h)
  subst hcc
  have hR1 : zR D cA b base (N + 1) (va_up g (N + 1) (.inl (t, a0))) H1 := by
    refine zR_push hR z1 o1 ?_
    show H1[base + N]? = some (vp_cell (cA t) (zF b base a0))
    rw [hza, ha, ← hR.1]
    exact e1
  have hk := kk l p e R s m args below meth c D cA b base QM C H1 locs ls hR1 (zS_push hS z1 o1) hL
  rw [show H.size = base + N from hR.1]
  exact hk
theorem q_anew {M : zM} {d : Nat} {sc : zS} {mc ms : Nat} {Q : zQ} {cells slots N : Nat} {g : Nat → zE} {pc : Nat} {lv : List (Option Value)} {st : List Value} {idx t n : Nat} {i : Int32} {C0 : String} (hd : decode (zcc M) pc = .ok (.anewarray idx, 3)) (hl : Cond.classLink (zown M) idx C0 ∈ TB) (hao : ∀ U : State, zNest U → va_AO C0 U) (ht : ∀ cA : Nat → ClassId, (zTys cA)[t]? = some (cA t, .object C0)) (hi : ¬ i < 0) (hn : i.toNatClampNeg = n) (hby : n * 4 ≤ 536870912) (hcl : cells + 1 ≤ mc) (hsl : slots + n ≤ ms) (kk : Wq M d sc mc ms Q (cells + 1) (slots + n) (N + 1) (va_up g (N + 1) (.inl (t, n, .inr (.inr (.inr (.inr (fun _ => none))))))) (pc + 3) lv (.ref (N + 1) :: st)) : Wq M d sc mc ms Q cells slots N g pc lv (.int i :: st) := by
  intro l p e R s m args below meth c D cA b base QM C H locs ls hR hS hL
  subst hn
  refine W.anew C.1 C.2.1 C.2.2.2.2.2.1 (C.2.2.2.2.2.2.1 _ hl) (va_AO.use (hao s C.2.2.2.2.2.2.2.2.2.2.1)) rfl hd rfl hi hby (Nat.le_trans hcl (C.2.2.2.2.2.2.2.2.1).2.2.1) (Nat.le_trans hsl (C.2.2.2.2.2.2.2.2.1).2.2.2) fun cB kA comp f1 f2 f3 f4 => ?_
  have hcc : cB = cA t := by
    obtain ⟨_, _, _, _, _, h⟩ := ((C.2.2.2.2.2.2.2.2.2.1).2 t _ (ht cA)).2
    exact Option.some.inj (f1.symm.trans h)
  subst hcc
  generalize hH1 : H.push ({ cls := cA t, slots := Array.replicate i.toNatClampNeg .null, vm := .none } : Cell) = H1
  have z1 : H1.size = H.size + 1 := by rw [← hH1, Array.size_push]
  have e1 : H1[H.size]? = some (arrV (cA t) i.toNatClampNeg (fun _ => .null)) := by rw [← hH1, Array.getElem?_push_size, ← arrV_new]
  have o1 : ∀ q : Nat, q < H.size → H1[q]? = H[q]? := fun q hq => by rw [← hH1, Array.getElem?_push, if_neg (Nat.ne_of_lt hq)]
  have hR1 : zR D cA b base (N + 1) (va_up g (N + 1) (.inl (t, i.toNatClampNeg, .inr (.inr (.inr (.inr (fun _ => none))))))) H1 := by
    refine zR_push hR z1 o1 ?_
    show H1[base + N]? = some (vp_cell (cA t) _)
    rw [← hR.1]
    exact e1
  have hk := kk l p e R s m args below meth c D cA b base QM C H1 locs ls hR1 (zS_push hS z1 o1) hL
  rw [show H.size = base + N from hR.1]
  exact hk
theorem q_objInit {M : zM} {d : Nat} {sc : zS} {mc ms : Nat} {Q : zQ} {cells slots N : Nat} {g : Nat → zE} {pc : Nat} {lv : List (Option Value)} {st : List Value} {idx kc : Nat} (hd : decode (zcc M) pc = .ok (.invokespecial idx, 3)) (hl : Cond.methodLink (zown M) idx objectInit ∈ TB) (hd1 : 1 ≤ d) (hst : (st.map fun v => v.category).sum ≤ 8) (kk : Wq M d sc mc ms Q cells slots N g (pc + 3) lv st) : Wq M d sc mc ms Q cells slots N g pc lv (.ref kc :: st) := by
  intro l p e R s m args below meth c D cA b base QM C H locs ls hR hS hL
  have hsum : ((st.map (zV b base)).map fun v => v.category).sum = (st.map fun v => v.category).sum := by
    rw [List.map_map]
    congr 1
    exact List.map_congr_left (fun v _ => zV_cat b base v)
  refine W.objInit C.1 C.2.1 C.2.2.2.2.2.1 (C.2.2.2.2.2.2.1 _ hl) (C.2.2.2.2.2.2.1 _ im_objectInit) (C.2.2.2.2.2.2.1 _ co_objectInit) rfl (hL.1.trans C.2.2.1.symm) rfl hd (Nat.le_trans hd1 (C.2.2.2.2.2.2.2.2.1).1) ?_ (kk l p e R s m args below meth c D cA b base QM C H locs ls hR hS hL)
  have h36 := (C.2.2.2.2.2.2.2.2.1).2.1
  rw [hsum]
  show 2 * 0 + _ + 12 ≤ R.locals
  omega
/-! calls: what a call site is, by the tables -/
def zLk (own : String) (idx : Nat) (y : MethodName) (M : zM) (n : Nat) : Prop := Cond.methodLink own idx y ∈ TB ∧ Cond.initialized y.cls ∈ TB ∧ Cond.code y (zcc M) (znl M) (zret M) ∈ TB ∧ (y.cls ≠ "java/lang/invoke/MethodHandle" ∧ y.cls ≠ "java/lang/invoke/VarHandle" ∧ (parseMethodDescriptor y.desc).map (fun d => d.parameters.length) = some n) ∧ znl M ≤ 17
def zLV (own : String) (idx : Nat) (y : MethodName) (M : zM) (n : Nat) : Prop := zLk own idx y M n ∧ Cond.instanceMethod y ∈ TB ∧ Cond.selects y.cls y y ∈ TB
def zLS (own : String) (idx : Nat) (y : MethodName) (M : zM) (n : Nat) : Prop := zLk own idx y M n ∧ Cond.static y ∈ TB
def zLI (own : String) (idx : Nat) (y : MethodName) (M : zM) (n : Nat) : Prop := zLk own idx y M n ∧ Cond.instanceMethod y ∈ TB ∧ y.name = "<init>" ∧ zret M = none
def zLN (own : String) (idx : Nat) (y : MethodName) (M : zM) (n : Nat) : Prop := ((own, idx, y, "TextSolver") ∈ zNL ∧ Cond.initialized y.cls ∈ TB ∧ Cond.code y (zcc M) (znl M) (zret M) ∈ TB ∧ (y.cls ≠ "java/lang/invoke/MethodHandle" ∧ y.cls ≠ "java/lang/invoke/VarHandle" ∧ (parseMethodDescriptor y.desc).map (fun d => d.parameters.length) = some n) ∧ znl M ≤ 17) ∧ Cond.instanceMethod y ∈ TB ∧ y.name = "<init>" ∧ zret M = none
section ZCALL
variable {p : Program} {l : Launch} {e : Env} {R : Room} {s : State} {m : MethodId} {args : Array Value} {below : List Frame} {meth : Method} {c : Code} {H : Heap} {locs : List Loc} {cells slots : Nat} {Q : State → Prop}
variable {pc : Nat} {ls : Array Slot} {rest st0 : List Value} {a : Array Value} {H0 : Heap} {mc ms : Nat} {D : va_G} {cA : Nat → ClassId} {b base : Nat} {Q1 : zQ}
theorem zgo (hr : va_Run p l e R s m args below meth c H locs cells slots mc ms (F0 m pc ls st0) rest (zQc D cA b base Q1 a) (fun q : Nat => base ≤ q)) (hS : va_S (fun q : Nat => base ≤ q) H0 H locs)
    (kk : ∀ (v : Option Value) (N : Nat) (g : Nat → zE) (H1 : Heap) (locs1 : List Loc), Q1 v N g → zR D cA b base N g H1 → va_S (fun q : Nat => base ≤ q) H0 H1 locs1 → W p l e R s m args below meth c H1 locs1 (cells + mc) (slots + ms) Q (F0 m (pc + 3) ls ((v.map (zV b base)).toList ++ rest))) : W p l e R s m args below meth c H locs cells slots Q (F0 m pc ls st0) := by
  intro T hT X
  obtain ⟨v, st₀, t, T', L, h0, X', hL, e1, e2, ⟨⟨v1, N1, g1, hv, hq, hR1⟩, hz, hk⟩, st⟩ := hr T hT X
  cases hv
  rw [h0] at hz hk
  obtain ⟨t2, a1, b1⟩ := kk v1 N1 g1 T'.heap (locs ++ L) hq (by rw [e1]; exact hR1)
    ⟨Nat.le_trans hS.1 (by rw [e1]; exact hz), fun q h1 h2 => by rw [e1, hk q (Nat.lt_of_lt_of_le h1 hS.1) h2]; exact hS.2.1 q h1 h2, fun q hq => by
      rcases List.mem_append.mp hq with h | h
      · exact hS.2.2 q h
      · exact hL q h⟩ T' rfl X'
  exact ⟨t2, st t2 a1, b1⟩
end ZCALL
theorem zmapopt {b base : Nat} (v : Option Value) (st : List Value) : (v.map (zV b base)).toList ++ st.map (zV b base) = (v.toList ++ st).map (zV b base) := by cases v <;> simp
theorem zsum {b base : Nat} (st : List Value) : ((st.map (zV b base)).map fun v => v.category).sum = (st.map fun v => v.category).sum := by
  rw [List.map_map]
  congr 1
  exact List.map_congr_left (fun v _ => zV_cat b base v)
theorem q_callV {M : zM} {d : Nat} {sc : zS} {mc ms : Nat} {Q : zQ} {cells slots N : Nat} {g : Nat → zE} {pc : Nat} {lv : List (Option Value)} {st : List Value} {st0 : List Value} {idx d1 mc1 ms1 n1 : Nat} {y : MethodName} {M1 : zM} {Q1 : zQ} {As : List Value} {kc : Nat} {ci : Nat} {fs : List Value} {CC : String} {T : u_T} {n : Nat} (hM : zC y M1 d1 mc1 ms1 (.ref kc :: As) N g Q1) (hl : zLV (zown M) idx y M1 n1) (hd : decode (zcc M) pc = .ok (.invokevirtual idx, 3)) (hk : g kc = .inr (ci, fs)) (h1 : 1 ≤ kc) (h2 : kc ≤ N) (hc : vwCl[ci]? = some (CC, T, n)) (hcy : CC = y.cls) (hn : As.length = n1) (hdd : d1 + 1 ≤ d) (hst : (st.map fun v => v.category).sum ≤ 8) (hcl : cells + mc1 ≤ mc) (hsl : slots + ms1 ≤ ms) (hs0 : st0 = As.reverse ++ .ref kc :: st) (kk : ∀ (v : Option Value) (N2 : Nat) (g2 : Nat → zE), Q1 v N2 g2 → Wq M d sc mc ms Q (cells + mc1) (slots + ms1) N2 g2 (pc + 3) lv (v.toList ++ st)) : Wq M d sc mc ms Q cells slots N g pc lv st0 := by
  intro l p e R s m args below meth c D cA b base QM C H locs ls hR hS hL
  subst hs0
  obtain ⟨k, rfl⟩ : ∃ k, kc = k + 1 := ⟨kc - 1, by omega⟩
  have hkN : k < N := by omega
  have hg := zW_get (cA := cA) (b := b) (base := base) (g := g) hkN
  rw [hk] at hg
  obtain ⟨⟨hml, hini, hco, hd3, hnl⟩, him, hse⟩ := hl
  have hrm : (zRm d1 mc1 ms1).frames + 1 ≤ R.frames ∧ 8 + (znl M1 + 11) + (zRm d1 mc1 ms1).locals ≤ R.locals := by
    have h36 := (C.2.2.2.2.2.2.2.2.1).1
    have h37 := (C.2.2.2.2.2.2.2.2.1).2.1
    show d1 + 1 ≤ R.frames ∧ 8 + (znl M1 + 11) + 36 * d1 ≤ R.locals
    omega
  have cb := callB_of (own := zown M) (index := idx) (mc := mc1) (ms := ms1) (rm := zRm d1 mc1 ms1) n1 C.2.2.2.2.2.2.1 (zGood hco) rfl rfl rfl (C.2.2.2.2.2.2.1 _ hini) (C.2.2.2.2.2.2.1 _ hml) hd3 hrm
  have hr := va_runV (p := p) (l := l) (e := e) (R := R) (s := s) (m := m) (args := args) (below := below) (meth := meth) (c := c) (H := H) (locs := locs) (cells := cells) (slots := slots) (g := F0 m pc ls ((As.reverse ++ .ref (k + 1) :: st).map (zV b base))) (C := y.cls) (b := base + k) (As := As.map (zV b base)) (rest := st.map (zV b base)) ⟨C.1, C.2.1, C.2.2.1, C.2.2.2.2.2.1, C.2.2.2.2.2.2.1⟩ (hM l D cA b base) ⟨cb, C.2.2.2.2.2.2.1 _ him, C.2.2.2.2.2.2.1 _ hse⟩ ⟨zPc_blind, by rw [← hcy]; exact va_recv C.2.2.2.2.2.2.2.2.2.1 hR.2 hc hg, fun U hU hW => ⟨rfl, by rw [hU]; exact hR, va_K.moved hW.alike C.2.2.2.2.2.2.2.2.2.1, zNest.warm hW C.2.2.2.2.2.2.2.2.2.2.1⟩⟩ rfl (by rw [List.length_map]; exact hn) hL.1 (by simp [List.map_reverse, zV, zA]) (lv_room (by rw [zsum]; exact hst)) hd ⟨Nat.le_trans hcl (C.2.2.2.2.2.2.2.2.1).2.2.1, Nat.le_trans hsl (C.2.2.2.2.2.2.2.2.1).2.2.2⟩
  refine zgo hr hS (fun v N2 g2 H1 locs1 hq hR1 hS1 => ?_)
  rw [zmapopt]
  exact kk v N2 g2 hq l p e R s m args below meth c D cA b base QM C H1 locs1 ls hR1 hS1 hL
theorem q_callS {M : zM} {d : Nat} {sc : zS} {mc ms : Nat} {Q : zQ} {cells slots N : Nat} {g : Nat → zE} {pc : Nat} {lv : List (Option Value)} {st : List Value} {st0 : List Value} {idx d1 mc1 ms1 n1 : Nat} {y : MethodName} {M1 : zM} {Q1 : zQ} {As : List Value} (hM : zC y M1 d1 mc1 ms1 (As) N g Q1) (hl : zLS (zown M) idx y M1 n1) (hd : decode (zcc M) pc = .ok (.invokestatic idx, 3)) (hn : As.length = n1) (hdd : d1 + 1 ≤ d) (hst : (st.map fun v => v.category).sum ≤ 8) (hcl : cells + mc1 ≤ mc) (hsl : slots + ms1 ≤ ms) (hs0 : st0 = As.reverse ++ st) (kk : ∀ (v : Option Value) (N2 : Nat) (g2 : Nat → zE), Q1 v N2 g2 → Wq M d sc mc ms Q (cells + mc1) (slots + ms1) N2 g2 (pc + 3) lv (v.toList ++ st)) : Wq M d sc mc ms Q cells slots N g pc lv st0 := by
  intro l p e R s m args below meth c D cA b base QM C H locs ls hR hS hL
  subst hs0
  obtain ⟨⟨hml, hini, hco, hd3, hnl⟩, hss⟩ := hl
  have hrm : (zRm d1 mc1 ms1).frames + 1 ≤ R.frames ∧ 8 + (znl M1 + 11) + (zRm d1 mc1 ms1).locals ≤ R.locals := by
    have h36 := (C.2.2.2.2.2.2.2.2.1).1
    have h37 := (C.2.2.2.2.2.2.2.2.1).2.1
    show d1 + 1 ≤ R.frames ∧ 8 + (znl M1 + 11) + 36 * d1 ≤ R.locals
    omega
  have cb := callB_of (own := zown M) (index := idx) (mc := mc1) (ms := ms1) (rm := zRm d1 mc1 ms1) n1 C.2.2.2.2.2.2.1 (zGood hco) rfl rfl rfl (C.2.2.2.2.2.2.1 _ hini) (C.2.2.2.2.2.2.1 _ hml) hd3 hrm
  have hr := va_runS (p := p) (l := l) (e := e) (R := R) (s := s) (m := m) (args := args) (below := below) (meth := meth) (c := c) (H := H) (locs := locs) (cells := cells) (slots := slots) (g := F0 m pc ls ((As.reverse ++ st).map (zV b base))) (As := As.map (zV b base)) (rest := st.map (zV b base)) ⟨C.1, C.2.1, C.2.2.1, C.2.2.2.2.2.1, C.2.2.2.2.2.2.1⟩ (hM l D cA b base) ⟨cb, C.2.2.2.2.2.2.1 _ hss⟩ ⟨zPc_blind, fun U hU hW => ⟨rfl, by rw [hU]; exact hR, va_K.moved hW.alike C.2.2.2.2.2.2.2.2.2.1, zNest.warm hW C.2.2.2.2.2.2.2.2.2.2.1⟩⟩ rfl (by rw [List.length_map]; exact hn) hL.1 (by simp [List.map_reverse]) (lv_room (by rw [zsum]; exact hst)) hd ⟨Nat.le_trans hcl (C.2.2.2.2.2.2.2.2.1).2.2.1, Nat.le_trans hsl (C.2.2.2.2.2.2.2.2.1).2.2.2⟩
  refine zgo hr hS (fun v N2 g2 H1 locs1 hq hR1 hS1 => ?_)
  rw [zmapopt]
  exact kk v N2 g2 hq l p e R s m args below meth c D cA b base QM C H1 locs1 ls hR1 hS1 hL
theorem q_callI {M : zM} {d : Nat} {sc : zS} {mc ms : Nat} {Q : zQ} {cells slots N : Nat} {g : Nat → zE} {pc : Nat} {lv : List (Option Value)} {st : List Value} {st0 : List Value} {idx d1 mc1 ms1 n1 : Nat} {y : MethodName} {M1 : zM} {Q1 : zQ} {As : List Value} {kc : Nat} (hM : zC y M1 d1 mc1 ms1 (.ref kc :: As) N g Q1) (hl : zLI (zown M) idx y M1 n1) (hd : decode (zcc M) pc = .ok (.invokespecial idx, 3)) (hn : As.length = n1) (hdd : d1 + 1 ≤ d) (hst : (st.map fun v => v.category).sum ≤ 8) (hcl : cells + mc1 ≤ mc) (hsl : slots + ms1 ≤ ms) (hs0 : st0 = As.reverse ++ .ref kc :: st) (kk : ∀ (v : Option Value) (N2 : Nat) (g2 : Nat → zE), Q1 v N2 g2 → Wq M d sc mc ms Q (cells + mc1) (slots + ms1) N2 g2 (pc + 3) lv (v.toList ++ st)) : Wq M d sc mc ms Q cells slots N g pc lv st0 := by
  intro l p e R s m args below meth c D cA b base QM C H locs ls hR hS hL
  subst hs0
  obtain ⟨⟨hml, hini, hco, hd3, hnl⟩, him, hnm, hrn⟩ := hl
  have hrm : (zRm d1 mc1 ms1).frames + 1 ≤ R.frames ∧ 8 + (znl M1 + 11) + (zRm d1 mc1 ms1).locals ≤ R.locals := by
    have h36 := (C.2.2.2.2.2.2.2.2.1).1
    have h37 := (C.2.2.2.2.2.2.2.2.1).2.1
    show d1 + 1 ≤ R.frames ∧ 8 + (znl M1 + 11) + 36 * d1 ≤ R.locals
    omega
  have cb := callB_of (own := zown M) (index := idx) (mc := mc1) (ms := ms1) (rm := zRm d1 mc1 ms1) n1 C.2.2.2.2.2.2.1 (zGood hco) rfl rfl rfl (C.2.2.2.2.2.2.1 _ hini) (C.2.2.2.2.2.2.1 _ hml) hd3 hrm
  have hr := va_runI (p := p) (l := l) (e := e) (R := R) (s := s) (m := m) (args := args) (below := below) (meth := meth) (c := c) (H := H) (locs := locs) (cells := cells) (slots := slots) (g := F0 m pc ls ((As.reverse ++ .ref kc :: st).map (zV b base))) (b := zA b base kc) (As := As.map (zV b base)) (rest := st.map (zV b base)) ⟨C.1, C.2.1, C.2.2.1, C.2.2.2.2.2.1, C.2.2.2.2.2.2.1⟩ (hM l D cA b base) ⟨by rw [hrn] at cb ⊢; exact cb, hnm, C.2.2.2.2.2.2.1 _ him⟩ ⟨zPc_blind, fun U hU hW => ⟨rfl, by rw [hU]; exact hR, va_K.moved hW.alike C.2.2.2.2.2.2.2.2.2.1, zNest.warm hW C.2.2.2.2.2.2.2.2.2.2.1⟩⟩ rfl (by rw [List.length_map]; exact hn) hL.1 (by simp [List.map_reverse, zV, zA]) (lv_room (by rw [zsum]; exact hst)) hd ⟨Nat.le_trans hcl (C.2.2.2.2.2.2.2.2.1).2.2.1, Nat.le_trans hsl (C.2.2.2.2.2.2.2.2.1).2.2.2⟩
  refine zgo hr hS (fun v N2 g2 H1 locs1 hq hR1 hS1 => ?_)
  rw [zmapopt]
  exact kk v N2 g2 hq l p e R s m args below meth c D cA b base QM C H1 locs1 ls hR1 hS1 hL
theorem q_callN {M : zM} {d : Nat} {sc : zS} {mc ms : Nat} {Q : zQ} {cells slots N : Nat} {g : Nat → zE} {pc : Nat} {lv : List (Option Value)} {st : List Value} {st0 : List Value} {idx d1 mc1 ms1 n1 : Nat} {y : MethodName} {M1 : zM} {Q1 : zQ} {As : List Value} {kc : Nat} (hM : zC y M1 d1 mc1 ms1 (.ref kc :: As) N g Q1) (hl : zLN (zown M) idx y M1 n1) (hd : decode (zcc M) pc = .ok (.invokespecial idx, 3)) (hn : As.length = n1) (hdd : d1 + 1 ≤ d) (hst : (st.map fun v => v.category).sum ≤ 8) (hcl : cells + mc1 ≤ mc) (hsl : slots + ms1 ≤ ms) (hs0 : st0 = As.reverse ++ .ref kc :: st) (kk : ∀ (v : Option Value) (N2 : Nat) (g2 : Nat → zE), Q1 v N2 g2 → Wq M d sc mc ms Q (cells + mc1) (slots + ms1) N2 g2 (pc + 3) lv (v.toList ++ st)) : Wq M d sc mc ms Q cells slots N g pc lv st0 := by
  intro l p e R s m args below meth c D cA b base QM C H locs ls hR hS hL
  subst hs0
  obtain ⟨⟨hN1, hini, hco, hd3, hnl⟩, him, hnm, hrn⟩ := hl
  have hrm : (zRm d1 mc1 ms1).frames + 1 ≤ R.frames ∧ 8 + (znl M1 + 11) + (zRm d1 mc1 ms1).locals ≤ R.locals := by
    have h36 := (C.2.2.2.2.2.2.2.2.1).1
    have h37 := (C.2.2.2.2.2.2.2.2.1).2.1
    show d1 + 1 ≤ R.frames ∧ 8 + (znl M1 + 11) + 36 * d1 ≤ R.locals
    omega
  have cb := va_cnB (args := args) (host := "TextSolver") (index := idx) (own := zown M) (mc := mc1) (ms := ms1) (rm := zRm d1 mc1 ms1) n1 C.2.2.2.2.2.2.1 (zGood hco) rfl rfl rfl (C.2.2.2.2.2.2.2.2.2.2.1.1 _ hN1) (C.2.2.2.2.2.2.1 _ hini) hd3 hrm
  have hr := va_runIN (p := p) (l := l) (e := e) (R := R) (s := s) (m := m) (args := args) (below := below) (meth := meth) (c := c) (H := H) (locs := locs) (cells := cells) (slots := slots) (g := F0 m pc ls ((As.reverse ++ .ref kc :: st).map (zV b base))) (b := zA b base kc) (As := As.map (zV b base)) (rest := st.map (zV b base)) ⟨C.1, C.2.1, C.2.2.1, C.2.2.2.2.2.1, C.2.2.2.2.2.2.1⟩ (hM l D cA b base) ⟨by rw [hrn] at cb ⊢; exact cb, hnm, C.2.2.2.2.2.2.1 _ him⟩ ⟨zPc_blind, fun U hU hW => ⟨rfl, by rw [hU]; exact hR, va_K.moved hW.alike C.2.2.2.2.2.2.2.2.2.1, zNest.warm hW C.2.2.2.2.2.2.2.2.2.2.1⟩⟩ rfl (by rw [List.length_map]; exact hn) hL.1 (by simp [List.map_reverse, zV, zA]) (lv_room (by rw [zsum]; exact hst)) hd ⟨Nat.le_trans hcl (C.2.2.2.2.2.2.2.2.1).2.2.1, Nat.le_trans hsl (C.2.2.2.2.2.2.2.2.1).2.2.2⟩
  refine zgo hr hS (fun v N2 g2 H1 locs1 hq hR1 hS1 => ?_)
  rw [zmapopt]
  exact kk v N2 g2 hq l p e R s m args below meth c D cA b base QM C H1 locs1 ls hR1 hS1 hL
