/-! the law's entry: what the tables say, put into the judgement's context -/
theorem tn_1 {w : Cond} (i : Nat) (h : tables_1_1[i]? = some w) : w ∈ lw_tbl := List.mem_append_right _ (List.mem_append_left _ (List.mem_of_getElem? h))
theorem lw_arr {s : State} {args : Array Value} {ty : FieldType} (hra : ∀ (U : State) (cA : ClassId), va_RA U cA ty = (U.vm.findClass ("[" ++ ty.toString) = some cA)) (h : (Cond.arrayClass ty).before args s = true) : ∃ cA, ArrOfT s cA ty ∧ va_RA s cA ty := by
  obtain ⟨cA, kA, comp, h1, h2, h3⟩ := Cond.arrayClass_spec h
  exact ⟨cA, fun n z => ⟨fun k h => (by cases h), kA, h2, comp, h3⟩, by rw [hra]; exact h1⟩
theorem lw_arrO {s : State} {C : String} (h : va_AO C s) : ∃ cA, ArrOfT s cA (.object C) ∧ va_RA s cA (.object C) := by
  obtain ⟨comp, cA, kA, f4, -, f2, f3, f1⟩ := Cond.arrayOver_spec h
  exact ⟨cA, fun N z => ⟨(fun k h => by cases h), kA, f2, comp, f3⟩, kA, comp, f2, f3, f4, f1⟩
theorem lw_cls {s : State} {args : Array Value} (htb : ∀ w ∈ TB, w.before args s = true) : ∀ k : Nat, ∃ (cC : ClassId) (iS : Nat → Nat), ∀ q : vw_C, vwCl[k]? = some q → u_Kn s q.1 q.2.1 q.2.2 cC iS
  | 0 => by obtain ⟨a, b, h⟩ := u_known (C := RX0) (T := TX0) (N := 9) (n := 9) htb inlX0 (htb _ it_RX0); exact ⟨a, b, fun q hq => by cases hq; exact h⟩
  | 1 => by obtain ⟨a, b, h⟩ := u_known (C := RX1) (T := TX1) (N := 7) (n := 7) htb inlX1 (htb _ it_RX1); exact ⟨a, b, fun q hq => by cases hq; exact h⟩
  | 2 => by obtain ⟨a, b, h⟩ := u_known (C := RX2) (T := TX2) (N := 3) (n := 3) htb inlX2 (htb _ it_RX2); exact ⟨a, b, fun q hq => by cases hq; exact h⟩
  | 3 => by obtain ⟨a, b, h⟩ := u_known (C := RX3) (T := TX3) (N := 2) (n := 2) htb inlX3 (htb _ it_RX3); exact ⟨a, b, fun q hq => by cases hq; exact h⟩
  | 4 => by obtain ⟨a, b, h⟩ := u_known (C := RX4) (T := TX4) (N := 4) (n := 4) htb inlX4 (htb _ it_RX4); exact ⟨a, b, fun q hq => by cases hq; exact h⟩
  | 5 => by obtain ⟨a, b, h⟩ := u_known (C := RX5) (T := TX5) (N := 2) (n := 2) htb inlX5 (htb _ it_RX5); exact ⟨a, b, fun q hq => by cases hq; exact h⟩
  | 6 => by obtain ⟨a, b, h⟩ := u_known (C := RX6) (T := TX6) (N := 7) (n := 7) htb inlX6 (htb _ it_RX6); exact ⟨a, b, fun q hq => by cases hq; exact h⟩
  | 7 => by obtain ⟨a, b, h⟩ := u_known (C := RX7) (T := TX7) (N := 13) (n := 13) htb inlX7 (htb _ it_RX7); exact ⟨a, b, fun q hq => by cases hq; exact h⟩
  | 8 => by obtain ⟨a, b, h⟩ := u_known (C := RX8) (T := TX8) (N := 32) (n := 32) htb inlX8 (htb _ it_RX8); exact ⟨a, b, fun q hq => by cases hq; exact h⟩
  | k + 9 => by obtain ⟨a, b, -⟩ := u_known (C := RX8) (T := TX8) (N := 32) (n := 32) htb inlX8 (htb _ it_RX8); exact ⟨a, b, fun q hq => by simp [vwCl] at hq⟩
set_option maxRecDepth 100000 in
theorem lw_nest {s : State} {args : Array Value} (hts : ∀ w ∈ lw_tbl, w.before args s = true) : zNest s := by
  refine ⟨?_, hts (Cond.arrayOver (.object RX5)) (tn_1 82 rfl), hts (Cond.arrayOver (.object RX2)) (tn_1 84 rfl), hts (Cond.arrayOver (.object RX0)) (tn_1 86 rfl)⟩
  unfold zNL
  refine List.forall_mem_cons.mpr ⟨va_Nw.of rfl (hts _ (tn_1 24 rfl)), List.forall_mem_cons.mpr ⟨va_Nw.of rfl (hts _ (tn_1 147 rfl)), List.forall_mem_cons.mpr ⟨va_Nw.of rfl (hts _ (tn_1 149 rfl)), List.forall_mem_cons.mpr ⟨va_Nw.of rfl (hts _ (tn_1 164 rfl)), List.forall_mem_cons.mpr ⟨va_Nw.of rfl (hts _ (tn_1 95 rfl)), List.forall_mem_cons.mpr ⟨va_Nw.of rfl (hts _ (tn_1 111 rfl)), fun _ h => absurd h List.not_mem_nil⟩⟩⟩⟩⟩⟩
theorem lw_K {s : State} {args : Array Value} (hts : ∀ w ∈ lw_tbl, w.before args s = true) : ∃ (D : va_G) (cA : Nat → ClassId), va_K D vwCl (zTys cA) s := by
  have htb : ∀ w ∈ TB, w.before args s = true := fun w hw => hts w (TB_in hw)
  have hk := lw_cls htb
  have hN := lw_nest hts
  obtain ⟨a0, h0⟩ := lw_arr (fun _ _ => rfl) (htb _ ac_int)
  obtain ⟨a1, h1⟩ := lw_arr (fun _ _ => rfl) (htb _ ac_long)
  obtain ⟨a2, h2⟩ := lw_arr (fun _ _ => rfl) (htb _ ac_boolean)
  obtain ⟨a3, h3⟩ := lw_arrO hN.2.1
  obtain ⟨a4, h4⟩ := lw_arrO hN.2.2.1
  obtain ⟨a5, h5⟩ := lw_arrO hN.2.2.2
  refine ⟨(fun k => Classical.choose (hk k), fun k => Classical.choose (Classical.choose_spec (hk k))), (fun k => match k with | 0 => a0 | 1 => a1 | 2 => a2 | 3 => a3 | 4 => a4 | _ => a5), fun k q hq => Classical.choose_spec (Classical.choose_spec (hk k)) q hq, fun k q hq => ?_⟩
  match k, hq with
  | 0, hq => cases hq; exact h0
  | 1, hq => cases hq; exact h1
  | 2, hq => cases hq; exact h2
  | 3, hq => cases hq; exact h3
  | 4, hq => cases hq; exact h4
  | 5, hq => cases hq; exact h5
  | k + 6, hq => simp [zTys] at hq
/-- YOUR PART: from the entry, for every script of at most 384 ints, the law comes to its end with true -/
theorem whole_start {p : Program} {e : Env} {s : State} {m : MethodId} {below : List Frame} {meth : Method} {c : Code} (l : Launch) {b L : Nat} {xs : Nat → Int32} (hL : L ≤ 384) (C0 : lw_At p s m meth c b L xs) : W p l e room_1 s m #[Value.ref b] below meth c s.heap [] 0 0 (lw_Z below #[Value.ref b] s) (entryFrame m ([Value.ref b] : List Value).toArray 4) := by
  obtain ⟨hx, hb, hr, hml, hown, hts, hX, hbl, hlocks, hgv⟩ := id C0
  obtain ⟨D, cA, hK⟩ := lw_K hts
  have htb : ∀ w ∈ TB, w.before #[Value.ref b] s = true := fun w hw => hts w (TB_in hw)
  rw [lg_entry_eq]
  refine w_law (xs := xs) hL (fun _ => .inl (0, 0, .inl (fun _ => 0))) l p e room_1 s m #[Value.ref b] below meth c D cA b s.heap.size _ ⟨hx, hb, hml, hr, hlocks, hown, htb, (fun h => by cases h), ⟨Nat.le_of_ble_eq_true rfl, Nat.le_of_ble_eq_true rfl, Nat.le_of_ble_eq_true rfl, Nat.le_of_ble_eq_true rfl⟩, hK, lw_nest hts, Nat.le_refl _, ?_, ?_⟩ s.heap [] _ ⟨rfl, fun k q h => by simp [zW] at h⟩ va_S.rf (zent_zL (b := b) (base := s.heap.size) (nL := 4) (vs := [.ref 0]) (Nat.le_of_ble_eq_true rfl))
  · intro L' xs' h
    cases h
    exact ⟨hX, hbl, hbl⟩
  · intro v N g H locs ls pc hq hR hS hret
    cases hq
    exact va_forget (fun q hq => hS.2.2 q hq) (lw_ret hx hb hr hlocks hret.1)
