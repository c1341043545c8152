/-! helpers of contracts -/
def bI (p : Prop) [Decidable p] : Int32 := if p then 1 else 0
theorem bI_t {p : Prop} [Decidable p] (h : p) : bI p = 1 := if_pos h
theorem bI_f {p : Prop} [Decidable p] (h : ¬ p) : bI p = 0 := if_neg h
theorem bI_01 (p : Prop) [Decidable p] : bI p = 0 ∨ bI p = 1 := by by_cases h : p <;> simp [bI, h]
theorem bI_nz {p : Prop} [Decidable p] : ¬ bI p = 0 ↔ p := by by_cases h : p <;> simp [bI, h]
theorem bI_z {p : Prop} [Decidable p] : bI p = 0 ↔ ¬ p := by by_cases h : p <;> simp [bI, h]
/-- an int comes back, nothing changes -/
def pI (r : Int32) (sg : zI) (ta : zJ) : zPost := fun v s t => v = some (.int r) ∧ s = sg ∧ t = ta
def pV (sg : zI) (ta : zJ) : zPost := fun v s t => v = none ∧ s = sg ∧ t = ta
theorem aal {n t K : Nat} (h : t < n) (hn : n < 2 ^ 31) : (fun j => if j < n then some (nm K j) else none) (nI t).toNatClampNeg = some (nm K t) := by
  show (if (nI t).toNatClampNeg < n then some (nm K (nI t).toNatClampNeg) else none) = _
  rw [nI_clamp (by omega), if_pos h]
theorem nI_inc (i : Nat) : nI i + Int32.ofInt 1 = nI (i + 1) := nI_1 i
theorem nI_dec (i : Nat) : nI (i + 1) + Int32.ofInt (-1) = nI i := pk_m1 i
/-! Space -/
set_option maxRecDepth 100000 in
set_option maxHeartbeats 4000000 in
theorem c_Space_isLetter (sg : zI) (ta : zJ) (x : Int32) : zP yX4_isLetter mX4_isLetter 0 [.ref (nm 1 0), .int x] sg ta (pI (bI (0 ≤ x ∧ x < sg 1 0 1)) sg ta) := by
  refine zP_of (lv := [some (.ref (nm 1 0)), some (.int x)]) (by decide +kernel) rfl (fun h => by cases h) rfl (Nat.le_of_ble_eq_true rfl) ?_
  refine q_iload_n dX4_isLetter_0 rfl ?_
  refine q_if_lt 16 dX4_isLetter_1 (by decide) (fun h => ?_) (fun h => ?_)
  · refine q_iconst (v := 0) dX4_isLetter_16 rfl ?_
    exact z_zret dX4_isLetter_17 rfl (Or.inl rfl) ⟨by rw [bI_f (fun q => absurd h (Int32.not_lt.mpr q.1))], rfl, rfl⟩
  · refine q_iload_n dX4_isLetter_4 rfl ?_
    refine q_aload_n dX4_isLetter_5 rfl ?_
    refine z_get 1 dX4_isLetter_6 (by first | assumption | decide) (sh_1 _ _ _) rfl (by decide) fl_X4_15 rfl ?_
    refine q_icmp_ge 16 dX4_isLetter_9 (by decide) (fun h2 => ?_) (fun h2 => ?_)
    · refine q_iconst (v := 0) dX4_isLetter_16 rfl ?_
      exact z_zret dX4_isLetter_17 rfl (Or.inl rfl) ⟨by rw [bI_f (fun q => absurd q.2 (Int32.not_lt.mpr h2))], rfl, rfl⟩
    · refine q_iconst (v := 1) dX4_isLetter_12 rfl ?_
      refine q_goto 17 dX4_isLetter_13 (by decide) ?_
      exact z_zret dX4_isLetter_17 rfl (Or.inr rfl) ⟨by rw [bI_t ⟨Int32.not_lt.mp h, Int32.not_le.mp h2⟩], rfl, rfl⟩
def rowsN (A : Nat) : Nat → Nat
  | 0 => 1
  | m + 1 => rowsN A m + A ^ (m + 1)
set_option maxRecDepth 100000 in
set_option maxHeartbeats 4000000 in
theorem c_Space_rowsUpTo (sg : zI) (ta : zJ) (A m : Nat) (hA : sg 1 0 1 = nI A) (hm : m < 2 ^ 31) : zP yX4_rowsUpTo mX4_rowsUpTo 0 [.ref (nm 1 0), .int (nI m)] sg ta (pI (nI (rowsN A m)) sg ta) := by
  refine zP_of (lv := [some (.ref (nm 1 0)), some (.int (nI m)), none, none, none]) (by decide +kernel) rfl (fun h => by cases h) rfl (Nat.le_of_ble_eq_true rfl) ?_
  have loop : ∀ n i : Nat, i + n = m → Zq mX4_rowsUpTo 0 (pI (nI (rowsN A m)) sg ta) sg ta 7 [some (.ref (nm 1 0)), some (.int (nI m)), some (.int (nI (rowsN A i))), some (.int (nI (A ^ i))), some (.int (nI i))] [] := by
    intro n
    induction n with
    | zero =>
      intro i hi
      refine q_iload dX4_rowsUpTo_7 rfl ?_
      refine q_iload_n dX4_rowsUpTo_9 rfl ?_
      refine q_icmp_ge 30 dX4_rowsUpTo_10 (by decide) (fun h => ?_) (fun h => ?_)
      · refine q_iload_n dX4_rowsUpTo_30 rfl ?_
        exact z_iret dX4_rowsUpTo_31 rfl ⟨by rw [show i = m by omega], rfl, rfl⟩
      · exact absurd (nI_le (by omega) (by omega)) h
    | succ n ih =>
      intro i hi
      refine q_iload dX4_rowsUpTo_7 rfl ?_
      refine q_iload_n dX4_rowsUpTo_9 rfl ?_
      refine q_icmp_ge 30 dX4_rowsUpTo_10 (by decide) (fun h => ?_) (fun h => ?_)
      · exact absurd h (nI_ge (by omega) (by omega))
      · refine q_iload_n dX4_rowsUpTo_13 rfl ?_
        refine q_aload_n dX4_rowsUpTo_14 rfl ?_
        refine z_get 1 dX4_rowsUpTo_15 (by first | assumption | decide) (sh_1 _ _ _) rfl (by decide) fl_X4_15 rfl ?_
        refine q_imul dX4_rowsUpTo_18 ?_
        refine s_istore_n 3 dX4_rowsUpTo_19 rfl (Nat.le_of_ble_eq_true rfl) rfl ?_
        dsimp only [List.set]
        refine q_iload_n dX4_rowsUpTo_20 rfl ?_
        refine q_iload_n dX4_rowsUpTo_21 rfl ?_
        refine q_iadd dX4_rowsUpTo_22 ?_
        refine s_istore_n 2 dX4_rowsUpTo_23 rfl (Nat.le_of_ble_eq_true rfl) rfl ?_
        dsimp only [List.set]
        refine q_iinc dX4_rowsUpTo_24 rfl (Nat.le_of_ble_eq_true rfl) rfl ?_
        dsimp only [List.set]
        refine q_goto 7 dX4_rowsUpTo_27 (by decide) ?_
        have e1 : nI (A ^ i) * sg 1 0 1 = nI (A ^ (i + 1)) := by rw [hA, pk_mul, Nat.pow_succ]
        rw [e1, nI_add, nI_inc]
        exact ih (i + 1) (by omega)
  refine q_iconst (v := 1) dX4_rowsUpTo_0 rfl ?_
  refine s_istore_n 2 dX4_rowsUpTo_1 rfl (Nat.le_of_ble_eq_true rfl) rfl ?_
  dsimp only [List.set]
  refine q_iconst (v := 1) dX4_rowsUpTo_2 rfl ?_
  refine s_istore_n 3 dX4_rowsUpTo_3 rfl (Nat.le_of_ble_eq_true rfl) rfl ?_
  dsimp only [List.set]
  refine q_iconst (v := 0) dX4_rowsUpTo_4 rfl ?_
  refine q_istore dX4_rowsUpTo_5 (Nat.le_of_ble_eq_true rfl) rfl ?_
  dsimp only [List.set]
  exact loop m 0 (by omega)
