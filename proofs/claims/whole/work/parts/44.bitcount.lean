theorem wb_pw {a b : Nat} (h : a ≤ b) : 2 ^ b = 2 ^ a * 2 ^ (b - a) := by rw [← Nat.pow_add]; congr 1; omega
theorem wb_lt2 {a b : Nat} (h : a < b) : 2 ^ a < 2 ^ b := Nat.pow_lt_pow_right (by decide) h
theorem wb_mod (n : Nat) : lN n = lN (n % 2 ^ 64) := wb_inj (by rw [wb_tb, wb_tb]; apply BitVec.eq_of_toNat_eq; rw [BitVec.toNat_ofNat, BitVec.toNat_ofNat, Nat.mod_mod])
theorem wb_shr {n k : Nat} (hn : n < 2 ^ 64) (hk : k < 64) : ((lN n).toUInt64 >>> ((nI k).toInt64.toUInt64 &&& Int64.toUInt64 63)).toInt64 = lN (n / 2 ^ k) := by
  rw [wb_cu k hk]
  apply wb_inj
  apply BitVec.eq_of_toNat_eq
  show ((lN n).toUInt64 >>> UInt64.ofNat k).toNat = (BitVec.ofNat 64 _).toNat
  have h1 : (UInt64.ofNat k).toNat = k := by
    show (BitVec.ofNat 64 k).toNat = k
    rw [BitVec.toNat_ofNat, Nat.mod_eq_of_lt (by omega)]
  have h2 : (lN n).toUInt64.toNat = n := wb_tn hn
  rw [UInt64.toNat_shiftRight, h1, h2, Nat.mod_eq_of_lt hk, Nat.shiftRight_eq_div_pow, BitVec.toNat_ofNat, Nat.mod_eq_of_lt (Nat.lt_of_le_of_lt (Nat.div_le_self _ _) hn)]
theorem wb_shl (n : Nat) {k : Nat} (hk : k < 64) : lN n <<< ((nI k).toInt64 &&& 63) = lN (n * 2 ^ k) := by
  rw [wb_c k hk]
  apply wb_inj
  rw [Int64.toBitVec_shiftLeft, wb_tb, wb_tb, wb_tb, wb_sm k hk]
  apply BitVec.eq_of_toNat_eq
  rw [BitVec.shiftLeft_eq', BitVec.toNat_shiftLeft, BitVec.toNat_ofNat, BitVec.toNat_ofNat, BitVec.toNat_ofNat, Nat.mod_eq_of_lt (show k < 2 ^ 64 by omega), Nat.shiftLeft_eq, Nat.mul_mod, Nat.mod_mod, ← Nat.mul_mod]
theorem wb_and {a b : Nat} (ha : a < 2 ^ 64) (hb : b < 2 ^ 64) : lN a &&& lN b = lN (a &&& b) := by
  apply wb_inj
  rw [Int64.toBitVec_and, wb_tb, wb_tb, wb_tb]
  apply BitVec.eq_of_toNat_eq
  rw [BitVec.toNat_and, BitVec.toNat_ofNat, BitVec.toNat_ofNat, BitVec.toNat_ofNat, Nat.mod_eq_of_lt ha, Nat.mod_eq_of_lt hb, Nat.mod_eq_of_lt (Nat.and_lt_two_pow _ hb)]
theorem wb_or {a b : Nat} (ha : a < 2 ^ 64) (hb : b < 2 ^ 64) : lN a ||| lN b = lN (a ||| b) := by
  apply wb_inj
  rw [Int64.toBitVec_or, wb_tb, wb_tb, wb_tb]
  apply BitVec.eq_of_toNat_eq
  rw [BitVec.toNat_or, BitVec.toNat_ofNat, BitVec.toNat_ofNat, BitVec.toNat_ofNat, Nat.mod_eq_of_lt ha, Nat.mod_eq_of_lt hb, Nat.mod_eq_of_lt (Nat.or_lt_two_pow ha hb)]
/-- digits of 8 bits, the low one first -/
def hD : List Nat → Nat
  | [] => 0
  | d :: l => d + 256 * hD l
theorem hD_div {d : Nat} (l : List Nat) (h : d < 256) : hD (d :: l) / 256 = hD l := by
  simp only [hD]; omega
theorem hD_lt : ∀ (l : List Nat), (∀ d ∈ l, d < 256) → hD l < 256 ^ l.length
  | [], _ => by simp [hD]
  | d :: l, h => by
    have h1 := hD_lt l (fun x hx => h x (List.mem_cons_of_mem _ hx))
    have h2 := h d List.mem_cons_self
    simp only [hD, List.length_cons, Nat.pow_succ]
    omega
theorem cB_H : ∀ k n, n < 256 ^ k → ∃ l : List Nat, l.length = k ∧ (∀ d ∈ l, d ≤ 8) ∧ cB k n = hD l ∧ bs n (8 * k) = l.sum
  | 0, n, h => ⟨[], rfl, (fun d hd => absurd hd List.not_mem_nil), rfl, rfl⟩
  | k + 1, n, h => by
    have hn : n / 256 < 256 ^ k := Nat.div_lt_of_lt_mul (by rw [Nat.pow_succ, Nat.mul_comm] at h; exact h)
    obtain ⟨l, h0, h1, h2, h3⟩ := cB_H k (n / 256) hn
    refine ⟨bs (n % 256) 8 :: l, by simp [h0], fun d hd => ?_, ?_, ?_⟩
    · rcases List.mem_cons.mp hd with e | e
      · rw [e]; exact bs_le _ 8
      · exact h1 d e
    · show bs (n % 256) 8 + 256 * cB k (n / 256) = _
      rw [h2]; rfl
    · rw [show 8 * (k + 1) = 8 + 8 * k by omega, bs_split, h3]; simp
/-- the bits of a long, counted -/
def pcL (x : Int64) : Nat := bs x.toBitVec.toNat 64
theorem pM85 : pM 85 8 = 6148914691236517205 := by decide +kernel
theorem pM51 : pM 51 8 = 3689348814741910323 := by decide +kernel
theorem pM15 : pM 15 8 = 1085102592571150095 := by decide +kernel
theorem and_lt64 (a : Nat) {b : Nat} (h : b < 2 ^ 64) : a &&& b < 2 ^ 64 := Nat.and_lt_two_pow a h
theorem pc_fin {n : Nat} (hn : n < 2 ^ 64) : ∃ c c1 c2 c3, c = cB 8 n ∧ c < 2 ^ 64 ∧ c + c / 256 = c1 ∧ c1 < 2 ^ 64 ∧ c1 + c1 / 65536 = c2 ∧ c2 < 2 ^ 64 ∧ c2 + c2 / 4294967296 = c3 ∧ c3 % 128 = bs n 64 := by
  obtain ⟨l, h0, h1, h2, h3⟩ := cB_H 8 n (by rw [show (256 : Nat) ^ 8 = 2 ^ 64 from rfl]; exact hn)
  match l, h0 with
  | [a, b, c, d, e, f, g, h], _ =>
    have k0 := h1 a (by simp)
    have k1 := h1 b (by simp)
    have k2 := h1 c (by simp)
    have k3 := h1 d (by simp)
    have k4 := h1 e (by simp)
    have k5 := h1 f (by simp)
    have k6 := h1 g (by simp)
    have k7 := h1 h (by simp)
    have hlt : ∀ l : List Nat, l.length = 8 → (∀ d ∈ l, d < 256) → hD l < 2 ^ 64 := fun l h0 h => by
      have := hD_lt l h
      rw [h0] at this
      exact this
    have e1 : hD [a, b, c, d, e, f, g, h] + hD [a, b, c, d, e, f, g, h] / 256 = hD [a + b, b + c, c + d, d + e, e + f, f + g, g + h, h] := by
      rw [hD_div _ (by omega)]
      simp only [hD]
      omega
    have e2 : hD [a + b, b + c, c + d, d + e, e + f, f + g, g + h, h] + hD [a + b, b + c, c + d, d + e, e + f, f + g, g + h, h] / 65536 = hD [a + b + (c + d), b + c + (d + e), c + d + (e + f), d + e + (f + g), e + f + (g + h), f + g + h, g + h, h] := by
      rw [show (65536 : Nat) = 256 * 256 from rfl, ← Nat.div_div_eq_div_mul, hD_div _ (by omega), hD_div _ (by omega)]
      simp only [hD]
      omega
    have e3 : hD [a + b + (c + d), b + c + (d + e), c + d + (e + f), d + e + (f + g), e + f + (g + h), f + g + h, g + h, h] / 4294967296 = hD [e + f + (g + h), f + g + h, g + h, h] := by
      rw [show (4294967296 : Nat) = 256 * 256 * 256 * 256 from rfl, ← Nat.div_div_eq_div_mul, ← Nat.div_div_eq_div_mul, ← Nat.div_div_eq_div_mul, hD_div _ (by omega), hD_div _ (by omega), hD_div _ (by omega), hD_div _ (by omega)]
    refine ⟨_, _, _, _, rfl, ?_, rfl, ?_, rfl, ?_, rfl, ?_⟩
    · rw [h2]; exact hlt _ rfl (by simp; omega)
    · rw [h2, e1]; exact hlt _ rfl (by simp; omega)
    · rw [h2, e1, e2]; exact hlt _ rfl (by simp; omega)
    · rw [h2, e1, e2, e3, show bs n 64 = [a, b, c, d, e, f, g, h].sum from h3]
      have e4 : ∀ x y X Y : Nat, hD (x :: [X]) = x + 256 * hD [X] := fun _ _ _ _ => rfl
      simp only [List.sum_cons, List.sum_nil]
      generalize hX : hD [b + c + (d + e), c + d + (e + f), d + e + (f + g), e + f + (g + h), f + g + h, g + h, h] = X
      generalize hY : hD [f + g + h, g + h, h] = Y
      show (a + b + (c + d) + 256 * hD [b + c + (d + e), c + d + (e + f), d + e + (f + g), e + f + (g + h), f + g + h, g + h, h] + (e + f + (g + h) + 256 * hD [f + g + h, g + h, h])) % 128 = _
      rw [hX, hY]
      omega
