/-! counting bits -/
/-- how many of the first k bits are set -/
def bs (n : Nat) : Nat → Nat := sumN (fun j => (n.testBit j).toNat)
/-- low byte and the rest -/
theorem and_split {a b M N : Nat} (ha : a < 256) (hM : M < 256) : (a + 256 * b) &&& (M + 256 * N) = (a &&& M) + 256 * (b &&& N) := by
  have hlt : a &&& M < 2 ^ 8 := Nat.and_lt_two_pow a hM
  apply Nat.eq_of_testBit_eq
  intro i
  rw [Nat.testBit_and]
  have e1 : ∀ x y : Nat, x < 2 ^ 8 → (x + 256 * y).testBit i = if i < 8 then x.testBit i else y.testBit (i - 8) := by
    intro x y hx
    have := Nat.testBit_two_pow_mul_add y hx i
    rw [show (2 : Nat) ^ 8 = 256 from rfl, Nat.add_comm] at this
    exact this
  rw [e1 a b ha, e1 M N hM, e1 _ _ hlt]
  by_cases h : i < 8
  · simp [h, Nat.testBit_and]
  · simp [h, Nat.testBit_and]
def pM (m : Nat) : Nat → Nat
  | 0 => 0
  | k + 1 => m + 256 * pM m k
theorem dv2 (a b : Nat) : (a + 256 * b) / 2 = (a / 2 + 128 * (b % 2)) + 256 * (b / 2) := by omega
theorem dv4 (a b : Nat) : (a + 256 * b) / 4 = (a / 4 + 64 * (b % 4)) + 256 * (b / 4) := by omega
theorem dv16 (a b : Nat) : (a + 256 * b) / 16 = (a / 16 + 16 * (b % 16)) + 256 * (b / 16) := by omega
def t1 (k n : Nat) : Nat := n - ((n / 2) &&& pM 85 k)
def t2 (k n : Nat) : Nat := (n &&& pM 51 k) + ((n / 4) &&& pM 51 k)
def t3 (k n : Nat) : Nat := (n + n / 16) &&& pM 15 k
theorem byte1 : ∀ b, b < 256 → ∀ e, e < 2 → (b / 2 + 128 * e) &&& 85 = (b / 2) &&& 85 := by decide +kernel
theorem byte1' : ∀ b, b < 256 → (b / 2) &&& 85 ≤ b := by decide +kernel
theorem byte2 : ∀ b, b < 256 → ∀ e, e < 4 → (b / 4 + 64 * e) &&& 51 = (b / 4) &&& 51 := by decide +kernel
theorem byte2' : ∀ b, b < 256 → (b &&& 51) + ((b / 4) &&& 51) < 256 := by decide +kernel
theorem and_le_half (n m : Nat) : (n / 2) &&& m ≤ n := Nat.le_trans Nat.and_le_left (Nat.div_le_self n 2)
theorem t1_s (k b n : Nat) (hb : b < 256) : t1 (k + 1) (b + 256 * n) = (b - ((b / 2) &&& 85)) + 256 * t1 k n := by
  unfold t1
  rw [dv2]
  show _ - (_ &&& (85 + 256 * pM 85 k)) = _
  rw [and_split (by omega) (by omega), byte1 b hb (n % 2) (by omega)]
  have h1 := byte1' b hb
  have h2 := and_le_half n (pM 85 k)
  omega
theorem t2_s (k b n : Nat) (hb : b < 256) : t2 (k + 1) (b + 256 * n) = ((b &&& 51) + ((b / 4) &&& 51)) + 256 * t2 k n := by
  unfold t2
  rw [dv4]
  show (_ &&& (51 + 256 * pM 51 k)) + (_ &&& (51 + 256 * pM 51 k)) = _
  rw [and_split hb (by omega), and_split (by omega) (by omega), byte2 b hb (n % 4) (by omega)]
  omega
theorem and15 (x : Nat) : x &&& 15 = x % 16 := Nat.and_two_pow_sub_one_eq_mod x 4
theorem t3_s (k b n : Nat) (hb : b + b / 16 + 16 * (n % 16) < 256) : t3 (k + 1) (b + 256 * n) = ((b + b / 16) % 16) + 256 * t3 k n := by
  unfold t3
  rw [dv16]
  show (_ &&& (15 + 256 * pM 15 k)) = _
  rw [show b + 256 * n + (b / 16 + 16 * (n % 16) + 256 * (n / 16)) = (b + b / 16 + 16 * (n % 16)) + 256 * (n + n / 16) by omega]
  rw [and_split hb (by omega), and15]
  omega
def g2 (b : Nat) : Nat := ((b - ((b / 2) &&& 85)) &&& 51) + (((b - ((b / 2) &&& 85)) / 4) &&& 51)
theorem g2_ok : ∀ b, b < 256 → b - ((b / 2) &&& 85) < 256 ∧ g2 b % 16 ≤ 4 ∧ g2 b / 16 ≤ 4 ∧ (g2 b + g2 b / 16) % 16 = bs b 8 := by decide +kernel
/-- the count of each byte, in the byte -/
def cB : Nat → Nat → Nat
  | 0, _ => 0
  | k + 1, n => bs (n % 256) 8 + 256 * cB k (n / 256)
theorem t2t1_low : ∀ k n, n < 256 ^ k → t2 k (t1 k n) % 16 ≤ 4
  | 0, n, h => by simp [t2, t1, pM]
  | k + 1, n, h => by
    have e : n = n % 256 + 256 * (n / 256) := by omega
    have hb : n % 256 < 256 := by omega
    obtain ⟨g, g3, g4, -⟩ := g2_ok (n % 256) hb
    rw [e, t1_s k _ _ hb, t2_s k _ _ g]
    show (g2 (n % 256) + 256 * t2 k (t1 k (n / 256))) % 16 ≤ 4
    omega
theorem t321 : ∀ k n, n < 256 ^ k → t3 k (t2 k (t1 k n)) = cB k n
  | 0, n, h => by simp [t3, t2, t1, pM, cB]
  | k + 1, n, h => by
    have e : n = n % 256 + 256 * (n / 256) := by omega
    have hb : n % 256 < 256 := by omega
    have hn : n / 256 < 256 ^ k := Nat.div_lt_of_lt_mul (by rw [Nat.pow_succ, Nat.mul_comm] at h; exact h)
    obtain ⟨g, g3, g4, g5⟩ := g2_ok (n % 256) hb
    have hl := t2t1_low k (n / 256) hn
    have ih := t321 k (n / 256) hn
    show _ = bs (n % 256) 8 + 256 * cB k (n / 256)
    rw [← ih, ← g5]
    have e2 : t1 (k + 1) n = (n % 256 - ((n % 256 / 2) &&& 85)) + 256 * t1 k (n / 256) := by
      have := t1_s k (n % 256) (n / 256) hb
      rw [← e] at this
      exact this
    rw [e2, t2_s k _ _ g]
    show t3 (k + 1) (g2 (n % 256) + 256 * t2 k (t1 k (n / 256))) = _
    rw [t3_s k _ _ (by omega)]
theorem bs_le (n : Nat) : ∀ k, bs n k ≤ k
  | 0 => by simp [bs, sumN]
  | k + 1 => by
    have := bs_le n k
    show sumN _ k + (n.testBit k).toNat ≤ k + 1
    have h2 : (n.testBit k).toNat ≤ 1 := by cases n.testBit k <;> simp
    have h3 : sumN (fun j => (n.testBit j).toNat) k = bs n k := rfl
    omega
theorem bs_split (n k : Nat) : bs n (8 + k) = bs (n % 256) 8 + bs (n / 256) k := by
  unfold bs
  rw [sumN_add]
  congr 1
  · refine sumN_congr 8 (fun j hj => ?_)
    rw [show (256 : Nat) = 2 ^ 8 from rfl, Nat.testBit_mod_two_pow]
    simp [hj]
  · refine sumN_congr k (fun j _ => ?_)
    rw [show (256 : Nat) = 2 ^ 8 from rfl, Nat.testBit_div_two_pow]
    rw [Nat.add_comm]
