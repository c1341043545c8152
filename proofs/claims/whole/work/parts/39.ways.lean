/-! THE WAYS: vectors of digits in order; digit t of n ones is of 0 .. mo t, the last one goes round first -/
def kAll (mo : Nat → Nat) : Nat → Nat
  | 0 => 1
  | n + 1 => kAll mo n * (mo n + 1)
def vec (mo : Nat → Nat) : Nat → Nat → Nat → Nat
  | 0, _, _ => 0
  | n + 1, k, t => if t = n then k % (mo n + 1) else vec mo n (k / (mo n + 1)) t
def rk (mo v : Nat → Nat) : Nat → Nat
  | 0 => 0
  | n + 1 => rk mo v n * (mo n + 1) + v n
theorem kAll_pos (mo : Nat → Nat) : ∀ n, 0 < kAll mo n
  | 0 => by simp [kAll]
  | n + 1 => by simp only [kAll]; exact Nat.mul_pos (kAll_pos mo n) (by omega)
theorem vec_le (mo : Nat → Nat) : ∀ n k t, t < n → vec mo n k t ≤ mo t
  | 0, _, _, h => by omega
  | n + 1, k, t, h => by
    simp only [vec]
    by_cases ht : t = n
    · subst ht; rw [if_pos rfl]; have := Nat.mod_lt k (show 0 < mo t + 1 by omega); omega
    · rw [if_neg ht]; exact vec_le mo n _ t (by omega)
theorem vec_big (mo : Nat → Nat) : ∀ n k t, n ≤ t → vec mo n k t = 0
  | 0, _, _, _ => rfl
  | n + 1, k, t, h => by
    simp only [vec]
    rw [if_neg (by omega)]
    exact vec_big mo n _ t (by omega)
theorem rk_congr {mo v w : Nat → Nat} : ∀ n, (∀ t, t < n → v t = w t) → rk mo v n = rk mo w n
  | 0, _ => rfl
  | n + 1, h => by simp only [rk]; rw [rk_congr n (fun t ht => h t (by omega)), h n (by omega)]
theorem rk_vec (mo : Nat → Nat) : ∀ n k, k < kAll mo n → rk mo (vec mo n k) n = k
  | 0, k, h => by simp only [kAll] at h; simp only [rk]; omega
  | n + 1, k, h => by
    simp only [kAll] at h
    have hq : k / (mo n + 1) < kAll mo n := Nat.div_lt_of_lt_mul (by rw [Nat.mul_comm]; exact h)
    have h1 := rk_vec mo n _ hq
    have h2 : rk mo (vec mo (n + 1) k) n = rk mo (vec mo n (k / (mo n + 1))) n := rk_congr n (fun t ht => by simp only [vec]; rw [if_neg (by omega)])
    simp only [rk]
    rw [h2, h1]
    simp only [vec, if_true]
    have := Nat.div_add_mod k (mo n + 1)
    rw [Nat.mul_comm] at this
    exact this
theorem rk_inj {mo v w : Nat → Nat} : ∀ n, (∀ t, t < n → v t ≤ mo t) → (∀ t, t < n → w t ≤ mo t) → rk mo v n = rk mo w n → ∀ t, t < n → v t = w t
  | 0, _, _, _, t, h => by omega
  | n + 1, hv, hw, h, t, ht => by
    simp only [rk] at h
    have h1 := hv n (by omega)
    have h2 := hw n (by omega)
    have hm : ∀ a b c : Nat, b < c → (a * c + b) / c = a := fun a b c hb => by
      rw [Nat.mul_comm, Nat.mul_add_div (by omega), Nat.div_eq_of_lt hb, Nat.add_zero]
    have e1 : rk mo v n = rk mo w n := by
      rw [← hm (rk mo v n) (v n) (mo n + 1) (by omega), h, hm (rk mo w n) (w n) (mo n + 1) (by omega)]
    by_cases htn : t = n
    · subst htn; rw [e1] at h; omega
    · exact rk_inj n (fun t ht => hv t (by omega)) (fun t ht => hw t (by omega)) e1 t (by omega)
theorem rk_lt {mo v : Nat → Nat} : ∀ n, (∀ t, t < n → v t ≤ mo t) → rk mo v n < kAll mo n
  | 0, _ => by simp [rk, kAll]
  | n + 1, hv => by
    have h1 := rk_lt n (fun t ht => hv t (by omega))
    have h2 := hv n (by omega)
    simp only [rk, kAll]
    have h3 : (rk mo v n + 1) * (mo n + 1) ≤ kAll mo n * (mo n + 1) := Nat.mul_le_mul_right _ h1
    rw [Nat.add_mul] at h3
    omega
/-- the next vector: the last place that isn't full goes up, those behind it go to 0 -/
theorem rk_next {mo v w : Nat → Nat} {t : Nat} : ∀ n, t < n → v t < mo t → w t = v t + 1 → (∀ u, u < t → w u = v u) → (∀ u, t < u → u < n → v u = mo u ∧ w u = 0) → rk mo w n = rk mo v n + 1
  | 0, h, _, _, _, _ => by omega
  | n + 1, h, h1, h2, h3, h4 => by
    simp only [rk]
    by_cases htn : t = n
    · subst htn
      rw [rk_congr (v := w) (w := v) t h3, h2]
      omega
    · have ih := rk_next n (by omega) h1 h2 h3 (fun u a b => h4 u a (by omega))
      have h5 := h4 n (by omega) (by omega)
      rw [ih, h5.1, h5.2, Nat.add_mul]
      omega
theorem rk_full {mo v : Nat → Nat} : ∀ n, (∀ u, u < n → v u = mo u) → rk mo v n + 1 = kAll mo n
  | 0, _ => rfl
  | n + 1, h => by
    have ih := rk_full n (fun u hu => h u (by omega))
    simp only [rk, kAll]
    rw [← ih, h n (by omega), Nat.add_mul]
    omega
theorem rk_zero {mo : Nat → Nat} {v : Nat → Nat} : ∀ n, (∀ u, u < n → v u = 0) → rk mo v n = 0
  | 0, _ => rfl
  | n + 1, h => by simp only [rk]; rw [rk_zero n (fun u hu => h u (by omega)), h n (by omega)]; simp
theorem vec_zero (mo : Nat → Nat) (n t : Nat) : vec mo n 0 t = 0 := by
  induction n generalizing t with
  | zero => rfl
  | succ n ih => simp only [vec, Nat.zero_mod, Nat.zero_div, ih]; split <;> rfl
/-- the vector behind the k-th -/
theorem vec_next {mo w : Nat → Nat} {n k t : Nat} (hk : k < kAll mo n) (ht : t < n) (h1 : vec mo n k t < mo t) (h2 : w t = vec mo n k t + 1) (h3 : ∀ u, u < t → w u = vec mo n k u) (h4 : ∀ u, t < u → u < n → vec mo n k u = mo u ∧ w u = 0) : k + 1 < kAll mo n ∧ ∀ u, u < n → w u = vec mo n (k + 1) u := by
  have hr := rk_next n ht h1 h2 h3 h4
  rw [rk_vec mo n k hk] at hr
  have hw : ∀ u, u < n → w u ≤ mo u := by
    intro u hu
    rcases Nat.lt_trichotomy u t with g | g | g
    · rw [h3 u g]; exact vec_le mo n k u hu
    · subst g; omega
    · rw [(h4 u g hu).2]; omega
  have hl := rk_lt n hw
  rw [hr] at hl
  exact ⟨hl, rk_inj n hw (fun u hu => vec_le mo n (k + 1) u hu) (by rw [hr, rk_vec mo n (k + 1) hl])⟩
theorem vec_last {mo : Nat → Nat} {n k : Nat} (hk : k < kAll mo n) (h : ∀ u, u < n → vec mo n k u = mo u) : k + 1 = kAll mo n := by
  have := rk_full n h
  rwa [rk_vec mo n k hk] at this
/-! sums -/
def sumN (f : Nat → Nat) : Nat → Nat
  | 0 => 0
  | n + 1 => sumN f n + f n
theorem sumN_congr {f g : Nat → Nat} : ∀ n, (∀ k, k < n → f k = g k) → sumN f n = sumN g n
  | 0, _ => rfl
  | n + 1, h => by simp only [sumN]; rw [sumN_congr n (fun k hk => h k (by omega)), h n (by omega)]
theorem sumN_add (f : Nat → Nat) (a : Nat) : ∀ b, sumN f (a + b) = sumN f a + sumN (fun r => f (a + r)) b
  | 0 => rfl
  | b + 1 => by rw [← Nat.add_assoc]; simp only [sumN]; rw [sumN_add f a b]; omega
theorem sumN_mulL (f : Nat → Nat) (c : Nat) : ∀ n, sumN (fun k => c * f k) n = c * sumN f n
  | 0 => rfl
  | n + 1 => by simp only [sumN]; rw [sumN_mulL f c n, Nat.mul_add]
theorem sumN_mulR (f : Nat → Nat) (c : Nat) : ∀ n, sumN (fun k => f k * c) n = sumN f n * c
  | 0 => by simp [sumN]
  | n + 1 => by simp only [sumN]; rw [sumN_mulR f c n, Nat.add_mul]
theorem sumN_prod (f : Nat → Nat) (c : Nat) : ∀ m, sumN f (m * c) = sumN (fun q => sumN (fun r => f (q * c + r)) c) m
  | 0 => by simp [sumN]
  | m + 1 => by rw [Nat.add_mul, Nat.one_mul, sumN_add, sumN_prod f c m]; rfl
theorem sumN_mono (f : Nat → Nat) {a b : Nat} (h : a ≤ b) : sumN f a ≤ sumN f b := by
  obtain ⟨c, rfl⟩ : ∃ c, b = a + c := ⟨b - a, by omega⟩
  rw [sumN_add]; omega
theorem sumN_pow (A : Nat) : ∀ m, sumN (fun r => A ^ r) (m + 1) = rowsN A m
  | 0 => by simp [sumN, rowsN]
  | m + 1 => by rw [sumN, sumN_pow A m]; rfl
theorem psum_congr {v w : Nat → Nat} : ∀ n, (∀ t, t < n → v t = w t) → psum v n = psum w n
  | 0, _ => rfl
  | n + 1, h => by simp only [psum]; rw [psum_congr n (fun t ht => h t (by omega)), h n (by omega)]
/-- how many letters the texts of the k-th lengths have, how many ways these are, the number of the first -/
def wTot (mo : Nat → Nat) (nT k : Nat) : Nat := psum (vec mo nT k) nT
def wFst (A : Nat) (mo : Nat → Nat) (nT k : Nat) : Nat := sumN (fun j => A ^ wTot mo nT j) k
def wSize (A : Nat) (mo : Nat → Nat) : Nat → Nat
  | 0 => 1
  | n + 1 => wSize A mo n * rowsN A (mo n)
theorem wTot_succ (mo : Nat → Nat) (n q r : Nat) (hr : r < mo n + 1) : wTot mo (n + 1) (q * (mo n + 1) + r) = wTot mo n q + r := by
  unfold wTot
  simp only [psum]
  have e1 : (q * (mo n + 1) + r) / (mo n + 1) = q := by
    rw [Nat.mul_comm, Nat.mul_add_div (by omega), Nat.div_eq_of_lt hr, Nat.add_zero]
  have e2 : (q * (mo n + 1) + r) % (mo n + 1) = r := by
    rw [Nat.mul_comm, Nat.mul_add_mod, Nat.mod_eq_of_lt hr]
  have e3 : vec mo (n + 1) (q * (mo n + 1) + r) n = r := by simp only [vec, if_true]; exact e2
  rw [e3]
  congr 1
  refine psum_congr n (fun t ht => ?_)
  simp only [vec]
  rw [if_neg (by omega), e1]
theorem wFst_all (A : Nat) (mo : Nat → Nat) : ∀ n, wFst A mo n (kAll mo n) = wSize A mo n
  | 0 => by simp [wFst, kAll, wSize, sumN, wTot, psum]
  | n + 1 => by
    unfold wFst
    simp only [kAll, wSize]
    rw [sumN_prod, ← wFst_all A mo n, ← sumN_pow, wFst, ← sumN_mulR]
    refine sumN_congr _ (fun q _ => ?_)
    rw [← sumN_mulL]
    refine sumN_congr _ (fun r hr => ?_)
    rw [wTot_succ mo n q r hr, Nat.pow_add]
theorem wFst_s (A : Nat) (mo : Nat → Nat) (nT k : Nat) : wFst A mo nT (k + 1) = wFst A mo nT k + A ^ wTot mo nT k := rfl
theorem wFst_le (A : Nat) (mo : Nat → Nat) (nT : Nat) {k : Nat} (h : k ≤ kAll mo nT) : wFst A mo nT k ≤ wSize A mo nT := by
  rw [← wFst_all]; exact sumN_mono _ h
theorem wFst_mono (A : Nat) (mo : Nat → Nat) (nT : Nat) {k j : Nat} (h : k ≤ j) : wFst A mo nT k ≤ wFst A mo nT j := sumN_mono _ h
/-- way w has the k-th lengths -/
def wIn (A : Nat) (mo : Nat → Nat) (nT w k : Nat) : Prop := k < kAll mo nT ∧ wFst A mo nT k ≤ w ∧ w < wFst A mo nT (k + 1)
theorem wIn_ex0 (A : Nat) (mo : Nat → Nat) (nT w : Nat) : ∀ K, w < wFst A mo nT K → ∃ k, k < K ∧ wFst A mo nT k ≤ w ∧ w < wFst A mo nT (k + 1)
  | 0, h => by simp [wFst, sumN] at h
  | K + 1, h => by
    by_cases h2 : w < wFst A mo nT K
    · obtain ⟨k, a, b⟩ := wIn_ex0 A mo nT w K h2
      exact ⟨k, by omega, b⟩
    · exact ⟨K, by omega, by omega, h⟩
theorem wIn_ex {A : Nat} {mo : Nat → Nat} {nT w : Nat} (h : w < wSize A mo nT) : ∃ k, wIn A mo nT w k := by
  rw [← wFst_all] at h
  obtain ⟨k, a, b⟩ := wIn_ex0 A mo nT w _ h
  exact ⟨k, a, b⟩
theorem wIn_uni {A : Nat} {mo : Nat → Nat} {nT w k j : Nat} (h : wIn A mo nT w k) (h2 : wIn A mo nT w j) : k = j := by
  rcases Nat.lt_trichotomy k j with g | g | g
  · have := wFst_mono A mo nT (show k + 1 ≤ j from g)
    have := h.2.2; have := h2.2.1; omega
  · exact g
  · have := wFst_mono A mo nT (show j + 1 ≤ k from g)
    have := h2.2.2; have := h.2.1; omega
noncomputable def kOf (A : Nat) (mo : Nat → Nat) (nT w : Nat) : Nat := @dite Nat (∃ k, wIn A mo nT w k) (Classical.propDecidable _) (fun h => Classical.choose h) (fun _ => 0)
theorem kOf_in {A : Nat} {mo : Nat → Nat} {nT w : Nat} (h : w < wSize A mo nT) : wIn A mo nT w (kOf A mo nT w) := by
  unfold kOf
  rw [dif_pos (wIn_ex h)]
  exact Classical.choose_spec (wIn_ex h)
theorem kOf_eq {A : Nat} {mo : Nat → Nat} {nT w k : Nat} (h : wIn A mo nT w k) : kOf A mo nT w = k := by
  have hs : w < wSize A mo nT := Nat.lt_of_lt_of_le h.2.2 (wFst_le A mo nT h.1)
  exact wIn_uni (kOf_in hs) h
/-- the letters of way w, one behind the other -/
noncomputable def wLet (A : Nat) (mo : Nat → Nat) (nT w : Nat) : Nat → Nat := vec (fun _ => A - 1) (wTot mo nT (kOf A mo nT w)) (w - wFst A mo nT (kOf A mo nT w))
