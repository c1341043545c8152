/-! lists of letters, and what formulas say of them -/
def fn (l : List Int32) (j : Nat) : Int32 := (l[j]?).getD 0
theorem RowHas.at_ {sg : zI} {r : Nat} {l : List Int32} (h : RowHas sg r l) {j : Nat} (hj : j < l.length) : fn l j = sg 14 r j := by unfold fn; rw [h.2 j hj]; rfl
theorem matR_congr {a a' b b' : Nat → Int32} {n m p : Nat} (ha : ∀ j, j < n → a j = a' j) (hb : ∀ j, j < m → b j = b' j) : matR a n b m p ↔ matR a' n b' m p := by
  unfold matR
  constructor
  · rintro ⟨h1, h2⟩
    exact ⟨h1, fun k hk => by rw [← ha _ (by omega), ← hb _ hk]; exact h2 k hk⟩
  · rintro ⟨h1, h2⟩
    exact ⟨h1, fun k hk => by rw [ha _ (by omega), hb _ hk]; exact h2 k hk⟩
theorem befR_congr {a a' b b' : Nat → Int32} {n m : Nat} (ha : ∀ j, j < n → a j = a' j) (hb : ∀ j, j < m → b j = b' j) : befR a n b m ↔ befR a' n b' m := by
  unfold befR
  constructor
  · rintro ⟨i, h1, h2, h3, h4⟩
    refine ⟨i, fun k hk => by rw [← ha _ (by omega), ← hb _ (by omega)]; exact h1 k hk, h2, h3, ?_⟩
    rcases h4 with h4 | ⟨h4, h5⟩
    · exact Or.inl h4
    · exact Or.inr ⟨h4, by rw [← ha _ h4, ← hb _ h3]; exact h5⟩
  · rintro ⟨i, h1, h2, h3, h4⟩
    refine ⟨i, fun k hk => by rw [ha _ (by omega), hb _ (by omega)]; exact h1 k hk, h2, h3, ?_⟩
    rcases h4 with h4 | ⟨h4, h5⟩
    · exact Or.inl h4
    · exact Or.inr ⟨h4, by rw [ha _ h4, hb _ h3]; exact h5⟩
theorem sumR_congr {a a' : Nat → Int32} : ∀ n, (∀ j, j < n → a j = a' j) → sumR a n = sumR a' n
  | 0, _ => rfl
  | n + 1, h => by simp only [sumR]; rw [sumR_congr n (fun j hj => h j (by omega)), h n (by omega)]
theorem mrun_congr {nx : Int32 → Int32 → Int32} {a a' : Nat → Int32} : ∀ n, (∀ j, j < n → a j = a' j) → mrun nx a n = mrun nx a' n
  | 0, _ => rfl
  | n + 1, h => by simp only [mrun]; rw [mrun_congr n (fun j hj => h j (by omega)), h n (by omega)]
theorem fn_ext {l m : List Int32} (h : l.length = m.length) (h2 : ∀ j, j < l.length → fn l j = fn m j) : l = m := by
  apply List.ext_getElem?
  intro j
  by_cases hj : j < l.length
  · have := h2 j hj
    unfold fn at this
    rw [List.getElem?_eq_getElem hj, List.getElem?_eq_getElem (show j < m.length by omega)] at this ⊢
    simpa using this
  · rw [List.getElem?_eq_none (by omega), List.getElem?_eq_none (by omega)]
theorem fn_app_l {l m : List Int32} {j : Nat} (h : j < l.length) : fn (l ++ m) j = fn l j := by unfold fn; rw [List.getElem?_append_left h]
theorem fn_app_r {l m : List Int32} {j : Nat} : fn (l ++ m) (l.length + j) = fn m j := by unfold fn; rw [List.getElem?_append_right (by omega)]; simp
theorem fn_take {l : List Int32} {p j : Nat} (h : j < p) : fn (l.take p) j = fn l j := by unfold fn; rw [List.getElem?_take_of_lt h]
theorem fn_drop {l : List Int32} {p j : Nat} : fn (l.drop p) j = fn l (p + j) := by unfold fn; rw [List.getElem?_drop]
/-- b stands in a at p, and nowhere before -/
def fstL (a b : List Int32) (p : Nat) : Prop := matR (fn a) a.length (fn b) b.length p ∧ ∀ q, q < p → ¬ matR (fn a) a.length (fn b) b.length q
def hasL (a b : List Int32) : Prop := ∃ p, matR (fn a) a.length (fn b) b.length p
def befL (a b : List Int32) : Prop := befR (fn a) a.length (fn b) b.length
def sumL (a : List Int32) : Int32 := sumR (fn a) a.length
def repL (a b c d : List Int32) : Prop := (¬ hasL b c ∧ a = b) ∨ ∃ p, fstL b c p ∧ a = b.take p ++ d ++ b.drop (p + c.length)
def sumOk (h b c : Int32) : Prop := (h.toInt - c.toInt) % b.toInt = 0
/-- a formula of a kind is so; sp: what the terms are, mx: which rows a machine takes -/
def trP (k a b c d : Int32) (sp : Int32 → List Int32) (mx : Int32 → List Int32 → Prop) : Prop :=
  (k = 0 ∧ sp a = sp b) ∨ (k = 1 ∧ c.toInt ≤ ((sp a).length : Int) - (sp b).length) ∨ (k = 2 ∧ mx b (sp a)) ∨ (k = 3 ∧ befL (sp a) (sp b)) ∨ (k = 4 ∧ hasL (sp a) (sp b)) ∨ (k = 5 ∧ sumOk (sumL (sp a)) b c) ∨ (k = 6 ∧ repL (sp a) (sp b) (sp c) (sp d))
theorem trP_0 {a b c d : Int32} {sp : Int32 → List Int32} {mx : Int32 → List Int32 → Prop} : trP (nI 0) a b c d sp mx ↔ sp a = sp b := by
  unfold trP
  have h : ∀ x : Int32, x ≠ 0 → ¬ (nI 0 = x) := fun x hx q => hx q.symm
  simp [h, show nI 0 = 0 from rfl]
theorem trP_1 {a b c d : Int32} {sp : Int32 → List Int32} {mx : Int32 → List Int32 → Prop} : trP (nI 1) a b c d sp mx ↔ c.toInt ≤ ((sp a).length : Int) - (sp b).length := by
  unfold trP
  simp [show nI 1 = 1 from rfl]
theorem trP_2 {a b c d : Int32} {sp : Int32 → List Int32} {mx : Int32 → List Int32 → Prop} : trP (nI 2) a b c d sp mx ↔ mx b (sp a) := by
  unfold trP
  simp [show nI 2 = 2 from rfl]
theorem trP_3 {a b c d : Int32} {sp : Int32 → List Int32} {mx : Int32 → List Int32 → Prop} : trP (nI 3) a b c d sp mx ↔ befL (sp a) (sp b) := by
  unfold trP
  simp [show nI 3 = 3 from rfl]
theorem trP_4 {a b c d : Int32} {sp : Int32 → List Int32} {mx : Int32 → List Int32 → Prop} : trP (nI 4) a b c d sp mx ↔ hasL (sp a) (sp b) := by
  unfold trP
  simp [show nI 4 = 4 from rfl]
theorem trP_5 {a b c d : Int32} {sp : Int32 → List Int32} {mx : Int32 → List Int32 → Prop} : trP (nI 5) a b c d sp mx ↔ sumOk (sumL (sp a)) b c := by
  unfold trP
  simp [show nI 5 = 5 from rfl]
theorem trP_6 {a b c d : Int32} {sp : Int32 → List Int32} {mx : Int32 → List Int32 → Prop} : trP (nI 6) a b c d sp mx ↔ repL (sp a) (sp b) (sp c) (sp d) := by
  unfold trP
  simp [show nI 6 = 6 from rfl]
/-- plR, of lists -/
theorem plR_iff {sg : zI} {r r2 : Nat} {a b : List Int32} (ha : RowHas sg r a) (hb : RowHas sg r2 b) {x : Int32} (h : plR (sg 14 r) a.length (sg 14 r2) b.length x) : (x = -1 ∧ ¬ hasL a b) ∨ ∃ p, x = nI p ∧ fstL a b p := by
  have hm : ∀ p, matR (sg 14 r) a.length (sg 14 r2) b.length p ↔ matR (fn a) a.length (fn b) b.length p := fun p => matR_congr (fun j hj => (ha.at_ hj).symm) (fun j hj => (hb.at_ hj).symm)
  rcases h with ⟨h1, h2⟩ | ⟨p, h1, h2, h3⟩
  · exact Or.inl ⟨h1, fun ⟨p, hp⟩ => h2 p ((hm p).mpr hp)⟩
  · exact Or.inr ⟨p, h1, (hm p).mp h2, fun q hq g => h3 q hq ((hm q).mpr g)⟩
theorem fstL_le {a b : List Int32} {p : Nat} (h : fstL a b p) : p + b.length ≤ a.length := h.1.1
theorem fstL_uni {a b : List Int32} {p q : Nat} (h : fstL a b p) (h2 : fstL a b q) : p = q := by
  rcases Nat.lt_trichotomy p q with g | g | g
  · exact absurd h.1 (h2.2 p g)
  · exact g
  · exact absurd h2.1 (h.2 q g)
/-- what is replaced, letter by letter -/
theorem rep_iff {a b d : List Int32} {p g : Nat} (hpg : p + g ≤ b.length) : (a.length = p + d.length + (b.length - p - g) ∧ (∀ j, j < p → fn a j = fn b j) ∧ (∀ j, j < d.length → fn a (p + j) = fn d j) ∧ ∀ j, j < b.length - p - g → fn a (p + d.length + j) = fn b (p + g + j)) ↔ a = b.take p ++ d ++ b.drop (p + g) := by
  have hl : (b.take p).length = p := by rw [List.length_take]; omega
  constructor
  · rintro ⟨h1, h2, h3, h4⟩
    apply fn_ext
    · simp only [List.length_append, List.length_take, List.length_drop]; omega
    · intro j hj
      by_cases g1 : j < p
      · rw [fn_app_l (by simp only [List.length_append]; omega), fn_app_l (by omega), fn_take g1]
        exact h2 j g1
      · by_cases g2 : j < p + d.length
        · rw [fn_app_l (by simp only [List.length_append]; omega)]
          obtain ⟨q, rfl⟩ : ∃ q, j = p + q := ⟨j - p, by omega⟩
          rw [h3 q (by omega)]
          have := fn_app_r (l := b.take p) (m := d) (j := q)
          rw [hl] at this
          exact this.symm
        · obtain ⟨q, rfl⟩ : ∃ q, j = p + d.length + q := ⟨j - (p + d.length), by omega⟩
          rw [h4 q (by omega)]
          have := fn_app_r (l := b.take p ++ d) (m := b.drop (p + g)) (j := q)
          rw [List.length_append, hl, fn_drop] at this
          exact this.symm
  · intro h
    subst h
    refine ⟨?_, ?_, ?_, ?_⟩
    · simp only [List.length_append, List.length_take, List.length_drop]; omega
    · intro j hj
      rw [fn_app_l (by simp only [List.length_append]; omega), fn_app_l (by omega), fn_take hj]
    · intro j hj
      rw [fn_app_l (by simp only [List.length_append]; omega)]
      have := fn_app_r (l := b.take p) (m := d) (j := j)
      rw [hl] at this
      exact this
    · intro j hj
      have := fn_app_r (l := b.take p ++ d) (m := b.drop (p + g)) (j := j)
      rw [List.length_append, hl, fn_drop] at this
      exact this
/-! sums and floorMod -/
theorem fmod_iff {h : Int32} {b c : Nat} (hb : 2 ≤ b) (hb2 : b ≤ 16) (hc : c < b) : fmod h (nI b) = nI c ↔ sumOk h (nI b) (nI c) := by
  have eb : (nI b).toInt = (b : Int) := nI_toInt (by omega)
  have ec : (nI c).toInt = (c : Int) := nI_toInt (by omega)
  have hlo := Int32.le_toInt h
  have hhi := Int32.toInt_lt h
  have hbp : (0 : Int) < b := by omega
  -- the rest, as a number
  have er : (h - h / nI b * nI b).toInt = h.toInt.tmod b := by
    have e1 : (h / nI b).toInt = h.toInt.tdiv b := by
      rw [Int32.toInt_div_of_ne_right _ _ (by intro q; have := congrArg Int32.toInt q; rw [eb] at this; have : (-1 : Int32).toInt = -1 := rfl; omega), eb]
    have e2 : h.toInt.tmod b = h.toInt - h.toInt.tdiv b * b := by
      have := Int.tmod_add_mul_tdiv h.toInt b
      have h3 : (b : Int) * h.toInt.tdiv b = h.toInt.tdiv b * b := Int.mul_comm _ _
      omega
    have hb1 := Int.tmod_lt_of_pos h.toInt hbp
    have hb0 : -(b : Int) < h.toInt.tmod b := by
      have := tmod_bounds (a := h.toInt) hbp
      omega
    rw [Int32.toInt_sub, Int32.toInt_mul, e1, eb]
    rw [show (h.toInt - (h.toInt.tdiv ↑b * ↑b).bmod (2 ^ 32)).bmod (2 ^ 32) = (h.toInt - h.toInt.tdiv ↑b * ↑b).bmod (2 ^ 32) by rw [Int.sub_bmod_bmod], ← e2]
    apply Int.bmod_eq_of_le <;> omega
  have hx : (h ^^^ nI b) < 0 ↔ h.toInt < 0 := by
    rw [Int32.lt_iff_toInt_lt, Int32.toInt_zero]
    have m1 : (h ^^^ nI b).toBitVec.msb = (h.toBitVec.msb ^^ (nI b).toBitVec.msb) := by rw [Int32.toBitVec_xor, BitVec.msb_xor]
    have m2 : (nI b).toBitVec.msb = false := by
      rw [BitVec.msb_eq_toInt]
      have : (nI b).toBitVec.toInt = (b : Int) := eb
      rw [this]
      simp
    rw [m2, Bool.xor_false, BitVec.msb_eq_toInt, BitVec.msb_eq_toInt] at m1
    exact decide_eq_decide.mp m1
  have ef : (fmod h (nI b)).toInt = h.toInt % b := by
    have ht := Int.tmod_eq_emod (a := h.toInt) (b := (b : Int))
    have hz : ((h - h / nI b * nI b) = 0) ↔ h.toInt.tmod b = 0 := by
      rw [← Int32.toInt_inj, er, Int32.toInt_zero]
    have hd : (b : Int) ∣ h.toInt ↔ h.toInt.tmod b = 0 := by
      rw [Int.dvd_iff_tmod_eq_zero]
    unfold fmod
    by_cases hc1 : (h ^^^ nI b) < 0 ∧ ¬ (h - h / nI b * nI b) = 0
    · rw [sel_t hc1, Int32.toInt_add, er, eb]
      have n1 : h.toInt < 0 := hx.mp hc1.1
      have n2 : ¬ h.toInt.tmod b = 0 := fun q => hc1.2 (hz.mpr q)
      rw [if_neg (by rw [hd]; omega)] at ht
      have e0 := Int.emod_nonneg h.toInt (show (b : Int) ≠ 0 by omega)
      have e1 := Int.emod_lt_of_pos h.toInt hbp
      rw [ht]
      have : (h.toInt % ↑b - ↑(b : Int).natAbs + ↑b) = h.toInt % b := by omega
      rw [this]
      apply Int.bmod_eq_of_le <;> omega
    · rw [sel_f hc1, er, ht]
      have : 0 ≤ h.toInt ∨ (b : Int) ∣ h.toInt := by
        rw [hd]
        by_cases g : 0 ≤ h.toInt
        · exact Or.inl g
        · right
          rw [← hz]
          exact Classical.not_not.mp (fun q => hc1 ⟨hx.mpr (by omega), q⟩)
      rw [if_pos this]
      omega
  unfold sumOk
  rw [eb, ec, ← Int32.toInt_inj, ef, ec, ← Int.emod_eq_emod_iff_emod_sub_eq_zero, Int.emod_eq_of_lt (a := (c : Int)) (by omega) (by omega)]
/-! Judge -/
noncomputable def tIdx (x : Int32) : Nat := @ite Nat (vp_in x 12) (Classical.propDecidable _) x.toNatClampNeg 12
theorem tIdx_in {x : Int32} (h : vp_in x 12) : tIdx x = x.toNatClampNeg := by unfold tIdx; rw [if_pos h]
theorem tIdx_out {x : Int32} (h : ¬ vp_in x 12) : tIdx x = 12 := by unfold tIdx; rw [if_neg h]
theorem tIdx_nI {t : Nat} (h : t < 12) : tIdx (nI t) = t := by rw [tIdx_in (vp_in_nI h (by omega)), nI_clamp (by omega)]
theorem tIdx_lt (x : Int32) : tIdx x < cnt 11 := by
  show tIdx x < 13
  by_cases h : vp_in x 12
  · rw [tIdx_in h]; have := Nat.not_le.mp (fun q => h (Or.inr q)); omega
  · rw [tIdx_out h]; omega
set_option maxRecDepth 100000 in
set_option maxHeartbeats 4000000 in
theorem c_Judge_termAt (sg : zI) (ta : zJ) (x : Int32) : zP yX1_termAt mX1_termAt 0 [.ref (nm 10 0), .int x] sg ta (fun v s t => v = some (.ref (nm 11 (tIdx x))) ∧ s = sg ∧ t = ta) := by
  refine zP_of (lv := [some (.ref (nm 10 0)), some (.int x)]) (by decide +kernel) rfl (fun h => by cases h) rfl (Nat.le_of_ble_eq_true rfl) ?_
  refine q_iload_n dX1_termAt_0 rfl ?_
  refine q_if_lt 22 dX1_termAt_1 (by decide) (fun h => ?_) (fun h => ?_)
  · refine q_aload_n dX1_termAt_22 rfl ?_
    refine z_get 2 dX1_termAt_23 (by first | assumption | decide) (sh_10 _ _ _) rfl (by decide) fl_X1_12 rfl ?_
    exact z_aret dX1_termAt_26 rfl ⟨by rw [tIdx_out (vin_not (Or.inl h) (by omega))], rfl, rfl⟩
  · refine q_iload_n dX1_termAt_4 rfl ?_
    refine q_aload_n dX1_termAt_5 rfl ?_
    refine z_get 0 dX1_termAt_6 (by first | assumption | decide) (sh_10 _ _ _) rfl (by decide) fl_X1_34 rfl ?_
    refine z_alen dX1_termAt_9 (by first | assumption | decide) rfl (fun _ => rfl) rfl ?_
    refine q_icmp_ge 22 dX1_termAt_10 (by decide) (fun h2 => ?_) (fun h2 => ?_)
    · refine q_aload_n dX1_termAt_22 rfl ?_
      refine z_get 2 dX1_termAt_23 (by first | assumption | decide) (sh_10 _ _ _) rfl (by decide) fl_X1_12 rfl ?_
      exact z_aret dX1_termAt_26 rfl ⟨by rw [tIdx_out (vin_not (Or.inr h2) (by omega))], rfl, rfl⟩
    · have hv : vp_in x 12 := vin h h2 (by omega)
      have hl : x.toNatClampNeg < 12 := Nat.not_le.mp (fun q => hv (Or.inr q))
      refine q_aload_n dX1_termAt_13 rfl ?_
      refine z_get 0 dX1_termAt_14 (by first | assumption | decide) (sh_10 _ _ _) rfl (by decide) fl_X1_34 rfl ?_
      refine q_iload_n dX1_termAt_17 rfl ?_
      refine z_aald dX1_termAt_18 (by first | assumption | decide) rfl (fun _ => rfl) hv (if_pos hl) ?_
      refine q_goto 26 dX1_termAt_19 (by decide) ?_
      exact z_aret dX1_termAt_26 rfl ⟨by rw [tIdx_in hv], rfl, rfl⟩
set_option maxRecDepth 100000 in
set_option maxHeartbeats 4000000 in
theorem c_Judge_machineAt (sg : zI) (ta : zJ) (m : Nat) (hm : m < 3) : zP yX1_machineAt mX1_machineAt 0 [.ref (nm 10 0), .int (nI m)] sg ta (fun v s t => v = some (.ref (nm 15 m)) ∧ s = sg ∧ t = ta) := by
  refine zP_of (lv := [some (.ref (nm 10 0)), some (.int (nI m))]) (by decide +kernel) rfl (fun h => by cases h) rfl (Nat.le_of_ble_eq_true rfl) ?_
  refine q_iload_n dX1_machineAt_0 rfl ?_
  refine q_if_lt 22 dX1_machineAt_1 (by decide) (fun h => ?_) (fun h => ?_)
  · exact absurd h (nI_pos (by omega))
  · refine q_iload_n dX1_machineAt_4 rfl ?_
    refine q_aload_n dX1_machineAt_5 rfl ?_
    refine z_get 1 dX1_machineAt_6 (by first | assumption | decide) (sh_10 _ _ _) rfl (by decide) fl_X1_38 rfl ?_
    refine z_alen dX1_machineAt_9 (by first | assumption | decide) rfl (fun _ => rfl) rfl ?_
    refine q_icmp_ge 22 dX1_machineAt_10 (by decide) (fun h2 => ?_) (fun h2 => ?_)
    · exact absurd ((nI_leI (a := 3) (by omega) (by omega)).mp h2) (by omega)
    · refine q_aload_n dX1_machineAt_13 rfl ?_
      refine z_get 1 dX1_machineAt_14 (by first | assumption | decide) (sh_10 _ _ _) rfl (by decide) fl_X1_38 rfl ?_
      refine q_iload_n dX1_machineAt_17 rfl ?_
      refine z_aald dX1_machineAt_18 (by first | assumption | decide) rfl (fun _ => rfl) (vp_in_nI hm (by omega)) (aal hm (by omega)) ?_
      refine q_goto 23 dX1_machineAt_19 (by decide) ?_
      exact z_aret dX1_machineAt_23 rfl ⟨rfl, rfl, rfl⟩
/-- a term's parts are sound in way i -/
def TOk (sg : zI) (i : Nat) (x : Int32) : Prop := ∃ n, n ≤ 6 ∧ sg 11 (tIdx x) 1 = nI n ∧ ∀ j, j < n → PartOk (sg 4 i) (sg 5 i) (sg 12 (tIdx x) j)
/-- what a term is in way i -/
noncomputable def spC (sg : zI) (i : Nat) (x : Int32) : List Int32 := spl (sg 12 (tIdx x)) (sg 4 i) (sg 5 i) (sg 6 i) (sg 11 (tIdx x) 1).toNatClampNeg
theorem TOk_len {sg : zI} {i : Nat} {x : Int32} (h : TOk sg i x) : (spC sg i x).length ≤ 30 := by
  obtain ⟨n, h1, h2, h3⟩ := h
  unfold spC
  rw [h2, nI_clamp (by omega)]
  have := spl_len (row := sg 6 i) n h3
  omega
theorem tlen_spl {p L S row : Nat → Int32} : ∀ n, (∀ j, j < n → PartOk L S (p j)) → tlen p L n = nI (spl p L S row n).length
  | 0, _ => rfl
  | n + 1, h => by
    rw [tlen_s, tlen_spl n (fun j hj => h j (by omega))]
    simp only [spl, List.length_append]
    rw [← nI_add]
    congr 1
    rcases h n (by omega) with g | ⟨t, l, s, h1, h2, h3, h4, h5, h6⟩
    · rw [splP_l g, sel_f (vin_not (Or.inl g) (by omega))]; rfl
    · rw [splP_t h1 h2 h3 h4 h5 h6, h1, sel_t (vp_in_nI h2 (by omega)), nI_clamp (by omega), h3]
      simp
set_option maxRecDepth 100000 in
set_option maxHeartbeats 4000000 in
theorem c_Judge_isOneLength (sg : zI) (ta : zJ) (f i : Nat) (hf : f < cnt 17) (hi : i < cnt 3) (ha : TOk sg i (sg 17 f 3)) (hb : TOk sg i (sg 17 f 4)) : zP yX1_isOneLength mX1_isOneLength 1 [.ref (nm 10 0), .ref (nm 17 f), .ref (nm 4 i)] sg ta (pI (bC ((spC sg i (sg 17 f 3)).length = (spC sg i (sg 17 f 4)).length)) sg ta) := by
  have hi4 := cnt4 hi
  have la := TOk_len ha
  have lb := TOk_len hb
  obtain ⟨n, a1, a2, a3⟩ := ha
  obtain ⟨m, b1, b2, b3⟩ := hb
  unfold spC at la lb ⊢
  rw [a2, nI_clamp (by omega)] at la ⊢
  rw [b2, nI_clamp (by omega)] at lb ⊢
  refine zP_of (lv := [some (.ref (nm 10 0)), some (.ref (nm 17 f)), some (.ref (nm 4 i))]) (by decide +kernel) rfl (fun h => by cases h) rfl (Nat.le_of_ble_eq_true rfl) ?_
  refine q_aload_n dX1_isOneLength_0 rfl ?_
  refine q_aload_n dX1_isOneLength_1 rfl ?_
  refine z_get 3 dX1_isOneLength_2 (by first | assumption | decide) (sh_17 _ _ _) rfl (by decide) fl_X1_42 rfl ?_
  refine z_callV (c_Judge_termAt sg ta _) kV_X1_47 dX1_isOneLength_5 (by first | assumption | decide) (sh_10 _ _ _) rfl rfl rfl (by omega) (Nat.le_of_ble_eq_true rfl) (Nat.le_refl _) (Nat.le_refl _) rfl (fun v s2 ta2 h => ?_)
  obtain ⟨rfl, rfl, rfl⟩ := h
  dsimp only [Option.toList, List.cons_append, List.nil_append]
  refine q_aload_n dX1_isOneLength_8 rfl ?_
  refine z_callV (c_Term_lengthWith s2 ta2 _ n i (tIdx_lt _) hi4 a2 a1) kV_X1_51 dX1_isOneLength_9 (tIdx_lt _) (sh_11 _ _ _) rfl rfl rfl (by omega) (Nat.le_of_ble_eq_true rfl) (Nat.le_refl _) (Nat.le_refl _) rfl (fun v s3 ta3 h => ?_)
  obtain ⟨rfl, rfl, rfl⟩ := h
  dsimp only [Option.toList, List.cons_append, List.nil_append]
  refine q_aload_n dX1_isOneLength_12 rfl ?_
  refine q_aload_n dX1_isOneLength_13 rfl ?_
  refine z_get 4 dX1_isOneLength_14 (by first | assumption | decide) (sh_17 _ _ _) rfl (by decide) fl_X1_55 rfl ?_
  refine z_callV (c_Judge_termAt s3 ta3 _) kV_X1_47 dX1_isOneLength_17 (by first | assumption | decide) (sh_10 _ _ _) rfl rfl rfl (by omega) (Nat.le_of_ble_eq_true rfl) (Nat.le_refl _) (Nat.le_refl _) rfl (fun v s4 ta4 h => ?_)
  obtain ⟨rfl, rfl, rfl⟩ := h
  dsimp only [Option.toList, List.cons_append, List.nil_append]
  refine q_aload_n dX1_isOneLength_20 rfl ?_
  refine z_callV (c_Term_lengthWith s4 ta4 _ m i (tIdx_lt _) hi4 b2 b1) kV_X1_51 dX1_isOneLength_21 (tIdx_lt _) (sh_11 _ _ _) rfl rfl rfl (by omega) (Nat.le_of_ble_eq_true rfl) (Nat.le_refl _) (Nat.le_refl _) rfl (fun v s5 ta5 h => ?_)
  obtain ⟨rfl, rfl, rfl⟩ := h
  dsimp only [Option.toList, List.cons_append, List.nil_append]
  rw [tlen_spl (row := s5 6 i) n a3, tlen_spl (row := s5 6 i) m b3]
  refine q_icmp_ne 31 dX1_isOneLength_24 (by decide) (fun h => ?_) (fun h => ?_)
  · refine q_iconst (v := 0) dX1_isOneLength_31 rfl ?_
    exact z_zret dX1_isOneLength_32 rfl (Or.inl rfl) ⟨by rw [bC_f (fun q => h (by rw [q]))], rfl, rfl⟩
  · refine q_iconst (v := 1) dX1_isOneLength_27 rfl ?_
    refine q_goto 32 dX1_isOneLength_28 (by decide) ?_
    exact z_zret dX1_isOneLength_32 rfl (Or.inr rfl) ⟨by rw [bC_t ((nI_eq (by omega) (by omega)).mp h)], rfl, rfl⟩
set_option maxRecDepth 100000 in
set_option maxHeartbeats 4000000 in
theorem c_Judge_isLonger (sg : zI) (ta : zJ) (f i : Nat) (hf : f < cnt 17) (hi : i < cnt 3) (ha : TOk sg i (sg 17 f 3)) (hb : TOk sg i (sg 17 f 4)) : zP yX1_isLonger mX1_isLonger 1 [.ref (nm 10 0), .ref (nm 17 f), .ref (nm 4 i)] sg ta (pI (bC ((sg 17 f 5).toInt ≤ ((spC sg i (sg 17 f 3)).length : Int) - (spC sg i (sg 17 f 4)).length)) sg ta) := by
  have hi4 := cnt4 hi
  have la := TOk_len ha
  have lb := TOk_len hb
  obtain ⟨n, a1, a2, a3⟩ := ha
  obtain ⟨m, b1, b2, b3⟩ := hb
  unfold spC at la lb ⊢
  rw [a2, nI_clamp (by omega)] at la ⊢
  rw [b2, nI_clamp (by omega)] at lb ⊢
  refine zP_of (lv := [some (.ref (nm 10 0)), some (.ref (nm 17 f)), some (.ref (nm 4 i)), none]) (by decide +kernel) rfl (fun h => by cases h) rfl (Nat.le_of_ble_eq_true rfl) ?_
  refine q_aload_n dX1_isLonger_0 rfl ?_
  refine q_aload_n dX1_isLonger_1 rfl ?_
  refine z_get 3 dX1_isLonger_2 (by first | assumption | decide) (sh_17 _ _ _) rfl (by decide) fl_X1_42 rfl ?_
  refine z_callV (c_Judge_termAt sg ta _) kV_X1_47 dX1_isLonger_5 (by first | assumption | decide) (sh_10 _ _ _) rfl rfl rfl (by omega) (Nat.le_of_ble_eq_true rfl) (Nat.le_refl _) (Nat.le_refl _) rfl (fun v s2 ta2 h => ?_)
  obtain ⟨rfl, rfl, rfl⟩ := h
  dsimp only [Option.toList, List.cons_append, List.nil_append]
  refine q_aload_n dX1_isLonger_8 rfl ?_
  refine z_callV (c_Term_lengthWith s2 ta2 _ n i (tIdx_lt _) hi4 a2 a1) kV_X1_51 dX1_isLonger_9 (tIdx_lt _) (sh_11 _ _ _) rfl rfl rfl (by omega) (Nat.le_of_ble_eq_true rfl) (Nat.le_refl _) (Nat.le_refl _) rfl (fun v s3 ta3 h => ?_)
  obtain ⟨rfl, rfl, rfl⟩ := h
  dsimp only [Option.toList, List.cons_append, List.nil_append]
  refine q_aload_n dX1_isLonger_12 rfl ?_
  refine q_aload_n dX1_isLonger_13 rfl ?_
  refine z_get 4 dX1_isLonger_14 (by first | assumption | decide) (sh_17 _ _ _) rfl (by decide) fl_X1_55 rfl ?_
  refine z_callV (c_Judge_termAt s3 ta3 _) kV_X1_47 dX1_isLonger_17 (by first | assumption | decide) (sh_10 _ _ _) rfl rfl rfl (by omega) (Nat.le_of_ble_eq_true rfl) (Nat.le_refl _) (Nat.le_refl _) rfl (fun v s4 ta4 h => ?_)
  obtain ⟨rfl, rfl, rfl⟩ := h
  dsimp only [Option.toList, List.cons_append, List.nil_append]
  refine q_aload_n dX1_isLonger_20 rfl ?_
  refine z_callV (c_Term_lengthWith s4 ta4 _ m i (tIdx_lt _) hi4 b2 b1) kV_X1_51 dX1_isLonger_21 (tIdx_lt _) (sh_11 _ _ _) rfl rfl rfl (by omega) (Nat.le_of_ble_eq_true rfl) (Nat.le_refl _) (Nat.le_refl _) rfl (fun v s5 ta5 h => ?_)
  obtain ⟨rfl, rfl, rfl⟩ := h
  dsimp only [Option.toList, List.cons_append, List.nil_append]
  rw [tlen_spl (row := s5 6 i) n a3, tlen_spl (row := s5 6 i) m b3]
  refine q_isub dX1_isLonger_24 ?_
  refine s_istore_n 3 dX1_isLonger_25 rfl (Nat.le_of_ble_eq_true rfl) rfl ?_
  dsimp only [List.set]
  refine q_iload_n dX1_isLonger_26 rfl ?_
  refine q_aload_n dX1_isLonger_27 rfl ?_
  refine z_get 5 dX1_isLonger_28 (by first | assumption | decide) (sh_17 _ _ _) rfl (by decide) fl_X1_57 rfl ?_
  have e := pk_sub_toInt (a := (spl (s5 12 (tIdx (s5 17 f 3))) (s5 4 i) (s5 5 i) (s5 6 i) n).length) (b := (spl (s5 12 (tIdx (s5 17 f 4))) (s5 4 i) (s5 5 i) (s5 6 i) m).length) (by omega) (by omega)
  refine q_icmp_lt 38 dX1_isLonger_31 (by decide) (fun h => ?_) (fun h => ?_)
  · rw [Int32.lt_iff_toInt_lt, e] at h
    refine q_iconst (v := 0) dX1_isLonger_38 rfl ?_
    exact z_zret dX1_isLonger_39 rfl (Or.inl rfl) ⟨by rw [bC_f (by omega)], rfl, rfl⟩
  · rw [Int32.lt_iff_toInt_lt, e] at h
    refine q_iconst (v := 1) dX1_isLonger_34 rfl ?_
    refine q_goto 39 dX1_isLonger_35 (by decide) ?_
    exact z_zret dX1_isLonger_39 rfl (Or.inr rfl) ⟨by rw [bC_t (by omega)], rfl, rfl⟩
