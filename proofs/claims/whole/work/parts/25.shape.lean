/-! THE SHAPE OF THE HEAP behind the constructors: a kind K, an index i; the numbers in it are sg K i slot (32 bits), ta K i slot (64 bits) -/
abbrev zI : Type := Nat → Nat → Nat → Int32
abbrev zJ : Type := Nat → Nat → Nat → Int64
def zIds : List (Nat × Nat) := [(0, 0), (1, 0), (2, 0), (3, 0), (4, 0), (5, 0), (6, 0), (3, 1), (4, 1), (5, 1), (6, 1), (7, 0), (8, 0), (9, 0), (10, 0), (11, 12), (12, 12), (13, 0), (14, 0), (13, 1), (14, 1), (13, 2), (14, 2), (13, 3), (14, 3), (11, 0), (12, 0), (11, 1), (12, 1), (11, 2), (12, 2), (11, 3), (12, 3), (11, 4), (12, 4), (11, 5), (12, 5), (11, 6), (12, 6), (11, 7), (12, 7), (11, 8), (12, 8), (11, 9), (12, 9), (11, 10), (12, 10), (11, 11), (12, 11), (15, 0), (16, 0), (15, 1), (16, 1), (15, 2), (16, 2), (17, 0), (18, 0), (19, 0), (17, 1), (18, 1), (19, 1), (17, 2), (18, 2), (19, 2), (17, 3), (18, 3), (19, 3), (17, 4), (18, 4), (19, 4), (17, 5), (18, 5), (19, 5), (17, 6), (18, 6), (19, 6), (17, 7), (18, 7), (19, 7), (17, 8), (18, 8), (19, 8), (17, 9), (18, 9), (19, 9), (20, 0), (21, 0), (22, 0), (23, 0), (24, 0), (25, 0), (26, 0), (27, 0), (28, 0), (29, 0), (30, 0), (31, 0), (32, 0), (33, 0), (34, 0), (35, 0), (36, 0), (37, 0), (38, 0), (39, 0), (40, 0), (41, 0), (42, 0), (43, 0)]
def zdec (k : Nat) : Nat × Nat := zIds.getD (k - 1) (99, 0)
def cnt (K : Nat) : Nat := ([1, 1, 1, 2, 2, 2, 2, 1, 1, 1, 1, 13, 13, 4, 4, 3, 3, 10, 10, 10, 1, 1, 1, 1, 1, 1, 1, 1, 1, 1, 1, 1, 1, 1, 1, 1, 1, 1, 1, 1, 1, 1, 1, 1] : List Nat).getD K 0
def nm (K i : Nat) : Nat := match K with
  | 0 => 1
  | 1 => 2
  | 2 => 3
  | 3 => 4 + 4 * i
  | 4 => 5 + 4 * i
  | 5 => 6 + 4 * i
  | 6 => 7 + 4 * i
  | 7 => 12
  | 8 => 13
  | 9 => 14
  | 10 => 15
  | 11 => if i = 12 then 16 else 26 + 2 * i
  | 12 => if i = 12 then 17 else 27 + 2 * i
  | 13 => 18 + 2 * i
  | 14 => 19 + 2 * i
  | 15 => 50 + 2 * i
  | 16 => 51 + 2 * i
  | 17 => 56 + 3 * i
  | 18 => 57 + 3 * i
  | 19 => 58 + 3 * i
  | K => 66 + K
def shp (K i : Nat) (r : Nat → Int32) (q : Nat → Int64) : zE := match K with
  | 0 => .inr (7, [.ref (nm 1 0), .ref (nm 3 0), .ref (nm 3 1), .ref (nm 7 0), .ref (nm 8 0), .ref (nm 9 0), .ref (nm 10 0), .int (r 7), .int (r 8), .int (r 9), .int (r 10), .int (r 11), .int (r 12)])
  | 1 => .inr (4, [.ref (nm 2 0), .int (r 1), .int (r 2), .int (r 3)])
  | 2 => .inl (0, 4, .inl r)
  | 3 => .inr (6, [.ref (nm 1 0), .ref (nm 4 i), .ref (nm 5 i), .ref (nm 6 i), .int (r 4), .int (r 5), .int (r 6)])
  | 4 => .inl (0, 4, .inl r)
  | 5 => .inl (0, 4, .inl r)
  | 6 => .inl (0, 20, .inl r)
  | 7 => .inl (3, 12, .inr (.inr (.inr (.inr (fun j => if j < 12 then some (nm 11 j) else none)))))
  | 8 => .inl (4, 3, .inr (.inr (.inr (.inr (fun j => if j < 3 then some (nm 15 j) else none)))))
  | 9 => .inl (5, 10, .inr (.inr (.inr (.inr (fun j => if j < 10 then some (nm 17 j) else none)))))
  | 10 => .inr (1, [.ref (nm 7 0), .ref (nm 8 0), .ref (nm 11 12), .ref (nm 13 0), .ref (nm 13 1), .ref (nm 13 2), .ref (nm 13 3)])
  | 11 => .inr (5, [.ref (nm 12 i), .int (r 1)])
  | 12 => .inl (0, 6, .inl r)
  | 13 => .inr (3, [.ref (nm 14 i), .int (r 1)])
  | 14 => .inl (0, 30, .inl r)
  | 15 => .inr (2, [.ref (nm 16 i), .int (r 1), .int (r 2)])
  | 16 => .inl (0, 18, .inl r)
  | 17 => .inr (0, [.ref (nm 18 i), .ref (nm 19 i), .int (r 2), .int (r 3), .int (r 4), .int (r 5), .int (r 6), .int (r 7), .int (r 8)])
  | 18 => .inl (1, 125, .inr (.inl q))
  | 19 => .inl (1, 125, .inr (.inl q))
  | 20 => .inr (8, [.int (r 0), .int (r 1), .ref (nm 21 0), .int (r 3), .int (r 4), .ref (nm 22 0), .ref (nm 23 0), .int (r 7), .ref (nm 24 0), .ref (nm 25 0), .ref (nm 26 0), .int (r 11), .ref (nm 27 0), .ref (nm 28 0), .ref (nm 29 0), .ref (nm 30 0), .ref (nm 31 0), .ref (nm 32 0), .ref (nm 33 0), .int (r 19), .ref (nm 34 0), .ref (nm 35 0), .int (r 22), .ref (nm 36 0), .ref (nm 37 0), .ref (nm 38 0), .ref (nm 39 0), .ref (nm 40 0), .ref (nm 41 0), .int (r 29), .ref (nm 42 0), .ref (nm 43 0)])
  | 21 => .inl (0, 4, .inl r)
  | 22 => .inl (0, 12, .inl r)
  | 23 => .inl (0, 72, .inl r)
  | 24 => .inl (0, 3, .inl r)
  | 25 => .inl (0, 54, .inl r)
  | 26 => .inl (2, 18, .inl r)
  | 27 => .inl (0, 10, .inl r)
  | 28 => .inl (0, 10, .inl r)
  | 29 => .inl (0, 10, .inl r)
  | 30 => .inl (0, 10, .inl r)
  | 31 => .inl (0, 10, .inl r)
  | 32 => .inl (2, 10, .inl r)
  | 33 => .inl (2, 10, .inl r)
  | 34 => .inl (0, 4, .inl r)
  | 35 => .inl (0, 20, .inl r)
  | 36 => .inl (2, 10, .inl r)
  | 37 => .inl (0, 4, .inl r)
  | 38 => .inl (0, 20, .inl r)
  | 39 => .inl (0, 128, .inl r)
  | 40 => .inl (0, 4, .inl r)
  | 41 => .inl (0, 64, .inl r)
  | 42 => .inl (2, 10, .inl r)
  | 43 => .inl (0, 36, .inl r)
  | _ => .inl (0, 0, .inl (fun _ => 0))
theorem sh_0 (i : Nat) (r : Nat → Int32) (q : Nat → Int64) : shp 0 i r q = .inr (7, [.ref (nm 1 0), .ref (nm 3 0), .ref (nm 3 1), .ref (nm 7 0), .ref (nm 8 0), .ref (nm 9 0), .ref (nm 10 0), .int (r 7), .int (r 8), .int (r 9), .int (r 10), .int (r 11), .int (r 12)]) := rfl
theorem sh_1 (i : Nat) (r : Nat → Int32) (q : Nat → Int64) : shp 1 i r q = .inr (4, [.ref (nm 2 0), .int (r 1), .int (r 2), .int (r 3)]) := rfl
theorem sh_2 (i : Nat) (r : Nat → Int32) (q : Nat → Int64) : shp 2 i r q = .inl (0, 4, .inl r) := rfl
theorem sh_3 (i : Nat) (r : Nat → Int32) (q : Nat → Int64) : shp 3 i r q = .inr (6, [.ref (nm 1 0), .ref (nm 4 i), .ref (nm 5 i), .ref (nm 6 i), .int (r 4), .int (r 5), .int (r 6)]) := rfl
theorem sh_4 (i : Nat) (r : Nat → Int32) (q : Nat → Int64) : shp 4 i r q = .inl (0, 4, .inl r) := rfl
theorem sh_5 (i : Nat) (r : Nat → Int32) (q : Nat → Int64) : shp 5 i r q = .inl (0, 4, .inl r) := rfl
theorem sh_6 (i : Nat) (r : Nat → Int32) (q : Nat → Int64) : shp 6 i r q = .inl (0, 20, .inl r) := rfl
theorem sh_7 (i : Nat) (r : Nat → Int32) (q : Nat → Int64) : shp 7 i r q = .inl (3, 12, .inr (.inr (.inr (.inr (fun j => if j < 12 then some (nm 11 j) else none))))) := rfl
theorem sh_8 (i : Nat) (r : Nat → Int32) (q : Nat → Int64) : shp 8 i r q = .inl (4, 3, .inr (.inr (.inr (.inr (fun j => if j < 3 then some (nm 15 j) else none))))) := rfl
theorem sh_9 (i : Nat) (r : Nat → Int32) (q : Nat → Int64) : shp 9 i r q = .inl (5, 10, .inr (.inr (.inr (.inr (fun j => if j < 10 then some (nm 17 j) else none))))) := rfl
theorem sh_10 (i : Nat) (r : Nat → Int32) (q : Nat → Int64) : shp 10 i r q = .inr (1, [.ref (nm 7 0), .ref (nm 8 0), .ref (nm 11 12), .ref (nm 13 0), .ref (nm 13 1), .ref (nm 13 2), .ref (nm 13 3)]) := rfl
theorem sh_11 (i : Nat) (r : Nat → Int32) (q : Nat → Int64) : shp 11 i r q = .inr (5, [.ref (nm 12 i), .int (r 1)]) := rfl
theorem sh_12 (i : Nat) (r : Nat → Int32) (q : Nat → Int64) : shp 12 i r q = .inl (0, 6, .inl r) := rfl
theorem sh_13 (i : Nat) (r : Nat → Int32) (q : Nat → Int64) : shp 13 i r q = .inr (3, [.ref (nm 14 i), .int (r 1)]) := rfl
theorem sh_14 (i : Nat) (r : Nat → Int32) (q : Nat → Int64) : shp 14 i r q = .inl (0, 30, .inl r) := rfl
theorem sh_15 (i : Nat) (r : Nat → Int32) (q : Nat → Int64) : shp 15 i r q = .inr (2, [.ref (nm 16 i), .int (r 1), .int (r 2)]) := rfl
theorem sh_16 (i : Nat) (r : Nat → Int32) (q : Nat → Int64) : shp 16 i r q = .inl (0, 18, .inl r) := rfl
theorem sh_17 (i : Nat) (r : Nat → Int32) (q : Nat → Int64) : shp 17 i r q = .inr (0, [.ref (nm 18 i), .ref (nm 19 i), .int (r 2), .int (r 3), .int (r 4), .int (r 5), .int (r 6), .int (r 7), .int (r 8)]) := rfl
theorem sh_18 (i : Nat) (r : Nat → Int32) (q : Nat → Int64) : shp 18 i r q = .inl (1, 125, .inr (.inl q)) := rfl
theorem sh_19 (i : Nat) (r : Nat → Int32) (q : Nat → Int64) : shp 19 i r q = .inl (1, 125, .inr (.inl q)) := rfl
theorem sh_20 (i : Nat) (r : Nat → Int32) (q : Nat → Int64) : shp 20 i r q = .inr (8, [.int (r 0), .int (r 1), .ref (nm 21 0), .int (r 3), .int (r 4), .ref (nm 22 0), .ref (nm 23 0), .int (r 7), .ref (nm 24 0), .ref (nm 25 0), .ref (nm 26 0), .int (r 11), .ref (nm 27 0), .ref (nm 28 0), .ref (nm 29 0), .ref (nm 30 0), .ref (nm 31 0), .ref (nm 32 0), .ref (nm 33 0), .int (r 19), .ref (nm 34 0), .ref (nm 35 0), .int (r 22), .ref (nm 36 0), .ref (nm 37 0), .ref (nm 38 0), .ref (nm 39 0), .ref (nm 40 0), .ref (nm 41 0), .int (r 29), .ref (nm 42 0), .ref (nm 43 0)]) := rfl
theorem sh_21 (i : Nat) (r : Nat → Int32) (q : Nat → Int64) : shp 21 i r q = .inl (0, 4, .inl r) := rfl
theorem sh_22 (i : Nat) (r : Nat → Int32) (q : Nat → Int64) : shp 22 i r q = .inl (0, 12, .inl r) := rfl
theorem sh_23 (i : Nat) (r : Nat → Int32) (q : Nat → Int64) : shp 23 i r q = .inl (0, 72, .inl r) := rfl
theorem sh_24 (i : Nat) (r : Nat → Int32) (q : Nat → Int64) : shp 24 i r q = .inl (0, 3, .inl r) := rfl
theorem sh_25 (i : Nat) (r : Nat → Int32) (q : Nat → Int64) : shp 25 i r q = .inl (0, 54, .inl r) := rfl
theorem sh_26 (i : Nat) (r : Nat → Int32) (q : Nat → Int64) : shp 26 i r q = .inl (2, 18, .inl r) := rfl
theorem sh_27 (i : Nat) (r : Nat → Int32) (q : Nat → Int64) : shp 27 i r q = .inl (0, 10, .inl r) := rfl
theorem sh_28 (i : Nat) (r : Nat → Int32) (q : Nat → Int64) : shp 28 i r q = .inl (0, 10, .inl r) := rfl
theorem sh_29 (i : Nat) (r : Nat → Int32) (q : Nat → Int64) : shp 29 i r q = .inl (0, 10, .inl r) := rfl
theorem sh_30 (i : Nat) (r : Nat → Int32) (q : Nat → Int64) : shp 30 i r q = .inl (0, 10, .inl r) := rfl
theorem sh_31 (i : Nat) (r : Nat → Int32) (q : Nat → Int64) : shp 31 i r q = .inl (0, 10, .inl r) := rfl
theorem sh_32 (i : Nat) (r : Nat → Int32) (q : Nat → Int64) : shp 32 i r q = .inl (2, 10, .inl r) := rfl
theorem sh_33 (i : Nat) (r : Nat → Int32) (q : Nat → Int64) : shp 33 i r q = .inl (2, 10, .inl r) := rfl
theorem sh_34 (i : Nat) (r : Nat → Int32) (q : Nat → Int64) : shp 34 i r q = .inl (0, 4, .inl r) := rfl
theorem sh_35 (i : Nat) (r : Nat → Int32) (q : Nat → Int64) : shp 35 i r q = .inl (0, 20, .inl r) := rfl
theorem sh_36 (i : Nat) (r : Nat → Int32) (q : Nat → Int64) : shp 36 i r q = .inl (2, 10, .inl r) := rfl
theorem sh_37 (i : Nat) (r : Nat → Int32) (q : Nat → Int64) : shp 37 i r q = .inl (0, 4, .inl r) := rfl
theorem sh_38 (i : Nat) (r : Nat → Int32) (q : Nat → Int64) : shp 38 i r q = .inl (0, 20, .inl r) := rfl
theorem sh_39 (i : Nat) (r : Nat → Int32) (q : Nat → Int64) : shp 39 i r q = .inl (0, 128, .inl r) := rfl
theorem sh_40 (i : Nat) (r : Nat → Int32) (q : Nat → Int64) : shp 40 i r q = .inl (0, 4, .inl r) := rfl
theorem sh_41 (i : Nat) (r : Nat → Int32) (q : Nat → Int64) : shp 41 i r q = .inl (0, 64, .inl r) := rfl
theorem sh_42 (i : Nat) (r : Nat → Int32) (q : Nat → Int64) : shp 42 i r q = .inl (2, 10, .inl r) := rfl
theorem sh_43 (i : Nat) (r : Nat → Int32) (q : Nat → Int64) : shp 43 i r q = .inl (0, 36, .inl r) := rfl
def mk (sg : zI) (ta : zJ) (k : Nat) : zE := shp (zdec k).1 (zdec k).2 (sg (zdec k).1 (zdec k).2) (ta (zdec k).1 (zdec k).2)
theorem zdec_nm0 : ∀ K, K < 44 → ∀ i, i < cnt K → zdec (nm K i) = (K, i) ∧ 1 ≤ nm K i ∧ nm K i ≤ 109 := by decide +kernel
theorem cnt_lt {K i : Nat} (h : i < cnt K) : K < 44 := by
  by_cases hK : K < 44
  · exact hK
  · exfalso
    unfold cnt at h
    rw [List.getD_eq_getElem?_getD, List.getElem?_eq_none (by simp; omega)] at h
    simp at h
theorem zdec_nm {K i : Nat} (h : i < cnt K) : zdec (nm K i) = (K, i) := (zdec_nm0 K (cnt_lt h) i h).1
theorem nm_in {K i : Nat} (h : i < cnt K) : 1 ≤ nm K i ∧ nm K i ≤ 109 := (zdec_nm0 K (cnt_lt h) i h).2
theorem zdec_inj0 : ∀ k, k < 110 → 1 ≤ k → nm (zdec k).1 (zdec k).2 = k := by decide +kernel
theorem mk_nm {sg : zI} {ta : zJ} {K i : Nat} (h : i < cnt K) : mk sg ta (nm K i) = shp K i (sg K i) (ta K i) := by
  unfold mk
  rw [zdec_nm h]
def up3 (sg : zI) (K i j : Nat) (x : Int32) : zI := fun K' i' => if K' = K ∧ i' = i then upd (sg K i) j x else sg K' i'
def up3l (ta : zJ) (K i j : Nat) (x : Int64) : zJ := fun K' i' => if K' = K ∧ i' = i then vp_updL (ta K i) j x else ta K' i'
theorem up3_row (sg : zI) (K i j : Nat) (x : Int32) : up3 sg K i j x K i = upd (sg K i) j x := by simp [up3]
theorem up3l_row (ta : zJ) (K i j : Nat) (x : Int64) : up3l ta K i j x K i = vp_updL (ta K i) j x := by simp [up3l]
theorem up3_off {sg : zI} {K i j : Nat} {x : Int32} {K' i' : Nat} (h : ¬ (K' = K ∧ i' = i)) : up3 sg K i j x K' i' = sg K' i' := by simp [up3, h]
theorem up3l_off {ta : zJ} {K i j : Nat} {x : Int64} {K' i' : Nat} (h : ¬ (K' = K ∧ i' = i)) : up3l ta K i j x K' i' = ta K' i' := by simp [up3l, h]
theorem up3_get (sg : zI) (K i j : Nat) (x : Int32) (K' i' j' : Nat) : up3 sg K i j x K' i' j' = if K' = K ∧ i' = i ∧ j' = j then x else sg K' i' j' := by
  by_cases h : K' = K ∧ i' = i
  · obtain ⟨rfl, rfl⟩ := h
    by_cases hj : j' = j
    · subst hj; simp [up3, upd]
    · simp [up3, upd, hj]
  · have h2 : ¬ (K' = K ∧ i' = i ∧ j' = j) := fun q => h ⟨q.1, q.2.1⟩
    simp [up3, h, h2]
theorem up3l_get (ta : zJ) (K i j : Nat) (x : Int64) (K' i' j' : Nat) : up3l ta K i j x K' i' j' = if K' = K ∧ i' = i ∧ j' = j then x else ta K' i' j' := by
  by_cases h : K' = K ∧ i' = i
  · obtain ⟨rfl, rfl⟩ := h
    by_cases hj : j' = j
    · subst hj; simp [up3l, vp_updL]
    · simp [up3l, vp_updL, hj]
  · have h2 : ¬ (K' = K ∧ i' = i ∧ j' = j) := fun q => h ⟨q.1, q.2.1⟩
    simp [up3l, h, h2]
/-- another heap function that is the shape within the numbers -/
def zSame (g g' : Nat → zE) : Prop := ∀ k, k < 109 → g (k + 1) = g' (k + 1)
theorem mk_up {sg sg' : zI} {ta ta' : zJ} {K i : Nat} {e : zE} (h : i < cnt K) (he : shp K i (sg' K i) (ta' K i) = e) (h1 : ∀ K' i', ¬ (K' = K ∧ i' = i) → sg' K' i' = sg K' i') (h2 : ∀ K' i', ¬ (K' = K ∧ i' = i) → ta' K' i' = ta K' i') : zSame (va_up (mk sg ta) (nm K i) e) (mk sg' ta') := by
  intro k hk
  by_cases hkn : k + 1 = nm K i
  · rw [hkn, mk_nm h, he]
    simp [va_up]
  · have hd : ¬ ((zdec (k + 1)).1 = K ∧ (zdec (k + 1)).2 = i) := fun q => hkn (by
      have := zdec_inj0 (k + 1) (by omega) (by omega)
      rw [q.1, q.2] at this
      exact this.symm)
    show (if k + 1 = nm K i then e else mk sg ta (k + 1)) = _
    rw [if_neg hkn]
    unfold mk
    rw [h1 _ _ hd, h2 _ _ hd]
theorem z_get {M : zM} {d : Nat} {sc : zS} {mc ms : Nat} {Q : zQ} {cells slots : Nat} {sg : zI} {ta : zJ} {pc : Nat} {lv : List (Option Value)} {st : List Value} {K i : Nat} {idx ci : Nat} {fs : List Value} {CC : String} {T : u_T} {n : Nat} {v : Value} (j : Nat) (hd : decode (zcc M) pc = .ok (.getfield idx, 3)) (hi : i < cnt K) (he : shp K i (sg K i) (ta K i) = .inr (ci, fs)) (hc : vwCl[ci]? = some (CC, T, n)) (hj : j < n) (hl : Cond.fieldLink (zown M) idx (T j).1 (T j).2.1 (T j).2.2.1 ∈ TB) (hv : fs[j]? = some v) (kk : Wq M d sc mc ms Q cells slots 109 (mk sg ta) (pc + 3) lv (v :: st)) : Wq M d sc mc ms Q cells slots 109 (mk sg ta) pc lv (.ref (nm K i) :: st) :=
  q_get j hd ((mk_nm hi).trans he) (nm_in hi).1 (nm_in hi).2 hc hj hl hv kk
theorem z_puti {M : zM} {d : Nat} {sc : zS} {mc ms : Nat} {Q : zQ} {cells slots : Nat} {sg : zI} {ta : zJ} {pc : Nat} {lv : List (Option Value)} {st : List Value} {K i : Nat} {idx ci : Nat} {fs : List Value} {CC : String} {T : u_T} {n : Nat} {x : Int32} (j : Nat) (hd : decode (zcc M) pc = .ok (.putfield idx, 3)) (hi : i < cnt K) (he : shp K i (sg K i) (ta K i) = .inr (ci, fs)) (hc : vwCl[ci]? = some (CC, T, n)) (hj : j < n) (hl : Cond.fieldLink (zown M) idx (T j).1 (T j).2.1 (T j).2.2.1 ∈ TB) (hfin : (T j).2.2.2 = false) (hty : parseFieldDescriptor (T j).2.2.1 = some .int) (hlen : j < fs.length) (he2 : shp K i (upd (sg K i) j x) (ta K i) = .inr (ci, fs.set j (.int x))) (kk : Wq M d sc mc ms Q cells slots 109 (mk (up3 sg K i j x) ta) (pc + 3) lv st) : Wq M d sc mc ms Q cells slots 109 (mk sg ta) pc lv (.int x :: .ref (nm K i) :: st) :=
  q_puti j hd ((mk_nm hi).trans he) (nm_in hi).1 (nm_in hi).2 hc hj hl hfin hty hlen (q_congr (mk_up hi (by rw [up3_row]; exact he2) (fun K' i' h => up3_off h) (fun _ _ _ => rfl)) kk)
theorem z_putz {M : zM} {d : Nat} {sc : zS} {mc ms : Nat} {Q : zQ} {cells slots : Nat} {sg : zI} {ta : zJ} {pc : Nat} {lv : List (Option Value)} {st : List Value} {K i : Nat} {idx ci : Nat} {fs : List Value} {CC : String} {T : u_T} {n : Nat} {x : Int32} (j : Nat) (hd : decode (zcc M) pc = .ok (.putfield idx, 3)) (hi : i < cnt K) (he : shp K i (sg K i) (ta K i) = .inr (ci, fs)) (hc : vwCl[ci]? = some (CC, T, n)) (hj : j < n) (hl : Cond.fieldLink (zown M) idx (T j).1 (T j).2.1 (T j).2.2.1 ∈ TB) (hfin : (T j).2.2.2 = false) (hty : parseFieldDescriptor (T j).2.2.1 = some .boolean) (hlen : j < fs.length) (h01 : x = 0 ∨ x = 1) (he2 : shp K i (upd (sg K i) j x) (ta K i) = .inr (ci, fs.set j (.int x))) (kk : Wq M d sc mc ms Q cells slots 109 (mk (up3 sg K i j x) ta) (pc + 3) lv st) : Wq M d sc mc ms Q cells slots 109 (mk sg ta) pc lv (.int x :: .ref (nm K i) :: st) :=
  q_putz j hd ((mk_nm hi).trans he) (nm_in hi).1 (nm_in hi).2 hc hj hl hfin hty hlen h01 (q_congr (mk_up hi (by rw [up3_row]; exact he2) (fun K' i' h => up3_off h) (fun _ _ _ => rfl)) kk)
theorem z_iald {M : zM} {d : Nat} {sc : zS} {mc ms : Nat} {Q : zQ} {cells slots : Nat} {sg : zI} {ta : zJ} {pc : Nat} {lv : List (Option Value)} {st : List Value} {K i : Nat} {n : Nat} {x : Int32} (hd : decode (zcc M) pc = .ok (.iaload, 1)) (hi : i < cnt K) (he : shp K i (sg K i) (ta K i) = .inl (0, n, .inl (sg K i))) (hin : vp_in x n) (kk : Wq M d sc mc ms Q cells slots 109 (mk sg ta) (pc + 1) lv (.int (sg K i x.toNatClampNeg) :: st)) : Wq M d sc mc ms Q cells slots 109 (mk sg ta) pc lv (.int x :: .ref (nm K i) :: st) :=
  q_iald hd ((mk_nm hi).trans he) (nm_in hi).1 (nm_in hi).2 hin kk
theorem z_zald {M : zM} {d : Nat} {sc : zS} {mc ms : Nat} {Q : zQ} {cells slots : Nat} {sg : zI} {ta : zJ} {pc : Nat} {lv : List (Option Value)} {st : List Value} {K i : Nat} {n : Nat} {x : Int32} (hd : decode (zcc M) pc = .ok (.baload, 1)) (hi : i < cnt K) (he : shp K i (sg K i) (ta K i) = .inl (2, n, .inl (sg K i))) (hin : vp_in x n) (kk : Wq M d sc mc ms Q cells slots 109 (mk sg ta) (pc + 1) lv (.int (sg K i x.toNatClampNeg) :: st)) : Wq M d sc mc ms Q cells slots 109 (mk sg ta) pc lv (.int x :: .ref (nm K i) :: st) :=
  q_zald hd ((mk_nm hi).trans he) (nm_in hi).1 (nm_in hi).2 hin kk
theorem z_lald {M : zM} {d : Nat} {sc : zS} {mc ms : Nat} {Q : zQ} {cells slots : Nat} {sg : zI} {ta : zJ} {pc : Nat} {lv : List (Option Value)} {st : List Value} {K i : Nat} {n : Nat} {x : Int32} (hd : decode (zcc M) pc = .ok (.laload, 1)) (hi : i < cnt K) (he : shp K i (sg K i) (ta K i) = .inl (1, n, .inr (.inl (ta K i)))) (hin : vp_in x n) (kk : Wq M d sc mc ms Q cells slots 109 (mk sg ta) (pc + 1) lv (.long (ta K i x.toNatClampNeg) :: st)) : Wq M d sc mc ms Q cells slots 109 (mk sg ta) pc lv (.int x :: .ref (nm K i) :: st) :=
  q_lald hd ((mk_nm hi).trans he) (nm_in hi).1 (nm_in hi).2 hin kk
theorem z_aald {M : zM} {d : Nat} {sc : zS} {mc ms : Nat} {Q : zQ} {cells slots : Nat} {sg : zI} {ta : zJ} {pc : Nat} {lv : List (Option Value)} {st : List Value} {K i : Nat} {n t : Nat} {C0 : String} {f : Nat → Option Nat} {x : Int32} {kv : Nat} (hd : decode (zcc M) pc = .ok (.aaload, 1)) (hi : i < cnt K) (he : shp K i (sg K i) (ta K i) = .inl (t, n, .inr (.inr (.inr (.inr f))))) (ht : ∀ cA : Nat → ClassId, (zTys cA)[t]? = some (cA t, .object C0)) (hin : vp_in x n) (hf : f x.toNatClampNeg = some kv) (kk : Wq M d sc mc ms Q cells slots 109 (mk sg ta) (pc + 1) lv (.ref kv :: st)) : Wq M d sc mc ms Q cells slots 109 (mk sg ta) pc lv (.int x :: .ref (nm K i) :: st) :=
  q_aald hd ((mk_nm hi).trans he) (nm_in hi).1 (nm_in hi).2 ht hin hf kk
theorem z_alen {M : zM} {d : Nat} {sc : zS} {mc ms : Nat} {Q : zQ} {cells slots : Nat} {sg : zI} {ta : zJ} {pc : Nat} {lv : List (Option Value)} {st : List Value} {K i : Nat} {t : Nat} {a : vp_A} {ty : FieldType} {v : Int32} (hd : decode (zcc M) pc = .ok (.arraylength, 1)) (hi : i < cnt K) (he : shp K i (sg K i) (ta K i) = .inl (t, a)) (ht : ∀ cA : Nat → ClassId, (zTys cA)[t]? = some (cA t, ty)) (hv : Int32.ofNat a.1 = v) (kk : Wq M d sc mc ms Q cells slots 109 (mk sg ta) (pc + 1) lv (.int v :: st)) : Wq M d sc mc ms Q cells slots 109 (mk sg ta) pc lv (.ref (nm K i) :: st) :=
  q_alen hd ((mk_nm hi).trans he) (nm_in hi).1 (nm_in hi).2 ht hv kk
theorem z_iast {M : zM} {d : Nat} {sc : zS} {mc ms : Nat} {Q : zQ} {cells slots : Nat} {sg : zI} {ta : zJ} {pc : Nat} {lv : List (Option Value)} {st : List Value} {K i : Nat} {n : Nat} {x y : Int32} (hd : decode (zcc M) pc = .ok (.iastore, 1)) (hi : i < cnt K) (he : ∀ r q, shp K i r q = .inl (0, n, .inl r)) (hin : vp_in x n) (kk : Wq M d sc mc ms Q cells slots 109 (mk (up3 sg K i x.toNatClampNeg y) ta) (pc + 1) lv st) : Wq M d sc mc ms Q cells slots 109 (mk sg ta) pc lv (.int y :: .int x :: .ref (nm K i) :: st) :=
  q_iast hd ((mk_nm hi).trans (he _ _)) (nm_in hi).1 (nm_in hi).2 hin (q_congr (mk_up hi (by rw [up3_row]; exact he _ _) (fun K' i' h => up3_off h) (fun _ _ _ => rfl)) kk)
theorem z_zast {M : zM} {d : Nat} {sc : zS} {mc ms : Nat} {Q : zQ} {cells slots : Nat} {sg : zI} {ta : zJ} {pc : Nat} {lv : List (Option Value)} {st : List Value} {K i : Nat} {n : Nat} {x y : Int32} (hd : decode (zcc M) pc = .ok (.bastore, 1)) (hi : i < cnt K) (he : ∀ r q, shp K i r q = .inl (2, n, .inl r)) (hin : vp_in x n) (h01 : y = 0 ∨ y = 1) (kk : Wq M d sc mc ms Q cells slots 109 (mk (up3 sg K i x.toNatClampNeg y) ta) (pc + 1) lv st) : Wq M d sc mc ms Q cells slots 109 (mk sg ta) pc lv (.int y :: .int x :: .ref (nm K i) :: st) :=
  q_zast hd ((mk_nm hi).trans (he _ _)) (nm_in hi).1 (nm_in hi).2 hin h01 (q_congr (mk_up hi (by rw [up3_row]; exact he _ _) (fun K' i' h => up3_off h) (fun _ _ _ => rfl)) kk)
theorem z_last {M : zM} {d : Nat} {sc : zS} {mc ms : Nat} {Q : zQ} {cells slots : Nat} {sg : zI} {ta : zJ} {pc : Nat} {lv : List (Option Value)} {st : List Value} {K i : Nat} {n : Nat} {x : Int32} {y : Int64} (hd : decode (zcc M) pc = .ok (.lastore, 1)) (hi : i < cnt K) (he : ∀ r q, shp K i r q = .inl (1, n, .inr (.inl q))) (hin : vp_in x n) (kk : Wq M d sc mc ms Q cells slots 109 (mk sg (up3l ta K i x.toNatClampNeg y)) (pc + 1) lv st) : Wq M d sc mc ms Q cells slots 109 (mk sg ta) pc lv (.long y :: .int x :: .ref (nm K i) :: st) :=
  q_last hd ((mk_nm hi).trans (he _ _)) (nm_in hi).1 (nm_in hi).2 hin (q_congr (mk_up hi (by rw [up3l_row]; exact he _ _) (fun _ _ _ => rfl) (fun K' i' h => up3l_off h)) kk)
/-! contracts over the shape -/
abbrev zPost : Type := Option Value → zI → zJ → Prop
def zQ2 (P : zPost) : zQ := fun v N g => N = 109 ∧ ∃ (sg : zI) (ta : zJ), g = mk sg ta ∧ P v sg ta
def zP (y : MethodName) (M : zM) (d : Nat) (args : List Value) (sg : zI) (ta : zJ) (P : zPost) : Prop := zC y M d 0 0 args 109 (mk sg ta) (zQ2 P)
abbrev Zq (M : zM) (d : Nat) (P : zPost) (sg : zI) (ta : zJ) (pc : Nat) (lv : List (Option Value)) (st : List Value) : Prop := Wq M d none 0 0 (zQ2 P) 0 0 109 (mk sg ta) pc lv st
theorem zP_of {y : MethodName} {M : zM} {d : Nat} {args : List Value} {sg : zI} {ta : zJ} {P : zPost} {lv : List (Option Value)} (hy : plainName y.cls = true) (ho : zown M = y.cls) (hi : zini M = true → y.name = "<init>") (hlv : zent (znl M) args = lv) (hlen : (zargs args).length ≤ znl M) (h : Zq M d P sg ta 0 lv []) : zP y M d args sg ta P := zC_of hy ho hi hlv hlen h
theorem z_iret {M : zM} {d : Nat} {P : zPost} {sg : zI} {ta : zJ} {pc : Nat} {lv : List (Option Value)} {x : Int32} (hd : decode (zcc M) pc = .ok (.ireturn, 1)) (hr : zret M = some .int) (hp : P (some (.int x)) sg ta) : Zq M d P sg ta pc lv [.int x] := q_ret (v := some (.int x)) ⟨rfl, sg, ta, rfl, hp⟩ ⟨hd, Or.inl hr⟩ (Nat.le_refl _) (Nat.le_refl _)
theorem z_zret {M : zM} {d : Nat} {P : zPost} {sg : zI} {ta : zJ} {pc : Nat} {lv : List (Option Value)} {x : Int32} (hd : decode (zcc M) pc = .ok (.ireturn, 1)) (hr : zret M = some .boolean) (h01 : x = 0 ∨ x = 1) (hp : P (some (.int x)) sg ta) : Zq M d P sg ta pc lv [.int x] := q_ret (v := some (.int x)) ⟨rfl, sg, ta, rfl, hp⟩ ⟨hd, Or.inr ⟨hr, h01⟩⟩ (Nat.le_refl _) (Nat.le_refl _)
theorem z_lret {M : zM} {d : Nat} {P : zPost} {sg : zI} {ta : zJ} {pc : Nat} {lv : List (Option Value)} {x : Int64} (hd : decode (zcc M) pc = .ok (.lreturn, 1)) (hr : zret M = some .long) (hp : P (some (.long x)) sg ta) : Zq M d P sg ta pc lv [.long x] := q_ret (v := some (.long x)) ⟨rfl, sg, ta, rfl, hp⟩ ⟨hd, hr⟩ (Nat.le_refl _) (Nat.le_refl _)
theorem z_vret {M : zM} {d : Nat} {P : zPost} {sg : zI} {ta : zJ} {pc : Nat} {lv : List (Option Value)} (hd : decode (zcc M) pc = .ok (.return_, 1)) (hr : zret M = none) (hp : P none sg ta) : Zq M d P sg ta pc lv [] := q_ret (v := none) ⟨rfl, sg, ta, rfl, hp⟩ ⟨hd, hr⟩ (Nat.le_refl _) (Nat.le_refl _)
theorem z_aret {M : zM} {d : Nat} {P : zPost} {sg : zI} {ta : zJ} {pc : Nat} {lv : List (Option Value)} {k : Nat} {n : String} (hd : decode (zcc M) pc = .ok (.areturn, 1)) (hr : zret M = some (.object n)) (hp : P (some (.ref k)) sg ta) : Zq M d P sg ta pc lv [.ref k] := q_ret (v := some (.ref k)) ⟨rfl, sg, ta, rfl, hp⟩ ⟨hd, n, hr⟩ (Nat.le_refl _) (Nat.le_refl _)
theorem z_nret {M : zM} {d : Nat} {P : zPost} {sg : zI} {ta : zJ} {pc : Nat} {lv : List (Option Value)} {n : String} (hd : decode (zcc M) pc = .ok (.areturn, 1)) (hr : zret M = some (.object n)) (hp : P (some .null) sg ta) : Zq M d P sg ta pc lv [.null] := q_ret (v := some .null) ⟨rfl, sg, ta, rfl, hp⟩ ⟨hd, n, hr⟩ (Nat.le_refl _) (Nat.le_refl _)
theorem z_callV {M : zM} {d : Nat} {sc : zS} {mc ms : Nat} {Q : zQ} {cells slots : Nat} {sg : zI} {ta : zJ} {pc : Nat} {lv : List (Option Value)} {st : List Value} {st0 : List Value} {idx d1 n1 K i ci n : Nat} {y : MethodName} {M1 : zM} {P1 : zPost} {As fs : List Value} {CC : String} {T : u_T} (hM : zP y M1 d1 (.ref (nm K i) :: As) sg ta P1) (hl : zLV (zown M) idx y M1 n1) (hd : decode (zcc M) pc = .ok (.invokevirtual idx, 3)) (hi : i < cnt K) (he : shp K i (sg K i) (ta K i) = .inr (ci, fs)) (hc : vwCl[ci]? = some (CC, T, n)) (hcy : CC = y.cls) (hn : As.length = n1) (hdd : d1 + 1 ≤ d) (hst : (st.map fun v => v.category).sum ≤ 8) (hcl : cells ≤ mc) (hsl : slots ≤ ms) (hs0 : st0 = As.reverse ++ .ref (nm K i) :: st) (kk : ∀ (v : Option Value) (sg2 : zI) (ta2 : zJ), P1 v sg2 ta2 → Wq M d sc mc ms Q cells slots 109 (mk sg2 ta2) (pc + 3) lv (v.toList ++ st)) : Wq M d sc mc ms Q cells slots 109 (mk sg ta) pc lv st0 :=
  q_callV hM hl hd ((mk_nm hi).trans he) (nm_in hi).1 (nm_in hi).2 hc hcy hn hdd hst hcl hsl hs0 (fun v N2 g2 h => by
    obtain ⟨rfl, sg2, ta2, rfl, hp⟩ := h
    exact kk v sg2 ta2 hp)
theorem z_callS {M : zM} {d : Nat} {sc : zS} {mc ms : Nat} {Q : zQ} {cells slots : Nat} {sg : zI} {ta : zJ} {pc : Nat} {lv : List (Option Value)} {st : List Value} {st0 : List Value} {idx d1 n1 : Nat} {y : MethodName} {M1 : zM} {P1 : zPost} {As : List Value} (hM : zP y M1 d1 As sg ta P1) (hl : zLS (zown M) idx y M1 n1) (hd : decode (zcc M) pc = .ok (.invokestatic idx, 3)) (hn : As.length = n1) (hdd : d1 + 1 ≤ d) (hst : (st.map fun v => v.category).sum ≤ 8) (hcl : cells ≤ mc) (hsl : slots ≤ ms) (hs0 : st0 = As.reverse ++ st) (kk : ∀ (v : Option Value) (sg2 : zI) (ta2 : zJ), P1 v sg2 ta2 → Wq M d sc mc ms Q cells slots 109 (mk sg2 ta2) (pc + 3) lv (v.toList ++ st)) : Wq M d sc mc ms Q cells slots 109 (mk sg ta) pc lv st0 :=
  q_callS hM hl hd hn hdd hst hcl hsl hs0 (fun v N2 g2 h => by
    obtain ⟨rfl, sg2, ta2, rfl, hp⟩ := h
    exact kk v sg2 ta2 hp)
