/-! the loop of the law -/
set_option maxHeartbeats 4000000 in
theorem w_loop {L : Nat} {xs : Nat → Int32} (hL : L ≤ 384) : ∀ (n i : Nat) (sg : zI) (ta : zJ), L - i < n → i ≤ L + 6 → Inv sg ta → WL L xs sg ta 18 i := by
  intro n
  induction n with
  | zero => intro i sg ta h; omega
  | succ n ih =>
    intro i sg ta hn hb hI
    refine q_iload_n dL_law_18 rfl ?_
    refine q_aload_n dL_law_19 rfl ?_
    refine q_slen rfl dL_law_20 ?_
    refine q_bipush (v := 6) dL_law_21 rfl ?_
    refine q_isub dL_law_23 ?_
    have e6 : (Int32.ofNat L - 6 : Int32).toInt = (L : Int) - 6 := pk_sub_toInt (a := L) (b := 6) (by omega) (by omega)
    have ei : (nI i).toInt = (i : Int) := nI_toInt (by omega)
    refine q_icmp_gt 759 dL_law_24 (by decide) (fun h => ?_) (fun h => ?_)
    · refine q_iconst (v := 1) dL_law_759 rfl ?_
      exact q_ret (v := some (.int 1)) rfl ⟨dL_law_760, Or.inr ⟨rfl, Or.inr rfl⟩⟩ (by omega) (by omega)
    · have hi : i + 6 ≤ L := by
        have h2 : ¬ (Int32.ofNat L - 6 : Int32).toInt < (nI i).toInt := fun q => h (Int32.lt_iff_toInt_lt.mpr q)
        rw [e6, ei] at h2; omega
      have kk : ∀ (s : zI) (t : zJ), Inv s t → WL L xs s t 753 i := fun s t hI2 => by
        refine q_iinc dL_law_753 rfl (Nat.le_of_ble_eq_true rfl) rfl ?_
        dsimp only [List.set]
        refine q_goto 18 dL_law_756 (by decide) ?_
        rw [show nI i + Int32.ofInt 6 = nI (i + 6) from nI_add i 6]
        exact ih (i + 6) s t (by omega) (by omega) hI2
      have h0 : vp_in (nI i) L := pk_in i L (by omega)
      refine q_aload_n dL_law_27 rfl ?_
      refine q_iload_n dL_law_28 rfl ?_
      refine q_sld rfl dL_law_29 h0 ?_
      refine q_bipush (v := 31) dL_law_30 rfl ?_
      refine q_iand dL_law_32 ?_
      obtain ⟨j, hj, ej⟩ := pk_andE (xs (nI i).toNatClampNeg) (m := 31) 5 (by decide)
      rw [ej]
      have tj : (nI j).toInt = (j : Int) := nI_toInt (by omega)
      by_cases hj2 : 20 < j
      · exact q_tableOut 753 dL_law_33 (Or.inr (by rw [tj]; omega)) (by decide) (kk _ _ hI)
      · have hj3 : j = 0 ∨ j = 1 ∨ j = 2 ∨ j = 3 ∨ j = 4 ∨ j = 5 ∨ j = 6 ∨ j = 7 ∨ j = 8 ∨ j = 9 ∨ j = 10 ∨ j = 11 ∨ j = 12 ∨ j = 13 ∨ j = 14 ∨ j = 15 ∨ j = 16 ∨ j = 17 ∨ j = 18 ∨ j = 19 ∨ j = 20 := by omega
        rcases hj3 with rfl | rfl | rfl | rfl | rfl | rfl | rfl | rfl | rfl | rfl | rfl | rfl | rfl | rfl | rfl | rfl | rfl | rfl | rfl | rfl | rfl
        · exact q_tableIn 132 dL_law_33 (by decide) (by decide) (off := 99) rfl (by decide) (w_clear hL hi hI kk)
        · exact q_tableIn 155 dL_law_33 (by decide) (by decide) (off := 122) rfl (by decide) (w_text hL hi hI kk)
        · exact q_tableIn 178 dL_law_33 (by decide) (by decide) (off := 145) rfl (by decide) (w_term hL hi hI kk)
        · exact q_tableIn 191 dL_law_33 (by decide) (by decide) (off := 158) rfl (by decide) (w_part hL hi hI kk)
        · exact q_tableIn 224 dL_law_33 (by decide) (by decide) (off := 191) rfl (by decide) (w_machine hL hi hI kk)
        · exact q_tableIn 247 dL_law_33 (by decide) (by decide) (off := 214) rfl (by decide) (w_step hL hi hI kk)
        · exact q_tableIn 300 dL_law_33 (by decide) (by decide) (off := 267) rfl (by decide) (w_good hL hi hI kk)
        · exact q_tableIn 359 dL_law_33 (by decide) (by decide) (off := 326) rfl (by decide) (w_formula hL hi hI kk)
        · exact q_tableIn 422 dL_law_33 (by decide) (by decide) (off := 389) rfl (by decide) (w_deny hL hi hI kk)
        · exact q_tableIn 471 dL_law_33 (by decide) (by decide) (off := 438) rfl (by decide) (w_leave hL hi hI kk)
        · exact q_tableIn 520 dL_law_33 (by decide) (by decide) (off := 487) rfl (by decide) (w_solve hL hi hI kk)
        · exact q_tableIn 533 dL_law_33 (by decide) (by decide) (off := 500) rfl (by decide) (w_model hL hi hI kk)
        · exact q_tableIn 556 dL_law_33 (by decide) (by decide) (off := 523) rfl (by decide) (w_models hL hi hI kk)
        · exact q_tableIn 569 dL_law_33 (by decide) (by decide) (off := 536) rfl (by decide) (w_length hL hi hI kk)
        · exact q_tableIn 592 dL_law_33 (by decide) (by decide) (off := 559) rfl (by decide) (w_letter hL hi hI kk)
        · exact q_tableIn 625 dL_law_33 (by decide) (by decide) (off := 592) rfl (by decide) (w_holdz hL hi hI kk)
        · exact q_tableIn 648 dL_law_33 (by decide) (by decide) (off := 615) rfl (by decide) (w_core hL hi hI kk)
        · exact q_tableIn 661 dL_law_33 (by decide) (by decide) (off := 628) rfl (by decide) (w_inCore hL hi hI kk)
        · exact q_tableIn 684 dL_law_33 (by decide) (by decide) (off := 651) rfl (by decide) (w_spans hL hi hI kk)
        · exact q_tableIn 697 dL_law_33 (by decide) (by decide) (off := 664) rfl (by decide) (w_meet hL hi hI kk)
        · exact q_tableIn 730 dL_law_33 (by decide) (by decide) (off := 697) rfl (by decide) (w_told hL hi hI kk)
