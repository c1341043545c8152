section
-- ===== PART A: goes FIRST, ahead of the names: the tables' words, and 'selects' of the private methods out of them =====
/-- a private method of a class that the tables say can be made, by its rows of tables_1 -/
def lw_okq (q : MethodName × Nat) : Prop := (q.1.cls ≠ "java/lang/invoke/MethodHandle" ∧ q.1.cls ≠ "java/lang/invoke/VarHandle") ∧ Cond.instantiable q.1.cls q.2 ∈ tables_1 ∧ Cond.privateMethod q.1 ∈ tables_1 ∧ Cond.instanceMethod q.1 ∈ tables_1
theorem lw_p0 : lw_okq (⟨"TextSolver", "dropWays", "()V"⟩, 13) := ⟨⟨by decide +kernel, by decide +kernel⟩, List.mem_of_getElem? (i := 15) (by decide +kernel), List.mem_of_getElem? (i := 254) (by decide +kernel), List.mem_of_getElem? (i := 255) (by decide +kernel)⟩
theorem lw_p1 : lw_okq (⟨"TextSolver$Way", "layOut", "()V"⟩, 7) := ⟨⟨by decide +kernel, by decide +kernel⟩, List.mem_of_getElem? (i := 49) (by decide +kernel), List.mem_of_getElem? (i := 265) (by decide +kernel), List.mem_of_getElem? (i := 266) (by decide +kernel)⟩
theorem lw_p2 : lw_okq (⟨"TextSolver", "dropFindings", "()V"⟩, 13) := ⟨⟨by decide +kernel, by decide +kernel⟩, List.mem_of_getElem? (i := 15) (by decide +kernel), List.mem_of_getElem? (i := 276) (by decide +kernel), List.mem_of_getElem? (i := 277) (by decide +kernel)⟩
theorem lw_p3 : lw_okq (⟨"TextSolver$Space", "rowsUpTo", "(I)I"⟩, 4) := ⟨⟨by decide +kernel, by decide +kernel⟩, List.mem_of_getElem? (i := 23) (by decide +kernel), List.mem_of_getElem? (i := 288) (by decide +kernel), List.mem_of_getElem? (i := 289) (by decide +kernel)⟩
theorem lw_p4 : lw_okq (⟨"TextSolver", "isTerm", "(I)Z"⟩, 13) := ⟨⟨by decide +kernel, by decide +kernel⟩, List.mem_of_getElem? (i := 15) (by decide +kernel), List.mem_of_getElem? (i := 308) (by decide +kernel), List.mem_of_getElem? (i := 309) (by decide +kernel)⟩
theorem lw_p5 : lw_okq (⟨"TextSolver", "isMachine", "(I)Z"⟩, 13) := ⟨⟨by decide +kernel, by decide +kernel⟩, List.mem_of_getElem? (i := 15) (by decide +kernel), List.mem_of_getElem? (i := 345) (by decide +kernel), List.mem_of_getElem? (i := 346) (by decide +kernel)⟩
theorem lw_p6 : lw_okq (⟨"TextSolver", "dropFindingsOfMachine", "(I)V"⟩, 13) := ⟨⟨by decide +kernel, by decide +kernel⟩, List.mem_of_getElem? (i := 15) (by decide +kernel), List.mem_of_getElem? (i := 361) (by decide +kernel), List.mem_of_getElem? (i := 362) (by decide +kernel)⟩
theorem lw_p7 : lw_okq (⟨"TextSolver", "areOthersKnown", "(IIII)Z"⟩, 13) := ⟨⟨by decide +kernel, by decide +kernel⟩, List.mem_of_getElem? (i := 15) (by decide +kernel), List.mem_of_getElem? (i := 388) (by decide +kernel), List.mem_of_getElem? (i := 389) (by decide +kernel)⟩
theorem lw_p8 : lw_okq (⟨"TextSolver", "isFormula", "(I)Z"⟩, 13) := ⟨⟨by decide +kernel, by decide +kernel⟩, List.mem_of_getElem? (i := 15) (by decide +kernel), List.mem_of_getElem? (i := 404) (by decide +kernel), List.mem_of_getElem? (i := 405) (by decide +kernel)⟩
theorem lw_p9 : lw_okq (⟨"TextSolver", "takeInHand", "(I)I"⟩, 13) := ⟨⟨by decide +kernel, by decide +kernel⟩, List.mem_of_getElem? (i := 15) (by decide +kernel), List.mem_of_getElem? (i := 416) (by decide +kernel), List.mem_of_getElem? (i := 417) (by decide +kernel)⟩
theorem lw_p10 : lw_okq (⟨"TextSolver", "countingFormulas", "()I"⟩, 13) := ⟨⟨by decide +kernel, by decide +kernel⟩, List.mem_of_getElem? (i := 15) (by decide +kernel), List.mem_of_getElem? (i := 420) (by decide +kernel), List.mem_of_getElem? (i := 421) (by decide +kernel)⟩
theorem lw_p11 : lw_okq (⟨"TextSolver", "modelsIn", "(II)J"⟩, 13) := ⟨⟨by decide +kernel, by decide +kernel⟩, List.mem_of_getElem? (i := 15) (by decide +kernel), List.mem_of_getElem? (i := 424) (by decide +kernel), List.mem_of_getElem? (i := 425) (by decide +kernel)⟩
theorem lw_p12 : lw_okq (⟨"TextSolver", "waysIn", "(I)J"⟩, 13) := ⟨⟨by decide +kernel, by decide +kernel⟩, List.mem_of_getElem? (i := 15) (by decide +kernel), List.mem_of_getElem? (i := 428) (by decide +kernel), List.mem_of_getElem? (i := 429) (by decide +kernel)⟩
theorem lw_p13 : lw_okq (⟨"TextSolver", "isModel", "(II)Z"⟩, 13) := ⟨⟨by decide +kernel, by decide +kernel⟩, List.mem_of_getElem? (i := 15) (by decide +kernel), List.mem_of_getElem? (i := 445) (by decide +kernel), List.mem_of_getElem? (i := 446) (by decide +kernel)⟩
theorem lw_p14 : lw_okq (⟨"TextSolver$Judge", "termAt", "(I)LTextSolver$Term;"⟩, 7) := ⟨⟨by decide +kernel, by decide +kernel⟩, List.mem_of_getElem? (i := 88) (by decide +kernel), List.mem_of_getElem? (i := 477) (by decide +kernel), List.mem_of_getElem? (i := 478) (by decide +kernel)⟩
theorem lw_p15 : lw_okq (⟨"TextSolver$Row", "addLetter", "(I)V"⟩, 2) := ⟨⟨by decide +kernel, by decide +kernel⟩, List.mem_of_getElem? (i := 110) (by decide +kernel), List.mem_of_getElem? (i := 493) (by decide +kernel), List.mem_of_getElem? (i := 494) (by decide +kernel)⟩
def lw_privs_1 : List (MethodName × Nat) := [(⟨"TextSolver", "dropWays", "()V"⟩, 13), (⟨"TextSolver$Way", "layOut", "()V"⟩, 7), (⟨"TextSolver", "dropFindings", "()V"⟩, 13), (⟨"TextSolver$Space", "rowsUpTo", "(I)I"⟩, 4), (⟨"TextSolver", "isTerm", "(I)Z"⟩, 13), (⟨"TextSolver", "isMachine", "(I)Z"⟩, 13), (⟨"TextSolver", "dropFindingsOfMachine", "(I)V"⟩, 13), (⟨"TextSolver", "areOthersKnown", "(IIII)Z"⟩, 13), (⟨"TextSolver", "isFormula", "(I)Z"⟩, 13), (⟨"TextSolver", "takeInHand", "(I)I"⟩, 13), (⟨"TextSolver", "countingFormulas", "()I"⟩, 13), (⟨"TextSolver", "modelsIn", "(II)J"⟩, 13), (⟨"TextSolver", "waysIn", "(I)J"⟩, 13), (⟨"TextSolver", "isModel", "(II)Z"⟩, 13), (⟨"TextSolver$Judge", "termAt", "(I)LTextSolver$Term;"⟩, 7), (⟨"TextSolver$Row", "addLetter", "(I)V"⟩, 2)]
theorem lw_r1 : ∀ q ∈ lw_privs_1, lw_okq q := List.forall_mem_cons.mpr ⟨lw_p0, List.forall_mem_cons.mpr ⟨lw_p1, List.forall_mem_cons.mpr ⟨lw_p2, List.forall_mem_cons.mpr ⟨lw_p3, List.forall_mem_cons.mpr ⟨lw_p4, List.forall_mem_cons.mpr ⟨lw_p5, List.forall_mem_cons.mpr ⟨lw_p6, List.forall_mem_cons.mpr ⟨lw_p7, List.forall_mem_cons.mpr ⟨lw_p8, List.forall_mem_cons.mpr ⟨lw_p9, List.forall_mem_cons.mpr ⟨lw_p10, List.forall_mem_cons.mpr ⟨lw_p11, List.forall_mem_cons.mpr ⟨lw_p12, List.forall_mem_cons.mpr ⟨lw_p13, List.forall_mem_cons.mpr ⟨lw_p14, List.forall_mem_cons.mpr ⟨lw_p15, fun _ h => absurd h List.not_mem_nil⟩⟩⟩⟩⟩⟩⟩⟩⟩⟩⟩⟩⟩⟩⟩⟩
theorem lw_p16 : lw_okq (⟨"TextSolver$Row", "addRow", "([III)V"⟩, 2) := ⟨⟨by decide +kernel, by decide +kernel⟩, List.mem_of_getElem? (i := 110) (by decide +kernel), List.mem_of_getElem? (i := 497) (by decide +kernel), List.mem_of_getElem? (i := 498) (by decide +kernel)⟩
theorem lw_p17 : lw_okq (⟨"TextSolver$Row", "agrees", "(ILTextSolver$Row;II)Z"⟩, 2) := ⟨⟨by decide +kernel, by decide +kernel⟩, List.mem_of_getElem? (i := 110) (by decide +kernel), List.mem_of_getElem? (i := 506) (by decide +kernel), List.mem_of_getElem? (i := 507) (by decide +kernel)⟩
theorem lw_p18 : lw_okq (⟨"TextSolver$Judge", "machineAt", "(I)LTextSolver$Machine;"⟩, 7) := ⟨⟨by decide +kernel, by decide +kernel⟩, List.mem_of_getElem? (i := 88) (by decide +kernel), List.mem_of_getElem? (i := 510) (by decide +kernel), List.mem_of_getElem? (i := 511) (by decide +kernel)⟩
theorem lw_p19 : lw_okq (⟨"TextSolver", "hasModel", "(I)Z"⟩, 13) := ⟨⟨by decide +kernel, by decide +kernel⟩, List.mem_of_getElem? (i := 15) (by decide +kernel), List.mem_of_getElem? (i := 590) (by decide +kernel), List.mem_of_getElem? (i := 591) (by decide +kernel)⟩
theorem lw_p20 : lw_okq (⟨"TextSolver", "areLengthsFit", "()Z"⟩, 13) := ⟨⟨by decide +kernel, by decide +kernel⟩, List.mem_of_getElem? (i := 15) (by decide +kernel), List.mem_of_getElem? (i := 609) (by decide +kernel), List.mem_of_getElem? (i := 610) (by decide +kernel)⟩
theorem lw_p21 : lw_okq (⟨"TextSolver", "isLengthFit", "(LTextSolver$Formula;)Z"⟩, 13) := ⟨⟨by decide +kernel, by decide +kernel⟩, List.mem_of_getElem? (i := 15) (by decide +kernel), List.mem_of_getElem? (i := 613) (by decide +kernel), List.mem_of_getElem? (i := 614) (by decide +kernel)⟩
theorem lw_p22 : lw_okq (⟨"TextSolverModel", "changed", "()V"⟩, 32) := ⟨⟨by decide +kernel, by decide +kernel⟩, List.mem_of_getElem? (i := 632) (by decide +kernel), List.mem_of_getElem? (i := 743) (by decide +kernel), List.mem_of_getElem? (i := 744) (by decide +kernel)⟩
theorem lw_p23 : lw_okq (⟨"TextSolverModel", "isTerm", "(I)Z"⟩, 32) := ⟨⟨by decide +kernel, by decide +kernel⟩, List.mem_of_getElem? (i := 632) (by decide +kernel), List.mem_of_getElem? (i := 775) (by decide +kernel), List.mem_of_getElem? (i := 776) (by decide +kernel)⟩
theorem lw_p24 : lw_okq (⟨"TextSolverModel", "take", "(I)Z"⟩, 32) := ⟨⟨by decide +kernel, by decide +kernel⟩, List.mem_of_getElem? (i := 632) (by decide +kernel), List.mem_of_getElem? (i := 791) (by decide +kernel), List.mem_of_getElem? (i := 792) (by decide +kernel)⟩
theorem lw_p25 : lw_okq (⟨"TextSolverModel", "stayAll", "()V"⟩, 32) := ⟨⟨by decide +kernel, by decide +kernel⟩, List.mem_of_getElem? (i := 632) (by decide +kernel), List.mem_of_getElem? (i := 795) (by decide +kernel), List.mem_of_getElem? (i := 796) (by decide +kernel)⟩
theorem lw_p26 : lw_okq (⟨"TextSolverModel", "search", "(I)I"⟩, 32) := ⟨⟨by decide +kernel, by decide +kernel⟩, List.mem_of_getElem? (i := 632) (by decide +kernel), List.mem_of_getElem? (i := 799) (by decide +kernel), List.mem_of_getElem? (i := 800) (by decide +kernel)⟩
theorem lw_p27 : lw_okq (⟨"TextSolverModel", "first", "()V"⟩, 32) := ⟨⟨by decide +kernel, by decide +kernel⟩, List.mem_of_getElem? (i := 632) (by decide +kernel), List.mem_of_getElem? (i := 803) (by decide +kernel), List.mem_of_getElem? (i := 804) (by decide +kernel)⟩
theorem lw_p28 : lw_okq (⟨"TextSolverModel", "isModel", "()Z"⟩, 32) := ⟨⟨by decide +kernel, by decide +kernel⟩, List.mem_of_getElem? (i := 632) (by decide +kernel), List.mem_of_getElem? (i := 807) (by decide +kernel), List.mem_of_getElem? (i := 808) (by decide +kernel)⟩
theorem lw_p29 : lw_okq (⟨"TextSolverModel", "is", "(I)Z"⟩, 32) := ⟨⟨by decide +kernel, by decide +kernel⟩, List.mem_of_getElem? (i := 632) (by decide +kernel), List.mem_of_getElem? (i := 811) (by decide +kernel), List.mem_of_getElem? (i := 812) (by decide +kernel)⟩
theorem lw_p30 : lw_okq (⟨"TextSolverModel", "spell", "(II)V"⟩, 32) := ⟨⟨by decide +kernel, by decide +kernel⟩, List.mem_of_getElem? (i := 632) (by decide +kernel), List.mem_of_getElem? (i := 815) (by decide +kernel), List.mem_of_getElem? (i := 816) (by decide +kernel)⟩
theorem lw_p31 : lw_okq (⟨"TextSolverModel", "isSame", "()Z"⟩, 32) := ⟨⟨by decide +kernel, by decide +kernel⟩, List.mem_of_getElem? (i := 632) (by decide +kernel), List.mem_of_getElem? (i := 819) (by decide +kernel), List.mem_of_getElem? (i := 820) (by decide +kernel)⟩
def lw_privs_2 : List (MethodName × Nat) := [(⟨"TextSolver$Row", "addRow", "([III)V"⟩, 2), (⟨"TextSolver$Row", "agrees", "(ILTextSolver$Row;II)Z"⟩, 2), (⟨"TextSolver$Judge", "machineAt", "(I)LTextSolver$Machine;"⟩, 7), (⟨"TextSolver", "hasModel", "(I)Z"⟩, 13), (⟨"TextSolver", "areLengthsFit", "()Z"⟩, 13), (⟨"TextSolver", "isLengthFit", "(LTextSolver$Formula;)Z"⟩, 13), (⟨"TextSolverModel", "changed", "()V"⟩, 32), (⟨"TextSolverModel", "isTerm", "(I)Z"⟩, 32), (⟨"TextSolverModel", "take", "(I)Z"⟩, 32), (⟨"TextSolverModel", "stayAll", "()V"⟩, 32), (⟨"TextSolverModel", "search", "(I)I"⟩, 32), (⟨"TextSolverModel", "first", "()V"⟩, 32), (⟨"TextSolverModel", "isModel", "()Z"⟩, 32), (⟨"TextSolverModel", "is", "(I)Z"⟩, 32), (⟨"TextSolverModel", "spell", "(II)V"⟩, 32), (⟨"TextSolverModel", "isSame", "()Z"⟩, 32)]
theorem lw_r2 : ∀ q ∈ lw_privs_2, lw_okq q := List.forall_mem_cons.mpr ⟨lw_p16, List.forall_mem_cons.mpr ⟨lw_p17, List.forall_mem_cons.mpr ⟨lw_p18, List.forall_mem_cons.mpr ⟨lw_p19, List.forall_mem_cons.mpr ⟨lw_p20, List.forall_mem_cons.mpr ⟨lw_p21, List.forall_mem_cons.mpr ⟨lw_p22, List.forall_mem_cons.mpr ⟨lw_p23, List.forall_mem_cons.mpr ⟨lw_p24, List.forall_mem_cons.mpr ⟨lw_p25, List.forall_mem_cons.mpr ⟨lw_p26, List.forall_mem_cons.mpr ⟨lw_p27, List.forall_mem_cons.mpr ⟨lw_p28, List.forall_mem_cons.mpr ⟨lw_p29, List.forall_mem_cons.mpr ⟨lw_p30, List.forall_mem_cons.mpr ⟨lw_p31, fun _ h => absurd h List.not_mem_nil⟩⟩⟩⟩⟩⟩⟩⟩⟩⟩⟩⟩⟩⟩⟩⟩
theorem lw_p32 : lw_okq (⟨"TextSolverModel", "isTaken", "(II)Z"⟩, 32) := ⟨⟨by decide +kernel, by decide +kernel⟩, List.mem_of_getElem? (i := 632) (by decide +kernel), List.mem_of_getElem? (i := 823) (by decide +kernel), List.mem_of_getElem? (i := 824) (by decide +kernel)⟩
theorem lw_p33 : lw_okq (⟨"TextSolverModel", "isBefore", "()Z"⟩, 32) := ⟨⟨by decide +kernel, by decide +kernel⟩, List.mem_of_getElem? (i := 632) (by decide +kernel), List.mem_of_getElem? (i := 827) (by decide +kernel), List.mem_of_getElem? (i := 828) (by decide +kernel)⟩
theorem lw_p34 : lw_okq (⟨"TextSolverModel", "found", "(II)I"⟩, 32) := ⟨⟨by decide +kernel, by decide +kernel⟩, List.mem_of_getElem? (i := 632) (by decide +kernel), List.mem_of_getElem? (i := 831) (by decide +kernel), List.mem_of_getElem? (i := 832) (by decide +kernel)⟩
theorem lw_p35 : lw_okq (⟨"TextSolverModel", "isSum", "(II)Z"⟩, 32) := ⟨⟨by decide +kernel, by decide +kernel⟩, List.mem_of_getElem? (i := 632) (by decide +kernel), List.mem_of_getElem? (i := 835) (by decide +kernel), List.mem_of_getElem? (i := 836) (by decide +kernel)⟩
theorem lw_p36 : lw_okq (⟨"TextSolverModel", "isReplaced", "()Z"⟩, 32) := ⟨⟨by decide +kernel, by decide +kernel⟩, List.mem_of_getElem? (i := 632) (by decide +kernel), List.mem_of_getElem? (i := 839) (by decide +kernel), List.mem_of_getElem? (i := 840) (by decide +kernel)⟩
theorem lw_p37 : lw_okq (⟨"TextSolverModel", "make", "(III)V"⟩, 32) := ⟨⟨by decide +kernel, by decide +kernel⟩, List.mem_of_getElem? (i := 632) (by decide +kernel), List.mem_of_getElem? (i := 843) (by decide +kernel), List.mem_of_getElem? (i := 844) (by decide +kernel)⟩
theorem lw_p38 : lw_okq (⟨"TextSolverModel", "next", "()Z"⟩, 32) := ⟨⟨by decide +kernel, by decide +kernel⟩, List.mem_of_getElem? (i := 632) (by decide +kernel), List.mem_of_getElem? (i := 847) (by decide +kernel), List.mem_of_getElem? (i := 848) (by decide +kernel)⟩
theorem lw_p39 : lw_okq (⟨"TextSolverModel", "nextLetters", "()Z"⟩, 32) := ⟨⟨by decide +kernel, by decide +kernel⟩, List.mem_of_getElem? (i := 632) (by decide +kernel), List.mem_of_getElem? (i := 851) (by decide +kernel), List.mem_of_getElem? (i := 852) (by decide +kernel)⟩
theorem lw_p40 : lw_okq (⟨"TextSolverModel", "nextLengths", "()Z"⟩, 32) := ⟨⟨by decide +kernel, by decide +kernel⟩, List.mem_of_getElem? (i := 632) (by decide +kernel), List.mem_of_getElem? (i := 855) (by decide +kernel), List.mem_of_getElem? (i := 856) (by decide +kernel)⟩
theorem lw_p41 : lw_okq (⟨"TextSolverModel", "lengthOf", "(I)I"⟩, 32) := ⟨⟨by decide +kernel, by decide +kernel⟩, List.mem_of_getElem? (i := 632) (by decide +kernel), List.mem_of_getElem? (i := 891) (by decide +kernel), List.mem_of_getElem? (i := 892) (by decide +kernel)⟩
def lw_privs_3 : List (MethodName × Nat) := [(⟨"TextSolverModel", "isTaken", "(II)Z"⟩, 32), (⟨"TextSolverModel", "isBefore", "()Z"⟩, 32), (⟨"TextSolverModel", "found", "(II)I"⟩, 32), (⟨"TextSolverModel", "isSum", "(II)Z"⟩, 32), (⟨"TextSolverModel", "isReplaced", "()Z"⟩, 32), (⟨"TextSolverModel", "make", "(III)V"⟩, 32), (⟨"TextSolverModel", "next", "()Z"⟩, 32), (⟨"TextSolverModel", "nextLetters", "()Z"⟩, 32), (⟨"TextSolverModel", "nextLengths", "()Z"⟩, 32), (⟨"TextSolverModel", "lengthOf", "(I)I"⟩, 32)]
theorem lw_r3 : ∀ q ∈ lw_privs_3, lw_okq q := List.forall_mem_cons.mpr ⟨lw_p32, List.forall_mem_cons.mpr ⟨lw_p33, List.forall_mem_cons.mpr ⟨lw_p34, List.forall_mem_cons.mpr ⟨lw_p35, List.forall_mem_cons.mpr ⟨lw_p36, List.forall_mem_cons.mpr ⟨lw_p37, List.forall_mem_cons.mpr ⟨lw_p38, List.forall_mem_cons.mpr ⟨lw_p39, List.forall_mem_cons.mpr ⟨lw_p40, List.forall_mem_cons.mpr ⟨lw_p41, fun _ h => absurd h List.not_mem_nil⟩⟩⟩⟩⟩⟩⟩⟩⟩⟩
def lw_privs : List (MethodName × Nat) := lw_privs_1 ++ (lw_privs_2 ++ (lw_privs_3))
def lw_tbl : List Cond := k2_sels lw_privs ++ tables_1
theorem lw_privs_ok : ∀ q ∈ lw_privs, lw_okq q := by
  show ∀ q ∈ lw_privs_1 ++ (lw_privs_2 ++ (lw_privs_3)), lw_okq q
  exact List.forall_mem_append.mpr ⟨lw_r1, List.forall_mem_append.mpr ⟨lw_r2, lw_r3⟩⟩
end
section
/-! ===== BEGIN words of one list among another's, by their places ===== -/
theorem goodIn_r {big : List Cond} (ws : List Cond) (ps : List Nat) (hp : ws = ps.filterMap (fun i => big[i]?)) (h : ws.all goodWord = true) : GoodIn big ws := by
  intro w hw
  have h1 := List.all_eq_true.mp h w hw
  rw [hp] at hw
  obtain ⟨i, -, hi⟩ := List.mem_filterMap.mp hw
  have hm : w ∈ big := by first | exact List.mem_of_getElem? hi | exact List.getElem?_mem hi
  exact ⟨hm, good_of_word h1⟩
theorem goodIn_app {big a b : List Cond} (ha : GoodIn big a) (hb : GoodIn big b) : GoodIn big (a ++ b) := fun w h => (List.mem_append.mp h).elim (ha w) (hb w)
theorem goodIn_ca {big a b : List Cond} {c : Cond} (ha : GoodIn big (c :: a)) (hb : GoodIn big b) : GoodIn big (c :: (a ++ b)) := fun w h => (List.mem_cons.mp h).elim (fun e => ha w (List.mem_cons.mpr (Or.inl e))) (fun h => (List.mem_append.mp h).elim (fun h => ha w (List.mem_cons.mpr (Or.inr h))) (hb w))
theorem goodIn_sub {big ws : List Cond} (hm : ∀ w ∈ ws, w ∈ big) (h : ws.all goodWord = true) : GoodIn big ws := fun w hw => ⟨hm w hw, good_of_word (List.all_eq_true.mp h w hw)⟩
/-! ===== END ===== -/

/-! ===== BEGIN printed: names, fields, word lists, decode rows ===== -/
def RX0 : String := "TextSolver$Formula"
def TX0 : u_T := fun k => match k with
  | 0 => ("TextSolver$Formula", "judged", "[J", true)
  | 1 => ("TextSolver$Formula", "so", "[J", true)
  | 2 => ("TextSolver$Formula", "kind", "I", false)
  | 3 => ("TextSolver$Formula", "a", "I", false)
  | 4 => ("TextSolver$Formula", "b", "I", false)
  | 5 => ("TextSolver$Formula", "c", "I", false)
  | 6 => ("TextSolver$Formula", "d", "I", false)
  | 7 => ("TextSolver$Formula", "isDenied", "Z", false)
  | _ => ("TextSolver$Formula", "isLeftOut", "Z", false)
def tyX0 : Nat → FieldType := fun k => match k with
  | 0 => .array .long
  | 1 => .array .long
  | 2 => .int
  | 3 => .int
  | 4 => .int
  | 5 => .int
  | 6 => .int
  | 7 => .boolean
  | _ => .boolean
abbrev wsX00 : List Cond := u_ws RX0 TX0 9
theorem nmX0 : ∀ a, a < 9 → ∀ b, b < 9 → a ≠ b → (TX0 a).2.1 ≠ (TX0 b).2.1 := by decide +kernel
theorem tyX0_ok : ∀ k, k < 9 → parseFieldDescriptor (TX0 k).2.2.1 = some (tyX0 k) := by decide +kernel
abbrev cX0_init : ByteArray := prog_2_method_1_code
def yX0_init : MethodName := ⟨RX0, "<init>", "()V"⟩
abbrev cX0_restart : ByteArray := prog_2_method_2_code
def yX0_restart : MethodName := ⟨RX0, "restart", "(IIIII)V"⟩
abbrev cX0_forget : ByteArray := prog_2_method_3_code
def yX0_forget : MethodName := ⟨RX0, "forget", "()V"⟩
abbrev cX0_isJudged : ByteArray := prog_2_method_4_code
def yX0_isJudged : MethodName := ⟨RX0, "isJudged", "(I)Z"⟩
abbrev cX0_isSoIn : ByteArray := prog_2_method_5_code
def yX0_isSoIn : MethodName := ⟨RX0, "isSoIn", "(I)Z"⟩
abbrev cX0_isBit : ByteArray := prog_2_method_6_code
def yX0_isBit : MethodName := ⟨RX0, "isBit", "([JI)Z"⟩
abbrev cX0_keep : ByteArray := prog_2_method_7_code
def yX0_keep : MethodName := ⟨RX0, "keep", "(IZ)V"⟩
abbrev cX0_ruledOut : ByteArray := prog_2_method_8_code
def yX0_ruledOut : MethodName := ⟨RX0, "ruledOut", "(I)J"⟩
abbrev cX0_notJudged : ByteArray := prog_2_method_9_code
def yX0_notJudged : MethodName := ⟨RX0, "notJudged", "(I)J"⟩
abbrev cX0_hasSecondTerm : ByteArray := prog_2_method_10_code
def yX0_hasSecondTerm : MethodName := ⟨RX0, "hasSecondTerm", "()Z"⟩
abbrev cX0_isAboutTerm : ByteArray := prog_2_method_11_code
def yX0_isAboutTerm : MethodName := ⟨RX0, "isAboutTerm", "(I)Z"⟩
abbrev cX0_isAboutMachine : ByteArray := prog_2_method_12_code
def yX0_isAboutMachine : MethodName := ⟨RX0, "isAboutMachine", "(I)Z"⟩
def RX1 : String := "TextSolver$Judge"
def TX1 : u_T := fun k => match k with
  | 0 => ("TextSolver$Judge", "terms", "[LTextSolver$Term;", true)
  | 1 => ("TextSolver$Judge", "machines", "[LTextSolver$Machine;", true)
  | 2 => ("TextSolver$Judge", "nothing", "LTextSolver$Term;", true)
  | 3 => ("TextSolver$Judge", "a", "LTextSolver$Row;", true)
  | 4 => ("TextSolver$Judge", "b", "LTextSolver$Row;", true)
  | 5 => ("TextSolver$Judge", "c", "LTextSolver$Row;", true)
  | _ => ("TextSolver$Judge", "d", "LTextSolver$Row;", true)
def tyX1 : Nat → FieldType := fun k => match k with
  | 0 => .array (.object "TextSolver$Term")
  | 1 => .array (.object "TextSolver$Machine")
  | 2 => .object "TextSolver$Term"
  | 3 => .object "TextSolver$Row"
  | 4 => .object "TextSolver$Row"
  | 5 => .object "TextSolver$Row"
  | _ => .object "TextSolver$Row"
abbrev wsX10 : List Cond := u_ws RX1 TX1 7
theorem nmX1 : ∀ a, a < 7 → ∀ b, b < 7 → a ≠ b → (TX1 a).2.1 ≠ (TX1 b).2.1 := by decide +kernel
theorem tyX1_ok : ∀ k, k < 7 → parseFieldDescriptor (TX1 k).2.2.1 = some (tyX1 k) := by decide +kernel
abbrev cX1_init : ByteArray := prog_3_method_1_code
def yX1_init : MethodName := ⟨RX1, "<init>", "([LTextSolver$Term;[LTextSolver$Machine;)V"⟩
abbrev cX1_termAt : ByteArray := prog_3_method_2_code
def yX1_termAt : MethodName := ⟨RX1, "termAt", "(I)LTextSolver$Term;"⟩
abbrev cX1_machineAt : ByteArray := prog_3_method_3_code
def yX1_machineAt : MethodName := ⟨RX1, "machineAt", "(I)LTextSolver$Machine;"⟩
abbrev cX1_isLonger : ByteArray := prog_3_method_4_code
def yX1_isLonger : MethodName := ⟨RX1, "isLonger", "(LTextSolver$Formula;[I)Z"⟩
abbrev cX1_isOneLength : ByteArray := prog_3_method_5_code
def yX1_isOneLength : MethodName := ⟨RX1, "isOneLength", "(LTextSolver$Formula;[I)Z"⟩
abbrev cX1_isSo : ByteArray := prog_3_method_6_code
def yX1_isSo : MethodName := ⟨RX1, "isSo", "(LTextSolver$Formula;LTextSolver$Way;)Z"⟩
def RX2 : String := "TextSolver$Machine"
def TX2 : u_T := fun k => match k with
  | 0 => ("TextSolver$Machine", "steps", "[I", true)
  | 1 => ("TextSolver$Machine", "states", "I", false)
  | _ => ("TextSolver$Machine", "goodStates", "I", false)
def tyX2 : Nat → FieldType := fun k => match k with
  | 0 => .array .int
  | 1 => .int
  | _ => .int
abbrev wsX20 : List Cond := u_ws RX2 TX2 3
theorem nmX2 : ∀ a, a < 3 → ∀ b, b < 3 → a ≠ b → (TX2 a).2.1 ≠ (TX2 b).2.1 := by decide +kernel
theorem tyX2_ok : ∀ k, k < 3 → parseFieldDescriptor (TX2 k).2.2.1 = some (tyX2 k) := by decide +kernel
abbrev cX2_init : ByteArray := prog_4_method_1_code
def yX2_init : MethodName := ⟨RX2, "<init>", "()V"⟩
abbrev cX2_restart : ByteArray := prog_4_method_2_code
def yX2_restart : MethodName := ⟨RX2, "restart", "(I)V"⟩
abbrev cX2_isState : ByteArray := prog_4_method_3_code
def yX2_isState : MethodName := ⟨RX2, "isState", "(I)Z"⟩
abbrev cX2_next : ByteArray := prog_4_method_4_code
def yX2_next : MethodName := ⟨RX2, "next", "(II)I"⟩
abbrev cX2_lead : ByteArray := prog_4_method_5_code
def yX2_lead : MethodName := ⟨RX2, "lead", "(III)V"⟩
abbrev cX2_isGood : ByteArray := prog_4_method_6_code
def yX2_isGood : MethodName := ⟨RX2, "isGood", "(I)Z"⟩
abbrev cX2_setGood : ByteArray := prog_4_method_7_code
def yX2_setGood : MethodName := ⟨RX2, "setGood", "(IZ)V"⟩
abbrev cX2_takes : ByteArray := prog_4_method_8_code
def yX2_takes : MethodName := ⟨RX2, "takes", "(LTextSolver$Row;)Z"⟩
abbrev cX2_shortestWith : ByteArray := prog_4_method_9_code
def yX2_shortestWith : MethodName := ⟨RX2, "shortestWith", "(LTextSolver$Machine;I)I"⟩
def RX3 : String := "TextSolver$Row"
def TX3 : u_T := fun k => match k with
  | 0 => ("TextSolver$Row", "letters", "[I", true)
  | _ => ("TextSolver$Row", "size", "I", false)
def tyX3 : Nat → FieldType := fun k => match k with
  | 0 => .array .int
  | _ => .int
abbrev wsX30 : List Cond := u_ws RX3 TX3 2
theorem nmX3 : ∀ a, a < 2 → ∀ b, b < 2 → a ≠ b → (TX3 a).2.1 ≠ (TX3 b).2.1 := by decide +kernel
theorem tyX3_ok : ∀ k, k < 2 → parseFieldDescriptor (TX3 k).2.2.1 = some (tyX3 k) := by decide +kernel
abbrev cX3_init : ByteArray := prog_5_method_1_code
def yX3_init : MethodName := ⟨RX3, "<init>", "()V"⟩
abbrev cX3_write : ByteArray := prog_5_method_2_code
def yX3_write : MethodName := ⟨RX3, "write", "(LTextSolver$Term;LTextSolver$Way;)V"⟩
abbrev cX3_addLetter : ByteArray := prog_5_method_3_code
def yX3_addLetter : MethodName := ⟨RX3, "addLetter", "(I)V"⟩
abbrev cX3_addRow : ByteArray := prog_5_method_4_code
def yX3_addRow : MethodName := ⟨RX3, "addRow", "([III)V"⟩
abbrev cX3_agrees : ByteArray := prog_5_method_5_code
def yX3_agrees : MethodName := ⟨RX3, "agrees", "(ILTextSolver$Row;II)Z"⟩
abbrev cX3_isSame : ByteArray := prog_5_method_6_code
def yX3_isSame : MethodName := ⟨RX3, "isSame", "(LTextSolver$Row;)Z"⟩
abbrev cX3_placeOf : ByteArray := prog_5_method_7_code
def yX3_placeOf : MethodName := ⟨RX3, "placeOf", "(LTextSolver$Row;)I"⟩
abbrev cX3_isBefore : ByteArray := prog_5_method_8_code
def yX3_isBefore : MethodName := ⟨RX3, "isBefore", "(LTextSolver$Row;)Z"⟩
abbrev cX3_hasSum : ByteArray := prog_5_method_9_code
def yX3_hasSum : MethodName := ⟨RX3, "hasSum", "(II)Z"⟩
abbrev cX3_isReplaced : ByteArray := prog_5_method_10_code
def yX3_isReplaced : MethodName := ⟨RX3, "isReplaced", "(LTextSolver$Row;IILTextSolver$Row;)Z"⟩
def RX4 : String := "TextSolver$Space"
def TX4 : u_T := fun k => match k with
  | 0 => ("TextSolver$Space", "mosts", "[I", true)
  | 1 => ("TextSolver$Space", "letters", "I", false)
  | 2 => ("TextSolver$Space", "texts", "I", false)
  | _ => ("TextSolver$Space", "size", "I", false)
def tyX4 : Nat → FieldType := fun k => match k with
  | 0 => .array .int
  | 1 => .int
  | 2 => .int
  | _ => .int
abbrev wsX40 : List Cond := u_ws RX4 TX4 4
theorem nmX4 : ∀ a, a < 4 → ∀ b, b < 4 → a ≠ b → (TX4 a).2.1 ≠ (TX4 b).2.1 := by decide +kernel
theorem tyX4_ok : ∀ k, k < 4 → parseFieldDescriptor (TX4 k).2.2.1 = some (tyX4 k) := by decide +kernel
abbrev cX4_init : ByteArray := prog_6_method_1_code
def yX4_init : MethodName := ⟨RX4, "<init>", "()V"⟩
abbrev cX4_restart : ByteArray := prog_6_method_2_code
def yX4_restart : MethodName := ⟨RX4, "restart", "(I)V"⟩
abbrev cX4_isLetter : ByteArray := prog_6_method_3_code
def yX4_isLetter : MethodName := ⟨RX4, "isLetter", "(I)Z"⟩
abbrev cX4_isText : ByteArray := prog_6_method_4_code
def yX4_isText : MethodName := ⟨RX4, "isText", "(I)Z"⟩
abbrev cX4_hasRoomFor : ByteArray := prog_6_method_5_code
def yX4_hasRoomFor : MethodName := ⟨RX4, "hasRoomFor", "(I)Z"⟩
abbrev cX4_add : ByteArray := prog_6_method_6_code
def yX4_add : MethodName := ⟨RX4, "add", "(I)V"⟩
abbrev cX4_rowsUpTo : ByteArray := prog_6_method_7_code
def yX4_rowsUpTo : MethodName := ⟨RX4, "rowsUpTo", "(I)I"⟩
abbrev cX4_lengthWays : ByteArray := prog_6_method_8_code
def yX4_lengthWays : MethodName := ⟨RX4, "lengthWays", "()I"⟩
def RX5 : String := "TextSolver$Term"
def TX5 : u_T := fun k => match k with
  | 0 => ("TextSolver$Term", "parts", "[I", true)
  | _ => ("TextSolver$Term", "size", "I", false)
def tyX5 : Nat → FieldType := fun k => match k with
  | 0 => .array .int
  | _ => .int
abbrev wsX50 : List Cond := u_ws RX5 TX5 2
theorem nmX5 : ∀ a, a < 2 → ∀ b, b < 2 → a ≠ b → (TX5 a).2.1 ≠ (TX5 b).2.1 := by decide +kernel
theorem tyX5_ok : ∀ k, k < 2 → parseFieldDescriptor (TX5 k).2.2.1 = some (tyX5 k) := by decide +kernel
abbrev cX5_init : ByteArray := prog_7_method_1_code
def yX5_init : MethodName := ⟨RX5, "<init>", "()V"⟩
abbrev cX5_restart : ByteArray := prog_7_method_2_code
def yX5_restart : MethodName := ⟨RX5, "restart", "()V"⟩
abbrev cX5_add : ByteArray := prog_7_method_3_code
def yX5_add : MethodName := ⟨RX5, "add", "(I)Z"⟩
abbrev cX5_lengthWith : ByteArray := prog_7_method_4_code
def yX5_lengthWith : MethodName := ⟨RX5, "lengthWith", "([I)I"⟩
def RX6 : String := "TextSolver$Way"
def TX6 : u_T := fun k => match k with
  | 0 => ("TextSolver$Way", "space", "LTextSolver$Space;", true)
  | 1 => ("TextSolver$Way", "lengths", "[I", true)
  | 2 => ("TextSolver$Way", "starts", "[I", true)
  | 3 => ("TextSolver$Way", "row", "[I", true)
  | 4 => ("TextSolver$Way", "total", "I", false)
  | 5 => ("TextSolver$Way", "first", "I", false)
  | _ => ("TextSolver$Way", "count", "I", false)
def tyX6 : Nat → FieldType := fun k => match k with
  | 0 => .object "TextSolver$Space"
  | 1 => .array .int
  | 2 => .array .int
  | 3 => .array .int
  | 4 => .int
  | 5 => .int
  | _ => .int
abbrev wsX60 : List Cond := u_ws RX6 TX6 7
theorem nmX6 : ∀ a, a < 7 → ∀ b, b < 7 → a ≠ b → (TX6 a).2.1 ≠ (TX6 b).2.1 := by decide +kernel
theorem tyX6_ok : ∀ k, k < 7 → parseFieldDescriptor (TX6 k).2.2.1 = some (tyX6 k) := by decide +kernel
abbrev cX6_init : ByteArray := prog_8_method_1_code
def yX6_init : MethodName := ⟨RX6, "<init>", "(LTextSolver$Space;)V"⟩
abbrev cX6_restart : ByteArray := prog_8_method_2_code
def yX6_restart : MethodName := ⟨RX6, "restart", "()V"⟩
abbrev cX6_layOut : ByteArray := prog_8_method_3_code
def yX6_layOut : MethodName := ⟨RX6, "layOut", "()V"⟩
abbrev cX6_goToNextLengths : ByteArray := prog_8_method_4_code
def yX6_goToNextLengths : MethodName := ⟨RX6, "goToNextLengths", "()V"⟩
abbrev cX6_goTo : ByteArray := prog_8_method_5_code
def yX6_goTo : MethodName := ⟨RX6, "goTo", "(I)V"⟩
abbrev cX6_lengthOf : ByteArray := prog_8_method_6_code
def yX6_lengthOf : MethodName := ⟨RX6, "lengthOf", "(I)I"⟩
abbrev cX6_letterOf : ByteArray := prog_8_method_7_code
def yX6_letterOf : MethodName := ⟨RX6, "letterOf", "(II)I"⟩
def RX7 : String := "TextSolver"
def TX7 : u_T := fun k => match k with
  | 0 => ("TextSolver", "space", "LTextSolver$Space;", true)
  | 1 => ("TextSolver", "tried", "LTextSolver$Way;", true)
  | 2 => ("TextSolver", "atHand", "LTextSolver$Way;", true)
  | 3 => ("TextSolver", "terms", "[LTextSolver$Term;", true)
  | 4 => ("TextSolver", "machines", "[LTextSolver$Machine;", true)
  | 5 => ("TextSolver", "formulas", "[LTextSolver$Formula;", true)
  | 6 => ("TextSolver", "judge", "LTextSolver$Judge;", true)
  | 7 => ("TextSolver", "termCount", "I", false)
  | 8 => ("TextSolver", "machineCount", "I", false)
  | 9 => ("TextSolver", "formulaCount", "I", false)
  | 10 => ("TextSolver", "isModelAtHand", "Z", false)
  | 11 => ("TextSolver", "isCoreFound", "Z", false)
  | _ => ("TextSolver", "coreMembers", "I", false)
def tyX7 : Nat → FieldType := fun k => match k with
  | 0 => .object "TextSolver$Space"
  | 1 => .object "TextSolver$Way"
  | 2 => .object "TextSolver$Way"
  | 3 => .array (.object "TextSolver$Term")
  | 4 => .array (.object "TextSolver$Machine")
  | 5 => .array (.object "TextSolver$Formula")
  | 6 => .object "TextSolver$Judge"
  | 7 => .int
  | 8 => .int
  | 9 => .int
  | 10 => .boolean
  | 11 => .boolean
  | _ => .int
abbrev wsX70 : List Cond := u_ws RX7 TX7 13
theorem nmX7 : ∀ a, a < 13 → ∀ b, b < 13 → a ≠ b → (TX7 a).2.1 ≠ (TX7 b).2.1 := by decide +kernel
theorem tyX7_ok : ∀ k, k < 13 → parseFieldDescriptor (TX7 k).2.2.1 = some (tyX7 k) := by decide +kernel
abbrev cX7_init : ByteArray := prog_1_method_1_code
def yX7_init : MethodName := ⟨RX7, "<init>", "()V"⟩
abbrev cX7_clear : ByteArray := prog_1_method_2_code
def yX7_clear : MethodName := ⟨RX7, "clear", "(I)I"⟩
abbrev cX7_text : ByteArray := prog_1_method_3_code
def yX7_text : MethodName := ⟨RX7, "text", "(I)I"⟩
abbrev cX7_term : ByteArray := prog_1_method_4_code
def yX7_term : MethodName := ⟨RX7, "term", "()I"⟩
abbrev cX7_part : ByteArray := prog_1_method_5_code
def yX7_part : MethodName := ⟨RX7, "part", "(II)I"⟩
abbrev cX7_machine : ByteArray := prog_1_method_6_code
def yX7_machine : MethodName := ⟨RX7, "machine", "(I)I"⟩
abbrev cX7_step : ByteArray := prog_1_method_7_code
def yX7_step : MethodName := ⟨RX7, "step", "(IIII)I"⟩
abbrev cX7_good : ByteArray := prog_1_method_8_code
def yX7_good : MethodName := ⟨RX7, "good", "(IIZ)I"⟩
abbrev cX7_formula : ByteArray := prog_1_method_9_code
def yX7_formula : MethodName := ⟨RX7, "formula", "(IIIII)I"⟩
abbrev cX7_deny : ByteArray := prog_1_method_10_code
def yX7_deny : MethodName := ⟨RX7, "deny", "(IZ)I"⟩
abbrev cX7_leave : ByteArray := prog_1_method_11_code
def yX7_leave : MethodName := ⟨RX7, "leave", "(IZ)I"⟩
abbrev cX7_solve : ByteArray := prog_1_method_12_code
def yX7_solve : MethodName := ⟨RX7, "solve", "()I"⟩
abbrev cX7_model : ByteArray := prog_1_method_13_code
def yX7_model : MethodName := ⟨RX7, "model", "(I)I"⟩
abbrev cX7_models : ByteArray := prog_1_method_14_code
def yX7_models : MethodName := ⟨RX7, "models", "()I"⟩
abbrev cX7_length : ByteArray := prog_1_method_15_code
def yX7_length : MethodName := ⟨RX7, "length", "(I)I"⟩
abbrev cX7_letter : ByteArray := prog_1_method_16_code
def yX7_letter : MethodName := ⟨RX7, "letter", "(II)I"⟩
abbrev cX7_holds : ByteArray := prog_1_method_17_code
def yX7_holds : MethodName := ⟨RX7, "holds", "(I)I"⟩
abbrev cX7_core : ByteArray := prog_1_method_18_code
def yX7_core : MethodName := ⟨RX7, "core", "()I"⟩
abbrev cX7_inCore : ByteArray := prog_1_method_19_code
def yX7_inCore : MethodName := ⟨RX7, "inCore", "(I)I"⟩
abbrev cX7_spans : ByteArray := prog_1_method_20_code
def yX7_spans : MethodName := ⟨RX7, "spans", "()I"⟩
abbrev cX7_meet : ByteArray := prog_1_method_21_code
def yX7_meet : MethodName := ⟨RX7, "meet", "(II)I"⟩
abbrev cX7_told : ByteArray := prog_1_method_22_code
def yX7_told : MethodName := ⟨RX7, "told", "(I)I"⟩
abbrev cX7_asNumber : ByteArray := prog_1_method_23_code
def yX7_asNumber : MethodName := ⟨RX7, "asNumber", "(Z)I"⟩
abbrev cX7_isIn : ByteArray := prog_1_method_24_code
def yX7_isIn : MethodName := ⟨RX7, "isIn", "(II)Z"⟩
abbrev cX7_isTerm : ByteArray := prog_1_method_25_code
def yX7_isTerm : MethodName := ⟨RX7, "isTerm", "(I)Z"⟩
abbrev cX7_isMachine : ByteArray := prog_1_method_26_code
def yX7_isMachine : MethodName := ⟨RX7, "isMachine", "(I)Z"⟩
abbrev cX7_isFormula : ByteArray := prog_1_method_27_code
def yX7_isFormula : MethodName := ⟨RX7, "isFormula", "(I)Z"⟩
abbrev cX7_areOthersKnown : ByteArray := prog_1_method_28_code
def yX7_areOthersKnown : MethodName := ⟨RX7, "areOthersKnown", "(IIII)Z"⟩
abbrev cX7_areNumbersInside : ByteArray := prog_1_method_29_code
def yX7_areNumbersInside : MethodName := ⟨RX7, "areNumbersInside", "(III)Z"⟩
abbrev cX7_dropFindings : ByteArray := prog_1_method_30_code
def yX7_dropFindings : MethodName := ⟨RX7, "dropFindings", "()V"⟩
abbrev cX7_dropFindingsOfMachine : ByteArray := prog_1_method_31_code
def yX7_dropFindingsOfMachine : MethodName := ⟨RX7, "dropFindingsOfMachine", "(I)V"⟩
abbrev cX7_dropWays : ByteArray := prog_1_method_32_code
def yX7_dropWays : MethodName := ⟨RX7, "dropWays", "()V"⟩
abbrev cX7_takeInHand : ByteArray := prog_1_method_33_code
def yX7_takeInHand : MethodName := ⟨RX7, "takeInHand", "(I)I"⟩
abbrev cX7_countingFormulas : ByteArray := prog_1_method_34_code
def yX7_countingFormulas : MethodName := ⟨RX7, "countingFormulas", "()I"⟩
abbrev cX7_waysIn : ByteArray := prog_1_method_35_code
def yX7_waysIn : MethodName := ⟨RX7, "waysIn", "(I)J"⟩
abbrev cX7_modelsIn : ByteArray := prog_1_method_36_code
def yX7_modelsIn : MethodName := ⟨RX7, "modelsIn", "(II)J"⟩
abbrev cX7_isModel : ByteArray := prog_1_method_37_code
def yX7_isModel : MethodName := ⟨RX7, "isModel", "(II)Z"⟩
abbrev cX7_hasModel : ByteArray := prog_1_method_38_code
def yX7_hasModel : MethodName := ⟨RX7, "hasModel", "(I)Z"⟩
abbrev cX7_placeOfBit : ByteArray := prog_1_method_39_code
def yX7_placeOfBit : MethodName := ⟨RX7, "placeOfBit", "(JI)I"⟩
abbrev cX7_areLengthsFit : ByteArray := prog_1_method_40_code
def yX7_areLengthsFit : MethodName := ⟨RX7, "areLengthsFit", "()Z"⟩
abbrev cX7_isLengthFit : ByteArray := prog_1_method_41_code
def yX7_isLengthFit : MethodName := ⟨RX7, "isLengthFit", "(LTextSolver$Formula;)Z"⟩
def RX8 : String := "TextSolverModel"
def TX8 : u_T := fun k => match k with
  | 0 => ("TextSolverModel", "letters", "I", false)
  | 1 => ("TextSolverModel", "texts", "I", false)
  | 2 => ("TextSolverModel", "most", "[I", true)
  | 3 => ("TextSolverModel", "space", "I", false)
  | 4 => ("TextSolverModel", "terms", "I", false)
  | 5 => ("TextSolverModel", "parts", "[I", true)
  | 6 => ("TextSolverModel", "part", "[I", true)
  | 7 => ("TextSolverModel", "machines", "I", false)
  | 8 => ("TextSolverModel", "states", "[I", true)
  | 9 => ("TextSolverModel", "step", "[I", true)
  | 10 => ("TextSolverModel", "good", "[Z", true)
  | 11 => ("TextSolverModel", "formulas", "I", false)
  | 12 => ("TextSolverModel", "kind", "[I", true)
  | 13 => ("TextSolverModel", "a", "[I", true)
  | 14 => ("TextSolverModel", "b", "[I", true)
  | 15 => ("TextSolverModel", "c", "[I", true)
  | 16 => ("TextSolverModel", "d", "[I", true)
  | 17 => ("TextSolverModel", "denied", "[Z", true)
  | 18 => ("TextSolverModel", "out", "[Z", true)
  | 19 => ("TextSolverModel", "isAtHand", "Z", false)
  | 20 => ("TextSolverModel", "handLength", "[I", true)
  | 21 => ("TextSolverModel", "handLetter", "[I", true)
  | 22 => ("TextSolverModel", "isCore", "Z", false)
  | 23 => ("TextSolverModel", "core", "[Z", true)
  | 24 => ("TextSolverModel", "length", "[I", true)
  | 25 => ("TextSolverModel", "letter", "[I", true)
  | 26 => ("TextSolverModel", "row", "[I", true)
  | 27 => ("TextSolverModel", "many", "[I", true)
  | 28 => ("TextSolverModel", "made", "[I", true)
  | 29 => ("TextSolverModel", "madeMany", "I", false)
  | 30 => ("TextSolverModel", "gone", "[Z", true)
  | _ => ("TextSolverModel", "far", "[I", true)
def tyX8 : Nat → FieldType := fun k => match k with
  | 0 => .int
  | 1 => .int
  | 2 => .array .int
  | 3 => .int
  | 4 => .int
  | 5 => .array .int
  | 6 => .array .int
  | 7 => .int
  | 8 => .array .int
  | 9 => .array .int
  | 10 => .array .boolean
  | 11 => .int
  | 12 => .array .int
  | 13 => .array .int
  | 14 => .array .int
  | 15 => .array .int
  | 16 => .array .int
  | 17 => .array .boolean
  | 18 => .array .boolean
  | 19 => .boolean
  | 20 => .array .int
  | 21 => .array .int
  | 22 => .boolean
  | 23 => .array .boolean
  | 24 => .array .int
  | 25 => .array .int
  | 26 => .array .int
  | 27 => .array .int
  | 28 => .array .int
  | 29 => .int
  | 30 => .array .boolean
  | _ => .array .int
abbrev wsX80 : List Cond := u_ws RX8 TX8 32
theorem nmX8 : ∀ a, a < 32 → ∀ b, b < 32 → a ≠ b → (TX8 a).2.1 ≠ (TX8 b).2.1 := by decide +kernel
theorem tyX8_ok : ∀ k, k < 32 → parseFieldDescriptor (TX8 k).2.2.1 = some (tyX8 k) := by decide +kernel
abbrev cX8_init : ByteArray := prog_10_method_1_code
def yX8_init : MethodName := ⟨RX8, "<init>", "()V"⟩
abbrev cX8_in : ByteArray := prog_10_method_2_code
def yX8_in : MethodName := ⟨RX8, "in", "(III)Z"⟩
abbrev cX8_changed : ByteArray := prog_10_method_3_code
def yX8_changed : MethodName := ⟨RX8, "changed", "()V"⟩
abbrev cX8_clear : ByteArray := prog_10_method_4_code
def yX8_clear : MethodName := ⟨RX8, "clear", "(I)I"⟩
abbrev cX8_text : ByteArray := prog_10_method_5_code
def yX8_text : MethodName := ⟨RX8, "text", "(I)I"⟩
abbrev cX8_term : ByteArray := prog_10_method_6_code
def yX8_term : MethodName := ⟨RX8, "term", "()I"⟩
abbrev cX8_part : ByteArray := prog_10_method_7_code
def yX8_part : MethodName := ⟨RX8, "part", "(II)I"⟩
abbrev cX8_machine : ByteArray := prog_10_method_8_code
def yX8_machine : MethodName := ⟨RX8, "machine", "(I)I"⟩
abbrev cX8_step : ByteArray := prog_10_method_9_code
def yX8_step : MethodName := ⟨RX8, "step", "(IIII)I"⟩
abbrev cX8_good : ByteArray := prog_10_method_10_code
def yX8_good : MethodName := ⟨RX8, "good", "(IIZ)I"⟩
abbrev cX8_isTerm : ByteArray := prog_10_method_11_code
def yX8_isTerm : MethodName := ⟨RX8, "isTerm", "(I)Z"⟩
abbrev cX8_formula : ByteArray := prog_10_method_12_code
def yX8_formula : MethodName := ⟨RX8, "formula", "(IIIII)I"⟩
abbrev cX8_deny : ByteArray := prog_10_method_13_code
def yX8_deny : MethodName := ⟨RX8, "deny", "(IZ)I"⟩
abbrev cX8_leave : ByteArray := prog_10_method_14_code
def yX8_leave : MethodName := ⟨RX8, "leave", "(IZ)I"⟩
abbrev cX8_spell : ByteArray := prog_10_method_15_code
def yX8_spell : MethodName := ⟨RX8, "spell", "(II)V"⟩
abbrev cX8_found : ByteArray := prog_10_method_16_code
def yX8_found : MethodName := ⟨RX8, "found", "(II)I"⟩
abbrev cX8_isTaken : ByteArray := prog_10_method_17_code
def yX8_isTaken : MethodName := ⟨RX8, "isTaken", "(II)Z"⟩
abbrev cX8_make : ByteArray := prog_10_method_18_code
def yX8_make : MethodName := ⟨RX8, "make", "(III)V"⟩
abbrev cX8_isReplaced : ByteArray := prog_10_method_19_code
def yX8_isReplaced : MethodName := ⟨RX8, "isReplaced", "()Z"⟩
abbrev cX8_isSame : ByteArray := prog_10_method_20_code
def yX8_isSame : MethodName := ⟨RX8, "isSame", "()Z"⟩
abbrev cX8_isBefore : ByteArray := prog_10_method_21_code
def yX8_isBefore : MethodName := ⟨RX8, "isBefore", "()Z"⟩
abbrev cX8_isSum : ByteArray := prog_10_method_22_code
def yX8_isSum : MethodName := ⟨RX8, "isSum", "(II)Z"⟩
abbrev cX8_is : ByteArray := prog_10_method_23_code
def yX8_is : MethodName := ⟨RX8, "is", "(I)Z"⟩
abbrev cX8_first : ByteArray := prog_10_method_24_code
def yX8_first : MethodName := ⟨RX8, "first", "()V"⟩
abbrev cX8_nextLetters : ByteArray := prog_10_method_25_code
def yX8_nextLetters : MethodName := ⟨RX8, "nextLetters", "()Z"⟩
abbrev cX8_nextLengths : ByteArray := prog_10_method_26_code
def yX8_nextLengths : MethodName := ⟨RX8, "nextLengths", "()Z"⟩
abbrev cX8_next : ByteArray := prog_10_method_27_code
def yX8_next : MethodName := ⟨RX8, "next", "()Z"⟩
abbrev cX8_isModel : ByteArray := prog_10_method_28_code
def yX8_isModel : MethodName := ⟨RX8, "isModel", "()Z"⟩
abbrev cX8_search : ByteArray := prog_10_method_29_code
def yX8_search : MethodName := ⟨RX8, "search", "(I)I"⟩
abbrev cX8_stayAll : ByteArray := prog_10_method_30_code
def yX8_stayAll : MethodName := ⟨RX8, "stayAll", "()V"⟩
abbrev cX8_take : ByteArray := prog_10_method_31_code
def yX8_take : MethodName := ⟨RX8, "take", "(I)Z"⟩
abbrev cX8_solve : ByteArray := prog_10_method_32_code
def yX8_solve : MethodName := ⟨RX8, "solve", "()I"⟩
abbrev cX8_model : ByteArray := prog_10_method_33_code
def yX8_model : MethodName := ⟨RX8, "model", "(I)I"⟩
abbrev cX8_models : ByteArray := prog_10_method_34_code
def yX8_models : MethodName := ⟨RX8, "models", "()I"⟩
abbrev cX8_length : ByteArray := prog_10_method_35_code
def yX8_length : MethodName := ⟨RX8, "length", "(I)I"⟩
abbrev cX8_letter : ByteArray := prog_10_method_36_code
def yX8_letter : MethodName := ⟨RX8, "letter", "(II)I"⟩
abbrev cX8_holds : ByteArray := prog_10_method_37_code
def yX8_holds : MethodName := ⟨RX8, "holds", "(I)I"⟩
abbrev cX8_core : ByteArray := prog_10_method_38_code
def yX8_core : MethodName := ⟨RX8, "core", "()I"⟩
abbrev cX8_inCore : ByteArray := prog_10_method_39_code
def yX8_inCore : MethodName := ⟨RX8, "inCore", "(I)I"⟩
abbrev cX8_lengthOf : ByteArray := prog_10_method_40_code
def yX8_lengthOf : MethodName := ⟨RX8, "lengthOf", "(I)I"⟩
abbrev cX8_spans : ByteArray := prog_10_method_41_code
def yX8_spans : MethodName := ⟨RX8, "spans", "()I"⟩
abbrev cX8_meet : ByteArray := prog_10_method_42_code
def yX8_meet : MethodName := ⟨RX8, "meet", "(II)I"⟩
abbrev cX8_told : ByteArray := prog_10_method_43_code
def yX8_told : MethodName := ⟨RX8, "told", "(I)I"⟩
def RJ6 : String := "java/lang/Integer"
def TJ6 : u_T := fun k => match k with
  | _ => ("", "", "", false)
def tyJ6 : Nat → FieldType := fun k => match k with
  | _ => .int
abbrev wsJ60 : List Cond := u_ws RJ6 TJ6 0
theorem nmJ6 : ∀ a, a < 0 → ∀ b, b < 0 → a ≠ b → (TJ6 a).2.1 ≠ (TJ6 b).2.1 := by decide +kernel
theorem tyJ6_ok : ∀ k, k < 0 → parseFieldDescriptor (TJ6 k).2.2.1 = some (tyJ6 k) := by decide +kernel
abbrev cJ6_bitCount_0f7a4 : ByteArray := prog_11_method_49_code
def yJ6_bitCount_0f7a4 : MethodName := ⟨RJ6, "bitCount", "(I)I"⟩
def RJ13 : String := "java/lang/Long"
def TJ13 : u_T := fun k => match k with
  | _ => ("", "", "", false)
def tyJ13 : Nat → FieldType := fun k => match k with
  | _ => .int
abbrev wsJ130 : List Cond := u_ws RJ13 TJ13 0
theorem nmJ13 : ∀ a, a < 0 → ∀ b, b < 0 → a ≠ b → (TJ13 a).2.1 ≠ (TJ13 b).2.1 := by decide +kernel
theorem tyJ13_ok : ∀ k, k < 0 → parseFieldDescriptor (TJ13 k).2.2.1 = some (tyJ13 k) := by decide +kernel
abbrev cJ13_bitCount_95d88 : ByteArray := prog_12_method_50_code
def yJ13_bitCount_95d88 : MethodName := ⟨RJ13, "bitCount", "(J)I"⟩
def RJ9 : String := "java/lang/Math"
def TJ9 : u_T := fun k => match k with
  | _ => ("", "", "", false)
def tyJ9 : Nat → FieldType := fun k => match k with
  | _ => .int
abbrev wsJ90 : List Cond := u_ws RJ9 TJ9 0
theorem nmJ9 : ∀ a, a < 0 → ∀ b, b < 0 → a ≠ b → (TJ9 a).2.1 ≠ (TJ9 b).2.1 := by decide +kernel
theorem tyJ9_ok : ∀ k, k < 0 → parseFieldDescriptor (TJ9 k).2.2.1 = some (tyJ9 k) := by decide +kernel
abbrev cJ9_floorMod_7cf53 : ByteArray := prog_13_method_50_code
def yJ9_floorMod_7cf53 : MethodName := ⟨RJ9, "floorMod", "(II)I"⟩
def RJ7 : String := "java/util/Arrays"
def TJ7 : u_T := fun k => match k with
  | _ => ("", "", "", false)
def tyJ7 : Nat → FieldType := fun k => match k with
  | _ => .int
abbrev wsJ70 : List Cond := u_ws RJ7 TJ7 0
theorem nmJ7 : ∀ a, a < 0 → ∀ b, b < 0 → a ≠ b → (TJ7 a).2.1 ≠ (TJ7 b).2.1 := by decide +kernel
theorem tyJ7_ok : ∀ k, k < 0 → parseFieldDescriptor (TJ7 k).2.2.1 = some (tyJ7 k) := by decide +kernel
abbrev cJ7_fill_d0a16 : ByteArray := prog_14_method_101_code
def yJ7_fill_d0a16 : MethodName := ⟨RJ7, "fill", "([JJ)V"⟩
abbrev cJ7_fill_53178 : ByteArray := prog_14_method_103_code
def yJ7_fill_53178 : MethodName := ⟨RJ7, "fill", "([II)V"⟩
def RL : String := "TextSolverLaw"
abbrev cL_law : ByteArray := code
def yL_law : MethodName := ⟨RL, "law", "([I)Z"⟩
abbrev vwCl : List vw_C := [(RX0, TX0, 9), (RX1, TX1, 7), (RX2, TX2, 3), (RX3, TX3, 2), (RX4, TX4, 4), (RX5, TX5, 2), (RX6, TX6, 7), (RX7, TX7, 13), (RX8, TX8, 32)]
end
section
/-! methods: class, code, locals, answer, whether a constructor -/
abbrev zM : Type := String × ByteArray × Nat × Option FieldType × Bool
def zown (M : zM) : String := M.1
def zcc (M : zM) : ByteArray := M.2.1
def znl (M : zM) : Nat := M.2.2.1
def zret (M : zM) : Option FieldType := M.2.2.2.1
def zini (M : zM) : Bool := M.2.2.2.2
def mX0_init : zM := (RX0, cX0_init, 1, none, true)
def mJ7_fill_d0a16 : zM := (RJ7, cJ7_fill_d0a16, 5, none, false)
def mX0_forget : zM := (RX0, cX0_forget, 1, none, false)
def mX0_restart : zM := (RX0, cX0_restart, 6, none, false)
def mX0_isBit : zM := (RX0, cX0_isBit, 3, (some .boolean), false)
def mX0_isJudged : zM := (RX0, cX0_isJudged, 2, (some .boolean), false)
def mX0_isSoIn : zM := (RX0, cX0_isSoIn, 2, (some .boolean), false)
def mX0_keep : zM := (RX0, cX0_keep, 4, none, false)
def mX0_ruledOut : zM := (RX0, cX0_ruledOut, 2, (some .long), false)
def mX0_notJudged : zM := (RX0, cX0_notJudged, 2, (some .long), false)
def mX0_hasSecondTerm : zM := (RX0, cX0_hasSecondTerm, 1, (some .boolean), false)
def mX0_isAboutTerm : zM := (RX0, cX0_isAboutTerm, 2, (some .boolean), false)
def mX0_isAboutMachine : zM := (RX0, cX0_isAboutMachine, 2, (some .boolean), false)
def mX5_init : zM := (RX5, cX5_init, 1, none, true)
def mX3_init : zM := (RX3, cX3_init, 1, none, true)
def mX1_init : zM := (RX1, cX1_init, 3, none, true)
def mX1_termAt : zM := (RX1, cX1_termAt, 2, (some (.object "TextSolver$Term")), false)
def mX1_machineAt : zM := (RX1, cX1_machineAt, 2, (some (.object "TextSolver$Machine")), false)
def mX5_lengthWith : zM := (RX5, cX5_lengthWith, 5, (some .int), false)
def mX1_isLonger : zM := (RX1, cX1_isLonger, 4, (some .boolean), false)
def mX1_isOneLength : zM := (RX1, cX1_isOneLength, 3, (some .boolean), false)
def mX3_addLetter : zM := (RX3, cX3_addLetter, 2, none, false)
def mX3_addRow : zM := (RX3, cX3_addRow, 5, none, false)
def mX3_write : zM := (RX3, cX3_write, 5, none, false)
def mX3_agrees : zM := (RX3, cX3_agrees, 6, (some .boolean), false)
def mX3_isSame : zM := (RX3, cX3_isSame, 2, (some .boolean), false)
def mX2_next : zM := (RX2, cX2_next, 4, (some .int), false)
def mX2_isGood : zM := (RX2, cX2_isGood, 2, (some .boolean), false)
def mX2_takes : zM := (RX2, cX2_takes, 4, (some .boolean), false)
def mX3_isBefore : zM := (RX3, cX3_isBefore, 3, (some .boolean), false)
def mX3_placeOf : zM := (RX3, cX3_placeOf, 3, (some .int), false)
def mJ9_floorMod_7cf53 : zM := (RJ9, cJ9_floorMod_7cf53, 3, (some .int), false)
def mX3_hasSum : zM := (RX3, cX3_hasSum, 5, (some .boolean), false)
def mX3_isReplaced : zM := (RX3, cX3_isReplaced, 6, (some .boolean), false)
def mX1_isSo : zM := (RX1, cX1_isSo, 5, (some .boolean), false)
def mX2_init : zM := (RX2, cX2_init, 1, none, true)
def mJ7_fill_53178 : zM := (RJ7, cJ7_fill_53178, 4, none, false)
def mX2_restart : zM := (RX2, cX2_restart, 2, none, false)
def mX2_isState : zM := (RX2, cX2_isState, 2, (some .boolean), false)
def mX2_lead : zM := (RX2, cX2_lead, 5, none, false)
def mX2_setGood : zM := (RX2, cX2_setGood, 3, none, false)
def mX2_shortestWith : zM := (RX2, cX2_shortestWith, 12, (some .int), false)
def mX4_init : zM := (RX4, cX4_init, 1, none, true)
def mX4_restart : zM := (RX4, cX4_restart, 2, none, false)
def mX4_isLetter : zM := (RX4, cX4_isLetter, 2, (some .boolean), false)
def mX4_isText : zM := (RX4, cX4_isText, 2, (some .boolean), false)
def mX4_rowsUpTo : zM := (RX4, cX4_rowsUpTo, 5, (some .int), false)
def mX4_hasRoomFor : zM := (RX4, cX4_hasRoomFor, 2, (some .boolean), false)
def mX4_add : zM := (RX4, cX4_add, 2, none, false)
def mX4_lengthWays : zM := (RX4, cX4_lengthWays, 3, (some .int), false)
def mX5_restart : zM := (RX5, cX5_restart, 1, none, false)
def mX5_add : zM := (RX5, cX5_add, 2, (some .boolean), false)
def mX6_init : zM := (RX6, cX6_init, 2, none, true)
def mX6_layOut : zM := (RX6, cX6_layOut, 2, none, false)
def mX6_restart : zM := (RX6, cX6_restart, 1, none, false)
def mX6_goToNextLengths : zM := (RX6, cX6_goToNextLengths, 2, none, false)
def mX6_goTo : zM := (RX6, cX6_goTo, 4, none, false)
def mX6_lengthOf : zM := (RX6, cX6_lengthOf, 2, (some .int), false)
def mX6_letterOf : zM := (RX6, cX6_letterOf, 3, (some .int), false)
def mX7_init : zM := (RX7, cX7_init, 2, none, true)
def mX7_dropWays : zM := (RX7, cX7_dropWays, 2, none, false)
def mX7_dropFindings : zM := (RX7, cX7_dropFindings, 1, none, false)
def mX7_clear : zM := (RX7, cX7_clear, 3, (some .int), false)
def mX7_text : zM := (RX7, cX7_text, 2, (some .int), false)
def mX7_term : zM := (RX7, cX7_term, 1, (some .int), false)
def mX7_isTerm : zM := (RX7, cX7_isTerm, 2, (some .boolean), false)
def mX7_part : zM := (RX7, cX7_part, 4, (some .int), false)
def mX7_machine : zM := (RX7, cX7_machine, 2, (some .int), false)
def mX7_isMachine : zM := (RX7, cX7_isMachine, 2, (some .boolean), false)
def mX7_dropFindingsOfMachine : zM := (RX7, cX7_dropFindingsOfMachine, 3, none, false)
def mX7_step : zM := (RX7, cX7_step, 7, (some .int), false)
def mX7_asNumber : zM := (RX7, cX7_asNumber, 1, (some .int), false)
def mX7_good : zM := (RX7, cX7_good, 6, (some .int), false)
def mX7_areOthersKnown : zM := (RX7, cX7_areOthersKnown, 5, (some .boolean), false)
def mX7_areNumbersInside : zM := (RX7, cX7_areNumbersInside, 3, (some .boolean), false)
def mX7_formula : zM := (RX7, cX7_formula, 6, (some .int), false)
def mX7_isFormula : zM := (RX7, cX7_isFormula, 2, (some .boolean), false)
def mX7_deny : zM := (RX7, cX7_deny, 4, (some .int), false)
def mX7_leave : zM := (RX7, cX7_leave, 4, (some .int), false)
def mX7_countingFormulas : zM := (RX7, cX7_countingFormulas, 3, (some .int), false)
def mX7_waysIn : zM := (RX7, cX7_waysIn, 3, (some .long), false)
def mX7_isIn : zM := (RX7, cX7_isIn, 2, (some .boolean), false)
def mX7_isModel : zM := (RX7, cX7_isModel, 5, (some .boolean), false)
def mX7_modelsIn : zM := (RX7, cX7_modelsIn, 8, (some .long), false)
def mJ13_bitCount_95d88 : zM := (RJ13, cJ13_bitCount_95d88, 2, (some .int), false)
def mX7_placeOfBit : zM := (RX7, cX7_placeOfBit, 7, (some .int), false)
def mX7_takeInHand : zM := (RX7, cX7_takeInHand, 8, (some .int), false)
def mX7_solve : zM := (RX7, cX7_solve, 1, (some .int), false)
def mX7_model : zM := (RX7, cX7_model, 2, (some .int), false)
def mX7_models : zM := (RX7, cX7_models, 4, (some .int), false)
def mX7_length : zM := (RX7, cX7_length, 2, (some .int), false)
def mX7_letter : zM := (RX7, cX7_letter, 3, (some .int), false)
def mX7_holds : zM := (RX7, cX7_holds, 2, (some .int), false)
def mX7_hasModel : zM := (RX7, cX7_hasModel, 3, (some .boolean), false)
def mJ6_bitCount_0f7a4 : zM := (RJ6, cJ6_bitCount_0f7a4, 1, (some .int), false)
def mX7_core : zM := (RX7, cX7_core, 4, (some .int), false)
def mX7_inCore : zM := (RX7, cX7_inCore, 2, (some .int), false)
def mX7_isLengthFit : zM := (RX7, cX7_isLengthFit, 2, (some .boolean), false)
def mX7_areLengthsFit : zM := (RX7, cX7_areLengthsFit, 3, (some .boolean), false)
def mX7_spans : zM := (RX7, cX7_spans, 4, (some .int), false)
def mX7_meet : zM := (RX7, cX7_meet, 3, (some .int), false)
def mX7_told : zM := (RX7, cX7_told, 2, (some .int), false)
def mX8_init : zM := (RX8, cX8_init, 1, none, true)
def mX8_in : zM := (RX8, cX8_in, 3, (some .boolean), false)
def mX8_changed : zM := (RX8, cX8_changed, 1, none, false)
def mX8_clear : zM := (RX8, cX8_clear, 3, (some .int), false)
def mX8_text : zM := (RX8, cX8_text, 5, (some .int), false)
def mX8_term : zM := (RX8, cX8_term, 1, (some .int), false)
def mX8_part : zM := (RX8, cX8_part, 3, (some .int), false)
def mX8_machine : zM := (RX8, cX8_machine, 3, (some .int), false)
def mX8_step : zM := (RX8, cX8_step, 7, (some .int), false)
def mX8_good : zM := (RX8, cX8_good, 5, (some .int), false)
def mX8_isTerm : zM := (RX8, cX8_isTerm, 2, (some .boolean), false)
def mX8_formula : zM := (RX8, cX8_formula, 8, (some .int), false)
def mX8_deny : zM := (RX8, cX8_deny, 4, (some .int), false)
def mX8_leave : zM := (RX8, cX8_leave, 4, (some .int), false)
def mX8_spell : zM := (RX8, cX8_spell, 7, none, false)
def mX8_found : zM := (RX8, cX8_found, 6, (some .int), false)
def mX8_isTaken : zM := (RX8, cX8_isTaken, 5, (some .boolean), false)
def mX8_make : zM := (RX8, cX8_make, 5, none, false)
def mX8_isReplaced : zM := (RX8, cX8_isReplaced, 4, (some .boolean), false)
def mX8_isSame : zM := (RX8, cX8_isSame, 3, (some .boolean), false)
def mX8_isBefore : zM := (RX8, cX8_isBefore, 2, (some .boolean), false)
def mX8_isSum : zM := (RX8, cX8_isSum, 6, (some .boolean), false)
def mX8_is : zM := (RX8, cX8_is, 2, (some .boolean), false)
def mX8_first : zM := (RX8, cX8_first, 2, none, false)
def mX8_nextLetters : zM := (RX8, cX8_nextLetters, 3, (some .boolean), false)
def mX8_nextLengths : zM := (RX8, cX8_nextLengths, 2, (some .boolean), false)
def mX8_next : zM := (RX8, cX8_next, 1, (some .boolean), false)
def mX8_isModel : zM := (RX8, cX8_isModel, 2, (some .boolean), false)
def mX8_search : zM := (RX8, cX8_search, 4, (some .int), false)
def mX8_stayAll : zM := (RX8, cX8_stayAll, 2, none, false)
def mX8_take : zM := (RX8, cX8_take, 3, (some .boolean), false)
def mX8_solve : zM := (RX8, cX8_solve, 1, (some .int), false)
def mX8_model : zM := (RX8, cX8_model, 2, (some .int), false)
def mX8_models : zM := (RX8, cX8_models, 1, (some .int), false)
def mX8_length : zM := (RX8, cX8_length, 2, (some .int), false)
def mX8_letter : zM := (RX8, cX8_letter, 3, (some .int), false)
def mX8_holds : zM := (RX8, cX8_holds, 3, (some .int), false)
def mX8_core : zM := (RX8, cX8_core, 3, (some .int), false)
def mX8_inCore : zM := (RX8, cX8_inCore, 2, (some .int), false)
def mX8_lengthOf : zM := (RX8, cX8_lengthOf, 5, (some .int), false)
def mX8_spans : zM := (RX8, cX8_spans, 6, (some .int), false)
def mX8_meet : zM := (RX8, cX8_meet, 7, (some .int), false)
def mX8_told : zM := (RX8, cX8_told, 2, (some .int), false)
def mL_law : zM := (RL, cL_law, 4, (some .boolean), false)
end
section
/-! the tables' words that are good, and each by its place -/
def TB : List Cond := lw_tbl.filter goodWord
theorem TB_in {w : Cond} (h : w ∈ TB) : w ∈ lw_tbl := (List.mem_filter.mp h).1
theorem tb_1 {w : Cond} (i : Nat) (h : tables_1_1[i]? = some w) (hg : goodWord w = true) : w ∈ TB := List.mem_filter.mpr ⟨List.mem_append_right _ (List.mem_append_left _ (List.mem_of_getElem? h)), hg⟩
theorem tb_2 {w : Cond} (i : Nat) (h : tables_1_2[i]? = some w) (hg : goodWord w = true) : w ∈ TB := List.mem_filter.mpr ⟨List.mem_append_right _ (List.mem_append_right _ (List.mem_append_left _ (List.mem_of_getElem? h))), hg⟩
theorem tb_3 {w : Cond} (i : Nat) (h : tables_1_3[i]? = some w) (hg : goodWord w = true) : w ∈ TB := List.mem_filter.mpr ⟨List.mem_append_right _ (List.mem_append_right _ (List.mem_append_right _ (List.mem_append_left _ (List.mem_of_getElem? h)))), hg⟩
theorem tb_4 {w : Cond} (i : Nat) (h : tables_1_4[i]? = some w) (hg : goodWord w = true) : w ∈ TB := List.mem_filter.mpr ⟨List.mem_append_right _ (List.mem_append_right _ (List.mem_append_right _ (List.mem_append_right _ (List.mem_of_getElem? h)))), hg⟩
theorem tp_1 {q : MethodName × Nat} (i : Nat) (h : lw_privs_1[i]? = some q) : Cond.selects q.1.cls q.1 q.1 ∈ TB := List.mem_filter.mpr ⟨List.mem_append_left _ (List.mem_map.mpr ⟨q, List.mem_append_left _ (List.mem_of_getElem? h), rfl⟩), rfl⟩
theorem tp_2 {q : MethodName × Nat} (i : Nat) (h : lw_privs_2[i]? = some q) : Cond.selects q.1.cls q.1 q.1 ∈ TB := List.mem_filter.mpr ⟨List.mem_append_left _ (List.mem_map.mpr ⟨q, List.mem_append_right _ (List.mem_append_left _ (List.mem_of_getElem? h)), rfl⟩), rfl⟩
theorem tp_3 {q : MethodName × Nat} (i : Nat) (h : lw_privs_3[i]? = some q) : Cond.selects q.1.cls q.1 q.1 ∈ TB := List.mem_filter.mpr ⟨List.mem_append_left _ (List.mem_map.mpr ⟨q, List.mem_append_right _ (List.mem_append_right _ (List.mem_of_getElem? h)), rfl⟩), rfl⟩
theorem cl_L_7 : Cond.classLink RL 7 RX7 ∈ TB := tb_1 14 rfl rfl
theorem it_RX7 : Cond.instantiable RX7 13 ∈ TB := tb_1 15 rfl rfl
theorem in_RX7 : Cond.initialized RX7 ∈ TB := tb_1 1 rfl rfl
theorem cl_L_10 : Cond.classLink RL 10 RX8 ∈ TB := tb_3 151 rfl rfl
theorem it_RX8 : Cond.instantiable RX8 32 ∈ TB := tb_3 152 rfl rfl
theorem in_RX8 : Cond.initialized RX8 ∈ TB := tb_1 9 rfl rfl
theorem ml_L_9 : Cond.methodLink RL 9 yX7_init ∈ TB := tb_1 16 rfl rfl
theorem im_yX7_init : Cond.instanceMethod yX7_init ∈ TB := tb_1 17 rfl rfl
theorem co_yX7_init : Cond.code yX7_init cX7_init 2 none ∈ TB := tb_1 18 rfl rfl
theorem ml_X7_3 : Cond.methodLink RX7 3 objectInit ∈ TB := tb_1 19 rfl rfl
theorem im_objectInit : Cond.instanceMethod objectInit ∈ TB := tb_1 20 rfl rfl
theorem co_objectInit : Cond.code objectInit ⟨#[0xb1]⟩ 1 none ∈ TB := tb_1 21 rfl rfl
theorem cl_X7_9 : Cond.classLink RX7 9 RX4 ∈ TB := tb_1 22 rfl rfl
theorem it_RX4 : Cond.instantiable RX4 4 ∈ TB := tb_1 23 rfl rfl
theorem in_RX4 : Cond.initialized RX4 ∈ TB := tb_1 2 rfl rfl
theorem fl_X7_12 : Cond.fieldLink RX7 12 "TextSolver" "space" "LTextSolver$Space;" ∈ TB := tb_1 205 rfl rfl
theorem cl_X7_16 : Cond.classLink RX7 16 RX6 ∈ TB := tb_1 48 rfl rfl
theorem it_RX6 : Cond.instantiable RX6 7 ∈ TB := tb_1 49 rfl rfl
theorem in_RX6 : Cond.initialized RX6 ∈ TB := tb_1 3 rfl rfl
theorem fl_X7_21 : Cond.fieldLink RX7 21 "TextSolver" "tried" "LTextSolver$Way;" ∈ TB := tb_1 206 rfl rfl
theorem fl_X7_25 : Cond.fieldLink RX7 25 "TextSolver" "atHand" "LTextSolver$Way;" ∈ TB := tb_1 207 rfl rfl
theorem cl_X7_28 : Cond.classLink RX7 28 RX5 ∈ TB := tb_1 81 rfl rfl
theorem fl_X7_30 : Cond.fieldLink RX7 30 "TextSolver" "terms" "[LTextSolver$Term;" ∈ TB := tb_1 208 rfl rfl
theorem cl_X7_34 : Cond.classLink RX7 34 RX2 ∈ TB := tb_1 83 rfl rfl
theorem fl_X7_36 : Cond.fieldLink RX7 36 "TextSolver" "machines" "[LTextSolver$Machine;" ∈ TB := tb_1 209 rfl rfl
theorem cl_X7_40 : Cond.classLink RX7 40 RX0 ∈ TB := tb_1 85 rfl rfl
theorem fl_X7_42 : Cond.fieldLink RX7 42 "TextSolver" "formulas" "[LTextSolver$Formula;" ∈ TB := tb_1 210 rfl rfl
theorem cl_X7_46 : Cond.classLink RX7 46 RX1 ∈ TB := tb_1 87 rfl rfl
theorem it_RX1 : Cond.instantiable RX1 7 ∈ TB := tb_1 88 rfl rfl
theorem in_RX1 : Cond.initialized RX1 ∈ TB := tb_1 4 rfl rfl
theorem fl_X7_51 : Cond.fieldLink RX7 51 "TextSolver" "judge" "LTextSolver$Judge;" ∈ TB := tb_1 211 rfl rfl
theorem it_RX5 : Cond.instantiable RX5 2 ∈ TB := tb_1 94 rfl rfl
theorem in_RX5 : Cond.initialized RX5 ∈ TB := tb_1 5 rfl rfl
theorem it_RX2 : Cond.instantiable RX2 3 ∈ TB := tb_1 148 rfl rfl
theorem in_RX2 : Cond.initialized RX2 ∈ TB := tb_1 7 rfl rfl
theorem it_RX0 : Cond.instantiable RX0 9 ∈ TB := tb_1 163 rfl rfl
theorem in_RX0 : Cond.initialized RX0 ∈ TB := tb_1 8 rfl rfl
theorem im_yX4_init : Cond.instanceMethod yX4_init ∈ TB := tb_1 25 rfl rfl
theorem co_yX4_init : Cond.code yX4_init cX4_init 1 none ∈ TB := tb_1 26 rfl rfl
theorem ml_X4_3 : Cond.methodLink RX4 3 objectInit ∈ TB := tb_1 27 rfl rfl
theorem ac_int : Cond.arrayClass .int ∈ TB := tb_1 47 rfl rfl
theorem fl_X4_9 : Cond.fieldLink RX4 9 "TextSolver$Space" "mosts" "[I" ∈ TB := tb_1 28 rfl rfl
theorem fl_X4_15 : Cond.fieldLink RX4 15 "TextSolver$Space" "letters" "I" ∈ TB := tb_1 30 rfl rfl
theorem fl_X4_19 : Cond.fieldLink RX4 19 "TextSolver$Space" "size" "I" ∈ TB := tb_1 36 rfl rfl
theorem ml_X7_18 : Cond.methodLink RX7 18 yX6_init ∈ TB := tb_1 50 rfl rfl
theorem im_yX6_init : Cond.instanceMethod yX6_init ∈ TB := tb_1 51 rfl rfl
theorem co_yX6_init : Cond.code yX6_init cX6_init 2 none ∈ TB := tb_1 52 rfl rfl
theorem ml_X6_3 : Cond.methodLink RX6 3 objectInit ∈ TB := tb_1 53 rfl rfl
theorem fl_X6_9 : Cond.fieldLink RX6 9 "TextSolver$Way" "lengths" "[I" ∈ TB := tb_1 55 rfl rfl
theorem fl_X6_15 : Cond.fieldLink RX6 15 "TextSolver$Way" "starts" "[I" ∈ TB := tb_1 59 rfl rfl
theorem fl_X6_18 : Cond.fieldLink RX6 18 "TextSolver$Way" "row" "[I" ∈ TB := tb_1 61 rfl rfl
theorem fl_X6_21 : Cond.fieldLink RX6 21 "TextSolver$Way" "count" "I" ∈ TB := tb_1 65 rfl rfl
theorem fl_X6_25 : Cond.fieldLink RX6 25 "TextSolver$Way" "space" "LTextSolver$Space;" ∈ TB := tb_1 54 rfl rfl
theorem ml_X7_48 : Cond.methodLink RX7 48 yX1_init ∈ TB := tb_1 89 rfl rfl
theorem im_yX1_init : Cond.instanceMethod yX1_init ∈ TB := tb_1 90 rfl rfl
theorem co_yX1_init : Cond.code yX1_init cX1_init 3 none ∈ TB := tb_1 91 rfl rfl
theorem ml_X1_3 : Cond.methodLink RX1 3 objectInit ∈ TB := tb_1 92 rfl rfl
theorem cl_X1_9 : Cond.classLink RX1 9 RX5 ∈ TB := tb_1 93 rfl rfl
theorem fl_X1_12 : Cond.fieldLink RX1 12 "TextSolver$Judge" "nothing" "LTextSolver$Term;" ∈ TB := tb_1 127 rfl rfl
theorem cl_X1_18 : Cond.classLink RX1 18 RX3 ∈ TB := tb_1 109 rfl rfl
theorem it_RX3 : Cond.instantiable RX3 2 ∈ TB := tb_1 110 rfl rfl
theorem in_RX3 : Cond.initialized RX3 ∈ TB := tb_1 6 rfl rfl
theorem fl_X1_21 : Cond.fieldLink RX1 21 "TextSolver$Judge" "a" "LTextSolver$Row;" ∈ TB := tb_1 128 rfl rfl
theorem fl_X1_25 : Cond.fieldLink RX1 25 "TextSolver$Judge" "b" "LTextSolver$Row;" ∈ TB := tb_1 129 rfl rfl
theorem fl_X1_28 : Cond.fieldLink RX1 28 "TextSolver$Judge" "c" "LTextSolver$Row;" ∈ TB := tb_1 130 rfl rfl
theorem fl_X1_31 : Cond.fieldLink RX1 31 "TextSolver$Judge" "d" "LTextSolver$Row;" ∈ TB := tb_1 131 rfl rfl
theorem fl_X1_34 : Cond.fieldLink RX1 34 "TextSolver$Judge" "terms" "[LTextSolver$Term;" ∈ TB := tb_1 125 rfl rfl
theorem fl_X1_38 : Cond.fieldLink RX1 38 "TextSolver$Judge" "machines" "[LTextSolver$Machine;" ∈ TB := tb_1 126 rfl rfl
theorem im_yX5_init : Cond.instanceMethod yX5_init ∈ TB := tb_1 96 rfl rfl
theorem co_yX5_init : Cond.code yX5_init cX5_init 1 none ∈ TB := tb_1 97 rfl rfl
theorem ml_X5_3 : Cond.methodLink RX5 3 objectInit ∈ TB := tb_1 98 rfl rfl
theorem fl_X5_9 : Cond.fieldLink RX5 9 "TextSolver$Term" "parts" "[I" ∈ TB := tb_1 99 rfl rfl
theorem im_yX3_init : Cond.instanceMethod yX3_init ∈ TB := tb_1 112 rfl rfl
theorem co_yX3_init : Cond.code yX3_init cX3_init 1 none ∈ TB := tb_1 113 rfl rfl
theorem ml_X3_3 : Cond.methodLink RX3 3 objectInit ∈ TB := tb_1 114 rfl rfl
theorem fl_X3_9 : Cond.fieldLink RX3 9 "TextSolver$Row" "letters" "[I" ∈ TB := tb_1 115 rfl rfl
theorem im_yX2_init : Cond.instanceMethod yX2_init ∈ TB := tb_1 150 rfl rfl
theorem co_yX2_init : Cond.code yX2_init cX2_init 1 none ∈ TB := tb_1 151 rfl rfl
theorem ml_X2_3 : Cond.methodLink RX2 3 objectInit ∈ TB := tb_1 152 rfl rfl
theorem fl_X2_9 : Cond.fieldLink RX2 9 "TextSolver$Machine" "steps" "[I" ∈ TB := tb_1 153 rfl rfl
theorem fl_X2_15 : Cond.fieldLink RX2 15 "TextSolver$Machine" "states" "I" ∈ TB := tb_1 154 rfl rfl
theorem im_yX0_init : Cond.instanceMethod yX0_init ∈ TB := tb_1 165 rfl rfl
theorem co_yX0_init : Cond.code yX0_init cX0_init 1 none ∈ TB := tb_1 166 rfl rfl
theorem ml_X0_3 : Cond.methodLink RX0 3 objectInit ∈ TB := tb_1 167 rfl rfl
theorem ac_long : Cond.arrayClass .long ∈ TB := tb_1 204 rfl rfl
theorem fl_X0_9 : Cond.fieldLink RX0 9 "TextSolver$Formula" "judged" "[J" ∈ TB := tb_1 168 rfl rfl
theorem fl_X0_15 : Cond.fieldLink RX0 15 "TextSolver$Formula" "so" "[J" ∈ TB := tb_1 169 rfl rfl
theorem ml_L_12 : Cond.methodLink RL 12 yX8_init ∈ TB := tb_3 153 rfl rfl
theorem im_yX8_init : Cond.instanceMethod yX8_init ∈ TB := tb_3 154 rfl rfl
theorem co_yX8_init : Cond.code yX8_init cX8_init 1 none ∈ TB := tb_3 155 rfl rfl
theorem ml_X8_1 : Cond.methodLink RX8 1 objectInit ∈ TB := tb_3 156 rfl rfl
theorem fl_X8_7 : Cond.fieldLink RX8 7 "TextSolverModel" "letters" "I" ∈ TB := tb_3 157 rfl rfl
theorem fl_X8_13 : Cond.fieldLink RX8 13 "TextSolverModel" "most" "[I" ∈ TB := tb_3 159 rfl rfl
theorem fl_X8_17 : Cond.fieldLink RX8 17 "TextSolverModel" "space" "I" ∈ TB := tb_3 160 rfl rfl
theorem fl_X8_20 : Cond.fieldLink RX8 20 "TextSolverModel" "parts" "[I" ∈ TB := tb_3 162 rfl rfl
theorem fl_X8_23 : Cond.fieldLink RX8 23 "TextSolverModel" "part" "[I" ∈ TB := tb_3 163 rfl rfl
theorem fl_X8_26 : Cond.fieldLink RX8 26 "TextSolverModel" "states" "[I" ∈ TB := tb_3 165 rfl rfl
theorem fl_X8_29 : Cond.fieldLink RX8 29 "TextSolverModel" "step" "[I" ∈ TB := tb_3 166 rfl rfl
theorem ac_boolean : Cond.arrayClass .boolean ∈ TB := tb_4 14 rfl rfl
theorem fl_X8_32 : Cond.fieldLink RX8 32 "TextSolverModel" "good" "[Z" ∈ TB := tb_3 167 rfl rfl
theorem fl_X8_36 : Cond.fieldLink RX8 36 "TextSolverModel" "kind" "[I" ∈ TB := tb_3 169 rfl rfl
theorem fl_X8_39 : Cond.fieldLink RX8 39 "TextSolverModel" "a" "[I" ∈ TB := tb_3 170 rfl rfl
theorem fl_X8_42 : Cond.fieldLink RX8 42 "TextSolverModel" "b" "[I" ∈ TB := tb_3 171 rfl rfl
theorem fl_X8_45 : Cond.fieldLink RX8 45 "TextSolverModel" "c" "[I" ∈ TB := tb_3 172 rfl rfl
theorem fl_X8_48 : Cond.fieldLink RX8 48 "TextSolverModel" "d" "[I" ∈ TB := tb_3 173 rfl rfl
theorem fl_X8_51 : Cond.fieldLink RX8 51 "TextSolverModel" "denied" "[Z" ∈ TB := tb_3 174 rfl rfl
theorem fl_X8_54 : Cond.fieldLink RX8 54 "TextSolverModel" "out" "[Z" ∈ TB := tb_3 175 rfl rfl
theorem fl_X8_57 : Cond.fieldLink RX8 57 "TextSolverModel" "handLength" "[I" ∈ TB := tb_3 177 rfl rfl
theorem fl_X8_60 : Cond.fieldLink RX8 60 "TextSolverModel" "handLetter" "[I" ∈ TB := tb_3 178 rfl rfl
theorem fl_X8_63 : Cond.fieldLink RX8 63 "TextSolverModel" "core" "[Z" ∈ TB := tb_3 180 rfl rfl
theorem fl_X8_66 : Cond.fieldLink RX8 66 "TextSolverModel" "length" "[I" ∈ TB := tb_3 181 rfl rfl
theorem fl_X8_69 : Cond.fieldLink RX8 69 "TextSolverModel" "letter" "[I" ∈ TB := tb_3 182 rfl rfl
theorem fl_X8_72 : Cond.fieldLink RX8 72 "TextSolverModel" "row" "[I" ∈ TB := tb_3 183 rfl rfl
theorem fl_X8_75 : Cond.fieldLink RX8 75 "TextSolverModel" "many" "[I" ∈ TB := tb_3 184 rfl rfl
theorem fl_X8_78 : Cond.fieldLink RX8 78 "TextSolverModel" "made" "[I" ∈ TB := tb_3 185 rfl rfl
theorem fl_X8_81 : Cond.fieldLink RX8 81 "TextSolverModel" "gone" "[Z" ∈ TB := tb_3 187 rfl rfl
theorem fl_X8_84 : Cond.fieldLink RX8 84 "TextSolverModel" "far" "[I" ∈ TB := tb_3 188 rfl rfl
theorem ml_L_13 : Cond.methodLink RL 13 yX7_clear ∈ TB := tb_2 5 rfl rfl
theorem im_yX7_clear : Cond.instanceMethod yX7_clear ∈ TB := tb_2 6 rfl rfl
theorem se_yX7_clear : Cond.selects RX7 yX7_clear yX7_clear ∈ TB := tb_2 7 rfl rfl
theorem co_yX7_clear : Cond.code yX7_clear cX7_clear 3 (some .int) ∈ TB := tb_2 8 rfl rfl
theorem fl_X7_58 : Cond.fieldLink RX7 58 "TextSolver" "formulaCount" "I" ∈ TB := tb_1 214 rfl rfl
theorem fl_X7_66 : Cond.fieldLink RX7 66 "TextSolver" "termCount" "I" ∈ TB := tb_1 212 rfl rfl
theorem fl_X7_69 : Cond.fieldLink RX7 69 "TextSolver" "machineCount" "I" ∈ TB := tb_1 213 rfl rfl
theorem ml_X7_62 : Cond.methodLink RX7 62 yX4_restart ∈ TB := tb_2 9 rfl rfl
theorem im_yX4_restart : Cond.instanceMethod yX4_restart ∈ TB := tb_2 10 rfl rfl
theorem se_yX4_restart : Cond.selects RX4 yX4_restart yX4_restart ∈ TB := tb_2 11 rfl rfl
theorem co_yX4_restart : Cond.code yX4_restart cX4_restart 2 none ∈ TB := tb_2 12 rfl rfl
theorem fl_X4_22 : Cond.fieldLink RX4 22 "TextSolver$Space" "texts" "I" ∈ TB := tb_1 33 rfl rfl
theorem ml_X7_72 : Cond.methodLink RX7 72 yX7_dropWays ∈ TB := tb_2 13 rfl rfl
theorem im_yX7_dropWays : Cond.instanceMethod yX7_dropWays ∈ TB := tb_2 15 rfl rfl
theorem se_yX7_dropWays : Cond.selects RX7 yX7_dropWays yX7_dropWays ∈ TB := tp_1 (q := lw_privs_1[0]) 0 rfl
theorem co_yX7_dropWays : Cond.code yX7_dropWays cX7_dropWays 2 none ∈ TB := tb_2 16 rfl rfl
theorem ml_X7_208 : Cond.methodLink RX7 208 yX6_restart ∈ TB := tb_2 17 rfl rfl
theorem im_yX6_restart : Cond.instanceMethod yX6_restart ∈ TB := tb_2 18 rfl rfl
theorem se_yX6_restart : Cond.selects RX6 yX6_restart yX6_restart ∈ TB := tb_2 19 rfl rfl
theorem co_yX6_restart : Cond.code yX6_restart cX6_restart 1 none ∈ TB := tb_2 20 rfl rfl
theorem fl_X6_35 : Cond.fieldLink RX6 35 "TextSolver$Way" "first" "I" ∈ TB := tb_1 64 rfl rfl
theorem ml_X6_29 : Cond.methodLink RX6 29 yJ7_fill_53178 ∈ TB := tb_2 21 rfl rfl
theorem st_yJ7_fill_53178 : Cond.static yJ7_fill_53178 ∈ TB := tb_2 22 rfl rfl
theorem in_RJ7 : Cond.initialized RJ7 ∈ TB := tb_1 10 rfl rfl
theorem co_yJ7_fill_53178 : Cond.code yJ7_fill_53178 cJ7_fill_53178 4 none ∈ TB := tb_2 23 rfl rfl
theorem ml_X6_38 : Cond.methodLink RX6 38 yX6_layOut ∈ TB := tb_2 24 rfl rfl
theorem im_yX6_layOut : Cond.instanceMethod yX6_layOut ∈ TB := tb_2 26 rfl rfl
theorem se_yX6_layOut : Cond.selects RX6 yX6_layOut yX6_layOut ∈ TB := tp_1 (q := lw_privs_1[1]) 1 rfl
theorem co_yX6_layOut : Cond.code yX6_layOut cX6_layOut 2 none ∈ TB := tb_2 27 rfl rfl
theorem fl_X6_41 : Cond.fieldLink RX6 41 "TextSolver$Way" "total" "I" ∈ TB := tb_1 63 rfl rfl
theorem fl_X6_44 : Cond.fieldLink RX6 44 "TextSolver$Space" "texts" "I" ∈ TB := tb_1 34 rfl rfl
theorem fl_X6_49 : Cond.fieldLink RX6 49 "TextSolver$Space" "letters" "I" ∈ TB := tb_1 31 rfl rfl
theorem ml_X7_104 : Cond.methodLink RX7 104 yX0_forget ∈ TB := tb_2 28 rfl rfl
theorem im_yX0_forget : Cond.instanceMethod yX0_forget ∈ TB := tb_2 29 rfl rfl
theorem se_yX0_forget : Cond.selects RX0 yX0_forget yX0_forget ∈ TB := tb_2 30 rfl rfl
theorem co_yX0_forget : Cond.code yX0_forget cX0_forget 1 none ∈ TB := tb_2 31 rfl rfl
theorem ml_X0_44 : Cond.methodLink RX0 44 yJ7_fill_d0a16 ∈ TB := tb_2 32 rfl rfl
theorem st_yJ7_fill_d0a16 : Cond.static yJ7_fill_d0a16 ∈ TB := tb_2 33 rfl rfl
theorem co_yJ7_fill_d0a16 : Cond.code yJ7_fill_d0a16 cJ7_fill_d0a16 5 none ∈ TB := tb_2 34 rfl rfl
theorem ml_X7_75 : Cond.methodLink RX7 75 yX7_dropFindings ∈ TB := tb_2 35 rfl rfl
theorem im_yX7_dropFindings : Cond.instanceMethod yX7_dropFindings ∈ TB := tb_2 37 rfl rfl
theorem se_yX7_dropFindings : Cond.selects RX7 yX7_dropFindings yX7_dropFindings ∈ TB := tp_1 (q := lw_privs_1[2]) 2 rfl
theorem co_yX7_dropFindings : Cond.code yX7_dropFindings cX7_dropFindings 1 none ∈ TB := tb_2 38 rfl rfl
theorem fl_X7_178 : Cond.fieldLink RX7 178 "TextSolver" "isModelAtHand" "Z" ∈ TB := tb_1 215 rfl rfl
theorem fl_X7_197 : Cond.fieldLink RX7 197 "TextSolver" "isCoreFound" "Z" ∈ TB := tb_1 216 rfl rfl
theorem ml_L_17 : Cond.methodLink RL 17 yX8_clear ∈ TB := tb_4 15 rfl rfl
theorem im_yX8_clear : Cond.instanceMethod yX8_clear ∈ TB := tb_4 16 rfl rfl
theorem se_yX8_clear : Cond.selects RX8 yX8_clear yX8_clear ∈ TB := tb_4 17 rfl rfl
theorem co_yX8_clear : Cond.code yX8_clear cX8_clear 3 (some .int) ∈ TB := tb_4 18 rfl rfl
theorem fl_X8_98 : Cond.fieldLink RX8 98 "TextSolverModel" "formulas" "I" ∈ TB := tb_3 168 rfl rfl
theorem fl_X8_101 : Cond.fieldLink RX8 101 "TextSolverModel" "texts" "I" ∈ TB := tb_3 158 rfl rfl
theorem fl_X8_104 : Cond.fieldLink RX8 104 "TextSolverModel" "terms" "I" ∈ TB := tb_3 161 rfl rfl
theorem fl_X8_107 : Cond.fieldLink RX8 107 "TextSolverModel" "machines" "I" ∈ TB := tb_3 164 rfl rfl
theorem ml_X8_94 : Cond.methodLink RX8 94 yX8_in ∈ TB := tb_4 19 rfl rfl
theorem st_yX8_in : Cond.static yX8_in ∈ TB := tb_4 20 rfl rfl
theorem co_yX8_in : Cond.code yX8_in cX8_in 3 (some .boolean) ∈ TB := tb_4 21 rfl rfl
theorem ml_X8_110 : Cond.methodLink RX8 110 yX8_changed ∈ TB := tb_4 22 rfl rfl
theorem im_yX8_changed : Cond.instanceMethod yX8_changed ∈ TB := tb_4 24 rfl rfl
theorem se_yX8_changed : Cond.selects RX8 yX8_changed yX8_changed ∈ TB := tp_2 (q := lw_privs_2[6]) 6 rfl
theorem co_yX8_changed : Cond.code yX8_changed cX8_changed 1 none ∈ TB := tb_4 25 rfl rfl
theorem fl_X8_87 : Cond.fieldLink RX8 87 "TextSolverModel" "isAtHand" "Z" ∈ TB := tb_3 176 rfl rfl
theorem fl_X8_91 : Cond.fieldLink RX8 91 "TextSolverModel" "isCore" "Z" ∈ TB := tb_3 179 rfl rfl
theorem ml_L_18 : Cond.methodLink RL 18 yX7_text ∈ TB := tb_2 39 rfl rfl
theorem im_yX7_text : Cond.instanceMethod yX7_text ∈ TB := tb_2 40 rfl rfl
theorem se_yX7_text : Cond.selects RX7 yX7_text yX7_text ∈ TB := tb_2 41 rfl rfl
theorem co_yX7_text : Cond.code yX7_text cX7_text 2 (some .int) ∈ TB := tb_2 42 rfl rfl
theorem fl_X7_85 : Cond.fieldLink RX7 85 "TextSolver$Space" "texts" "I" ∈ TB := tb_1 35 rfl rfl
theorem ml_X7_78 : Cond.methodLink RX7 78 yX4_hasRoomFor ∈ TB := tb_2 43 rfl rfl
theorem im_yX4_hasRoomFor : Cond.instanceMethod yX4_hasRoomFor ∈ TB := tb_2 44 rfl rfl
theorem se_yX4_hasRoomFor : Cond.selects RX4 yX4_hasRoomFor yX4_hasRoomFor ∈ TB := tb_2 45 rfl rfl
theorem co_yX4_hasRoomFor : Cond.code yX4_hasRoomFor cX4_hasRoomFor 2 (some .boolean) ∈ TB := tb_2 46 rfl rfl
theorem ml_X4_25 : Cond.methodLink RX4 25 yX4_rowsUpTo ∈ TB := tb_2 47 rfl rfl
theorem im_yX4_rowsUpTo : Cond.instanceMethod yX4_rowsUpTo ∈ TB := tb_2 49 rfl rfl
theorem se_yX4_rowsUpTo : Cond.selects RX4 yX4_rowsUpTo yX4_rowsUpTo ∈ TB := tp_1 (q := lw_privs_1[3]) 3 rfl
theorem co_yX4_rowsUpTo : Cond.code yX4_rowsUpTo cX4_rowsUpTo 5 (some .int) ∈ TB := tb_2 50 rfl rfl
theorem ml_X7_82 : Cond.methodLink RX7 82 yX4_add ∈ TB := tb_2 51 rfl rfl
theorem im_yX4_add : Cond.instanceMethod yX4_add ∈ TB := tb_2 52 rfl rfl
theorem se_yX4_add : Cond.selects RX4 yX4_add yX4_add ∈ TB := tb_2 53 rfl rfl
theorem co_yX4_add : Cond.code yX4_add cX4_add 2 none ∈ TB := tb_2 54 rfl rfl
theorem ml_L_21 : Cond.methodLink RL 21 yX8_text ∈ TB := tb_4 26 rfl rfl
theorem im_yX8_text : Cond.instanceMethod yX8_text ∈ TB := tb_4 27 rfl rfl
theorem se_yX8_text : Cond.selects RX8 yX8_text yX8_text ∈ TB := tb_4 28 rfl rfl
theorem co_yX8_text : Cond.code yX8_text cX8_text 5 (some .int) ∈ TB := tb_4 29 rfl rfl
theorem ml_L_22 : Cond.methodLink RL 22 yX7_term ∈ TB := tb_2 55 rfl rfl
theorem im_yX7_term : Cond.instanceMethod yX7_term ∈ TB := tb_2 56 rfl rfl
theorem se_yX7_term : Cond.selects RX7 yX7_term yX7_term ∈ TB := tb_2 57 rfl rfl
theorem co_yX7_term : Cond.code yX7_term cX7_term 1 (some .int) ∈ TB := tb_2 58 rfl rfl
theorem ml_X7_88 : Cond.methodLink RX7 88 yX5_restart ∈ TB := tb_2 59 rfl rfl
theorem im_yX5_restart : Cond.instanceMethod yX5_restart ∈ TB := tb_2 60 rfl rfl
theorem se_yX5_restart : Cond.selects RX5 yX5_restart yX5_restart ∈ TB := tb_2 61 rfl rfl
theorem co_yX5_restart : Cond.code yX5_restart cX5_restart 1 none ∈ TB := tb_2 62 rfl rfl
theorem fl_X5_15 : Cond.fieldLink RX5 15 "TextSolver$Term" "size" "I" ∈ TB := tb_1 101 rfl rfl
theorem ml_L_26 : Cond.methodLink RL 26 yX8_term ∈ TB := tb_4 30 rfl rfl
theorem im_yX8_term : Cond.instanceMethod yX8_term ∈ TB := tb_4 31 rfl rfl
theorem se_yX8_term : Cond.selects RX8 yX8_term yX8_term ∈ TB := tb_4 32 rfl rfl
theorem co_yX8_term : Cond.code yX8_term cX8_term 1 (some .int) ∈ TB := tb_4 33 rfl rfl
theorem ml_L_27 : Cond.methodLink RL 27 yX7_part ∈ TB := tb_2 63 rfl rfl
theorem im_yX7_part : Cond.instanceMethod yX7_part ∈ TB := tb_2 64 rfl rfl
theorem se_yX7_part : Cond.selects RX7 yX7_part yX7_part ∈ TB := tb_2 65 rfl rfl
theorem co_yX7_part : Cond.code yX7_part cX7_part 4 (some .int) ∈ TB := tb_2 66 rfl rfl
theorem fl_X7_107 : Cond.fieldLink RX7 107 "TextSolver$Term" "size" "I" ∈ TB := tb_1 103 rfl rfl
theorem ml_X7_90 : Cond.methodLink RX7 90 yX7_isTerm ∈ TB := tb_2 67 rfl rfl
theorem im_yX7_isTerm : Cond.instanceMethod yX7_isTerm ∈ TB := tb_2 69 rfl rfl
theorem se_yX7_isTerm : Cond.selects RX7 yX7_isTerm yX7_isTerm ∈ TB := tp_1 (q := lw_privs_1[4]) 4 rfl
theorem co_yX7_isTerm : Cond.code yX7_isTerm cX7_isTerm 2 (some .boolean) ∈ TB := tb_2 70 rfl rfl
theorem ml_X7_93 : Cond.methodLink RX7 93 yX4_isLetter ∈ TB := tb_2 71 rfl rfl
theorem im_yX4_isLetter : Cond.instanceMethod yX4_isLetter ∈ TB := tb_2 72 rfl rfl
theorem se_yX4_isLetter : Cond.selects RX4 yX4_isLetter yX4_isLetter ∈ TB := tb_2 73 rfl rfl
theorem co_yX4_isLetter : Cond.code yX4_isLetter cX4_isLetter 2 (some .boolean) ∈ TB := tb_2 74 rfl rfl
theorem ml_X7_96 : Cond.methodLink RX7 96 yX4_isText ∈ TB := tb_2 75 rfl rfl
theorem im_yX4_isText : Cond.instanceMethod yX4_isText ∈ TB := tb_2 76 rfl rfl
theorem se_yX4_isText : Cond.selects RX4 yX4_isText yX4_isText ∈ TB := tb_2 77 rfl rfl
theorem co_yX4_isText : Cond.code yX4_isText cX4_isText 2 (some .boolean) ∈ TB := tb_2 78 rfl rfl
theorem ml_X7_99 : Cond.methodLink RX7 99 yX5_add ∈ TB := tb_2 79 rfl rfl
theorem im_yX5_add : Cond.instanceMethod yX5_add ∈ TB := tb_2 80 rfl rfl
theorem se_yX5_add : Cond.selects RX5 yX5_add yX5_add ∈ TB := tb_2 81 rfl rfl
theorem co_yX5_add : Cond.code yX5_add cX5_add 2 (some .boolean) ∈ TB := tb_2 82 rfl rfl
theorem ml_X7_101 : Cond.methodLink RX7 101 yX0_isAboutTerm ∈ TB := tb_2 83 rfl rfl
theorem im_yX0_isAboutTerm : Cond.instanceMethod yX0_isAboutTerm ∈ TB := tb_2 84 rfl rfl
theorem se_yX0_isAboutTerm : Cond.selects RX0 yX0_isAboutTerm yX0_isAboutTerm ∈ TB := tb_2 85 rfl rfl
theorem co_yX0_isAboutTerm : Cond.code yX0_isAboutTerm cX0_isAboutTerm 2 (some .boolean) ∈ TB := tb_2 86 rfl rfl
theorem fl_X0_22 : Cond.fieldLink RX0 22 "TextSolver$Formula" "a" "I" ∈ TB := tb_1 173 rfl rfl
theorem fl_X0_25 : Cond.fieldLink RX0 25 "TextSolver$Formula" "b" "I" ∈ TB := tb_1 175 rfl rfl
theorem fl_X0_18 : Cond.fieldLink RX0 18 "TextSolver$Formula" "kind" "I" ∈ TB := tb_1 170 rfl rfl
theorem fl_X0_28 : Cond.fieldLink RX0 28 "TextSolver$Formula" "c" "I" ∈ TB := tb_1 177 rfl rfl
theorem fl_X0_31 : Cond.fieldLink RX0 31 "TextSolver$Formula" "d" "I" ∈ TB := tb_1 179 rfl rfl
theorem ml_X0_56 : Cond.methodLink RX0 56 yX0_hasSecondTerm ∈ TB := tb_2 87 rfl rfl
theorem im_yX0_hasSecondTerm : Cond.instanceMethod yX0_hasSecondTerm ∈ TB := tb_2 88 rfl rfl
theorem se_yX0_hasSecondTerm : Cond.selects RX0 yX0_hasSecondTerm yX0_hasSecondTerm ∈ TB := tb_2 89 rfl rfl
theorem co_yX0_hasSecondTerm : Cond.code yX0_hasSecondTerm cX0_hasSecondTerm 1 (some .boolean) ∈ TB := tb_2 90 rfl rfl
theorem ml_L_31 : Cond.methodLink RL 31 yX8_part ∈ TB := tb_4 34 rfl rfl
theorem im_yX8_part : Cond.instanceMethod yX8_part ∈ TB := tb_4 35 rfl rfl
theorem se_yX8_part : Cond.selects RX8 yX8_part yX8_part ∈ TB := tb_4 36 rfl rfl
theorem co_yX8_part : Cond.code yX8_part cX8_part 3 (some .int) ∈ TB := tb_4 37 rfl rfl
theorem ml_L_32 : Cond.methodLink RL 32 yX7_machine ∈ TB := tb_2 91 rfl rfl
theorem im_yX7_machine : Cond.instanceMethod yX7_machine ∈ TB := tb_2 92 rfl rfl
theorem se_yX7_machine : Cond.selects RX7 yX7_machine yX7_machine ∈ TB := tb_2 93 rfl rfl
theorem co_yX7_machine : Cond.code yX7_machine cX7_machine 2 (some .int) ∈ TB := tb_2 94 rfl rfl
theorem ml_X7_110 : Cond.methodLink RX7 110 yX2_restart ∈ TB := tb_2 95 rfl rfl
theorem im_yX2_restart : Cond.instanceMethod yX2_restart ∈ TB := tb_2 96 rfl rfl
theorem se_yX2_restart : Cond.selects RX2 yX2_restart yX2_restart ∈ TB := tb_2 97 rfl rfl
theorem co_yX2_restart : Cond.code yX2_restart cX2_restart 2 none ∈ TB := tb_2 98 rfl rfl
theorem fl_X2_19 : Cond.fieldLink RX2 19 "TextSolver$Machine" "goodStates" "I" ∈ TB := tb_1 155 rfl rfl
theorem ml_X2_22 : Cond.methodLink RX2 22 yJ7_fill_53178 ∈ TB := tb_2 99 rfl rfl
theorem ml_L_35 : Cond.methodLink RL 35 yX8_machine ∈ TB := tb_4 38 rfl rfl
theorem im_yX8_machine : Cond.instanceMethod yX8_machine ∈ TB := tb_4 39 rfl rfl
theorem se_yX8_machine : Cond.selects RX8 yX8_machine yX8_machine ∈ TB := tb_4 40 rfl rfl
theorem co_yX8_machine : Cond.code yX8_machine cX8_machine 3 (some .int) ∈ TB := tb_4 41 rfl rfl
theorem ml_L_36 : Cond.methodLink RL 36 yX7_step ∈ TB := tb_2 100 rfl rfl
theorem im_yX7_step : Cond.instanceMethod yX7_step ∈ TB := tb_2 101 rfl rfl
theorem se_yX7_step : Cond.selects RX7 yX7_step yX7_step ∈ TB := tb_2 102 rfl rfl
theorem co_yX7_step : Cond.code yX7_step cX7_step 7 (some .int) ∈ TB := tb_2 103 rfl rfl
theorem ml_X7_111 : Cond.methodLink RX7 111 yX7_isMachine ∈ TB := tb_2 104 rfl rfl
theorem im_yX7_isMachine : Cond.instanceMethod yX7_isMachine ∈ TB := tb_2 106 rfl rfl
theorem se_yX7_isMachine : Cond.selects RX7 yX7_isMachine yX7_isMachine ∈ TB := tp_1 (q := lw_privs_1[5]) 5 rfl
theorem co_yX7_isMachine : Cond.code yX7_isMachine cX7_isMachine 2 (some .boolean) ∈ TB := tb_2 107 rfl rfl
theorem ml_X7_114 : Cond.methodLink RX7 114 yX2_isState ∈ TB := tb_2 108 rfl rfl
theorem im_yX2_isState : Cond.instanceMethod yX2_isState ∈ TB := tb_2 109 rfl rfl
theorem se_yX2_isState : Cond.selects RX2 yX2_isState yX2_isState ∈ TB := tb_2 110 rfl rfl
theorem co_yX2_isState : Cond.code yX2_isState cX2_isState 2 (some .boolean) ∈ TB := tb_2 111 rfl rfl
theorem ml_X7_117 : Cond.methodLink RX7 117 yX2_next ∈ TB := tb_2 112 rfl rfl
theorem im_yX2_next : Cond.instanceMethod yX2_next ∈ TB := tb_2 113 rfl rfl
theorem se_yX2_next : Cond.selects RX2 yX2_next yX2_next ∈ TB := tb_2 114 rfl rfl
theorem co_yX2_next : Cond.code yX2_next cX2_next 4 (some .int) ∈ TB := tb_2 115 rfl rfl
theorem ml_X7_121 : Cond.methodLink RX7 121 yX2_lead ∈ TB := tb_2 116 rfl rfl
theorem im_yX2_lead : Cond.instanceMethod yX2_lead ∈ TB := tb_2 117 rfl rfl
theorem se_yX2_lead : Cond.selects RX2 yX2_lead yX2_lead ∈ TB := tb_2 118 rfl rfl
theorem co_yX2_lead : Cond.code yX2_lead cX2_lead 5 none ∈ TB := tb_2 119 rfl rfl
theorem ml_X7_125 : Cond.methodLink RX7 125 yX7_dropFindingsOfMachine ∈ TB := tb_2 120 rfl rfl
theorem im_yX7_dropFindingsOfMachine : Cond.instanceMethod yX7_dropFindingsOfMachine ∈ TB := tb_2 122 rfl rfl
theorem se_yX7_dropFindingsOfMachine : Cond.selects RX7 yX7_dropFindingsOfMachine yX7_dropFindingsOfMachine ∈ TB := tp_1 (q := lw_privs_1[6]) 6 rfl
theorem co_yX7_dropFindingsOfMachine : Cond.code yX7_dropFindingsOfMachine cX7_dropFindingsOfMachine 3 none ∈ TB := tb_2 123 rfl rfl
theorem ml_X7_227 : Cond.methodLink RX7 227 yX0_isAboutMachine ∈ TB := tb_2 124 rfl rfl
theorem im_yX0_isAboutMachine : Cond.instanceMethod yX0_isAboutMachine ∈ TB := tb_2 125 rfl rfl
theorem se_yX0_isAboutMachine : Cond.selects RX0 yX0_isAboutMachine yX0_isAboutMachine ∈ TB := tb_2 126 rfl rfl
theorem co_yX0_isAboutMachine : Cond.code yX0_isAboutMachine cX0_isAboutMachine 2 (some .boolean) ∈ TB := tb_2 127 rfl rfl
theorem ml_L_40 : Cond.methodLink RL 40 yX8_step ∈ TB := tb_4 42 rfl rfl
theorem im_yX8_step : Cond.instanceMethod yX8_step ∈ TB := tb_4 43 rfl rfl
theorem se_yX8_step : Cond.selects RX8 yX8_step yX8_step ∈ TB := tb_4 44 rfl rfl
theorem co_yX8_step : Cond.code yX8_step cX8_step 7 (some .int) ∈ TB := tb_4 45 rfl rfl
theorem ml_L_41 : Cond.methodLink RL 41 yX7_good ∈ TB := tb_2 128 rfl rfl
theorem im_yX7_good : Cond.instanceMethod yX7_good ∈ TB := tb_2 129 rfl rfl
theorem se_yX7_good : Cond.selects RX7 yX7_good yX7_good ∈ TB := tb_2 130 rfl rfl
theorem co_yX7_good : Cond.code yX7_good cX7_good 6 (some .int) ∈ TB := tb_2 131 rfl rfl
theorem ml_X7_128 : Cond.methodLink RX7 128 yX2_isGood ∈ TB := tb_2 132 rfl rfl
theorem im_yX2_isGood : Cond.instanceMethod yX2_isGood ∈ TB := tb_2 133 rfl rfl
theorem se_yX2_isGood : Cond.selects RX2 yX2_isGood yX2_isGood ∈ TB := tb_2 134 rfl rfl
theorem co_yX2_isGood : Cond.code yX2_isGood cX2_isGood 2 (some .boolean) ∈ TB := tb_2 135 rfl rfl
theorem ml_X7_131 : Cond.methodLink RX7 131 yX7_asNumber ∈ TB := tb_2 136 rfl rfl
theorem st_yX7_asNumber : Cond.static yX7_asNumber ∈ TB := tb_2 137 rfl rfl
theorem co_yX7_asNumber : Cond.code yX7_asNumber cX7_asNumber 1 (some .int) ∈ TB := tb_2 138 rfl rfl
theorem ml_X7_135 : Cond.methodLink RX7 135 yX2_setGood ∈ TB := tb_2 139 rfl rfl
theorem im_yX2_setGood : Cond.instanceMethod yX2_setGood ∈ TB := tb_2 140 rfl rfl
theorem se_yX2_setGood : Cond.selects RX2 yX2_setGood yX2_setGood ∈ TB := tb_2 141 rfl rfl
theorem co_yX2_setGood : Cond.code yX2_setGood cX2_setGood 3 none ∈ TB := tb_2 142 rfl rfl
theorem ml_L_45 : Cond.methodLink RL 45 yX8_good ∈ TB := tb_4 46 rfl rfl
theorem im_yX8_good : Cond.instanceMethod yX8_good ∈ TB := tb_4 47 rfl rfl
theorem se_yX8_good : Cond.selects RX8 yX8_good yX8_good ∈ TB := tb_4 48 rfl rfl
theorem co_yX8_good : Cond.code yX8_good cX8_good 5 (some .int) ∈ TB := tb_4 49 rfl rfl
theorem ml_L_46 : Cond.methodLink RL 46 yX7_formula ∈ TB := tb_2 143 rfl rfl
theorem im_yX7_formula : Cond.instanceMethod yX7_formula ∈ TB := tb_2 144 rfl rfl
theorem se_yX7_formula : Cond.selects RX7 yX7_formula yX7_formula ∈ TB := tb_2 145 rfl rfl
theorem co_yX7_formula : Cond.code yX7_formula cX7_formula 6 (some .int) ∈ TB := tb_2 146 rfl rfl
theorem ml_X7_139 : Cond.methodLink RX7 139 yX7_areOthersKnown ∈ TB := tb_2 147 rfl rfl
theorem im_yX7_areOthersKnown : Cond.instanceMethod yX7_areOthersKnown ∈ TB := tb_2 149 rfl rfl
theorem se_yX7_areOthersKnown : Cond.selects RX7 yX7_areOthersKnown yX7_areOthersKnown ∈ TB := tp_1 (q := lw_privs_1[7]) 7 rfl
theorem co_yX7_areOthersKnown : Cond.code yX7_areOthersKnown cX7_areOthersKnown 5 (some .boolean) ∈ TB := tb_2 150 rfl rfl
theorem ml_X7_143 : Cond.methodLink RX7 143 yX7_areNumbersInside ∈ TB := tb_2 151 rfl rfl
theorem st_yX7_areNumbersInside : Cond.static yX7_areNumbersInside ∈ TB := tb_2 152 rfl rfl
theorem co_yX7_areNumbersInside : Cond.code yX7_areNumbersInside cX7_areNumbersInside 3 (some .boolean) ∈ TB := tb_2 153 rfl rfl
theorem ml_X7_147 : Cond.methodLink RX7 147 yX0_restart ∈ TB := tb_2 154 rfl rfl
theorem im_yX0_restart : Cond.instanceMethod yX0_restart ∈ TB := tb_2 155 rfl rfl
theorem se_yX0_restart : Cond.selects RX0 yX0_restart yX0_restart ∈ TB := tb_2 156 rfl rfl
theorem co_yX0_restart : Cond.code yX0_restart cX0_restart 6 none ∈ TB := tb_2 157 rfl rfl
theorem fl_X0_34 : Cond.fieldLink RX0 34 "TextSolver$Formula" "isDenied" "Z" ∈ TB := tb_1 181 rfl rfl
theorem fl_X0_38 : Cond.fieldLink RX0 38 "TextSolver$Formula" "isLeftOut" "Z" ∈ TB := tb_1 183 rfl rfl
theorem ml_X0_41 : Cond.methodLink RX0 41 yX0_forget ∈ TB := tb_2 158 rfl rfl
theorem ml_L_50 : Cond.methodLink RL 50 yX8_formula ∈ TB := tb_4 50 rfl rfl
theorem im_yX8_formula : Cond.instanceMethod yX8_formula ∈ TB := tb_4 51 rfl rfl
theorem se_yX8_formula : Cond.selects RX8 yX8_formula yX8_formula ∈ TB := tb_4 52 rfl rfl
theorem co_yX8_formula : Cond.code yX8_formula cX8_formula 8 (some .int) ∈ TB := tb_4 53 rfl rfl
theorem ml_X8_113 : Cond.methodLink RX8 113 yX8_isTerm ∈ TB := tb_4 54 rfl rfl
theorem im_yX8_isTerm : Cond.instanceMethod yX8_isTerm ∈ TB := tb_4 56 rfl rfl
theorem se_yX8_isTerm : Cond.selects RX8 yX8_isTerm yX8_isTerm ∈ TB := tp_2 (q := lw_privs_2[7]) 7 rfl
theorem co_yX8_isTerm : Cond.code yX8_isTerm cX8_isTerm 2 (some .boolean) ∈ TB := tb_4 57 rfl rfl
theorem ml_L_51 : Cond.methodLink RL 51 yX7_deny ∈ TB := tb_2 159 rfl rfl
theorem im_yX7_deny : Cond.instanceMethod yX7_deny ∈ TB := tb_2 160 rfl rfl
theorem se_yX7_deny : Cond.selects RX7 yX7_deny yX7_deny ∈ TB := tb_2 161 rfl rfl
theorem co_yX7_deny : Cond.code yX7_deny cX7_deny 4 (some .int) ∈ TB := tb_2 162 rfl rfl
theorem fl_X7_153 : Cond.fieldLink RX7 153 "TextSolver$Formula" "isDenied" "Z" ∈ TB := tb_1 182 rfl rfl
theorem ml_X7_150 : Cond.methodLink RX7 150 yX7_isFormula ∈ TB := tb_2 163 rfl rfl
theorem im_yX7_isFormula : Cond.instanceMethod yX7_isFormula ∈ TB := tb_2 165 rfl rfl
theorem se_yX7_isFormula : Cond.selects RX7 yX7_isFormula yX7_isFormula ∈ TB := tp_1 (q := lw_privs_1[8]) 8 rfl
theorem co_yX7_isFormula : Cond.code yX7_isFormula cX7_isFormula 2 (some .boolean) ∈ TB := tb_2 166 rfl rfl
theorem ml_L_55 : Cond.methodLink RL 55 yX8_deny ∈ TB := tb_4 58 rfl rfl
theorem im_yX8_deny : Cond.instanceMethod yX8_deny ∈ TB := tb_4 59 rfl rfl
theorem se_yX8_deny : Cond.selects RX8 yX8_deny yX8_deny ∈ TB := tb_4 60 rfl rfl
theorem co_yX8_deny : Cond.code yX8_deny cX8_deny 4 (some .int) ∈ TB := tb_4 61 rfl rfl
theorem ml_L_56 : Cond.methodLink RL 56 yX7_leave ∈ TB := tb_2 167 rfl rfl
theorem im_yX7_leave : Cond.instanceMethod yX7_leave ∈ TB := tb_2 168 rfl rfl
theorem se_yX7_leave : Cond.selects RX7 yX7_leave yX7_leave ∈ TB := tb_2 169 rfl rfl
theorem co_yX7_leave : Cond.code yX7_leave cX7_leave 4 (some .int) ∈ TB := tb_2 170 rfl rfl
theorem fl_X7_157 : Cond.fieldLink RX7 157 "TextSolver$Formula" "isLeftOut" "Z" ∈ TB := tb_1 184 rfl rfl
theorem ml_L_59 : Cond.methodLink RL 59 yX8_leave ∈ TB := tb_4 62 rfl rfl
theorem im_yX8_leave : Cond.instanceMethod yX8_leave ∈ TB := tb_4 63 rfl rfl
theorem se_yX8_leave : Cond.selects RX8 yX8_leave yX8_leave ∈ TB := tb_4 64 rfl rfl
theorem co_yX8_leave : Cond.code yX8_leave cX8_leave 4 (some .int) ∈ TB := tb_4 65 rfl rfl
theorem ml_L_60 : Cond.methodLink RL 60 yX7_solve ∈ TB := tb_2 171 rfl rfl
theorem im_yX7_solve : Cond.instanceMethod yX7_solve ∈ TB := tb_2 172 rfl rfl
theorem se_yX7_solve : Cond.selects RX7 yX7_solve yX7_solve ∈ TB := tb_2 173 rfl rfl
theorem co_yX7_solve : Cond.code yX7_solve cX7_solve 1 (some .int) ∈ TB := tb_2 174 rfl rfl
theorem ml_X7_160 : Cond.methodLink RX7 160 yX7_takeInHand ∈ TB := tb_2 175 rfl rfl
theorem im_yX7_takeInHand : Cond.instanceMethod yX7_takeInHand ∈ TB := tb_2 177 rfl rfl
theorem se_yX7_takeInHand : Cond.selects RX7 yX7_takeInHand yX7_takeInHand ∈ TB := tp_1 (q := lw_privs_1[9]) 9 rfl
theorem co_yX7_takeInHand : Cond.code yX7_takeInHand cX7_takeInHand 8 (some .int) ∈ TB := tb_2 178 rfl rfl
theorem ml_X7_164 : Cond.methodLink RX7 164 yX7_countingFormulas ∈ TB := tb_2 179 rfl rfl
theorem im_yX7_countingFormulas : Cond.instanceMethod yX7_countingFormulas ∈ TB := tb_2 181 rfl rfl
theorem se_yX7_countingFormulas : Cond.selects RX7 yX7_countingFormulas yX7_countingFormulas ∈ TB := tp_1 (q := lw_privs_1[10]) 10 rfl
theorem co_yX7_countingFormulas : Cond.code yX7_countingFormulas cX7_countingFormulas 3 (some .int) ∈ TB := tb_2 182 rfl rfl
theorem ml_X7_168 : Cond.methodLink RX7 168 yX7_modelsIn ∈ TB := tb_2 183 rfl rfl
theorem im_yX7_modelsIn : Cond.instanceMethod yX7_modelsIn ∈ TB := tb_2 185 rfl rfl
theorem se_yX7_modelsIn : Cond.selects RX7 yX7_modelsIn yX7_modelsIn ∈ TB := tp_1 (q := lw_privs_1[11]) 11 rfl
theorem co_yX7_modelsIn : Cond.code yX7_modelsIn cX7_modelsIn 8 (some .long) ∈ TB := tb_2 186 rfl rfl
theorem cn_X7_237 : Cond.constantLong RX7 237 (-1) ∈ TB := tb_2 191 rfl rfl
theorem ml_X7_239 : Cond.methodLink RX7 239 yX7_waysIn ∈ TB := tb_2 187 rfl rfl
theorem im_yX7_waysIn : Cond.instanceMethod yX7_waysIn ∈ TB := tb_2 189 rfl rfl
theorem se_yX7_waysIn : Cond.selects RX7 yX7_waysIn yX7_waysIn ∈ TB := tp_1 (q := lw_privs_1[12]) 12 rfl
theorem co_yX7_waysIn : Cond.code yX7_waysIn cX7_waysIn 3 (some .long) ∈ TB := tb_2 190 rfl rfl
theorem fl_X7_226 : Cond.fieldLink RX7 226 "TextSolver$Space" "size" "I" ∈ TB := tb_1 37 rfl rfl
theorem ml_X7_204 : Cond.methodLink RX7 204 yX7_isIn ∈ TB := tb_2 192 rfl rfl
theorem st_yX7_isIn : Cond.static yX7_isIn ∈ TB := tb_2 193 rfl rfl
theorem co_yX7_isIn : Cond.code yX7_isIn cX7_isIn 2 (some .boolean) ∈ TB := tb_2 194 rfl rfl
theorem ml_X7_243 : Cond.methodLink RX7 243 yX0_ruledOut ∈ TB := tb_2 195 rfl rfl
theorem im_yX0_ruledOut : Cond.instanceMethod yX0_ruledOut ∈ TB := tb_2 196 rfl rfl
theorem se_yX0_ruledOut : Cond.selects RX0 yX0_ruledOut yX0_ruledOut ∈ TB := tb_2 197 rfl rfl
theorem co_yX0_ruledOut : Cond.code yX0_ruledOut cX0_ruledOut 2 (some .long) ∈ TB := tb_2 198 rfl rfl
theorem cn_X0_54 : Cond.constantLong RX0 54 (-1) ∈ TB := tb_2 199 rfl rfl
theorem ml_X7_246 : Cond.methodLink RX7 246 yX0_notJudged ∈ TB := tb_2 200 rfl rfl
theorem im_yX0_notJudged : Cond.instanceMethod yX0_notJudged ∈ TB := tb_2 201 rfl rfl
theorem se_yX0_notJudged : Cond.selects RX0 yX0_notJudged yX0_notJudged ∈ TB := tb_2 202 rfl rfl
theorem co_yX0_notJudged : Cond.code yX0_notJudged cX0_notJudged 2 (some .long) ∈ TB := tb_2 203 rfl rfl
theorem ml_X7_249 : Cond.methodLink RX7 249 yX7_isModel ∈ TB := tb_2 204 rfl rfl
theorem im_yX7_isModel : Cond.instanceMethod yX7_isModel ∈ TB := tb_2 206 rfl rfl
theorem se_yX7_isModel : Cond.selects RX7 yX7_isModel yX7_isModel ∈ TB := tp_1 (q := lw_privs_1[13]) 13 rfl
theorem co_yX7_isModel : Cond.code yX7_isModel cX7_isModel 5 (some .boolean) ∈ TB := tb_2 207 rfl rfl
theorem ml_X7_252 : Cond.methodLink RX7 252 yX0_isJudged ∈ TB := tb_2 208 rfl rfl
theorem im_yX0_isJudged : Cond.instanceMethod yX0_isJudged ∈ TB := tb_2 209 rfl rfl
theorem se_yX0_isJudged : Cond.selects RX0 yX0_isJudged yX0_isJudged ∈ TB := tb_2 210 rfl rfl
theorem co_yX0_isJudged : Cond.code yX0_isJudged cX0_isJudged 2 (some .boolean) ∈ TB := tb_2 211 rfl rfl
theorem ml_X0_50 : Cond.methodLink RX0 50 yX0_isBit ∈ TB := tb_2 212 rfl rfl
theorem st_yX0_isBit : Cond.static yX0_isBit ∈ TB := tb_2 213 rfl rfl
theorem co_yX0_isBit : Cond.code yX0_isBit cX0_isBit 3 (some .boolean) ∈ TB := tb_2 214 rfl rfl
theorem ml_X7_234 : Cond.methodLink RX7 234 yX6_goTo ∈ TB := tb_2 215 rfl rfl
theorem im_yX6_goTo : Cond.instanceMethod yX6_goTo ∈ TB := tb_2 216 rfl rfl
theorem se_yX6_goTo : Cond.selects RX6 yX6_goTo yX6_goTo ∈ TB := tb_2 217 rfl rfl
theorem co_yX6_goTo : Cond.code yX6_goTo cX6_goTo 4 none ∈ TB := tb_2 218 rfl rfl
theorem ml_X6_55 : Cond.methodLink RX6 55 yX6_restart ∈ TB := tb_2 219 rfl rfl
theorem ml_X6_58 : Cond.methodLink RX6 58 yX4_lengthWays ∈ TB := tb_2 220 rfl rfl
theorem im_yX4_lengthWays : Cond.instanceMethod yX4_lengthWays ∈ TB := tb_2 221 rfl rfl
theorem se_yX4_lengthWays : Cond.selects RX4 yX4_lengthWays yX4_lengthWays ∈ TB := tb_2 222 rfl rfl
theorem co_yX4_lengthWays : Cond.code yX4_lengthWays cX4_lengthWays 3 (some .int) ∈ TB := tb_2 223 rfl rfl
theorem ml_X6_62 : Cond.methodLink RX6 62 yX6_goToNextLengths ∈ TB := tb_2 224 rfl rfl
theorem im_yX6_goToNextLengths : Cond.instanceMethod yX6_goToNextLengths ∈ TB := tb_2 225 rfl rfl
theorem se_yX6_goToNextLengths : Cond.selects RX6 yX6_goToNextLengths yX6_goToNextLengths ∈ TB := tb_2 226 rfl rfl
theorem co_yX6_goToNextLengths : Cond.code yX6_goToNextLengths cX6_goToNextLengths 2 none ∈ TB := tb_2 227 rfl rfl
theorem fl_X6_52 : Cond.fieldLink RX6 52 "TextSolver$Space" "mosts" "[I" ∈ TB := tb_1 29 rfl rfl
theorem ml_X7_187 : Cond.methodLink RX7 187 yX1_isSo ∈ TB := tb_2 228 rfl rfl
theorem im_yX1_isSo : Cond.instanceMethod yX1_isSo ∈ TB := tb_2 229 rfl rfl
theorem se_yX1_isSo : Cond.selects RX1 yX1_isSo yX1_isSo ∈ TB := tb_2 230 rfl rfl
theorem co_yX1_isSo : Cond.code yX1_isSo cX1_isSo 5 (some .boolean) ∈ TB := tb_2 231 rfl rfl
theorem fl_X1_59 : Cond.fieldLink RX1 59 "TextSolver$Formula" "kind" "I" ∈ TB := tb_1 171 rfl rfl
theorem fl_X1_62 : Cond.fieldLink RX1 62 "TextSolver$Way" "lengths" "[I" ∈ TB := tb_1 57 rfl rfl
theorem fl_X1_42 : Cond.fieldLink RX1 42 "TextSolver$Formula" "a" "I" ∈ TB := tb_1 174 rfl rfl
theorem fl_X1_55 : Cond.fieldLink RX1 55 "TextSolver$Formula" "b" "I" ∈ TB := tb_1 176 rfl rfl
theorem fl_X1_57 : Cond.fieldLink RX1 57 "TextSolver$Formula" "c" "I" ∈ TB := tb_1 178 rfl rfl
theorem fl_X1_107 : Cond.fieldLink RX1 107 "TextSolver$Formula" "d" "I" ∈ TB := tb_1 180 rfl rfl
theorem fl_X1_109 : Cond.fieldLink RX1 109 "TextSolver$Row" "size" "I" ∈ TB := tb_1 118 rfl rfl
theorem ml_X1_68 : Cond.methodLink RX1 68 yX1_isLonger ∈ TB := tb_2 232 rfl rfl
theorem im_yX1_isLonger : Cond.instanceMethod yX1_isLonger ∈ TB := tb_2 233 rfl rfl
theorem se_yX1_isLonger : Cond.selects RX1 yX1_isLonger yX1_isLonger ∈ TB := tb_2 234 rfl rfl
theorem co_yX1_isLonger : Cond.code yX1_isLonger cX1_isLonger 4 (some .boolean) ∈ TB := tb_2 235 rfl rfl
theorem ml_X1_47 : Cond.methodLink RX1 47 yX1_termAt ∈ TB := tb_2 236 rfl rfl
theorem im_yX1_termAt : Cond.instanceMethod yX1_termAt ∈ TB := tb_2 238 rfl rfl
theorem se_yX1_termAt : Cond.selects RX1 yX1_termAt yX1_termAt ∈ TB := tp_1 (q := lw_privs_1[14]) 14 rfl
theorem co_yX1_termAt : Cond.code yX1_termAt cX1_termAt 2 (some (.object "TextSolver$Term")) ∈ TB := tb_2 239 rfl rfl
theorem ml_X1_51 : Cond.methodLink RX1 51 yX5_lengthWith ∈ TB := tb_3 0 rfl rfl
theorem im_yX5_lengthWith : Cond.instanceMethod yX5_lengthWith ∈ TB := tb_3 1 rfl rfl
theorem se_yX5_lengthWith : Cond.selects RX5 yX5_lengthWith yX5_lengthWith ∈ TB := tb_3 2 rfl rfl
theorem co_yX5_lengthWith : Cond.code yX5_lengthWith cX5_lengthWith 5 (some .int) ∈ TB := tb_3 3 rfl rfl
theorem ml_X1_72 : Cond.methodLink RX1 72 yX1_isOneLength ∈ TB := tb_3 4 rfl rfl
theorem im_yX1_isOneLength : Cond.instanceMethod yX1_isOneLength ∈ TB := tb_3 5 rfl rfl
theorem se_yX1_isOneLength : Cond.selects RX1 yX1_isOneLength yX1_isOneLength ∈ TB := tb_3 6 rfl rfl
theorem co_yX1_isOneLength : Cond.code yX1_isOneLength cX1_isOneLength 3 (some .boolean) ∈ TB := tb_3 7 rfl rfl
theorem ml_X1_75 : Cond.methodLink RX1 75 yX3_write ∈ TB := tb_3 8 rfl rfl
theorem im_yX3_write : Cond.instanceMethod yX3_write ∈ TB := tb_3 9 rfl rfl
theorem se_yX3_write : Cond.selects RX3 yX3_write yX3_write ∈ TB := tb_3 10 rfl rfl
theorem co_yX3_write : Cond.code yX3_write cX3_write 5 none ∈ TB := tb_3 11 rfl rfl
theorem fl_X3_15 : Cond.fieldLink RX3 15 "TextSolver$Row" "size" "I" ∈ TB := tb_1 117 rfl rfl
theorem fl_X3_19 : Cond.fieldLink RX3 19 "TextSolver$Term" "size" "I" ∈ TB := tb_1 102 rfl rfl
theorem fl_X3_22 : Cond.fieldLink RX3 22 "TextSolver$Term" "parts" "[I" ∈ TB := tb_1 100 rfl rfl
theorem fl_X3_29 : Cond.fieldLink RX3 29 "TextSolver$Way" "lengths" "[I" ∈ TB := tb_1 56 rfl rfl
theorem fl_X3_34 : Cond.fieldLink RX3 34 "TextSolver$Way" "row" "[I" ∈ TB := tb_1 62 rfl rfl
theorem fl_X3_37 : Cond.fieldLink RX3 37 "TextSolver$Way" "starts" "[I" ∈ TB := tb_1 60 rfl rfl
theorem ml_X3_25 : Cond.methodLink RX3 25 yX3_addLetter ∈ TB := tb_3 12 rfl rfl
theorem im_yX3_addLetter : Cond.instanceMethod yX3_addLetter ∈ TB := tb_3 14 rfl rfl
theorem se_yX3_addLetter : Cond.selects RX3 yX3_addLetter yX3_addLetter ∈ TB := tp_1 (q := lw_privs_1[15]) 15 rfl
theorem co_yX3_addLetter : Cond.code yX3_addLetter cX3_addLetter 2 none ∈ TB := tb_3 15 rfl rfl
theorem ml_X3_40 : Cond.methodLink RX3 40 yX3_addRow ∈ TB := tb_3 16 rfl rfl
theorem im_yX3_addRow : Cond.instanceMethod yX3_addRow ∈ TB := tb_3 18 rfl rfl
theorem se_yX3_addRow : Cond.selects RX3 yX3_addRow yX3_addRow ∈ TB := tp_2 (q := lw_privs_2[0]) 0 rfl
theorem co_yX3_addRow : Cond.code yX3_addRow cX3_addRow 5 none ∈ TB := tb_3 19 rfl rfl
theorem ml_X1_79 : Cond.methodLink RX1 79 yX0_hasSecondTerm ∈ TB := tb_3 20 rfl rfl
theorem ml_X1_83 : Cond.methodLink RX1 83 yX3_isSame ∈ TB := tb_3 21 rfl rfl
theorem im_yX3_isSame : Cond.instanceMethod yX3_isSame ∈ TB := tb_3 22 rfl rfl
theorem se_yX3_isSame : Cond.selects RX3 yX3_isSame yX3_isSame ∈ TB := tb_3 23 rfl rfl
theorem co_yX3_isSame : Cond.code yX3_isSame cX3_isSame 2 (some .boolean) ∈ TB := tb_3 24 rfl rfl
theorem ml_X3_44 : Cond.methodLink RX3 44 yX3_agrees ∈ TB := tb_3 25 rfl rfl
theorem im_yX3_agrees : Cond.instanceMethod yX3_agrees ∈ TB := tb_3 27 rfl rfl
theorem se_yX3_agrees : Cond.selects RX3 yX3_agrees yX3_agrees ∈ TB := tp_2 (q := lw_privs_2[1]) 1 rfl
theorem co_yX3_agrees : Cond.code yX3_agrees cX3_agrees 6 (some .boolean) ∈ TB := tb_3 28 rfl rfl
theorem ml_X1_87 : Cond.methodLink RX1 87 yX1_machineAt ∈ TB := tb_3 29 rfl rfl
theorem im_yX1_machineAt : Cond.instanceMethod yX1_machineAt ∈ TB := tb_3 31 rfl rfl
theorem se_yX1_machineAt : Cond.selects RX1 yX1_machineAt yX1_machineAt ∈ TB := tp_2 (q := lw_privs_2[2]) 2 rfl
theorem co_yX1_machineAt : Cond.code yX1_machineAt cX1_machineAt 2 (some (.object "TextSolver$Machine")) ∈ TB := tb_3 32 rfl rfl
theorem ml_X1_91 : Cond.methodLink RX1 91 yX2_takes ∈ TB := tb_3 33 rfl rfl
theorem im_yX2_takes : Cond.instanceMethod yX2_takes ∈ TB := tb_3 34 rfl rfl
theorem se_yX2_takes : Cond.selects RX2 yX2_takes yX2_takes ∈ TB := tb_3 35 rfl rfl
theorem co_yX2_takes : Cond.code yX2_takes cX2_takes 4 (some .boolean) ∈ TB := tb_3 36 rfl rfl
theorem fl_X2_28 : Cond.fieldLink RX2 28 "TextSolver$Row" "size" "I" ∈ TB := tb_1 119 rfl rfl
theorem fl_X2_33 : Cond.fieldLink RX2 33 "TextSolver$Row" "letters" "[I" ∈ TB := tb_1 116 rfl rfl
theorem ml_X2_36 : Cond.methodLink RX2 36 yX2_next ∈ TB := tb_3 37 rfl rfl
theorem ml_X2_40 : Cond.methodLink RX2 40 yX2_isGood ∈ TB := tb_3 38 rfl rfl
theorem ml_X1_96 : Cond.methodLink RX1 96 yX3_isBefore ∈ TB := tb_3 39 rfl rfl
theorem im_yX3_isBefore : Cond.instanceMethod yX3_isBefore ∈ TB := tb_3 40 rfl rfl
theorem se_yX3_isBefore : Cond.selects RX3 yX3_isBefore yX3_isBefore ∈ TB := tb_3 41 rfl rfl
theorem co_yX3_isBefore : Cond.code yX3_isBefore cX3_isBefore 3 (some .boolean) ∈ TB := tb_3 42 rfl rfl
theorem ml_X1_99 : Cond.methodLink RX1 99 yX3_placeOf ∈ TB := tb_3 43 rfl rfl
theorem im_yX3_placeOf : Cond.instanceMethod yX3_placeOf ∈ TB := tb_3 44 rfl rfl
theorem se_yX3_placeOf : Cond.selects RX3 yX3_placeOf yX3_placeOf ∈ TB := tb_3 45 rfl rfl
theorem co_yX3_placeOf : Cond.code yX3_placeOf cX3_placeOf 3 (some .int) ∈ TB := tb_3 46 rfl rfl
theorem ml_X1_103 : Cond.methodLink RX1 103 yX3_hasSum ∈ TB := tb_3 47 rfl rfl
theorem im_yX3_hasSum : Cond.instanceMethod yX3_hasSum ∈ TB := tb_3 48 rfl rfl
theorem se_yX3_hasSum : Cond.selects RX3 yX3_hasSum yX3_hasSum ∈ TB := tb_3 49 rfl rfl
theorem co_yX3_hasSum : Cond.code yX3_hasSum cX3_hasSum 5 (some .boolean) ∈ TB := tb_3 50 rfl rfl
theorem ml_X3_48 : Cond.methodLink RX3 48 yJ9_floorMod_7cf53 ∈ TB := tb_3 51 rfl rfl
theorem st_yJ9_floorMod_7cf53 : Cond.static yJ9_floorMod_7cf53 ∈ TB := tb_3 52 rfl rfl
theorem in_RJ9 : Cond.initialized RJ9 ∈ TB := tb_1 11 rfl rfl
theorem co_yJ9_floorMod_7cf53 : Cond.code yJ9_floorMod_7cf53 cJ9_floorMod_7cf53 3 (some .int) ∈ TB := tb_3 53 rfl rfl
theorem ml_X1_112 : Cond.methodLink RX1 112 yX3_isReplaced ∈ TB := tb_3 54 rfl rfl
theorem im_yX3_isReplaced : Cond.instanceMethod yX3_isReplaced ∈ TB := tb_3 55 rfl rfl
theorem se_yX3_isReplaced : Cond.selects RX3 yX3_isReplaced yX3_isReplaced ∈ TB := tb_3 56 rfl rfl
theorem co_yX3_isReplaced : Cond.code yX3_isReplaced cX3_isReplaced 6 (some .boolean) ∈ TB := tb_3 57 rfl rfl
theorem ml_X7_255 : Cond.methodLink RX7 255 yX0_keep ∈ TB := tb_3 58 rfl rfl
theorem im_yX0_keep : Cond.instanceMethod yX0_keep ∈ TB := tb_3 59 rfl rfl
theorem se_yX0_keep : Cond.selects RX0 yX0_keep yX0_keep ∈ TB := tb_3 60 rfl rfl
theorem co_yX0_keep : Cond.code yX0_keep cX0_keep 4 none ∈ TB := tb_3 61 rfl rfl
theorem ml_X7_258 : Cond.methodLink RX7 258 yX0_isSoIn ∈ TB := tb_3 62 rfl rfl
theorem im_yX0_isSoIn : Cond.instanceMethod yX0_isSoIn ∈ TB := tb_3 63 rfl rfl
theorem se_yX0_isSoIn : Cond.selects RX0 yX0_isSoIn yX0_isSoIn ∈ TB := tb_3 64 rfl rfl
theorem co_yX0_isSoIn : Cond.code yX0_isSoIn cX0_isSoIn 2 (some .boolean) ∈ TB := tb_3 65 rfl rfl
theorem ml_X7_172 : Cond.methodLink RX7 172 yJ13_bitCount_95d88 ∈ TB := tb_3 66 rfl rfl
theorem st_yJ13_bitCount_95d88 : Cond.static yJ13_bitCount_95d88 ∈ TB := tb_3 67 rfl rfl
theorem in_RJ13 : Cond.initialized RJ13 ∈ TB := tb_1 12 rfl rfl
theorem co_yJ13_bitCount_95d88 : Cond.code yJ13_bitCount_95d88 cJ13_bitCount_95d88 2 (some .int) ∈ TB := tb_3 68 rfl rfl
theorem cn_J13_314 : Cond.constantLong RJ13 314 (6148914691236517205) ∈ TB := tb_3 69 rfl rfl
theorem cn_J13_316 : Cond.constantLong RJ13 316 (3689348814741910323) ∈ TB := tb_3 70 rfl rfl
theorem cn_J13_318 : Cond.constantLong RJ13 318 (1085102592571150095) ∈ TB := tb_3 71 rfl rfl
theorem ml_X7_230 : Cond.methodLink RX7 230 yX7_placeOfBit ∈ TB := tb_3 72 rfl rfl
theorem st_yX7_placeOfBit : Cond.static yX7_placeOfBit ∈ TB := tb_3 73 rfl rfl
theorem co_yX7_placeOfBit : Cond.code yX7_placeOfBit cX7_placeOfBit 7 (some .int) ∈ TB := tb_3 74 rfl rfl
theorem ml_L_63 : Cond.methodLink RL 63 yX8_solve ∈ TB := tb_4 66 rfl rfl
theorem im_yX8_solve : Cond.instanceMethod yX8_solve ∈ TB := tb_4 67 rfl rfl
theorem se_yX8_solve : Cond.selects RX8 yX8_solve yX8_solve ∈ TB := tb_4 68 rfl rfl
theorem co_yX8_solve : Cond.code yX8_solve cX8_solve 1 (some .int) ∈ TB := tb_4 69 rfl rfl
theorem ml_X8_174 : Cond.methodLink RX8 174 yX8_take ∈ TB := tb_4 70 rfl rfl
theorem im_yX8_take : Cond.instanceMethod yX8_take ∈ TB := tb_4 72 rfl rfl
theorem se_yX8_take : Cond.selects RX8 yX8_take yX8_take ∈ TB := tp_2 (q := lw_privs_2[8]) 8 rfl
theorem co_yX8_take : Cond.code yX8_take cX8_take 3 (some .boolean) ∈ TB := tb_4 73 rfl rfl
theorem ml_X8_167 : Cond.methodLink RX8 167 yX8_stayAll ∈ TB := tb_4 74 rfl rfl
theorem im_yX8_stayAll : Cond.instanceMethod yX8_stayAll ∈ TB := tb_4 76 rfl rfl
theorem se_yX8_stayAll : Cond.selects RX8 yX8_stayAll yX8_stayAll ∈ TB := tp_2 (q := lw_privs_2[9]) 9 rfl
theorem co_yX8_stayAll : Cond.code yX8_stayAll cX8_stayAll 2 none ∈ TB := tb_4 77 rfl rfl
theorem ml_X8_170 : Cond.methodLink RX8 170 yX8_search ∈ TB := tb_4 78 rfl rfl
theorem im_yX8_search : Cond.instanceMethod yX8_search ∈ TB := tb_4 80 rfl rfl
theorem se_yX8_search : Cond.selects RX8 yX8_search yX8_search ∈ TB := tp_2 (q := lw_privs_2[10]) 10 rfl
theorem co_yX8_search : Cond.code yX8_search cX8_search 4 (some .int) ∈ TB := tb_4 81 rfl rfl
theorem ml_X8_158 : Cond.methodLink RX8 158 yX8_first ∈ TB := tb_4 82 rfl rfl
theorem im_yX8_first : Cond.instanceMethod yX8_first ∈ TB := tb_4 84 rfl rfl
theorem se_yX8_first : Cond.selects RX8 yX8_first yX8_first ∈ TB := tp_2 (q := lw_privs_2[11]) 11 rfl
theorem co_yX8_first : Cond.code yX8_first cX8_first 2 none ∈ TB := tb_4 85 rfl rfl
theorem ml_X8_161 : Cond.methodLink RX8 161 yX8_isModel ∈ TB := tb_4 86 rfl rfl
theorem im_yX8_isModel : Cond.instanceMethod yX8_isModel ∈ TB := tb_4 88 rfl rfl
theorem se_yX8_isModel : Cond.selects RX8 yX8_isModel yX8_isModel ∈ TB := tp_2 (q := lw_privs_2[12]) 12 rfl
theorem co_yX8_isModel : Cond.code yX8_isModel cX8_isModel 2 (some .boolean) ∈ TB := tb_4 89 rfl rfl
theorem ml_X8_155 : Cond.methodLink RX8 155 yX8_is ∈ TB := tb_4 90 rfl rfl
theorem im_yX8_is : Cond.instanceMethod yX8_is ∈ TB := tb_4 92 rfl rfl
theorem se_yX8_is : Cond.selects RX8 yX8_is yX8_is ∈ TB := tp_2 (q := lw_privs_2[13]) 13 rfl
theorem co_yX8_is : Cond.code yX8_is cX8_is 2 (some .boolean) ∈ TB := tb_4 93 rfl rfl
theorem ml_X8_128 : Cond.methodLink RX8 128 yX8_spell ∈ TB := tb_4 94 rfl rfl
theorem im_yX8_spell : Cond.instanceMethod yX8_spell ∈ TB := tb_4 96 rfl rfl
theorem se_yX8_spell : Cond.selects RX8 yX8_spell yX8_spell ∈ TB := tp_2 (q := lw_privs_2[14]) 14 rfl
theorem co_yX8_spell : Cond.code yX8_spell cX8_spell 7 none ∈ TB := tb_4 97 rfl rfl
theorem ml_X8_132 : Cond.methodLink RX8 132 yX8_isSame ∈ TB := tb_4 98 rfl rfl
theorem im_yX8_isSame : Cond.instanceMethod yX8_isSame ∈ TB := tb_4 100 rfl rfl
theorem se_yX8_isSame : Cond.selects RX8 yX8_isSame yX8_isSame ∈ TB := tp_2 (q := lw_privs_2[15]) 15 rfl
theorem co_yX8_isSame : Cond.code yX8_isSame cX8_isSame 3 (some .boolean) ∈ TB := tb_4 101 rfl rfl
theorem ml_X8_136 : Cond.methodLink RX8 136 yX8_isTaken ∈ TB := tb_4 102 rfl rfl
theorem im_yX8_isTaken : Cond.instanceMethod yX8_isTaken ∈ TB := tb_4 104 rfl rfl
theorem se_yX8_isTaken : Cond.selects RX8 yX8_isTaken yX8_isTaken ∈ TB := tp_3 (q := lw_privs_3[0]) 0 rfl
theorem co_yX8_isTaken : Cond.code yX8_isTaken cX8_isTaken 5 (some .boolean) ∈ TB := tb_4 105 rfl rfl
theorem ml_X8_140 : Cond.methodLink RX8 140 yX8_isBefore ∈ TB := tb_4 106 rfl rfl
theorem im_yX8_isBefore : Cond.instanceMethod yX8_isBefore ∈ TB := tb_4 108 rfl rfl
theorem se_yX8_isBefore : Cond.selects RX8 yX8_isBefore yX8_isBefore ∈ TB := tp_3 (q := lw_privs_3[1]) 1 rfl
theorem co_yX8_isBefore : Cond.code yX8_isBefore cX8_isBefore 2 (some .boolean) ∈ TB := tb_4 109 rfl rfl
theorem ml_X8_120 : Cond.methodLink RX8 120 yX8_found ∈ TB := tb_4 110 rfl rfl
theorem im_yX8_found : Cond.instanceMethod yX8_found ∈ TB := tb_4 112 rfl rfl
theorem se_yX8_found : Cond.selects RX8 yX8_found yX8_found ∈ TB := tp_3 (q := lw_privs_3[2]) 2 rfl
theorem co_yX8_found : Cond.code yX8_found cX8_found 6 (some .int) ∈ TB := tb_4 113 rfl rfl
theorem ml_X8_143 : Cond.methodLink RX8 143 yX8_isSum ∈ TB := tb_4 114 rfl rfl
theorem im_yX8_isSum : Cond.instanceMethod yX8_isSum ∈ TB := tb_4 116 rfl rfl
theorem se_yX8_isSum : Cond.selects RX8 yX8_isSum yX8_isSum ∈ TB := tp_3 (q := lw_privs_3[3]) 3 rfl
theorem co_yX8_isSum : Cond.code yX8_isSum cX8_isSum 6 (some .boolean) ∈ TB := tb_4 117 rfl rfl
theorem ml_X8_146 : Cond.methodLink RX8 146 yX8_isReplaced ∈ TB := tb_4 118 rfl rfl
theorem im_yX8_isReplaced : Cond.instanceMethod yX8_isReplaced ∈ TB := tb_4 120 rfl rfl
theorem se_yX8_isReplaced : Cond.selects RX8 yX8_isReplaced yX8_isReplaced ∈ TB := tp_3 (q := lw_privs_3[4]) 4 rfl
theorem co_yX8_isReplaced : Cond.code yX8_isReplaced cX8_isReplaced 4 (some .boolean) ∈ TB := tb_4 121 rfl rfl
theorem fl_X8_117 : Cond.fieldLink RX8 117 "TextSolverModel" "madeMany" "I" ∈ TB := tb_3 186 rfl rfl
theorem ml_X8_124 : Cond.methodLink RX8 124 yX8_make ∈ TB := tb_4 122 rfl rfl
theorem im_yX8_make : Cond.instanceMethod yX8_make ∈ TB := tb_4 124 rfl rfl
theorem se_yX8_make : Cond.selects RX8 yX8_make yX8_make ∈ TB := tp_3 (q := lw_privs_3[5]) 5 rfl
theorem co_yX8_make : Cond.code yX8_make cX8_make 5 none ∈ TB := tb_4 125 rfl rfl
theorem ml_X8_164 : Cond.methodLink RX8 164 yX8_next ∈ TB := tb_4 126 rfl rfl
theorem im_yX8_next : Cond.instanceMethod yX8_next ∈ TB := tb_4 128 rfl rfl
theorem se_yX8_next : Cond.selects RX8 yX8_next yX8_next ∈ TB := tp_3 (q := lw_privs_3[6]) 6 rfl
theorem co_yX8_next : Cond.code yX8_next cX8_next 1 (some .boolean) ∈ TB := tb_4 129 rfl rfl
theorem ml_X8_149 : Cond.methodLink RX8 149 yX8_nextLetters ∈ TB := tb_4 130 rfl rfl
theorem im_yX8_nextLetters : Cond.instanceMethod yX8_nextLetters ∈ TB := tb_4 132 rfl rfl
theorem se_yX8_nextLetters : Cond.selects RX8 yX8_nextLetters yX8_nextLetters ∈ TB := tp_3 (q := lw_privs_3[7]) 7 rfl
theorem co_yX8_nextLetters : Cond.code yX8_nextLetters cX8_nextLetters 3 (some .boolean) ∈ TB := tb_4 133 rfl rfl
theorem ml_X8_152 : Cond.methodLink RX8 152 yX8_nextLengths ∈ TB := tb_4 134 rfl rfl
theorem im_yX8_nextLengths : Cond.instanceMethod yX8_nextLengths ∈ TB := tb_4 136 rfl rfl
theorem se_yX8_nextLengths : Cond.selects RX8 yX8_nextLengths yX8_nextLengths ∈ TB := tp_3 (q := lw_privs_3[8]) 8 rfl
theorem co_yX8_nextLengths : Cond.code yX8_nextLengths cX8_nextLengths 2 (some .boolean) ∈ TB := tb_4 137 rfl rfl
theorem ml_L_64 : Cond.methodLink RL 64 yX7_model ∈ TB := tb_3 75 rfl rfl
theorem im_yX7_model : Cond.instanceMethod yX7_model ∈ TB := tb_3 76 rfl rfl
theorem se_yX7_model : Cond.selects RX7 yX7_model yX7_model ∈ TB := tb_3 77 rfl rfl
theorem co_yX7_model : Cond.code yX7_model cX7_model 2 (some .int) ∈ TB := tb_3 78 rfl rfl
theorem ml_L_67 : Cond.methodLink RL 67 yX8_model ∈ TB := tb_4 138 rfl rfl
theorem im_yX8_model : Cond.instanceMethod yX8_model ∈ TB := tb_4 139 rfl rfl
theorem se_yX8_model : Cond.selects RX8 yX8_model yX8_model ∈ TB := tb_4 140 rfl rfl
theorem co_yX8_model : Cond.code yX8_model cX8_model 2 (some .int) ∈ TB := tb_4 141 rfl rfl
theorem ml_L_68 : Cond.methodLink RL 68 yX7_models ∈ TB := tb_3 79 rfl rfl
theorem im_yX7_models : Cond.instanceMethod yX7_models ∈ TB := tb_3 80 rfl rfl
theorem se_yX7_models : Cond.selects RX7 yX7_models yX7_models ∈ TB := tb_3 81 rfl rfl
theorem co_yX7_models : Cond.code yX7_models cX7_models 4 (some .int) ∈ TB := tb_3 82 rfl rfl
theorem ml_L_71 : Cond.methodLink RL 71 yX8_models ∈ TB := tb_4 142 rfl rfl
theorem im_yX8_models : Cond.instanceMethod yX8_models ∈ TB := tb_4 143 rfl rfl
theorem se_yX8_models : Cond.selects RX8 yX8_models yX8_models ∈ TB := tb_4 144 rfl rfl
theorem co_yX8_models : Cond.code yX8_models cX8_models 1 (some .int) ∈ TB := tb_4 145 rfl rfl
theorem ml_L_72 : Cond.methodLink RL 72 yX7_length ∈ TB := tb_3 83 rfl rfl
theorem im_yX7_length : Cond.instanceMethod yX7_length ∈ TB := tb_3 84 rfl rfl
theorem se_yX7_length : Cond.selects RX7 yX7_length yX7_length ∈ TB := tb_3 85 rfl rfl
theorem co_yX7_length : Cond.code yX7_length cX7_length 2 (some .int) ∈ TB := tb_3 86 rfl rfl
theorem ml_X7_181 : Cond.methodLink RX7 181 yX6_lengthOf ∈ TB := tb_3 87 rfl rfl
theorem im_yX6_lengthOf : Cond.instanceMethod yX6_lengthOf ∈ TB := tb_3 88 rfl rfl
theorem se_yX6_lengthOf : Cond.selects RX6 yX6_lengthOf yX6_lengthOf ∈ TB := tb_3 89 rfl rfl
theorem co_yX6_lengthOf : Cond.code yX6_lengthOf cX6_lengthOf 2 (some .int) ∈ TB := tb_3 90 rfl rfl
theorem ml_X6_65 : Cond.methodLink RX6 65 yX4_isText ∈ TB := tb_3 91 rfl rfl
theorem ml_L_75 : Cond.methodLink RL 75 yX8_length ∈ TB := tb_4 146 rfl rfl
theorem im_yX8_length : Cond.instanceMethod yX8_length ∈ TB := tb_4 147 rfl rfl
theorem se_yX8_length : Cond.selects RX8 yX8_length yX8_length ∈ TB := tb_4 148 rfl rfl
theorem co_yX8_length : Cond.code yX8_length cX8_length 2 (some .int) ∈ TB := tb_4 149 rfl rfl
theorem ml_L_76 : Cond.methodLink RL 76 yX7_letter ∈ TB := tb_3 92 rfl rfl
theorem im_yX7_letter : Cond.instanceMethod yX7_letter ∈ TB := tb_3 93 rfl rfl
theorem se_yX7_letter : Cond.selects RX7 yX7_letter yX7_letter ∈ TB := tb_3 94 rfl rfl
theorem co_yX7_letter : Cond.code yX7_letter cX7_letter 3 (some .int) ∈ TB := tb_3 95 rfl rfl
theorem ml_X7_184 : Cond.methodLink RX7 184 yX6_letterOf ∈ TB := tb_3 96 rfl rfl
theorem im_yX6_letterOf : Cond.instanceMethod yX6_letterOf ∈ TB := tb_3 97 rfl rfl
theorem se_yX6_letterOf : Cond.selects RX6 yX6_letterOf yX6_letterOf ∈ TB := tb_3 98 rfl rfl
theorem co_yX6_letterOf : Cond.code yX6_letterOf cX6_letterOf 3 (some .int) ∈ TB := tb_3 99 rfl rfl
theorem ml_X6_69 : Cond.methodLink RX6 69 yX6_lengthOf ∈ TB := tb_3 100 rfl rfl
theorem ml_L_79 : Cond.methodLink RL 79 yX8_letter ∈ TB := tb_4 150 rfl rfl
theorem im_yX8_letter : Cond.instanceMethod yX8_letter ∈ TB := tb_4 151 rfl rfl
theorem se_yX8_letter : Cond.selects RX8 yX8_letter yX8_letter ∈ TB := tb_4 152 rfl rfl
theorem co_yX8_letter : Cond.code yX8_letter cX8_letter 3 (some .int) ∈ TB := tb_4 153 rfl rfl
theorem ml_L_80 : Cond.methodLink RL 80 yX7_holds ∈ TB := tb_3 101 rfl rfl
theorem im_yX7_holds : Cond.instanceMethod yX7_holds ∈ TB := tb_3 102 rfl rfl
theorem se_yX7_holds : Cond.selects RX7 yX7_holds yX7_holds ∈ TB := tb_3 103 rfl rfl
theorem co_yX7_holds : Cond.code yX7_holds cX7_holds 2 (some .int) ∈ TB := tb_3 104 rfl rfl
theorem ml_L_83 : Cond.methodLink RL 83 yX8_holds ∈ TB := tb_4 154 rfl rfl
theorem im_yX8_holds : Cond.instanceMethod yX8_holds ∈ TB := tb_4 155 rfl rfl
theorem se_yX8_holds : Cond.selects RX8 yX8_holds yX8_holds ∈ TB := tb_4 156 rfl rfl
theorem co_yX8_holds : Cond.code yX8_holds cX8_holds 3 (some .int) ∈ TB := tb_4 157 rfl rfl
theorem ml_L_84 : Cond.methodLink RL 84 yX7_core ∈ TB := tb_3 105 rfl rfl
theorem im_yX7_core : Cond.instanceMethod yX7_core ∈ TB := tb_3 106 rfl rfl
theorem se_yX7_core : Cond.selects RX7 yX7_core yX7_core ∈ TB := tb_3 107 rfl rfl
theorem co_yX7_core : Cond.code yX7_core cX7_core 4 (some .int) ∈ TB := tb_3 108 rfl rfl
theorem fl_X7_194 : Cond.fieldLink RX7 194 "TextSolver" "coreMembers" "I" ∈ TB := tb_1 217 rfl rfl
theorem ml_X7_191 : Cond.methodLink RX7 191 yX7_hasModel ∈ TB := tb_3 109 rfl rfl
theorem im_yX7_hasModel : Cond.instanceMethod yX7_hasModel ∈ TB := tb_3 111 rfl rfl
theorem se_yX7_hasModel : Cond.selects RX7 yX7_hasModel yX7_hasModel ∈ TB := tp_2 (q := lw_privs_2[3]) 3 rfl
theorem co_yX7_hasModel : Cond.code yX7_hasModel cX7_hasModel 3 (some .boolean) ∈ TB := tb_3 112 rfl rfl
theorem ml_X7_200 : Cond.methodLink RX7 200 yJ6_bitCount_0f7a4 ∈ TB := tb_3 113 rfl rfl
theorem st_yJ6_bitCount_0f7a4 : Cond.static yJ6_bitCount_0f7a4 ∈ TB := tb_3 114 rfl rfl
theorem in_RJ6 : Cond.initialized RJ6 ∈ TB := tb_1 13 rfl rfl
theorem co_yJ6_bitCount_0f7a4 : Cond.code yJ6_bitCount_0f7a4 cJ6_bitCount_0f7a4 1 (some .int) ∈ TB := tb_3 115 rfl rfl
theorem cn_J6_265 : Cond.constant RJ6 265 (1431655765) ∈ TB := tb_3 116 rfl rfl
theorem cn_J6_266 : Cond.constant RJ6 266 (858993459) ∈ TB := tb_3 117 rfl rfl
theorem cn_J6_267 : Cond.constant RJ6 267 (252645135) ∈ TB := tb_3 118 rfl rfl
theorem ml_L_87 : Cond.methodLink RL 87 yX8_core ∈ TB := tb_4 158 rfl rfl
theorem im_yX8_core : Cond.instanceMethod yX8_core ∈ TB := tb_4 159 rfl rfl
theorem se_yX8_core : Cond.selects RX8 yX8_core yX8_core ∈ TB := tb_4 160 rfl rfl
theorem co_yX8_core : Cond.code yX8_core cX8_core 3 (some .int) ∈ TB := tb_4 161 rfl rfl
theorem ml_L_88 : Cond.methodLink RL 88 yX7_inCore ∈ TB := tb_3 119 rfl rfl
theorem im_yX7_inCore : Cond.instanceMethod yX7_inCore ∈ TB := tb_3 120 rfl rfl
theorem se_yX7_inCore : Cond.selects RX7 yX7_inCore yX7_inCore ∈ TB := tb_3 121 rfl rfl
theorem co_yX7_inCore : Cond.code yX7_inCore cX7_inCore 2 (some .int) ∈ TB := tb_3 122 rfl rfl
theorem ml_L_91 : Cond.methodLink RL 91 yX8_inCore ∈ TB := tb_4 162 rfl rfl
theorem im_yX8_inCore : Cond.instanceMethod yX8_inCore ∈ TB := tb_4 163 rfl rfl
theorem se_yX8_inCore : Cond.selects RX8 yX8_inCore yX8_inCore ∈ TB := tb_4 164 rfl rfl
theorem co_yX8_inCore : Cond.code yX8_inCore cX8_inCore 2 (some .int) ∈ TB := tb_4 165 rfl rfl
theorem ml_L_92 : Cond.methodLink RL 92 yX7_spans ∈ TB := tb_3 123 rfl rfl
theorem im_yX7_spans : Cond.instanceMethod yX7_spans ∈ TB := tb_3 124 rfl rfl
theorem se_yX7_spans : Cond.selects RX7 yX7_spans yX7_spans ∈ TB := tb_3 125 rfl rfl
theorem co_yX7_spans : Cond.code yX7_spans cX7_spans 4 (some .int) ∈ TB := tb_3 126 rfl rfl
theorem ml_X7_209 : Cond.methodLink RX7 209 yX4_lengthWays ∈ TB := tb_3 127 rfl rfl
theorem ml_X7_212 : Cond.methodLink RX7 212 yX7_areLengthsFit ∈ TB := tb_3 128 rfl rfl
theorem im_yX7_areLengthsFit : Cond.instanceMethod yX7_areLengthsFit ∈ TB := tb_3 130 rfl rfl
theorem se_yX7_areLengthsFit : Cond.selects RX7 yX7_areLengthsFit yX7_areLengthsFit ∈ TB := tp_2 (q := lw_privs_2[4]) 4 rfl
theorem co_yX7_areLengthsFit : Cond.code yX7_areLengthsFit cX7_areLengthsFit 3 (some .boolean) ∈ TB := tb_3 131 rfl rfl
theorem ml_X7_261 : Cond.methodLink RX7 261 yX7_isLengthFit ∈ TB := tb_3 132 rfl rfl
theorem im_yX7_isLengthFit : Cond.instanceMethod yX7_isLengthFit ∈ TB := tb_3 134 rfl rfl
theorem se_yX7_isLengthFit : Cond.selects RX7 yX7_isLengthFit yX7_isLengthFit ∈ TB := tp_2 (q := lw_privs_2[5]) 5 rfl
theorem co_yX7_isLengthFit : Cond.code yX7_isLengthFit cX7_isLengthFit 2 (some .boolean) ∈ TB := tb_3 135 rfl rfl
theorem fl_X7_265 : Cond.fieldLink RX7 265 "TextSolver$Formula" "kind" "I" ∈ TB := tb_1 172 rfl rfl
theorem fl_X7_268 : Cond.fieldLink RX7 268 "TextSolver$Way" "lengths" "[I" ∈ TB := tb_1 58 rfl rfl
theorem ml_X7_272 : Cond.methodLink RX7 272 yX1_isLonger ∈ TB := tb_3 136 rfl rfl
theorem ml_X7_276 : Cond.methodLink RX7 276 yX1_isOneLength ∈ TB := tb_3 137 rfl rfl
theorem ml_X7_216 : Cond.methodLink RX7 216 yX6_goToNextLengths ∈ TB := tb_3 138 rfl rfl
theorem ml_L_95 : Cond.methodLink RL 95 yX8_spans ∈ TB := tb_4 166 rfl rfl
theorem im_yX8_spans : Cond.instanceMethod yX8_spans ∈ TB := tb_4 167 rfl rfl
theorem se_yX8_spans : Cond.selects RX8 yX8_spans yX8_spans ∈ TB := tb_4 168 rfl rfl
theorem co_yX8_spans : Cond.code yX8_spans cX8_spans 6 (some .int) ∈ TB := tb_4 169 rfl rfl
theorem ml_X8_177 : Cond.methodLink RX8 177 yX8_lengthOf ∈ TB := tb_4 170 rfl rfl
theorem im_yX8_lengthOf : Cond.instanceMethod yX8_lengthOf ∈ TB := tb_4 172 rfl rfl
theorem se_yX8_lengthOf : Cond.selects RX8 yX8_lengthOf yX8_lengthOf ∈ TB := tp_3 (q := lw_privs_3[9]) 9 rfl
theorem co_yX8_lengthOf : Cond.code yX8_lengthOf cX8_lengthOf 5 (some .int) ∈ TB := tb_4 173 rfl rfl
theorem ml_L_96 : Cond.methodLink RL 96 yX7_meet ∈ TB := tb_3 139 rfl rfl
theorem im_yX7_meet : Cond.instanceMethod yX7_meet ∈ TB := tb_3 140 rfl rfl
theorem se_yX7_meet : Cond.selects RX7 yX7_meet yX7_meet ∈ TB := tb_3 141 rfl rfl
theorem co_yX7_meet : Cond.code yX7_meet cX7_meet 3 (some .int) ∈ TB := tb_3 142 rfl rfl
theorem fl_X7_219 : Cond.fieldLink RX7 219 "TextSolver$Space" "letters" "I" ∈ TB := tb_1 32 rfl rfl
theorem ml_X7_222 : Cond.methodLink RX7 222 yX2_shortestWith ∈ TB := tb_3 143 rfl rfl
theorem im_yX2_shortestWith : Cond.instanceMethod yX2_shortestWith ∈ TB := tb_3 144 rfl rfl
theorem se_yX2_shortestWith : Cond.selects RX2 yX2_shortestWith yX2_shortestWith ∈ TB := tb_3 145 rfl rfl
theorem co_yX2_shortestWith : Cond.code yX2_shortestWith cX2_shortestWith 12 (some .int) ∈ TB := tb_3 146 rfl rfl
theorem ml_L_99 : Cond.methodLink RL 99 yX8_meet ∈ TB := tb_4 174 rfl rfl
theorem im_yX8_meet : Cond.instanceMethod yX8_meet ∈ TB := tb_4 175 rfl rfl
theorem se_yX8_meet : Cond.selects RX8 yX8_meet yX8_meet ∈ TB := tb_4 176 rfl rfl
theorem co_yX8_meet : Cond.code yX8_meet cX8_meet 7 (some .int) ∈ TB := tb_4 177 rfl rfl
theorem ml_L_100 : Cond.methodLink RL 100 yX7_told ∈ TB := tb_3 147 rfl rfl
theorem im_yX7_told : Cond.instanceMethod yX7_told ∈ TB := tb_3 148 rfl rfl
theorem se_yX7_told : Cond.selects RX7 yX7_told yX7_told ∈ TB := tb_3 149 rfl rfl
theorem co_yX7_told : Cond.code yX7_told cX7_told 2 (some .int) ∈ TB := tb_3 150 rfl rfl
theorem ml_L_103 : Cond.methodLink RL 103 yX8_told ∈ TB := tb_4 178 rfl rfl
theorem im_yX8_told : Cond.instanceMethod yX8_told ∈ TB := tb_4 179 rfl rfl
theorem se_yX8_told : Cond.selects RX8 yX8_told yX8_told ∈ TB := tb_4 180 rfl rfl
theorem co_yX8_told : Cond.code yX8_told cX8_told 2 (some .int) ∈ TB := tb_4 181 rfl rfl
theorem la_X0_0 : Cond.laysFinal RX0 "TextSolver$Formula" "judged" "[J" ∈ TB := tb_1 185 rfl rfl
theorem la_X0_1 : Cond.laysFinal RX0 "TextSolver$Formula" "so" "[J" ∈ TB := tb_1 187 rfl rfl
theorem la_X0_2 : Cond.lays RX0 "TextSolver$Formula" "kind" "I" ∈ TB := tb_1 189 rfl rfl
theorem la_X0_3 : Cond.lays RX0 "TextSolver$Formula" "a" "I" ∈ TB := tb_1 191 rfl rfl
theorem la_X0_4 : Cond.lays RX0 "TextSolver$Formula" "b" "I" ∈ TB := tb_1 193 rfl rfl
theorem la_X0_5 : Cond.lays RX0 "TextSolver$Formula" "c" "I" ∈ TB := tb_1 195 rfl rfl
theorem la_X0_6 : Cond.lays RX0 "TextSolver$Formula" "d" "I" ∈ TB := tb_1 197 rfl rfl
theorem la_X0_7 : Cond.lays RX0 "TextSolver$Formula" "isDenied" "Z" ∈ TB := tb_1 199 rfl rfl
theorem la_X0_8 : Cond.lays RX0 "TextSolver$Formula" "isLeftOut" "Z" ∈ TB := tb_1 201 rfl rfl
theorem inlX0 : ∀ w ∈ wsX00, w ∈ TB := (List.forall_mem_cons.mpr ⟨la_X0_0, List.forall_mem_cons.mpr ⟨la_X0_1, List.forall_mem_cons.mpr ⟨la_X0_2, List.forall_mem_cons.mpr ⟨la_X0_3, List.forall_mem_cons.mpr ⟨la_X0_4, List.forall_mem_cons.mpr ⟨la_X0_5, List.forall_mem_cons.mpr ⟨la_X0_6, List.forall_mem_cons.mpr ⟨la_X0_7, List.forall_mem_cons.mpr ⟨la_X0_8, fun _ h => absurd h List.not_mem_nil⟩⟩⟩⟩⟩⟩⟩⟩⟩ : ∀ w ∈ ([Cond.laysFinal RX0 "TextSolver$Formula" "judged" "[J", Cond.laysFinal RX0 "TextSolver$Formula" "so" "[J", Cond.lays RX0 "TextSolver$Formula" "kind" "I", Cond.lays RX0 "TextSolver$Formula" "a" "I", Cond.lays RX0 "TextSolver$Formula" "b" "I", Cond.lays RX0 "TextSolver$Formula" "c" "I", Cond.lays RX0 "TextSolver$Formula" "d" "I", Cond.lays RX0 "TextSolver$Formula" "isDenied" "Z", Cond.lays RX0 "TextSolver$Formula" "isLeftOut" "Z"] : List Cond), w ∈ TB)
theorem la_X1_0 : Cond.laysFinal RX1 "TextSolver$Judge" "terms" "[LTextSolver$Term;" ∈ TB := tb_1 132 rfl rfl
theorem la_X1_1 : Cond.laysFinal RX1 "TextSolver$Judge" "machines" "[LTextSolver$Machine;" ∈ TB := tb_1 134 rfl rfl
theorem la_X1_2 : Cond.laysFinal RX1 "TextSolver$Judge" "nothing" "LTextSolver$Term;" ∈ TB := tb_1 136 rfl rfl
theorem la_X1_3 : Cond.laysFinal RX1 "TextSolver$Judge" "a" "LTextSolver$Row;" ∈ TB := tb_1 138 rfl rfl
theorem la_X1_4 : Cond.laysFinal RX1 "TextSolver$Judge" "b" "LTextSolver$Row;" ∈ TB := tb_1 140 rfl rfl
theorem la_X1_5 : Cond.laysFinal RX1 "TextSolver$Judge" "c" "LTextSolver$Row;" ∈ TB := tb_1 142 rfl rfl
theorem la_X1_6 : Cond.laysFinal RX1 "TextSolver$Judge" "d" "LTextSolver$Row;" ∈ TB := tb_1 144 rfl rfl
theorem inlX1 : ∀ w ∈ wsX10, w ∈ TB := (List.forall_mem_cons.mpr ⟨la_X1_0, List.forall_mem_cons.mpr ⟨la_X1_1, List.forall_mem_cons.mpr ⟨la_X1_2, List.forall_mem_cons.mpr ⟨la_X1_3, List.forall_mem_cons.mpr ⟨la_X1_4, List.forall_mem_cons.mpr ⟨la_X1_5, List.forall_mem_cons.mpr ⟨la_X1_6, fun _ h => absurd h List.not_mem_nil⟩⟩⟩⟩⟩⟩⟩ : ∀ w ∈ ([Cond.laysFinal RX1 "TextSolver$Judge" "terms" "[LTextSolver$Term;", Cond.laysFinal RX1 "TextSolver$Judge" "machines" "[LTextSolver$Machine;", Cond.laysFinal RX1 "TextSolver$Judge" "nothing" "LTextSolver$Term;", Cond.laysFinal RX1 "TextSolver$Judge" "a" "LTextSolver$Row;", Cond.laysFinal RX1 "TextSolver$Judge" "b" "LTextSolver$Row;", Cond.laysFinal RX1 "TextSolver$Judge" "c" "LTextSolver$Row;", Cond.laysFinal RX1 "TextSolver$Judge" "d" "LTextSolver$Row;"] : List Cond), w ∈ TB)
theorem la_X2_0 : Cond.laysFinal RX2 "TextSolver$Machine" "steps" "[I" ∈ TB := tb_1 156 rfl rfl
theorem la_X2_1 : Cond.lays RX2 "TextSolver$Machine" "states" "I" ∈ TB := tb_1 158 rfl rfl
theorem la_X2_2 : Cond.lays RX2 "TextSolver$Machine" "goodStates" "I" ∈ TB := tb_1 160 rfl rfl
theorem inlX2 : ∀ w ∈ wsX20, w ∈ TB := (List.forall_mem_cons.mpr ⟨la_X2_0, List.forall_mem_cons.mpr ⟨la_X2_1, List.forall_mem_cons.mpr ⟨la_X2_2, fun _ h => absurd h List.not_mem_nil⟩⟩⟩ : ∀ w ∈ ([Cond.laysFinal RX2 "TextSolver$Machine" "steps" "[I", Cond.lays RX2 "TextSolver$Machine" "states" "I", Cond.lays RX2 "TextSolver$Machine" "goodStates" "I"] : List Cond), w ∈ TB)
theorem la_X3_0 : Cond.laysFinal RX3 "TextSolver$Row" "letters" "[I" ∈ TB := tb_1 120 rfl rfl
theorem la_X3_1 : Cond.lays RX3 "TextSolver$Row" "size" "I" ∈ TB := tb_1 122 rfl rfl
theorem inlX3 : ∀ w ∈ wsX30, w ∈ TB := (List.forall_mem_cons.mpr ⟨la_X3_0, List.forall_mem_cons.mpr ⟨la_X3_1, fun _ h => absurd h List.not_mem_nil⟩⟩ : ∀ w ∈ ([Cond.laysFinal RX3 "TextSolver$Row" "letters" "[I", Cond.lays RX3 "TextSolver$Row" "size" "I"] : List Cond), w ∈ TB)
theorem la_X4_0 : Cond.laysFinal RX4 "TextSolver$Space" "mosts" "[I" ∈ TB := tb_1 38 rfl rfl
theorem la_X4_1 : Cond.lays RX4 "TextSolver$Space" "letters" "I" ∈ TB := tb_1 40 rfl rfl
theorem la_X4_2 : Cond.lays RX4 "TextSolver$Space" "texts" "I" ∈ TB := tb_1 42 rfl rfl
theorem la_X4_3 : Cond.lays RX4 "TextSolver$Space" "size" "I" ∈ TB := tb_1 44 rfl rfl
theorem inlX4 : ∀ w ∈ wsX40, w ∈ TB := (List.forall_mem_cons.mpr ⟨la_X4_0, List.forall_mem_cons.mpr ⟨la_X4_1, List.forall_mem_cons.mpr ⟨la_X4_2, List.forall_mem_cons.mpr ⟨la_X4_3, fun _ h => absurd h List.not_mem_nil⟩⟩⟩⟩ : ∀ w ∈ ([Cond.laysFinal RX4 "TextSolver$Space" "mosts" "[I", Cond.lays RX4 "TextSolver$Space" "letters" "I", Cond.lays RX4 "TextSolver$Space" "texts" "I", Cond.lays RX4 "TextSolver$Space" "size" "I"] : List Cond), w ∈ TB)
theorem la_X5_0 : Cond.laysFinal RX5 "TextSolver$Term" "parts" "[I" ∈ TB := tb_1 104 rfl rfl
theorem la_X5_1 : Cond.lays RX5 "TextSolver$Term" "size" "I" ∈ TB := tb_1 106 rfl rfl
theorem inlX5 : ∀ w ∈ wsX50, w ∈ TB := (List.forall_mem_cons.mpr ⟨la_X5_0, List.forall_mem_cons.mpr ⟨la_X5_1, fun _ h => absurd h List.not_mem_nil⟩⟩ : ∀ w ∈ ([Cond.laysFinal RX5 "TextSolver$Term" "parts" "[I", Cond.lays RX5 "TextSolver$Term" "size" "I"] : List Cond), w ∈ TB)
theorem la_X6_0 : Cond.laysFinal RX6 "TextSolver$Way" "space" "LTextSolver$Space;" ∈ TB := tb_1 66 rfl rfl
theorem la_X6_1 : Cond.laysFinal RX6 "TextSolver$Way" "lengths" "[I" ∈ TB := tb_1 68 rfl rfl
theorem la_X6_2 : Cond.laysFinal RX6 "TextSolver$Way" "starts" "[I" ∈ TB := tb_1 70 rfl rfl
theorem la_X6_3 : Cond.laysFinal RX6 "TextSolver$Way" "row" "[I" ∈ TB := tb_1 72 rfl rfl
theorem la_X6_4 : Cond.lays RX6 "TextSolver$Way" "total" "I" ∈ TB := tb_1 74 rfl rfl
theorem la_X6_5 : Cond.lays RX6 "TextSolver$Way" "first" "I" ∈ TB := tb_1 76 rfl rfl
theorem la_X6_6 : Cond.lays RX6 "TextSolver$Way" "count" "I" ∈ TB := tb_1 78 rfl rfl
theorem inlX6 : ∀ w ∈ wsX60, w ∈ TB := (List.forall_mem_cons.mpr ⟨la_X6_0, List.forall_mem_cons.mpr ⟨la_X6_1, List.forall_mem_cons.mpr ⟨la_X6_2, List.forall_mem_cons.mpr ⟨la_X6_3, List.forall_mem_cons.mpr ⟨la_X6_4, List.forall_mem_cons.mpr ⟨la_X6_5, List.forall_mem_cons.mpr ⟨la_X6_6, fun _ h => absurd h List.not_mem_nil⟩⟩⟩⟩⟩⟩⟩ : ∀ w ∈ ([Cond.laysFinal RX6 "TextSolver$Way" "space" "LTextSolver$Space;", Cond.laysFinal RX6 "TextSolver$Way" "lengths" "[I", Cond.laysFinal RX6 "TextSolver$Way" "starts" "[I", Cond.laysFinal RX6 "TextSolver$Way" "row" "[I", Cond.lays RX6 "TextSolver$Way" "total" "I", Cond.lays RX6 "TextSolver$Way" "first" "I", Cond.lays RX6 "TextSolver$Way" "count" "I"] : List Cond), w ∈ TB)
theorem la_X7_0 : Cond.laysFinal RX7 "TextSolver" "space" "LTextSolver$Space;" ∈ TB := tb_1 218 rfl rfl
theorem la_X7_1 : Cond.laysFinal RX7 "TextSolver" "tried" "LTextSolver$Way;" ∈ TB := tb_1 220 rfl rfl
theorem la_X7_2 : Cond.laysFinal RX7 "TextSolver" "atHand" "LTextSolver$Way;" ∈ TB := tb_1 222 rfl rfl
theorem la_X7_3 : Cond.laysFinal RX7 "TextSolver" "terms" "[LTextSolver$Term;" ∈ TB := tb_1 224 rfl rfl
theorem la_X7_4 : Cond.laysFinal RX7 "TextSolver" "machines" "[LTextSolver$Machine;" ∈ TB := tb_1 226 rfl rfl
theorem la_X7_5 : Cond.laysFinal RX7 "TextSolver" "formulas" "[LTextSolver$Formula;" ∈ TB := tb_1 228 rfl rfl
theorem la_X7_6 : Cond.laysFinal RX7 "TextSolver" "judge" "LTextSolver$Judge;" ∈ TB := tb_1 230 rfl rfl
theorem la_X7_7 : Cond.lays RX7 "TextSolver" "termCount" "I" ∈ TB := tb_1 232 rfl rfl
theorem la_X7_8 : Cond.lays RX7 "TextSolver" "machineCount" "I" ∈ TB := tb_1 234 rfl rfl
theorem la_X7_9 : Cond.lays RX7 "TextSolver" "formulaCount" "I" ∈ TB := tb_1 236 rfl rfl
theorem la_X7_10 : Cond.lays RX7 "TextSolver" "isModelAtHand" "Z" ∈ TB := tb_1 238 rfl rfl
theorem la_X7_11 : Cond.lays RX7 "TextSolver" "isCoreFound" "Z" ∈ TB := tb_2 0 rfl rfl
theorem la_X7_12 : Cond.lays RX7 "TextSolver" "coreMembers" "I" ∈ TB := tb_2 2 rfl rfl
theorem inlX7 : ∀ w ∈ wsX70, w ∈ TB := (List.forall_mem_cons.mpr ⟨la_X7_0, List.forall_mem_cons.mpr ⟨la_X7_1, List.forall_mem_cons.mpr ⟨la_X7_2, List.forall_mem_cons.mpr ⟨la_X7_3, List.forall_mem_cons.mpr ⟨la_X7_4, List.forall_mem_cons.mpr ⟨la_X7_5, List.forall_mem_cons.mpr ⟨la_X7_6, List.forall_mem_cons.mpr ⟨la_X7_7, List.forall_mem_cons.mpr ⟨la_X7_8, List.forall_mem_cons.mpr ⟨la_X7_9, List.forall_mem_cons.mpr ⟨la_X7_10, List.forall_mem_cons.mpr ⟨la_X7_11, List.forall_mem_cons.mpr ⟨la_X7_12, fun _ h => absurd h List.not_mem_nil⟩⟩⟩⟩⟩⟩⟩⟩⟩⟩⟩⟩⟩ : ∀ w ∈ ([Cond.laysFinal RX7 "TextSolver" "space" "LTextSolver$Space;", Cond.laysFinal RX7 "TextSolver" "tried" "LTextSolver$Way;", Cond.laysFinal RX7 "TextSolver" "atHand" "LTextSolver$Way;", Cond.laysFinal RX7 "TextSolver" "terms" "[LTextSolver$Term;", Cond.laysFinal RX7 "TextSolver" "machines" "[LTextSolver$Machine;", Cond.laysFinal RX7 "TextSolver" "formulas" "[LTextSolver$Formula;", Cond.laysFinal RX7 "TextSolver" "judge" "LTextSolver$Judge;", Cond.lays RX7 "TextSolver" "termCount" "I", Cond.lays RX7 "TextSolver" "machineCount" "I", Cond.lays RX7 "TextSolver" "formulaCount" "I", Cond.lays RX7 "TextSolver" "isModelAtHand" "Z", Cond.lays RX7 "TextSolver" "isCoreFound" "Z", Cond.lays RX7 "TextSolver" "coreMembers" "I"] : List Cond), w ∈ TB)
theorem la_X8_0 : Cond.lays RX8 "TextSolverModel" "letters" "I" ∈ TB := tb_3 189 rfl rfl
theorem la_X8_1 : Cond.lays RX8 "TextSolverModel" "texts" "I" ∈ TB := tb_3 191 rfl rfl
theorem la_X8_2 : Cond.laysFinal RX8 "TextSolverModel" "most" "[I" ∈ TB := tb_3 193 rfl rfl
theorem la_X8_3 : Cond.lays RX8 "TextSolverModel" "space" "I" ∈ TB := tb_3 195 rfl rfl
theorem la_X8_4 : Cond.lays RX8 "TextSolverModel" "terms" "I" ∈ TB := tb_3 197 rfl rfl
theorem la_X8_5 : Cond.laysFinal RX8 "TextSolverModel" "parts" "[I" ∈ TB := tb_3 199 rfl rfl
theorem la_X8_6 : Cond.laysFinal RX8 "TextSolverModel" "part" "[I" ∈ TB := tb_3 201 rfl rfl
theorem la_X8_7 : Cond.lays RX8 "TextSolverModel" "machines" "I" ∈ TB := tb_3 203 rfl rfl
theorem la_X8_8 : Cond.laysFinal RX8 "TextSolverModel" "states" "[I" ∈ TB := tb_3 205 rfl rfl
theorem la_X8_9 : Cond.laysFinal RX8 "TextSolverModel" "step" "[I" ∈ TB := tb_3 207 rfl rfl
theorem la_X8_10 : Cond.laysFinal RX8 "TextSolverModel" "good" "[Z" ∈ TB := tb_3 209 rfl rfl
theorem la_X8_11 : Cond.lays RX8 "TextSolverModel" "formulas" "I" ∈ TB := tb_3 211 rfl rfl
theorem la_X8_12 : Cond.laysFinal RX8 "TextSolverModel" "kind" "[I" ∈ TB := tb_3 213 rfl rfl
theorem la_X8_13 : Cond.laysFinal RX8 "TextSolverModel" "a" "[I" ∈ TB := tb_3 215 rfl rfl
theorem la_X8_14 : Cond.laysFinal RX8 "TextSolverModel" "b" "[I" ∈ TB := tb_3 217 rfl rfl
theorem la_X8_15 : Cond.laysFinal RX8 "TextSolverModel" "c" "[I" ∈ TB := tb_3 219 rfl rfl
theorem la_X8_16 : Cond.laysFinal RX8 "TextSolverModel" "d" "[I" ∈ TB := tb_3 221 rfl rfl
theorem la_X8_17 : Cond.laysFinal RX8 "TextSolverModel" "denied" "[Z" ∈ TB := tb_3 223 rfl rfl
theorem la_X8_18 : Cond.laysFinal RX8 "TextSolverModel" "out" "[Z" ∈ TB := tb_3 225 rfl rfl
theorem la_X8_19 : Cond.lays RX8 "TextSolverModel" "isAtHand" "Z" ∈ TB := tb_3 227 rfl rfl
theorem la_X8_20 : Cond.laysFinal RX8 "TextSolverModel" "handLength" "[I" ∈ TB := tb_3 229 rfl rfl
theorem la_X8_21 : Cond.laysFinal RX8 "TextSolverModel" "handLetter" "[I" ∈ TB := tb_3 231 rfl rfl
theorem la_X8_22 : Cond.lays RX8 "TextSolverModel" "isCore" "Z" ∈ TB := tb_3 233 rfl rfl
theorem la_X8_23 : Cond.laysFinal RX8 "TextSolverModel" "core" "[Z" ∈ TB := tb_3 235 rfl rfl
theorem la_X8_24 : Cond.laysFinal RX8 "TextSolverModel" "length" "[I" ∈ TB := tb_3 237 rfl rfl
theorem la_X8_25 : Cond.laysFinal RX8 "TextSolverModel" "letter" "[I" ∈ TB := tb_3 239 rfl rfl
theorem la_X8_26 : Cond.laysFinal RX8 "TextSolverModel" "row" "[I" ∈ TB := tb_4 1 rfl rfl
theorem la_X8_27 : Cond.laysFinal RX8 "TextSolverModel" "many" "[I" ∈ TB := tb_4 3 rfl rfl
theorem la_X8_28 : Cond.laysFinal RX8 "TextSolverModel" "made" "[I" ∈ TB := tb_4 5 rfl rfl
theorem la_X8_29 : Cond.lays RX8 "TextSolverModel" "madeMany" "I" ∈ TB := tb_4 7 rfl rfl
theorem la_X8_30 : Cond.laysFinal RX8 "TextSolverModel" "gone" "[Z" ∈ TB := tb_4 9 rfl rfl
theorem la_X8_31 : Cond.laysFinal RX8 "TextSolverModel" "far" "[I" ∈ TB := tb_4 11 rfl rfl
theorem inlX8 : ∀ w ∈ wsX80, w ∈ TB := (List.forall_mem_cons.mpr ⟨la_X8_0, List.forall_mem_cons.mpr ⟨la_X8_1, List.forall_mem_cons.mpr ⟨la_X8_2, List.forall_mem_cons.mpr ⟨la_X8_3, List.forall_mem_cons.mpr ⟨la_X8_4, List.forall_mem_cons.mpr ⟨la_X8_5, List.forall_mem_cons.mpr ⟨la_X8_6, List.forall_mem_cons.mpr ⟨la_X8_7, List.forall_mem_cons.mpr ⟨la_X8_8, List.forall_mem_cons.mpr ⟨la_X8_9, List.forall_mem_cons.mpr ⟨la_X8_10, List.forall_mem_cons.mpr ⟨la_X8_11, List.forall_mem_cons.mpr ⟨la_X8_12, List.forall_mem_cons.mpr ⟨la_X8_13, List.forall_mem_cons.mpr ⟨la_X8_14, List.forall_mem_cons.mpr ⟨la_X8_15, List.forall_mem_cons.mpr ⟨la_X8_16, List.forall_mem_cons.mpr ⟨la_X8_17, List.forall_mem_cons.mpr ⟨la_X8_18, List.forall_mem_cons.mpr ⟨la_X8_19, List.forall_mem_cons.mpr ⟨la_X8_20, List.forall_mem_cons.mpr ⟨la_X8_21, List.forall_mem_cons.mpr ⟨la_X8_22, List.forall_mem_cons.mpr ⟨la_X8_23, List.forall_mem_cons.mpr ⟨la_X8_24, List.forall_mem_cons.mpr ⟨la_X8_25, List.forall_mem_cons.mpr ⟨la_X8_26, List.forall_mem_cons.mpr ⟨la_X8_27, List.forall_mem_cons.mpr ⟨la_X8_28, List.forall_mem_cons.mpr ⟨la_X8_29, List.forall_mem_cons.mpr ⟨la_X8_30, List.forall_mem_cons.mpr ⟨la_X8_31, fun _ h => absurd h List.not_mem_nil⟩⟩⟩⟩⟩⟩⟩⟩⟩⟩⟩⟩⟩⟩⟩⟩⟩⟩⟩⟩⟩⟩⟩⟩⟩⟩⟩⟩⟩⟩⟩⟩ : ∀ w ∈ ([Cond.lays RX8 "TextSolverModel" "letters" "I", Cond.lays RX8 "TextSolverModel" "texts" "I", Cond.laysFinal RX8 "TextSolverModel" "most" "[I", Cond.lays RX8 "TextSolverModel" "space" "I", Cond.lays RX8 "TextSolverModel" "terms" "I", Cond.laysFinal RX8 "TextSolverModel" "parts" "[I", Cond.laysFinal RX8 "TextSolverModel" "part" "[I", Cond.lays RX8 "TextSolverModel" "machines" "I", Cond.laysFinal RX8 "TextSolverModel" "states" "[I", Cond.laysFinal RX8 "TextSolverModel" "step" "[I", Cond.laysFinal RX8 "TextSolverModel" "good" "[Z", Cond.lays RX8 "TextSolverModel" "formulas" "I", Cond.laysFinal RX8 "TextSolverModel" "kind" "[I", Cond.laysFinal RX8 "TextSolverModel" "a" "[I", Cond.laysFinal RX8 "TextSolverModel" "b" "[I", Cond.laysFinal RX8 "TextSolverModel" "c" "[I", Cond.laysFinal RX8 "TextSolverModel" "d" "[I", Cond.laysFinal RX8 "TextSolverModel" "denied" "[Z", Cond.laysFinal RX8 "TextSolverModel" "out" "[Z", Cond.lays RX8 "TextSolverModel" "isAtHand" "Z", Cond.laysFinal RX8 "TextSolverModel" "handLength" "[I", Cond.laysFinal RX8 "TextSolverModel" "handLetter" "[I", Cond.lays RX8 "TextSolverModel" "isCore" "Z", Cond.laysFinal RX8 "TextSolverModel" "core" "[Z", Cond.laysFinal RX8 "TextSolverModel" "length" "[I", Cond.laysFinal RX8 "TextSolverModel" "letter" "[I", Cond.laysFinal RX8 "TextSolverModel" "row" "[I", Cond.laysFinal RX8 "TextSolverModel" "many" "[I", Cond.laysFinal RX8 "TextSolverModel" "made" "[I", Cond.lays RX8 "TextSolverModel" "madeMany" "I", Cond.laysFinal RX8 "TextSolverModel" "gone" "[Z", Cond.laysFinal RX8 "TextSolverModel" "far" "[I"] : List Cond), w ∈ TB)
end
section
/-! THE JUDGEMENT Wq: the machine at a frame, the whole heap a function from cell numbers to contents (cell k + 1 at address base + k; cell 0 the script) -/
theorem TB_goodIn {w : Cond} (h : w ∈ TB) : (w.onTables && w.keeps) = true ∨ ∃ ty, w = .arrayClass ty := good_of_word (List.mem_filter.mp h).2
theorem zGood {w : Cond} (h : w ∈ TB) : GoodIn TB (w :: TB) := fun x hx => by
  have hm : x ∈ TB := by
    rcases List.mem_cons.mp hx with e | e
    · rw [e]; exact h
    · exact e
  exact ⟨hm, TB_goodIn hm⟩
abbrev zE : Type := (Nat × vp_A) ⊕ (Nat × List Value)
def zA (b base : Nat) : Nat → Nat
  | 0 => b
  | k + 1 => base + k
def zV (b base : Nat) : Value → Value
  | .ref k => .ref (zA b base k)
  | v => v
def zF (b base : Nat) : vp_A → vp_A
  | (n, .inr (.inr (.inr (.inr f)))) => (n, .inr (.inr (.inr (.inr (fun j => (f j).map (zA b base))))))
  | (n, .inl f) => (n, .inl f)
  | (n, .inr (.inl f)) => (n, .inr (.inl f))
  | (n, .inr (.inr (.inl f))) => (n, .inr (.inr (.inl f)))
  | (n, .inr (.inr (.inr (.inl f)))) => (n, .inr (.inr (.inr (.inl f))))
def zX (cA : Nat → ClassId) (b base : Nat) : zE → va_E
  | .inl (t, a) => .inl (cA t, zF b base a)
  | .inr (ci, fs) => .inr (ci, fs.map (zV b base))
def zW (cA : Nat → ClassId) (b base N : Nat) (g : Nat → zE) : va_W := (List.range N).map (fun k => (base + k, zX cA b base (g (k + 1))))
def zTys (cA : Nat → ClassId) : List (ClassId × FieldType) := [(cA 0, .int), (cA 1, .long), (cA 2, .boolean), (cA 3, .object RX5), (cA 4, .object RX2), (cA 5, .object RX0)]
def zR (D : va_G) (cA : Nat → ClassId) (b base N : Nat) (g : Nat → zE) (H : Heap) : Prop := H.size = base + N ∧ va_P D vwCl (zW cA b base N g) H
theorem zV_cat (b base : Nat) (v : Value) : (zV b base v).category = v.category := by cases v <;> rfl
theorem zW_len {cA : Nat → ClassId} {b base N : Nat} {g : Nat → zE} : (zW cA b base N g).length = N := by simp [zW]
theorem zW_get {cA : Nat → ClassId} {b base N : Nat} {g : Nat → zE} {k : Nat} (hk : k < N) : (zW cA b base N g)[k]? = some (base + k, zX cA b base (g (k + 1))) := by
  simp [zW, hk]
theorem zW_inv {cA : Nat → ClassId} {b base N : Nat} {g : Nat → zE} {k : Nat} {q : Nat × va_E} (h : (zW cA b base N g)[k]? = some q) : k < N ∧ q = (base + k, zX cA b base (g (k + 1))) := by
  have hl : k < N := by
    have := (List.getElem?_eq_some_iff.mp h).1
    rw [zW_len] at this
    exact this
  rw [zW_get hl] at h
  exact ⟨hl, (Option.some.inj h).symm⟩
theorem zW_D {cA : Nat → ClassId} {b base N : Nat} {g : Nat → zE} : va_D (fun q : Nat => base ≤ q) (zW cA b base N g) := by
  refine ⟨fun i j p q hi hj h => ?_, fun k q hk => ?_⟩
  · obtain ⟨-, rfl⟩ := zW_inv hi
    obtain ⟨-, rfl⟩ := zW_inv hj
    have h : base + i = base + j := h
    omega
  · obtain ⟨-, rfl⟩ := zW_inv hk
    exact Nat.le_add_right base k
theorem zW_set {cA : Nat → ClassId} {b base N : Nat} {g : Nat → zE} {k : Nat} {e : zE} {e' : va_E} (he : zX cA b base e = e') : (zW cA b base N g).set k (base + k, e') = zW cA b base N (va_up g (k + 1) e) := by
  apply List.ext_getElem?
  intro i
  by_cases hi : i < N
  · by_cases hik : i = k
    · subst hik
      rw [List.getElem?_set_self (by rw [zW_len]; exact hi), zW_get hi]
      simp [va_up, he]
    · rw [List.getElem?_set_ne (Ne.symm hik), zW_get hi, zW_get hi]
      simp [va_up, hik]
  · rw [List.getElem?_eq_none (by rw [List.length_set, zW_len]; omega), List.getElem?_eq_none (by rw [zW_len]; omega)]
theorem zW_push {cA : Nat → ClassId} {b base N : Nat} {g : Nat → zE} {e : zE} : zW cA b base (N + 1) (va_up g (N + 1) e) = zW cA b base N g ++ [(base + N, zX cA b base e)] := by
  apply List.ext_getElem?
  intro i
  by_cases hi : i < N
  · rw [zW_get (by omega), List.getElem?_append_left (by rw [zW_len]; exact hi), zW_get hi]
    have : ¬ i = N := by omega
    simp [va_up, this]
  · by_cases hN : i = N
    · subst hN
      rw [zW_get (by omega), List.getElem?_append_right (by rw [zW_len]; exact Nat.le_refl i), zW_len, Nat.sub_self]
      simp [va_up]
    · rw [List.getElem?_eq_none (by rw [zW_len]; omega), List.getElem?_eq_none (by rw [List.length_append, zW_len]; simp; omega)]
theorem zW_congr {cA : Nat → ClassId} {b base N : Nat} {g g' : Nat → zE} (h : ∀ k, k < N → g (k + 1) = g' (k + 1)) : zW cA b base N g = zW cA b base N g' := by
  apply List.ext_getElem?
  intro i
  by_cases hi : i < N
  · rw [zW_get hi, zW_get hi, h i hi]
  · rw [List.getElem?_eq_none (by rw [zW_len]; omega), List.getElem?_eq_none (by rw [zW_len]; omega)]
/-- words that aren't of the list: links to private members of nest mates, arrays of own classes -/
def zNL : List (String × Nat × MethodName × String) := [(RX7, 11, yX4_init, "TextSolver"), (RX7, 55, yX5_init, "TextSolver"), (RX7, 56, yX2_init, "TextSolver"), (RX7, 57, yX0_init, "TextSolver"), (RX1, 11, yX5_init, "TextSolver"), (RX1, 20, yX3_init, "TextSolver")]
def zNest (U : State) : Prop := (∀ q ∈ zNL, va_Nw (.methodLinkNest q.1 q.2.1 q.2.2.1 q.2.2.2) U) ∧ va_AO RX5 U ∧ va_AO RX2 U ∧ va_AO RX0 U
theorem zNest.warm {s U : State} (hW : s.WarmedH U.vm) (h : zNest s) : zNest U := ⟨fun q hq => va_Nw.warmM hW (h.1 q hq), h.2.1.moved hW.alike, h.2.2.1.moved hW.alike, h.2.2.2.moved hW.alike⟩
theorem zNest.same {u U : State} (hv : u.vm = U.vm) (h : zNest u) : zNest U := ⟨fun q hq => va_Nw.same rfl hv (h.1 q hq), h.2.1.moved (hv ▸ Vm.Alike.refl u.vm), h.2.2.1.moved (hv ▸ Vm.Alike.refl u.vm), h.2.2.2.moved (hv ▸ Vm.Alike.refl u.vm)⟩
/-- locals, by their places -/
def zL (b base : Nat) (ls : Array Slot) (nL : Nat) (lv : List (Option Value)) : Prop := ls.size = nL ∧ lv_wf ls ∧ ∀ (i : Nat) (v : Value), lv[i]? = some (some v) → ls[i]? = some (.val (zV b base v))
def zl (b base : Nat) (lv : List (Option Value)) : List (Nat × Value) := (List.range lv.length).filterMap (fun i => match lv[i]? with
  | some (some v) => some (i, zV b base v)
  | _ => none)
theorem zl_mem {b base : Nat} {lv : List (Option Value)} {i : Nat} {v : Value} (h : lv[i]? = some (some v)) : (i, zV b base v) ∈ zl b base lv := by
  refine List.mem_filterMap.mpr ⟨i, List.mem_range.mpr (List.getElem?_eq_some_iff.mp h).1, ?_⟩
  rw [h]
theorem zl_inv {b base : Nat} {lv : List (Option Value)} {q : Nat × Value} (h : q ∈ zl b base lv) : ∃ v, lv[q.1]? = some (some v) ∧ q.2 = zV b base v := by
  obtain ⟨i, -, h⟩ := List.mem_filterMap.mp h
  cases hi : lv[i]? with
  | none => rw [hi] at h; cases h
  | some o =>
    cases o with
    | none => rw [hi] at h; cases h
    | some v =>
      rw [hi] at h
      cases h
      exact ⟨v, hi, rfl⟩
theorem zL.has {b base : Nat} {ls : Array Slot} {nL : Nat} {lv : List (Option Value)} (h : zL b base ls nL lv) : lv_has ls nL (zl b base lv) := by
  refine ⟨h.1, h.2.1, fun q hq => ?_⟩
  obtain ⟨v, h1, h2⟩ := zl_inv hq
  rw [h2]
  exact h.2.2 _ _ h1
def zok (lv : List (Option Value)) : Nat → Bool
  | 0 => true
  | j + 1 => match lv[j]? with
    | some (some v) => v.category == 1
    | _ => true
theorem zok_spec {lv : List (Option Value)} {i j : Nat} {v : Value} (h : zok lv i = true) (hj : j + 1 = i) (hv : lv[j]? = some (some v)) : v.category = 1 := by
  subst hj
  simp only [zok, hv] at h
  simpa using h
theorem zL_store1 {b base : Nat} {ls : Array Slot} {nL i : Nat} {lv : List (Option Value)} {v : Value} (ho : zok lv i = true) (h : lv_has ls nL ((i, zV b base v) :: (zl b base lv).filter (fun q => !(q.1 == i) && !(q.1 + 1 == i && q.2.category == 2)))) : zL b base ls nL (lv.set i (some v)) := by
  refine ⟨h.1, h.2.1, fun j w hj => ?_⟩
  by_cases hji : j = i
  · subst hji
    have hl : j < lv.length := by
      have := (List.getElem?_eq_some_iff.mp hj).1
      rwa [List.length_set] at this
    rw [List.getElem?_set_self hl] at hj
    cases hj
    exact h.2.2 (j, zV b base v) List.mem_cons_self
  · rw [List.getElem?_set_ne (Ne.symm hji)] at hj
    refine h.2.2 (j, zV b base w) (List.mem_cons_of_mem _ (List.mem_filter.mpr ⟨zl_mem hj, ?_⟩))
    have h2 : ∀ e : j + 1 = i, (zV b base w).category = 1 := fun e => by rw [zV_cat]; exact zok_spec ho e hj
    by_cases e : j + 1 = i
    · simp [hji, h2 e]
    · simp [hji, e]
theorem zL_store2 {b base : Nat} {ls : Array Slot} {nL i : Nat} {lv : List (Option Value)} {v : Value} (ho : zok lv i = true) (h : lv_has ls nL ((i, zV b base v) :: (zl b base lv).filter (fun q => !(q.1 == i) && (!(q.1 == i + 1) && !(q.1 + 1 == i && q.2.category == 2))))) : zL b base ls nL ((lv.set i (some v)).set (i + 1) none) := by
  refine ⟨h.1, h.2.1, fun j w hj => ?_⟩
  by_cases hj1 : j = i + 1
  · subst hj1
    exfalso
    by_cases hl : i + 1 < (lv.set i (some v)).length
    · rw [List.getElem?_set_self hl] at hj
      cases hj
    · rw [List.getElem?_eq_none (by rw [List.length_set]; omega)] at hj
      cases hj
  · rw [List.getElem?_set_ne (Ne.symm hj1)] at hj
    by_cases hji : j = i
    · subst hji
      have hl : j < lv.length := by
        have := (List.getElem?_eq_some_iff.mp hj).1
        rwa [List.length_set] at this
      rw [List.getElem?_set_self hl] at hj
      cases hj
      exact h.2.2 (j, zV b base v) List.mem_cons_self
    · rw [List.getElem?_set_ne (Ne.symm hji)] at hj
      refine h.2.2 (j, zV b base w) (List.mem_cons_of_mem _ (List.mem_filter.mpr ⟨zl_mem hj, ?_⟩))
      have h2 : ∀ e : j + 1 = i, (zV b base w).category = 1 := fun e => by rw [zV_cat]; exact zok_spec ho e hj
      by_cases e : j + 1 = i
      · simp [hji, hj1, h2 e]
      · simp [hji, hj1, e]
abbrev zQ : Type := Option Value → Nat → (Nat → zE) → Prop
abbrev zS : Type := Option (Nat × (Nat → Int32))
def zRet (M : zM) (pc : Nat) : Option Value → Prop
  | none => decode (zcc M) pc = .ok (.return_, 1) ∧ zret M = none
  | some (.int x) => decode (zcc M) pc = .ok (.ireturn, 1) ∧ (zret M = some .int ∨ zret M = some .boolean ∧ (x = 0 ∨ x = 1))
  | some (.long _) => decode (zcc M) pc = .ok (.lreturn, 1) ∧ zret M = some .long
  | some (.ref _) => decode (zcc M) pc = .ok (.areturn, 1) ∧ ∃ n, zret M = some (.object n)
  | some .null => decode (zcc M) pc = .ok (.areturn, 1) ∧ ∃ n, zret M = some (.object n)
  | some _ => False
def zCtx (M : zM) (d : Nat) (sc : zS) (mc ms : Nat) (Q : zQ) (l : Launch) (p : Program) (e : Env) (R : Room) (s : State) (m : MethodId) (args : Array Value) (below : List Frame) (meth : Method) (c : Code) (D : va_G) (cA : Nat → ClassId) (b base : Nat) (QM : State → Prop) : Prop :=
  p.tables.exec = Jvm.exec ∧ c.code = zcc M ∧ c.maxLocals = znl M ∧ meth.sig.returnType = zret M ∧ meth.locks = false ∧ s.vm.findClass (zown M) = some m.cls ∧ (∀ w ∈ TB, w.before args s = true) ∧ (zini M = true → meth.name = "<init>") ∧ (d ≤ R.frames ∧ 36 * d ≤ R.locals ∧ mc ≤ R.cells ∧ ms ≤ R.slots) ∧ va_K D vwCl (zTys cA) s ∧ zNest s ∧ base ≤ s.heap.size ∧
  (∀ (L : Nat) (xs : Nat → Int32), sc = some (L, xs) → va_X b L xs s s.heap ∧ b < base ∧ b < s.heap.size) ∧
  ∀ (v : Option Value) (N : Nat) (g : Nat → zE) (H : Heap) (locs : List Loc) (ls : Array Slot) (pc : Nat), Q v N g → zR D cA b base N g H → va_S (fun q : Nat => base ≤ q) s.heap H locs → zRet M pc v → W p l e R s m args below meth c H locs mc ms QM (F0 m pc ls (v.toList.map (zV b base)))
def Wq (M : zM) (d : Nat) (sc : zS) (mc ms : Nat) (Q : zQ) (cells slots N : Nat) (g : Nat → zE) (pc : Nat) (lv : List (Option Value)) (st : List Value) : Prop :=
  ∀ (l : Launch) (p : Program) (e : Env) (R : Room) (s : State) (m : MethodId) (args : Array Value) (below : List Frame) (meth : Method) (c : Code) (D : va_G) (cA : Nat → ClassId) (b base : Nat) (QM : State → Prop), zCtx M d sc mc ms Q l p e R s m args below meth c D cA b base QM →
    ∀ (H : Heap) (locs : List Loc) (ls : Array Slot), zR D cA b base N g H → va_S (fun q : Nat => base ≤ q) s.heap H locs → zL b base ls (znl M) lv → W p l e R s m args below meth c H locs cells slots QM (F0 m pc ls (st.map (zV b base)))
/-! contracts -/
def zPc (D : va_G) (cA : Nat → ClassId) (b base : Nat) (args : List Value) (N : Nat) (g : Nat → zE) : Array Value → State → Prop := va_Pc (args.map (zV b base)) (fun U => zR D cA b base N g U.heap ∧ va_K D vwCl (zTys cA) U ∧ zNest U)
def zQc (D : va_G) (cA : Nat → ClassId) (b base : Nat) (Q : zQ) : Array Value → State → Outcome → State → Prop := fun _ st oc t => (∃ (v : Option Value) (N : Nat) (g : Nat → zE), oc = .returned (v.map (zV b base)) ∧ Q v N g ∧ zR D cA b base N g t.heap) ∧ va_F (fun q : Nat => base ≤ q) st t
def zRm (d mc ms : Nat) : Room := { frames := d, cells := mc, slots := ms, locals := 36 * d }
def zC (y : MethodName) (M : zM) (d mc ms : Nat) (args : List Value) (N : Nat) (g : Nat → zE) (Q : zQ) : Prop :=
  ∀ (l : Launch) (D : va_G) (cA : Nat → ClassId) (b base : Nat), Met l y (Cond.code y (zcc M) (znl M) (zret M) :: TB) (zRm d mc ms) (zPc D cA b base args N g) (zQc D cA b base Q) mc ms (fun q : Nat => base ≤ q)
theorem zPc_blind {D : va_G} {cA : Nat → ClassId} {b base : Nat} {args : List Value} {N : Nat} {g : Nat → zE} : FrameBlind (zPc D cA b base args N g) := fun a U gg mk q => ⟨q.1, q.2.1, va_K.moved (u := U) (U := U.calling gg mk a) (Vm.Alike.refl U.vm) q.2.2.1, zNest.same (u := U) (U := U.calling gg mk a) rfl q.2.2.2⟩
/-- the locals at a method's entry -/
def zargs : List Value → List (Option Value)
  | [] => []
  | v :: vs => if v.category = 2 then some v :: none :: zargs vs else some v :: zargs vs
def zent (nL : Nat) (vs : List Value) : List (Option Value) := zargs vs ++ List.replicate (nL - (zargs vs).length) none
theorem zargs_mem {b base : Nat} : ∀ (vs : List Value) (k i : Nat) (v : Value), (zargs vs)[i]? = some (some v) → (k + i, zV b base v) ∈ lv_args k (vs.map (zV b base))
  | [], k, i, v, h => by simp [zargs] at h
  | w :: vs, k, i, v, h => by
    simp only [List.map_cons, lv_args, zV_cat]
    by_cases hc : w.category = 2
    · simp only [zargs, hc, if_true] at h ⊢
      match i, h with
      | 0, h => cases h; exact List.mem_cons_self
      | 1, h => cases h
      | i + 2, h =>
        have := zargs_mem (b := b) (base := base) vs (k + 2) i v h
        rw [show k + (i + 2) = k + 2 + i by omega]
        exact List.mem_cons_of_mem _ this
    · simp only [zargs, hc, if_false] at h ⊢
      match i, h with
      | 0, h => cases h; exact List.mem_cons_self
      | i + 1, h =>
        have := zargs_mem (b := b) (base := base) vs (k + 1) i v h
        rw [show k + (i + 1) = k + 1 + i by omega]
        exact List.mem_cons_of_mem _ this
theorem zargs_sl {b base : Nat} : ∀ (vs : List Value), (lg_sl (vs.map (zV b base))).length = (zargs vs).length
  | [] => rfl
  | w :: vs => by
    have ih := zargs_sl (b := b) (base := base) vs
    unfold lg_sl at ih ⊢
    rw [List.map_cons, List.flatMap_cons, List.length_append, ih, zV_cat]
    show _ = (if w.category = 2 then some w :: none :: zargs vs else some w :: zargs vs).length
    by_cases hc : w.category = 2
    · simp [hc]; omega
    · simp [hc]; omega
theorem zent_zL {b base nL : Nat} {vs : List Value} (h : (zargs vs).length ≤ nL) : zL b base ((lg_sl (vs.map (zV b base)) ++ List.replicate (nL - (lg_sl (vs.map (zV b base))).length) Slot.unset).toArray) nL (zent nL vs) := by
  have hh := lv_entry (vs.map (zV b base)) (n := nL) (by rw [zargs_sl]; exact h)
  refine ⟨hh.1, hh.2.1, fun i v hi => ?_⟩
  have hi2 : (zargs vs)[i]? = some (some v) := by
    unfold zent at hi
    by_cases hl : i < (zargs vs).length
    · rwa [List.getElem?_append_left hl] at hi
    · rw [List.getElem?_append_right (by omega), List.getElem?_replicate] at hi
      split at hi <;> cases hi
  have := hh.2.2 _ (zargs_mem (b := b) (base := base) vs 0 i v hi2)
  rwa [Nat.zero_add] at this
/-- the end of a method: its contract's post -/
theorem zC_end {M : zM} {D : va_G} {cA : Nat → ClassId} {b base mc ms : Nat} {Q : zQ} {p : Program} {l : Launch} {e : Env} {R : Room} {s : State} {m : MethodId} {args : Array Value} {below : List Frame} {meth : Method} {c : Code} {H : Heap} {locs : List Loc} {ls : Array Slot} {pc N : Nat} {g : Nat → zE} {v : Option Value}
    (hx : p.tables.exec = Jvm.exec) (hb : c.code = zcc M) (hr : meth.sig.returnType = zret M) (hlocks : meth.locks = false) (hq : Q v N g) (hR : zR D cA b base N g H) (hS : va_S (fun q : Nat => base ≤ q) s.heap H locs) (hv : zRet M pc v) :
    W p l e R s m args below meth c H locs mc ms (MQ below (zQc D cA b base Q) args s mc ms (fun q : Nat => base ≤ q)) (F0 m pc ls (v.toList.map (zV b base))) := by
  have hQc : ∀ t : State, t.heap = H → zQc D cA b base Q args s (.returned (v.map (zV b base))) t := fun t ht => ⟨⟨v, N, g, rfl, hq, by rw [ht]; exact hR⟩, hS.F ht⟩
  match v, hv, hQc with
  | none, hv, hQc => exact W.vret hx hb (hr.trans hv.2) (fun t ht _ => hQc t ht) hS.2.2 hv.1 hlocks
  | some (.int x), hv, hQc =>
    rcases hv.2 with h | ⟨h, h01⟩
    · exact W.iret hx hb (hr.trans h) (fun t ht _ => hQc t ht) hS.2.2 hv.1 hlocks
    · refine W.zret hx hb (hr.trans h) ?_ (fun t ht _ => hQc t ht) hS.2.2 hv.1 hlocks
      rcases h01 with rfl | rfl <;> rfl
  | some (.long x), hv, hQc => exact W.lret hx hb (hr.trans hv.2) (fun t ht _ => hQc t ht) hS.2.2 hv.1 hlocks
  | some (.ref x), hv, hQc =>
    obtain ⟨n, hn⟩ := hv.2
    exact W.aret hx hb (hr.trans hn) (Or.inl ⟨n, rfl⟩) (Or.inr ⟨_, rfl⟩) (fun t ht _ => hQc t ht) hS.2.2 hv.1 hlocks
  | some .null, hv, hQc =>
    obtain ⟨n, hn⟩ := hv.2
    exact W.aret hx hb (hr.trans hn) (Or.inl ⟨n, rfl⟩) (Or.inl rfl) (fun t ht _ => hQc t ht) hS.2.2 hv.1 hlocks
theorem zC_of {y : MethodName} {M : zM} {d mc ms : Nat} {args : List Value} {N : Nat} {g : Nat → zE} {Q : zQ} {lv : List (Option Value)} (hy : plainName y.cls = true) (ho : zown M = y.cls) (hi : zini M = true → y.name = "<init>") (hlv : zent (znl M) args = lv) (hlen : (zargs args).length ≤ znl M)
    (h : Wq M d none mc ms Q 0 0 N g 0 lv []) : zC y M d mc ms args N g Q := by
  intro l D cA b base
  refine Met.ofW (cc := zcc M) (maxL := znl M) (ret := zret M) hy rfl ?_
  intro p e s m args' below meth c s₁ B hml hv
  obtain ⟨rfl, hR, hK, hN⟩ := hv
  have hts := atoms_spec (ws := Cond.code y (zcc M) (znl M) (zret M) :: TB) B.pre
  have hown : s.vm.findClass (zown M) = some m.cls := by rw [ho]; exact findClass_of_methodNamed B.named
  have hname := (name_of_methodNamed B.named B.method).1
  rw [lg_entry_eq]
  subst hlv
  refine h l p e _ s m _ below meth c D cA b base _ ⟨B.exec, B.bytes, hml, B.returns, B.notSynchronized, hown, fun w hw => hts w (List.mem_cons_of_mem _ hw), fun h1 => hname.trans (hi h1), ⟨Nat.le_refl _, Nat.le_refl _, Nat.le_refl _, Nat.le_refl _⟩, hK, hN, ?_, ?_, ?_⟩ s.heap [] _ hR va_S.rf (zent_zL hlen)
  · rw [hR.1]; exact Nat.le_add_right _ _
  · intro L xs h2; cases h2
  · intro v N' g' H locs ls pc hq hR' hS' hret
    exact zC_end B.exec B.bytes B.returns B.notSynchronized hq hR' hS' hret
end
section
/-! rules of Wq, an instruction each (printed by rules.py) -/
theorem q_iconst {M : zM} {d : Nat} {sc : zS} {mc ms : Nat} {Q : zQ} {cells slots N : Nat} {g : Nat → zE} {pc : Nat} {lv : List (Option Value)} {st : List Value} {n : Int} {v : Int32} (hd : decode (zcc M) pc = .ok (.iconst n, 1)) (hv : Int32.ofInt n = v) (k : Wq M d sc mc ms Q cells slots N g (pc + 1) lv (.int v :: st)) : Wq M d sc mc ms Q cells slots N g pc lv st := by
  intro l p e R s m args below meth c D cA b base QM C H locs ls hR hS hL
  exact lv_iconst C.1 C.2.1 hd hv (k l p e R s m args below meth c D cA b base QM C H locs ls hR hS hL)
theorem q_bipush {M : zM} {d : Nat} {sc : zS} {mc ms : Nat} {Q : zQ} {cells slots N : Nat} {g : Nat → zE} {pc : Nat} {lv : List (Option Value)} {st : List Value} {n : Int} {v : Int32} (hd : decode (zcc M) pc = .ok (.bipush n, 2)) (hv : (Int8.ofInt n).toInt32 = v) (k : Wq M d sc mc ms Q cells slots N g (pc + 2) lv (.int v :: st)) : Wq M d sc mc ms Q cells slots N g pc lv st := by
  intro l p e R s m args below meth c D cA b base QM C H locs ls hR hS hL
  exact lv_bipush C.1 C.2.1 hd hv (k l p e R s m args below meth c D cA b base QM C H locs ls hR hS hL)
theorem q_sipush {M : zM} {d : Nat} {sc : zS} {mc ms : Nat} {Q : zQ} {cells slots N : Nat} {g : Nat → zE} {pc : Nat} {lv : List (Option Value)} {st : List Value} {n : Int} {v : Int32} (hd : decode (zcc M) pc = .ok (.sipush n, 3)) (hv : (Int16.ofInt n).toInt32 = v) (k : Wq M d sc mc ms Q cells slots N g (pc + 3) lv (.int v :: st)) : Wq M d sc mc ms Q cells slots N g pc lv st := by
  intro l p e R s m args below meth c D cA b base QM C H locs ls hR hS hL
  exact lv_sipush C.1 C.2.1 hd hv (k l p e R s m args below meth c D cA b base QM C H locs ls hR hS hL)
theorem q_lconst {M : zM} {d : Nat} {sc : zS} {mc ms : Nat} {Q : zQ} {cells slots N : Nat} {g : Nat → zE} {pc : Nat} {lv : List (Option Value)} {st : List Value} {n : Fin 2} {v : Int64} (hd : decode (zcc M) pc = .ok (.lconst n, 1)) (hv : Int64.ofNat (n : Nat) = v) (k : Wq M d sc mc ms Q cells slots N g (pc + 1) lv (.long v :: st)) : Wq M d sc mc ms Q cells slots N g pc lv st := by
  intro l p e R s m args below meth c D cA b base QM C H locs ls hR hS hL
  exact lv_lconst C.1 C.2.1 hd hv (k l p e R s m args below meth c D cA b base QM C H locs ls hR hS hL)
theorem q_iadd {M : zM} {d : Nat} {sc : zS} {mc ms : Nat} {Q : zQ} {cells slots N : Nat} {g : Nat → zE} {pc : Nat} {lv : List (Option Value)} {st : List Value} {x y : Int32} (hd : decode (zcc M) pc = .ok (.iadd, 1)) (k : Wq M d sc mc ms Q cells slots N g (pc + 1) lv (.int (x + y) :: st)) : Wq M d sc mc ms Q cells slots N g pc lv (.int y :: .int x :: st) := by
  intro l p e R s m args below meth c D cA b base QM C H locs ls hR hS hL
  exact lv_iadd C.1 C.2.1 hd (k l p e R s m args below meth c D cA b base QM C H locs ls hR hS hL)
theorem q_isub {M : zM} {d : Nat} {sc : zS} {mc ms : Nat} {Q : zQ} {cells slots N : Nat} {g : Nat → zE} {pc : Nat} {lv : List (Option Value)} {st : List Value} {x y : Int32} (hd : decode (zcc M) pc = .ok (.isub, 1)) (k : Wq M d sc mc ms Q cells slots N g (pc + 1) lv (.int (x - y) :: st)) : Wq M d sc mc ms Q cells slots N g pc lv (.int y :: .int x :: st) := by
  intro l p e R s m args below meth c D cA b base QM C H locs ls hR hS hL
  exact lv_isub C.1 C.2.1 hd (k l p e R s m args below meth c D cA b base QM C H locs ls hR hS hL)
theorem q_imul {M : zM} {d : Nat} {sc : zS} {mc ms : Nat} {Q : zQ} {cells slots N : Nat} {g : Nat → zE} {pc : Nat} {lv : List (Option Value)} {st : List Value} {x y : Int32} (hd : decode (zcc M) pc = .ok (.imul, 1)) (k : Wq M d sc mc ms Q cells slots N g (pc + 1) lv (.int (x * y) :: st)) : Wq M d sc mc ms Q cells slots N g pc lv (.int y :: .int x :: st) := by
  intro l p e R s m args below meth c D cA b base QM C H locs ls hR hS hL
  exact lv_imul C.1 C.2.1 hd (k l p e R s m args below meth c D cA b base QM C H locs ls hR hS hL)
theorem q_iand {M : zM} {d : Nat} {sc : zS} {mc ms : Nat} {Q : zQ} {cells slots N : Nat} {g : Nat → zE} {pc : Nat} {lv : List (Option Value)} {st : List Value} {x y : Int32} (hd : decode (zcc M) pc = .ok (.iand, 1)) (k : Wq M d sc mc ms Q cells slots N g (pc + 1) lv (.int (x &&& y) :: st)) : Wq M d sc mc ms Q cells slots N g pc lv (.int y :: .int x :: st) := by
  intro l p e R s m args below meth c D cA b base QM C H locs ls hR hS hL
  exact lv_iand C.1 C.2.1 hd (k l p e R s m args below meth c D cA b base QM C H locs ls hR hS hL)
theorem q_ior {M : zM} {d : Nat} {sc : zS} {mc ms : Nat} {Q : zQ} {cells slots N : Nat} {g : Nat → zE} {pc : Nat} {lv : List (Option Value)} {st : List Value} {x y : Int32} (hd : decode (zcc M) pc = .ok (.ior, 1)) (k : Wq M d sc mc ms Q cells slots N g (pc + 1) lv (.int (x ||| y) :: st)) : Wq M d sc mc ms Q cells slots N g pc lv (.int y :: .int x :: st) := by
  intro l p e R s m args below meth c D cA b base QM C H locs ls hR hS hL
  exact lv_ior C.1 C.2.1 hd (k l p e R s m args below meth c D cA b base QM C H locs ls hR hS hL)
theorem q_ixor {M : zM} {d : Nat} {sc : zS} {mc ms : Nat} {Q : zQ} {cells slots N : Nat} {g : Nat → zE} {pc : Nat} {lv : List (Option Value)} {st : List Value} {x y : Int32} (hd : decode (zcc M) pc = .ok (.ixor, 1)) (k : Wq M d sc mc ms Q cells slots N g (pc + 1) lv (.int (x ^^^ y) :: st)) : Wq M d sc mc ms Q cells slots N g pc lv (.int y :: .int x :: st) := by
  intro l p e R s m args below meth c D cA b base QM C H locs ls hR hS hL
  exact lv_ixor C.1 C.2.1 hd (k l p e R s m args below meth c D cA b base QM C H locs ls hR hS hL)
theorem q_ladd {M : zM} {d : Nat} {sc : zS} {mc ms : Nat} {Q : zQ} {cells slots N : Nat} {g : Nat → zE} {pc : Nat} {lv : List (Option Value)} {st : List Value} {x y : Int64} (hd : decode (zcc M) pc = .ok (.ladd, 1)) (k : Wq M d sc mc ms Q cells slots N g (pc + 1) lv (.long (x + y) :: st)) : Wq M d sc mc ms Q cells slots N g pc lv (.long y :: .long x :: st) := by
  intro l p e R s m args below meth c D cA b base QM C H locs ls hR hS hL
  exact lv_ladd C.1 C.2.1 hd (k l p e R s m args below meth c D cA b base QM C H locs ls hR hS hL)
theorem q_lsub {M : zM} {d : Nat} {sc : zS} {mc ms : Nat} {Q : zQ} {cells slots N : Nat} {g : Nat → zE} {pc : Nat} {lv : List (Option Value)} {st : List Value} {x y : Int64} (hd : decode (zcc M) pc = .ok (.lsub, 1)) (k : Wq M d sc mc ms Q cells slots N g (pc + 1) lv (.long (x - y) :: st)) : Wq M d sc mc ms Q cells slots N g pc lv (.long y :: .long x :: st) := by
  intro l p e R s m args below meth c D cA b base QM C H locs ls hR hS hL
  exact lv_lsub C.1 C.2.1 hd (k l p e R s m args below meth c D cA b base QM C H locs ls hR hS hL)
theorem q_land {M : zM} {d : Nat} {sc : zS} {mc ms : Nat} {Q : zQ} {cells slots N : Nat} {g : Nat → zE} {pc : Nat} {lv : List (Option Value)} {st : List Value} {x y : Int64} (hd : decode (zcc M) pc = .ok (.land, 1)) (k : Wq M d sc mc ms Q cells slots N g (pc + 1) lv (.long (x &&& y) :: st)) : Wq M d sc mc ms Q cells slots N g pc lv (.long y :: .long x :: st) := by
  intro l p e R s m args below meth c D cA b base QM C H locs ls hR hS hL
  exact lv_land C.1 C.2.1 hd (k l p e R s m args below meth c D cA b base QM C H locs ls hR hS hL)
theorem q_lor {M : zM} {d : Nat} {sc : zS} {mc ms : Nat} {Q : zQ} {cells slots N : Nat} {g : Nat → zE} {pc : Nat} {lv : List (Option Value)} {st : List Value} {x y : Int64} (hd : decode (zcc M) pc = .ok (.lor, 1)) (k : Wq M d sc mc ms Q cells slots N g (pc + 1) lv (.long (x ||| y) :: st)) : Wq M d sc mc ms Q cells slots N g pc lv (.long y :: .long x :: st) := by
  intro l p e R s m args below meth c D cA b base QM C H locs ls hR hS hL
  exact lv_lor C.1 C.2.1 hd (k l p e R s m args below meth c D cA b base QM C H locs ls hR hS hL)
theorem q_lxor {M : zM} {d : Nat} {sc : zS} {mc ms : Nat} {Q : zQ} {cells slots N : Nat} {g : Nat → zE} {pc : Nat} {lv : List (Option Value)} {st : List Value} {x y : Int64} (hd : decode (zcc M) pc = .ok (.lxor, 1)) (k : Wq M d sc mc ms Q cells slots N g (pc + 1) lv (.long (x ^^^ y) :: st)) : Wq M d sc mc ms Q cells slots N g pc lv (.long y :: .long x :: st) := by
  intro l p e R s m args below meth c D cA b base QM C H locs ls hR hS hL
  exact lv_lxor C.1 C.2.1 hd (k l p e R s m args below meth c D cA b base QM C H locs ls hR hS hL)
theorem q_idiv {M : zM} {d : Nat} {sc : zS} {mc ms : Nat} {Q : zQ} {cells slots N : Nat} {g : Nat → zE} {pc : Nat} {lv : List (Option Value)} {st : List Value} {x y : Int32} (hd : decode (zcc M) pc = .ok (.idiv, 1)) (hne : ¬ y = 0) (k : Wq M d sc mc ms Q cells slots N g (pc + 1) lv (.int (x / y) :: st)) : Wq M d sc mc ms Q cells slots N g pc lv (.int y :: .int x :: st) := by
  intro l p e R s m args below meth c D cA b base QM C H locs ls hR hS hL
  exact lv_idiv C.1 C.2.1 hd hne (k l p e R s m args below meth c D cA b base QM C H locs ls hR hS hL)
theorem q_irem {M : zM} {d : Nat} {sc : zS} {mc ms : Nat} {Q : zQ} {cells slots N : Nat} {g : Nat → zE} {pc : Nat} {lv : List (Option Value)} {st : List Value} {x y : Int32} (hd : decode (zcc M) pc = .ok (.irem, 1)) (hne : ¬ y = 0) (k : Wq M d sc mc ms Q cells slots N g (pc + 1) lv (.int (x - x / y * y) :: st)) : Wq M d sc mc ms Q cells slots N g pc lv (.int y :: .int x :: st) := by
  intro l p e R s m args below meth c D cA b base QM C H locs ls hR hS hL
  exact lv_irem C.1 C.2.1 hd hne (k l p e R s m args below meth c D cA b base QM C H locs ls hR hS hL)
theorem q_lrem {M : zM} {d : Nat} {sc : zS} {mc ms : Nat} {Q : zQ} {cells slots N : Nat} {g : Nat → zE} {pc : Nat} {lv : List (Option Value)} {st : List Value} {x y : Int64} (hd : decode (zcc M) pc = .ok (.lrem, 1)) (hne : ¬ y = 0) (k : Wq M d sc mc ms Q cells slots N g (pc + 1) lv (.long (x - x / y * y) :: st)) : Wq M d sc mc ms Q cells slots N g pc lv (.long y :: .long x :: st) := by
  intro l p e R s m args below meth c D cA b base QM C H locs ls hR hS hL
  exact lv_lrem C.1 C.2.1 hd hne (k l p e R s m args below meth c D cA b base QM C H locs ls hR hS hL)
theorem q_lneg {M : zM} {d : Nat} {sc : zS} {mc ms : Nat} {Q : zQ} {cells slots N : Nat} {g : Nat → zE} {pc : Nat} {lv : List (Option Value)} {st : List Value} {x : Int64} (hd : decode (zcc M) pc = .ok (.lneg, 1)) (k : Wq M d sc mc ms Q cells slots N g (pc + 1) lv (.long (-x) :: st)) : Wq M d sc mc ms Q cells slots N g pc lv (.long x :: st) := by
  intro l p e R s m args below meth c D cA b base QM C H locs ls hR hS hL
  exact lv_lneg C.1 C.2.1 hd (k l p e R s m args below meth c D cA b base QM C H locs ls hR hS hL)
theorem q_ishl {M : zM} {d : Nat} {sc : zS} {mc ms : Nat} {Q : zQ} {cells slots N : Nat} {g : Nat → zE} {pc : Nat} {lv : List (Option Value)} {st : List Value} {x y : Int32} (hd : decode (zcc M) pc = .ok (.ishl, 1)) (k : Wq M d sc mc ms Q cells slots N g (pc + 1) lv (.int (x <<< (y &&& 31)) :: st)) : Wq M d sc mc ms Q cells slots N g pc lv (.int y :: .int x :: st) := by
  intro l p e R s m args below meth c D cA b base QM C H locs ls hR hS hL
  exact lv_ishl C.1 C.2.1 hd (k l p e R s m args below meth c D cA b base QM C H locs ls hR hS hL)
theorem q_ishr {M : zM} {d : Nat} {sc : zS} {mc ms : Nat} {Q : zQ} {cells slots N : Nat} {g : Nat → zE} {pc : Nat} {lv : List (Option Value)} {st : List Value} {x y : Int32} (hd : decode (zcc M) pc = .ok (.ishr, 1)) (k : Wq M d sc mc ms Q cells slots N g (pc + 1) lv (.int (x >>> (y &&& 31)) :: st)) : Wq M d sc mc ms Q cells slots N g pc lv (.int y :: .int x :: st) := by
  intro l p e R s m args below meth c D cA b base QM C H locs ls hR hS hL
  exact lv_ishr C.1 C.2.1 hd (k l p e R s m args below meth c D cA b base QM C H locs ls hR hS hL)
theorem q_iushr {M : zM} {d : Nat} {sc : zS} {mc ms : Nat} {Q : zQ} {cells slots N : Nat} {g : Nat → zE} {pc : Nat} {lv : List (Option Value)} {st : List Value} {x y : Int32} (hd : decode (zcc M) pc = .ok (.iushr, 1)) (k : Wq M d sc mc ms Q cells slots N g (pc + 1) lv (.int (x.toUInt32 >>> (y.toUInt32 &&& Int32.toUInt32 31)).toInt32 :: st)) : Wq M d sc mc ms Q cells slots N g pc lv (.int y :: .int x :: st) := by
  intro l p e R s m args below meth c D cA b base QM C H locs ls hR hS hL
  exact lv_iushr C.1 C.2.1 hd rfl (k l p e R s m args below meth c D cA b base QM C H locs ls hR hS hL)
theorem q_lushr {M : zM} {d : Nat} {sc : zS} {mc ms : Nat} {Q : zQ} {cells slots N : Nat} {g : Nat → zE} {pc : Nat} {lv : List (Option Value)} {st : List Value} {x : Int64} {y : Int32} (hd : decode (zcc M) pc = .ok (.lushr, 1)) (k : Wq M d sc mc ms Q cells slots N g (pc + 1) lv (.long (x.toUInt64 >>> (y.toInt64.toUInt64 &&& Int64.toUInt64 63)).toInt64 :: st)) : Wq M d sc mc ms Q cells slots N g pc lv (.int y :: .long x :: st) := by
  intro l p e R s m args below meth c D cA b base QM C H locs ls hR hS hL
  exact lv_lushr C.1 C.2.1 hd rfl (k l p e R s m args below meth c D cA b base QM C H locs ls hR hS hL)
theorem q_lshl {M : zM} {d : Nat} {sc : zS} {mc ms : Nat} {Q : zQ} {cells slots N : Nat} {g : Nat → zE} {pc : Nat} {lv : List (Option Value)} {st : List Value} {x : Int64} {y : Int32} (hd : decode (zcc M) pc = .ok (.lshl, 1)) (k : Wq M d sc mc ms Q cells slots N g (pc + 1) lv (.long (x <<< (y.toInt64 &&& 63)) :: st)) : Wq M d sc mc ms Q cells slots N g pc lv (.int y :: .long x :: st) := by
  intro l p e R s m args below meth c D cA b base QM C H locs ls hR hS hL
  exact lv_lshl C.1 C.2.1 hd rfl (k l p e R s m args below meth c D cA b base QM C H locs ls hR hS hL)
theorem q_lshr {M : zM} {d : Nat} {sc : zS} {mc ms : Nat} {Q : zQ} {cells slots N : Nat} {g : Nat → zE} {pc : Nat} {lv : List (Option Value)} {st : List Value} {x : Int64} {y : Int32} (hd : decode (zcc M) pc = .ok (.lshr, 1)) (k : Wq M d sc mc ms Q cells slots N g (pc + 1) lv (.long (x >>> (y.toInt64 &&& 63)) :: st)) : Wq M d sc mc ms Q cells slots N g pc lv (.int y :: .long x :: st) := by
  intro l p e R s m args below meth c D cA b base QM C H locs ls hR hS hL
  exact lv_lshr C.1 C.2.1 hd rfl (k l p e R s m args below meth c D cA b base QM C H locs ls hR hS hL)
theorem q_i2l {M : zM} {d : Nat} {sc : zS} {mc ms : Nat} {Q : zQ} {cells slots N : Nat} {g : Nat → zE} {pc : Nat} {lv : List (Option Value)} {st : List Value} {x : Int32} (hd : decode (zcc M) pc = .ok (.i2l, 1)) (k : Wq M d sc mc ms Q cells slots N g (pc + 1) lv (.long x.toInt64 :: st)) : Wq M d sc mc ms Q cells slots N g pc lv (.int x :: st) := by
  intro l p e R s m args below meth c D cA b base QM C H locs ls hR hS hL
  exact lv_i2l C.1 C.2.1 hd rfl (k l p e R s m args below meth c D cA b base QM C H locs ls hR hS hL)
theorem q_l2i {M : zM} {d : Nat} {sc : zS} {mc ms : Nat} {Q : zQ} {cells slots N : Nat} {g : Nat → zE} {pc : Nat} {lv : List (Option Value)} {st : List Value} {x : Int64} (hd : decode (zcc M) pc = .ok (.l2i, 1)) (k : Wq M d sc mc ms Q cells slots N g (pc + 1) lv (.int x.toInt32 :: st)) : Wq M d sc mc ms Q cells slots N g pc lv (.long x :: st) := by
  intro l p e R s m args below meth c D cA b base QM C H locs ls hR hS hL
  exact lv_l2i C.1 C.2.1 hd rfl (k l p e R s m args below meth c D cA b base QM C H locs ls hR hS hL)
theorem q_lcmp {M : zM} {d : Nat} {sc : zS} {mc ms : Nat} {Q : zQ} {cells slots N : Nat} {g : Nat → zE} {pc : Nat} {lv : List (Option Value)} {st : List Value} {x y : Int64} (hd : decode (zcc M) pc = .ok (.lcmp, 1)) (k : Wq M d sc mc ms Q cells slots N g (pc + 1) lv (.int (lg_cmp x y) :: st)) : Wq M d sc mc ms Q cells slots N g pc lv (.long y :: .long x :: st) := by
  intro l p e R s m args below meth c D cA b base QM C H locs ls hR hS hL
  exact W.lcmp C.1 C.2.1 hd (k l p e R s m args below meth c D cA b base QM C H locs ls hR hS hL)
theorem q_dup {M : zM} {d : Nat} {sc : zS} {mc ms : Nat} {Q : zQ} {cells slots N : Nat} {g : Nat → zE} {pc : Nat} {lv : List (Option Value)} {st : List Value} {v : Value} (hd : decode (zcc M) pc = .ok (.dup, 1)) (hv : v.category = 1) (k : Wq M d sc mc ms Q cells slots N g (pc + 1) lv (v :: v :: st)) : Wq M d sc mc ms Q cells slots N g pc lv (v :: st) := by
  intro l p e R s m args below meth c D cA b base QM C H locs ls hR hS hL
  exact lv_dup C.1 C.2.1 hd ((zV_cat _ _ _).trans hv) (k l p e R s m args below meth c D cA b base QM C H locs ls hR hS hL)
theorem q_pop {M : zM} {d : Nat} {sc : zS} {mc ms : Nat} {Q : zQ} {cells slots N : Nat} {g : Nat → zE} {pc : Nat} {lv : List (Option Value)} {st : List Value} {v : Value} (hd : decode (zcc M) pc = .ok (.pop, 1)) (hv : v.category = 1) (k : Wq M d sc mc ms Q cells slots N g (pc + 1) lv st) : Wq M d sc mc ms Q cells slots N g pc lv (v :: st) := by
  intro l p e R s m args below meth c D cA b base QM C H locs ls hR hS hL
  exact lv_pop C.1 C.2.1 hd ((zV_cat _ _ _).trans hv) (k l p e R s m args below meth c D cA b base QM C H locs ls hR hS hL)
theorem q_dup2 {M : zM} {d : Nat} {sc : zS} {mc ms : Nat} {Q : zQ} {cells slots N : Nat} {g : Nat → zE} {pc : Nat} {lv : List (Option Value)} {st : List Value} {v w : Value} (hd : decode (zcc M) pc = .ok (.dup2, 1)) (hv : v.category = 1) (hw : w.category = 1) (k : Wq M d sc mc ms Q cells slots N g (pc + 1) lv (v :: w :: v :: w :: st)) : Wq M d sc mc ms Q cells slots N g pc lv (v :: w :: st) := by
  intro l p e R s m args below meth c D cA b base QM C H locs ls hR hS hL
  exact lv_dup2_11 C.1 C.2.1 hd ((zV_cat _ _ _).trans hv) ((zV_cat _ _ _).trans hw) (k l p e R s m args below meth c D cA b base QM C H locs ls hR hS hL)
theorem q_null {M : zM} {d : Nat} {sc : zS} {mc ms : Nat} {Q : zQ} {cells slots N : Nat} {g : Nat → zE} {pc : Nat} {lv : List (Option Value)} {st : List Value} (hd : decode (zcc M) pc = .ok (.aconst_null, 1)) (k : Wq M d sc mc ms Q cells slots N g (pc + 1) lv (.null :: st)) : Wq M d sc mc ms Q cells slots N g pc lv st := by
  intro l p e R s m args below meth c D cA b base QM C H locs ls hR hS hL
  exact lv_null C.1 C.2.1 hd (k l p e R s m args below meth c D cA b base QM C H locs ls hR hS hL)
theorem q_if_eq {M : zM} {d : Nat} {sc : zS} {mc ms : Nat} {Q : zQ} {cells slots N : Nat} {g : Nat → zE} {pc : Nat} {lv : List (Option Value)} {st : List Value} {x : Int32} {off : Int} (tgt : Nat) (hd : decode (zcc M) pc = .ok (.ifCond .eq off, 3)) (ht : (pc : Int) + off = (tgt : Int)) (kt : x = 0 → Wq M d sc mc ms Q cells slots N g tgt lv st) (kf : ¬ x = 0 → Wq M d sc mc ms Q cells slots N g (pc + 3) lv st) : Wq M d sc mc ms Q cells slots N g pc lv (.int x :: st) := by
  intro l p e R s m args below meth c D cA b base QM C H locs ls hR hS hL
  exact lv_if_eq C.1 C.2.1 hd ht (fun h => kt h l p e R s m args below meth c D cA b base QM C H locs ls hR hS hL) (fun h => kf h l p e R s m args below meth c D cA b base QM C H locs ls hR hS hL)
theorem q_if_ne {M : zM} {d : Nat} {sc : zS} {mc ms : Nat} {Q : zQ} {cells slots N : Nat} {g : Nat → zE} {pc : Nat} {lv : List (Option Value)} {st : List Value} {x : Int32} {off : Int} (tgt : Nat) (hd : decode (zcc M) pc = .ok (.ifCond .ne off, 3)) (ht : (pc : Int) + off = (tgt : Int)) (kt : ¬ x = 0 → Wq M d sc mc ms Q cells slots N g tgt lv st) (kf : x = 0 → Wq M d sc mc ms Q cells slots N g (pc + 3) lv st) : Wq M d sc mc ms Q cells slots N g pc lv (.int x :: st) := by
  intro l p e R s m args below meth c D cA b base QM C H locs ls hR hS hL
  exact lv_if_ne C.1 C.2.1 hd ht (fun h => kt h l p e R s m args below meth c D cA b base QM C H locs ls hR hS hL) (fun h => kf h l p e R s m args below meth c D cA b base QM C H locs ls hR hS hL)
theorem q_if_lt {M : zM} {d : Nat} {sc : zS} {mc ms : Nat} {Q : zQ} {cells slots N : Nat} {g : Nat → zE} {pc : Nat} {lv : List (Option Value)} {st : List Value} {x : Int32} {off : Int} (tgt : Nat) (hd : decode (zcc M) pc = .ok (.ifCond .lt off, 3)) (ht : (pc : Int) + off = (tgt : Int)) (kt : x < 0 → Wq M d sc mc ms Q cells slots N g tgt lv st) (kf : ¬ x < 0 → Wq M d sc mc ms Q cells slots N g (pc + 3) lv st) : Wq M d sc mc ms Q cells slots N g pc lv (.int x :: st) := by
  intro l p e R s m args below meth c D cA b base QM C H locs ls hR hS hL
  exact lv_if_lt C.1 C.2.1 hd ht (fun h => kt h l p e R s m args below meth c D cA b base QM C H locs ls hR hS hL) (fun h => kf h l p e R s m args below meth c D cA b base QM C H locs ls hR hS hL)
theorem q_if_ge {M : zM} {d : Nat} {sc : zS} {mc ms : Nat} {Q : zQ} {cells slots N : Nat} {g : Nat → zE} {pc : Nat} {lv : List (Option Value)} {st : List Value} {x : Int32} {off : Int} (tgt : Nat) (hd : decode (zcc M) pc = .ok (.ifCond .ge off, 3)) (ht : (pc : Int) + off = (tgt : Int)) (kt : 0 ≤ x → Wq M d sc mc ms Q cells slots N g tgt lv st) (kf : ¬ 0 ≤ x → Wq M d sc mc ms Q cells slots N g (pc + 3) lv st) : Wq M d sc mc ms Q cells slots N g pc lv (.int x :: st) := by
  intro l p e R s m args below meth c D cA b base QM C H locs ls hR hS hL
  exact lv_if_ge C.1 C.2.1 hd ht (fun h => kt h l p e R s m args below meth c D cA b base QM C H locs ls hR hS hL) (fun h => kf h l p e R s m args below meth c D cA b base QM C H locs ls hR hS hL)
theorem q_if_gt {M : zM} {d : Nat} {sc : zS} {mc ms : Nat} {Q : zQ} {cells slots N : Nat} {g : Nat → zE} {pc : Nat} {lv : List (Option Value)} {st : List Value} {x : Int32} {off : Int} (tgt : Nat) (hd : decode (zcc M) pc = .ok (.ifCond .gt off, 3)) (ht : (pc : Int) + off = (tgt : Int)) (kt : 0 < x → Wq M d sc mc ms Q cells slots N g tgt lv st) (kf : ¬ 0 < x → Wq M d sc mc ms Q cells slots N g (pc + 3) lv st) : Wq M d sc mc ms Q cells slots N g pc lv (.int x :: st) := by
  intro l p e R s m args below meth c D cA b base QM C H locs ls hR hS hL
  exact lv_if_gt C.1 C.2.1 hd ht (fun h => kt h l p e R s m args below meth c D cA b base QM C H locs ls hR hS hL) (fun h => kf h l p e R s m args below meth c D cA b base QM C H locs ls hR hS hL)
theorem q_if_le {M : zM} {d : Nat} {sc : zS} {mc ms : Nat} {Q : zQ} {cells slots N : Nat} {g : Nat → zE} {pc : Nat} {lv : List (Option Value)} {st : List Value} {x : Int32} {off : Int} (tgt : Nat) (hd : decode (zcc M) pc = .ok (.ifCond .le off, 3)) (ht : (pc : Int) + off = (tgt : Int)) (kt : x ≤ 0 → Wq M d sc mc ms Q cells slots N g tgt lv st) (kf : ¬ x ≤ 0 → Wq M d sc mc ms Q cells slots N g (pc + 3) lv st) : Wq M d sc mc ms Q cells slots N g pc lv (.int x :: st) := by
  intro l p e R s m args below meth c D cA b base QM C H locs ls hR hS hL
  exact lv_if_le C.1 C.2.1 hd ht (fun h => kt h l p e R s m args below meth c D cA b base QM C H locs ls hR hS hL) (fun h => kf h l p e R s m args below meth c D cA b base QM C H locs ls hR hS hL)
theorem q_icmp_eq {M : zM} {d : Nat} {sc : zS} {mc ms : Nat} {Q : zQ} {cells slots N : Nat} {g : Nat → zE} {pc : Nat} {lv : List (Option Value)} {st : List Value} {x y : Int32} {off : Int} (tgt : Nat) (hd : decode (zcc M) pc = .ok (.if_icmp .eq off, 3)) (ht : (pc : Int) + off = (tgt : Int)) (kt : x = y → Wq M d sc mc ms Q cells slots N g tgt lv st) (kf : ¬ x = y → Wq M d sc mc ms Q cells slots N g (pc + 3) lv st) : Wq M d sc mc ms Q cells slots N g pc lv (.int y :: .int x :: st) := by
  intro l p e R s m args below meth c D cA b base QM C H locs ls hR hS hL
  exact lv_icmp_eq C.1 C.2.1 hd ht (fun h => kt h l p e R s m args below meth c D cA b base QM C H locs ls hR hS hL) (fun h => kf h l p e R s m args below meth c D cA b base QM C H locs ls hR hS hL)
theorem q_icmp_ne {M : zM} {d : Nat} {sc : zS} {mc ms : Nat} {Q : zQ} {cells slots N : Nat} {g : Nat → zE} {pc : Nat} {lv : List (Option Value)} {st : List Value} {x y : Int32} {off : Int} (tgt : Nat) (hd : decode (zcc M) pc = .ok (.if_icmp .ne off, 3)) (ht : (pc : Int) + off = (tgt : Int)) (kt : ¬ x = y → Wq M d sc mc ms Q cells slots N g tgt lv st) (kf : x = y → Wq M d sc mc ms Q cells slots N g (pc + 3) lv st) : Wq M d sc mc ms Q cells slots N g pc lv (.int y :: .int x :: st) := by
  intro l p e R s m args below meth c D cA b base QM C H locs ls hR hS hL
  exact lv_icmp_ne C.1 C.2.1 hd ht (fun h => kt h l p e R s m args below meth c D cA b base QM C H locs ls hR hS hL) (fun h => kf h l p e R s m args below meth c D cA b base QM C H locs ls hR hS hL)
theorem q_icmp_lt {M : zM} {d : Nat} {sc : zS} {mc ms : Nat} {Q : zQ} {cells slots N : Nat} {g : Nat → zE} {pc : Nat} {lv : List (Option Value)} {st : List Value} {x y : Int32} {off : Int} (tgt : Nat) (hd : decode (zcc M) pc = .ok (.if_icmp .lt off, 3)) (ht : (pc : Int) + off = (tgt : Int)) (kt : x < y → Wq M d sc mc ms Q cells slots N g tgt lv st) (kf : ¬ x < y → Wq M d sc mc ms Q cells slots N g (pc + 3) lv st) : Wq M d sc mc ms Q cells slots N g pc lv (.int y :: .int x :: st) := by
  intro l p e R s m args below meth c D cA b base QM C H locs ls hR hS hL
  exact lv_icmp_lt C.1 C.2.1 hd ht (fun h => kt h l p e R s m args below meth c D cA b base QM C H locs ls hR hS hL) (fun h => kf h l p e R s m args below meth c D cA b base QM C H locs ls hR hS hL)
theorem q_icmp_ge {M : zM} {d : Nat} {sc : zS} {mc ms : Nat} {Q : zQ} {cells slots N : Nat} {g : Nat → zE} {pc : Nat} {lv : List (Option Value)} {st : List Value} {x y : Int32} {off : Int} (tgt : Nat) (hd : decode (zcc M) pc = .ok (.if_icmp .ge off, 3)) (ht : (pc : Int) + off = (tgt : Int)) (kt : y ≤ x → Wq M d sc mc ms Q cells slots N g tgt lv st) (kf : ¬ y ≤ x → Wq M d sc mc ms Q cells slots N g (pc + 3) lv st) : Wq M d sc mc ms Q cells slots N g pc lv (.int y :: .int x :: st) := by
  intro l p e R s m args below meth c D cA b base QM C H locs ls hR hS hL
  exact lv_icmp_ge C.1 C.2.1 hd ht (fun h => kt h l p e R s m args below meth c D cA b base QM C H locs ls hR hS hL) (fun h => kf h l p e R s m args below meth c D cA b base QM C H locs ls hR hS hL)
theorem q_icmp_gt {M : zM} {d : Nat} {sc : zS} {mc ms : Nat} {Q : zQ} {cells slots N : Nat} {g : Nat → zE} {pc : Nat} {lv : List (Option Value)} {st : List Value} {x y : Int32} {off : Int} (tgt : Nat) (hd : decode (zcc M) pc = .ok (.if_icmp .gt off, 3)) (ht : (pc : Int) + off = (tgt : Int)) (kt : y < x → Wq M d sc mc ms Q cells slots N g tgt lv st) (kf : ¬ y < x → Wq M d sc mc ms Q cells slots N g (pc + 3) lv st) : Wq M d sc mc ms Q cells slots N g pc lv (.int y :: .int x :: st) := by
  intro l p e R s m args below meth c D cA b base QM C H locs ls hR hS hL
  exact lv_icmp_gt C.1 C.2.1 hd ht (fun h => kt h l p e R s m args below meth c D cA b base QM C H locs ls hR hS hL) (fun h => kf h l p e R s m args below meth c D cA b base QM C H locs ls hR hS hL)
theorem q_icmp_le {M : zM} {d : Nat} {sc : zS} {mc ms : Nat} {Q : zQ} {cells slots N : Nat} {g : Nat → zE} {pc : Nat} {lv : List (Option Value)} {st : List Value} {x y : Int32} {off : Int} (tgt : Nat) (hd : decode (zcc M) pc = .ok (.if_icmp .le off, 3)) (ht : (pc : Int) + off = (tgt : Int)) (kt : x ≤ y → Wq M d sc mc ms Q cells slots N g tgt lv st) (kf : ¬ x ≤ y → Wq M d sc mc ms Q cells slots N g (pc + 3) lv st) : Wq M d sc mc ms Q cells slots N g pc lv (.int y :: .int x :: st) := by
  intro l p e R s m args below meth c D cA b base QM C H locs ls hR hS hL
  exact lv_icmp_le C.1 C.2.1 hd ht (fun h => kt h l p e R s m args below meth c D cA b base QM C H locs ls hR hS hL) (fun h => kf h l p e R s m args below meth c D cA b base QM C H locs ls hR hS hL)
theorem q_goto {M : zM} {d : Nat} {sc : zS} {mc ms : Nat} {Q : zQ} {cells slots N : Nat} {g : Nat → zE} {pc : Nat} {lv : List (Option Value)} {st : List Value} {off : Int} (tgt : Nat) (hd : decode (zcc M) pc = .ok (.goto off, 3)) (ht : (pc : Int) + off = (tgt : Int)) (k : Wq M d sc mc ms Q cells slots N g tgt lv st) : Wq M d sc mc ms Q cells slots N g pc lv st := by
  intro l p e R s m args below meth c D cA b base QM C H locs ls hR hS hL
  exact lv_goto C.1 C.2.1 hd ht (k l p e R s m args below meth c D cA b base QM C H locs ls hR hS hL)
theorem q_ifnullR {M : zM} {d : Nat} {sc : zS} {mc ms : Nat} {Q : zQ} {cells slots N : Nat} {g : Nat → zE} {pc : Nat} {lv : List (Option Value)} {st : List Value} {x : Nat} {off : Int} (hd : decode (zcc M) pc = .ok (.ifnull off, 3)) (k : Wq M d sc mc ms Q cells slots N g (pc + 3) lv st) : Wq M d sc mc ms Q cells slots N g pc lv (.ref x :: st) := by
  intro l p e R s m args below meth c D cA b base QM C H locs ls hR hS hL
  exact lv_ifnull C.1 C.2.1 hd (k l p e R s m args below meth c D cA b base QM C H locs ls hR hS hL)
theorem q_ifnullN {M : zM} {d : Nat} {sc : zS} {mc ms : Nat} {Q : zQ} {cells slots N : Nat} {g : Nat → zE} {pc : Nat} {lv : List (Option Value)} {st : List Value} {off : Int} (tgt : Nat) (hd : decode (zcc M) pc = .ok (.ifnull off, 3)) (ht : (pc : Int) + off = (tgt : Int)) (k : Wq M d sc mc ms Q cells slots N g tgt lv st) : Wq M d sc mc ms Q cells slots N g pc lv (.null :: st) := by
  intro l p e R s m args below meth c D cA b base QM C H locs ls hR hS hL
  exact lv_ifnullN C.1 C.2.1 hd ht (k l p e R s m args below meth c D cA b base QM C H locs ls hR hS hL)
theorem q_lookup {M : zM} {d : Nat} {sc : zS} {mc ms : Nat} {Q : zQ} {cells slots N : Nat} {g : Nat → zE} {pc : Nat} {lv : List (Option Value)} {st : List Value} {dflt : Int} {ps : Array (Int × Int)} {len : Nat} {x : Int32} {off : Int} (tgt : Nat) (hd : decode (zcc M) pc = .ok (.lookupswitch dflt ps, len)) (hp : (ps.toList.zip (ps.toList.drop 1)).all (fun (a, next) => a.1 < next.1) = true) (ho : Op.lookupswitch.offset ps.toList dflt x.toInt = off) (ht : (pc : Int) + off = (tgt : Int)) (k : Wq M d sc mc ms Q cells slots N g tgt lv st) : Wq M d sc mc ms Q cells slots N g pc lv (.int x :: st) := by
  intro l p e R s m args below meth c D cA b base QM C H locs ls hR hS hL
  exact lv_lookup C.1 C.2.1 hd hp ho ht (k l p e R s m args below meth c D cA b base QM C H locs ls hR hS hL)
theorem q_tableOut {M : zM} {d : Nat} {sc : zS} {mc ms : Nat} {Q : zQ} {cells slots N : Nat} {g : Nat → zE} {pc : Nat} {lv : List (Option Value)} {st : List Value} {dflt lo hi : Int} {offs : Array Int} {len : Nat} {x : Int32} (tgt : Nat) (hd : decode (zcc M) pc = .ok (.tableswitch dflt lo hi offs, len)) (h : x.toInt < lo ∨ hi < x.toInt) (ht : (pc : Int) + dflt = (tgt : Int)) (k : Wq M d sc mc ms Q cells slots N g tgt lv st) : Wq M d sc mc ms Q cells slots N g pc lv (.int x :: st) := by
  intro l p e R s m args below meth c D cA b base QM C H locs ls hR hS hL
  exact lv_tableOut C.1 C.2.1 hd h ht (k l p e R s m args below meth c D cA b base QM C H locs ls hR hS hL)
theorem q_tableIn {M : zM} {d : Nat} {sc : zS} {mc ms : Nat} {Q : zQ} {cells slots N : Nat} {g : Nat → zE} {pc : Nat} {lv : List (Option Value)} {st : List Value} {dflt lo hi : Int} {offs : Array Int} {len : Nat} {x : Int32} {off : Int} (tgt : Nat) (hd : decode (zcc M) pc = .ok (.tableswitch dflt lo hi offs, len)) (h1 : ¬ x.toInt < lo) (h2 : ¬ hi < x.toInt) (ho : offs[(x.toInt - lo).toNat]? = some off) (ht : (pc : Int) + off = (tgt : Int)) (k : Wq M d sc mc ms Q cells slots N g tgt lv st) : Wq M d sc mc ms Q cells slots N g pc lv (.int x :: st) := by
  intro l p e R s m args below meth c D cA b base QM C H locs ls hR hS hL
  exact lv_tableIn C.1 C.2.1 hd h1 h2 ho ht (k l p e R s m args below meth c D cA b base QM C H locs ls hR hS hL)
theorem q_iload_n {M : zM} {d : Nat} {sc : zS} {mc ms : Nat} {Q : zQ} {cells slots N : Nat} {g : Nat → zE} {pc : Nat} {lv : List (Option Value)} {st : List Value} {kk : Fin 4} {x : Int32} (hd : decode (zcc M) pc = .ok (.iload_n kk, 1)) (hl : lv[(kk : Nat)]? = some (some (.int x))) (k : Wq M d sc mc ms Q cells slots N g (pc + 1) lv (.int x :: st)) : Wq M d sc mc ms Q cells slots N g pc lv st := by
  intro l p e R s m args below meth c D cA b base QM C H locs ls hR hS hL
  exact lv_iload_n C.1 C.2.1 hd rfl (hL.2.2 _ _ hl) (k l p e R s m args below meth c D cA b base QM C H locs ls hR hS hL)
theorem q_iload {M : zM} {d : Nat} {sc : zS} {mc ms : Nat} {Q : zQ} {cells slots N : Nat} {g : Nat → zE} {pc : Nat} {lv : List (Option Value)} {st : List Value} {i : Nat} {x : Int32} (hd : decode (zcc M) pc = .ok (.iload i, 2)) (hl : lv[i]? = some (some (.int x))) (k : Wq M d sc mc ms Q cells slots N g (pc + 2) lv (.int x :: st)) : Wq M d sc mc ms Q cells slots N g pc lv st := by
  intro l p e R s m args below meth c D cA b base QM C H locs ls hR hS hL
  exact lv_iload C.1 C.2.1 hd (hL.2.2 _ _ hl) (k l p e R s m args below meth c D cA b base QM C H locs ls hR hS hL)
theorem q_lload_n {M : zM} {d : Nat} {sc : zS} {mc ms : Nat} {Q : zQ} {cells slots N : Nat} {g : Nat → zE} {pc : Nat} {lv : List (Option Value)} {st : List Value} {kk : Fin 4} {x : Int64} (hd : decode (zcc M) pc = .ok (.lload_n kk, 1)) (hl : lv[(kk : Nat)]? = some (some (.long x))) (k : Wq M d sc mc ms Q cells slots N g (pc + 1) lv (.long x :: st)) : Wq M d sc mc ms Q cells slots N g pc lv st := by
  intro l p e R s m args below meth c D cA b base QM C H locs ls hR hS hL
  exact lv_lload_n C.1 C.2.1 hd rfl (hL.2.2 _ _ hl) (k l p e R s m args below meth c D cA b base QM C H locs ls hR hS hL)
theorem q_lload {M : zM} {d : Nat} {sc : zS} {mc ms : Nat} {Q : zQ} {cells slots N : Nat} {g : Nat → zE} {pc : Nat} {lv : List (Option Value)} {st : List Value} {i : Nat} {x : Int64} (hd : decode (zcc M) pc = .ok (.lload i, 2)) (hl : lv[i]? = some (some (.long x))) (k : Wq M d sc mc ms Q cells slots N g (pc + 2) lv (.long x :: st)) : Wq M d sc mc ms Q cells slots N g pc lv st := by
  intro l p e R s m args below meth c D cA b base QM C H locs ls hR hS hL
  exact lv_lload C.1 C.2.1 hd (hL.2.2 _ _ hl) (k l p e R s m args below meth c D cA b base QM C H locs ls hR hS hL)
theorem q_aload_n {M : zM} {d : Nat} {sc : zS} {mc ms : Nat} {Q : zQ} {cells slots N : Nat} {g : Nat → zE} {pc : Nat} {lv : List (Option Value)} {st : List Value} {kk : Fin 4} {x : Nat} (hd : decode (zcc M) pc = .ok (.aload_n kk, 1)) (hl : lv[(kk : Nat)]? = some (some (.ref x))) (k : Wq M d sc mc ms Q cells slots N g (pc + 1) lv (.ref x :: st)) : Wq M d sc mc ms Q cells slots N g pc lv st := by
  intro l p e R s m args below meth c D cA b base QM C H locs ls hR hS hL
  exact lv_aload_n C.1 C.2.1 hd rfl (hL.2.2 _ _ hl) (k l p e R s m args below meth c D cA b base QM C H locs ls hR hS hL)
theorem q_aload {M : zM} {d : Nat} {sc : zS} {mc ms : Nat} {Q : zQ} {cells slots N : Nat} {g : Nat → zE} {pc : Nat} {lv : List (Option Value)} {st : List Value} {i : Nat} {x : Nat} (hd : decode (zcc M) pc = .ok (.aload i, 2)) (hl : lv[i]? = some (some (.ref x))) (k : Wq M d sc mc ms Q cells slots N g (pc + 2) lv (.ref x :: st)) : Wq M d sc mc ms Q cells slots N g pc lv st := by
  intro l p e R s m args below meth c D cA b base QM C H locs ls hR hS hL
  exact lv_aload C.1 C.2.1 hd (hL.2.2 _ _ hl) (k l p e R s m args below meth c D cA b base QM C H locs ls hR hS hL)
theorem q_istore_n {M : zM} {d : Nat} {sc : zS} {mc ms : Nat} {Q : zQ} {cells slots N : Nat} {g : Nat → zE} {pc : Nat} {lv : List (Option Value)} {st : List Value} {kk : Fin 4} {x : Int32} (hd : decode (zcc M) pc = .ok (.istore_n kk, 1)) (hn : (kk : Nat) < znl M) (ho : zok lv (kk : Nat) = true) (k : Wq M d sc mc ms Q cells slots N g (pc + 1) (lv.set (kk : Nat) (some (.int x))) st) : Wq M d sc mc ms Q cells slots N g pc lv (.int x :: st) := by
  intro l p e R s m args below meth c D cA b base QM C H locs ls hR hS hL
  exact lv_istore_n C.1 C.2.1 hd rfl hL.has hn rfl (fun ls2 h2 => k l p e R s m args below meth c D cA b base QM C H locs ls2 hR hS (zL_store1 ho h2))
theorem q_istore {M : zM} {d : Nat} {sc : zS} {mc ms : Nat} {Q : zQ} {cells slots N : Nat} {g : Nat → zE} {pc : Nat} {lv : List (Option Value)} {st : List Value} {i : Nat} {x : Int32} (hd : decode (zcc M) pc = .ok (.istore i, 2)) (hn : i < znl M) (ho : zok lv i = true) (k : Wq M d sc mc ms Q cells slots N g (pc + 2) (lv.set i (some (.int x))) st) : Wq M d sc mc ms Q cells slots N g pc lv (.int x :: st) := by
  intro l p e R s m args below meth c D cA b base QM C H locs ls hR hS hL
  exact lv_istore C.1 C.2.1 hd hL.has hn rfl (fun ls2 h2 => k l p e R s m args below meth c D cA b base QM C H locs ls2 hR hS (zL_store1 ho h2))
theorem q_lstore_n {M : zM} {d : Nat} {sc : zS} {mc ms : Nat} {Q : zQ} {cells slots N : Nat} {g : Nat → zE} {pc : Nat} {lv : List (Option Value)} {st : List Value} {kk : Fin 4} {x : Int64} (hd : decode (zcc M) pc = .ok (.lstore_n kk, 1)) (hn : (kk : Nat) + 1 < znl M) (ho : zok lv (kk : Nat) = true) (k : Wq M d sc mc ms Q cells slots N g (pc + 1) ((lv.set (kk : Nat) (some (.long x))).set ((kk : Nat) + 1) none) st) : Wq M d sc mc ms Q cells slots N g pc lv (.long x :: st) := by
  intro l p e R s m args below meth c D cA b base QM C H locs ls hR hS hL
  exact lv_lstore_n C.1 C.2.1 hd rfl hL.has hn rfl (fun ls2 h2 => k l p e R s m args below meth c D cA b base QM C H locs ls2 hR hS (zL_store2 ho h2))
theorem q_lstore {M : zM} {d : Nat} {sc : zS} {mc ms : Nat} {Q : zQ} {cells slots N : Nat} {g : Nat → zE} {pc : Nat} {lv : List (Option Value)} {st : List Value} {i : Nat} {x : Int64} (hd : decode (zcc M) pc = .ok (.lstore i, 2)) (hn : i + 1 < znl M) (ho : zok lv i = true) (k : Wq M d sc mc ms Q cells slots N g (pc + 2) ((lv.set i (some (.long x))).set (i + 1) none) st) : Wq M d sc mc ms Q cells slots N g pc lv (.long x :: st) := by
  intro l p e R s m args below meth c D cA b base QM C H locs ls hR hS hL
  exact lv_lstore C.1 C.2.1 hd hL.has hn rfl (fun ls2 h2 => k l p e R s m args below meth c D cA b base QM C H locs ls2 hR hS (zL_store2 ho h2))
theorem q_astore_n {M : zM} {d : Nat} {sc : zS} {mc ms : Nat} {Q : zQ} {cells slots N : Nat} {g : Nat → zE} {pc : Nat} {lv : List (Option Value)} {st : List Value} {kk : Fin 4} {x : Nat} (hd : decode (zcc M) pc = .ok (.astore_n kk, 1)) (hn : (kk : Nat) < znl M) (ho : zok lv (kk : Nat) = true) (k : Wq M d sc mc ms Q cells slots N g (pc + 1) (lv.set (kk : Nat) (some (.ref x))) st) : Wq M d sc mc ms Q cells slots N g pc lv (.ref x :: st) := by
  intro l p e R s m args below meth c D cA b base QM C H locs ls hR hS hL
  exact lv_astore_n C.1 C.2.1 hd rfl hL.has hn rfl (fun ls2 h2 => k l p e R s m args below meth c D cA b base QM C H locs ls2 hR hS (zL_store1 ho h2))
theorem q_astore {M : zM} {d : Nat} {sc : zS} {mc ms : Nat} {Q : zQ} {cells slots N : Nat} {g : Nat → zE} {pc : Nat} {lv : List (Option Value)} {st : List Value} {i : Nat} {x : Nat} (hd : decode (zcc M) pc = .ok (.astore i, 2)) (hn : i < znl M) (ho : zok lv i = true) (k : Wq M d sc mc ms Q cells slots N g (pc + 2) (lv.set i (some (.ref x))) st) : Wq M d sc mc ms Q cells slots N g pc lv (.ref x :: st) := by
  intro l p e R s m args below meth c D cA b base QM C H locs ls hR hS hL
  exact lv_astore C.1 C.2.1 hd hL.has hn rfl (fun ls2 h2 => k l p e R s m args below meth c D cA b base QM C H locs ls2 hR hS (zL_store1 ho h2))
theorem q_astoreN {M : zM} {d : Nat} {sc : zS} {mc ms : Nat} {Q : zQ} {cells slots N : Nat} {g : Nat → zE} {pc : Nat} {lv : List (Option Value)} {st : List Value} {i : Nat} (hd : decode (zcc M) pc = .ok (.astore i, 2)) (hn : i < znl M) (ho : zok lv i = true) (k : Wq M d sc mc ms Q cells slots N g (pc + 2) (lv.set i (some .null)) st) : Wq M d sc mc ms Q cells slots N g pc lv (.null :: st) := by
  intro l p e R s m args below meth c D cA b base QM C H locs ls hR hS hL
  exact lv_astoreN C.1 C.2.1 hd hL.has hn rfl (fun ls2 h2 => k l p e R s m args below meth c D cA b base QM C H locs ls2 hR hS (zL_store1 (v := .null) ho h2))
theorem q_astore_nN {M : zM} {d : Nat} {sc : zS} {mc ms : Nat} {Q : zQ} {cells slots N : Nat} {g : Nat → zE} {pc : Nat} {lv : List (Option Value)} {st : List Value} {kk : Fin 4} (hd : decode (zcc M) pc = .ok (.astore_n kk, 1)) (hn : (kk : Nat) < znl M) (ho : zok lv (kk : Nat) = true) (k : Wq M d sc mc ms Q cells slots N g (pc + 1) (lv.set (kk : Nat) (some .null)) st) : Wq M d sc mc ms Q cells slots N g pc lv (.null :: st) := by
  intro l p e R s m args below meth c D cA b base QM C H locs ls hR hS hL
  exact lv_astore_nN C.1 C.2.1 hd rfl hL.has hn rfl (fun ls2 h2 => k l p e R s m args below meth c D cA b base QM C H locs ls2 hR hS (zL_store1 (v := .null) ho h2))
theorem q_aloadN {M : zM} {d : Nat} {sc : zS} {mc ms : Nat} {Q : zQ} {cells slots N : Nat} {g : Nat → zE} {pc : Nat} {lv : List (Option Value)} {st : List Value} {i : Nat} (hd : decode (zcc M) pc = .ok (.aload i, 2)) (hl : lv[i]? = some (some .null)) (k : Wq M d sc mc ms Q cells slots N g (pc + 2) lv (.null :: st)) : Wq M d sc mc ms Q cells slots N g pc lv st := by
  intro l p e R s m args below meth c D cA b base QM C H locs ls hR hS hL
  exact lv_aloadN C.1 C.2.1 hd (hL.2.2 _ _ hl) (k l p e R s m args below meth c D cA b base QM C H locs ls hR hS hL)
theorem q_aload_nN {M : zM} {d : Nat} {sc : zS} {mc ms : Nat} {Q : zQ} {cells slots N : Nat} {g : Nat → zE} {pc : Nat} {lv : List (Option Value)} {st : List Value} {kk : Fin 4} (hd : decode (zcc M) pc = .ok (.aload_n kk, 1)) (hl : lv[(kk : Nat)]? = some (some .null)) (k : Wq M d sc mc ms Q cells slots N g (pc + 1) lv (.null :: st)) : Wq M d sc mc ms Q cells slots N g pc lv st := by
  intro l p e R s m args below meth c D cA b base QM C H locs ls hR hS hL
  exact lv_aload_nN C.1 C.2.1 hd rfl (hL.2.2 _ _ hl) (k l p e R s m args below meth c D cA b base QM C H locs ls hR hS hL)
theorem q_iinc {M : zM} {d : Nat} {sc : zS} {mc ms : Nat} {Q : zQ} {cells slots N : Nat} {g : Nat → zE} {pc : Nat} {lv : List (Option Value)} {st : List Value} {i : Nat} {n : Int} {x : Int32} (hd : decode (zcc M) pc = .ok (.iinc i n, 3)) (hl : lv[i]? = some (some (.int x))) (hn : i < znl M) (ho : zok lv i = true) (k : Wq M d sc mc ms Q cells slots N g (pc + 3) (lv.set i (some (.int (x + Int32.ofInt n)))) st) : Wq M d sc mc ms Q cells slots N g pc lv st := by
  intro l p e R s m args below meth c D cA b base QM C H locs ls hR hS hL
  obtain ⟨kp, hkp⟩ := List.getElem?_of_mem (zl_mem (b := b) (base := base) hl)
  exact lv_iinc C.1 C.2.1 hd hL.has (k := kp) hkp rfl hn rfl (fun ls2 h2 => k l p e R s m args below meth c D cA b base QM C H locs ls2 hR hS (zL_store1 (v := .int (x + Int32.ofInt n)) ho h2))
theorem q_ldcw {M : zM} {d : Nat} {sc : zS} {mc ms : Nat} {Q : zQ} {cells slots N : Nat} {g : Nat → zE} {pc : Nat} {lv : List (Option Value)} {st : List Value} {index : Nat} {v : Int32} (hd : decode (zcc M) pc = .ok (.ldc_w index, 3)) (hc : Cond.constant (zown M) index v ∈ TB) (k : Wq M d sc mc ms Q cells slots N g (pc + 3) lv (.int v :: st)) : Wq M d sc mc ms Q cells slots N g pc lv st := by
  intro l p e R s m args below meth c D cA b base QM C H locs ls hR hS hL
  exact lv_ldcw C.1 C.2.1 C.2.2.2.2.2.1 (C.2.2.2.2.2.2.1 _ hc) hd (k l p e R s m args below meth c D cA b base QM C H locs ls hR hS hL)
theorem q_ldc2 {M : zM} {d : Nat} {sc : zS} {mc ms : Nat} {Q : zQ} {cells slots N : Nat} {g : Nat → zE} {pc : Nat} {lv : List (Option Value)} {st : List Value} {index : Nat} {v : Int64} (hd : decode (zcc M) pc = .ok (.ldc2_w index, 3)) (hc : Cond.constantLong (zown M) index v ∈ TB) (k : Wq M d sc mc ms Q cells slots N g (pc + 3) lv (.long v :: st)) : Wq M d sc mc ms Q cells slots N g pc lv st := by
  intro l p e R s m args below meth c D cA b base QM C H locs ls hR hS hL
  exact lv_ldc2 C.1 C.2.1 C.2.2.2.2.2.1 (C.2.2.2.2.2.2.1 _ hc) hd (k l p e R s m args below meth c D cA b base QM C H locs ls hR hS hL)
theorem q_ret {M : zM} {d : Nat} {sc : zS} {mc ms : Nat} {Q : zQ} {cells slots N : Nat} {g : Nat → zE} {pc : Nat} {lv : List (Option Value)} {v : Option Value} (hq : Q v N g) (hv : zRet M pc v) (hc : cells ≤ mc) (hs : slots ≤ ms) : Wq M d sc mc ms Q cells slots N g pc lv v.toList := by
  intro l p e R s m args below meth c D cA b base QM C H locs ls hR hS hL
  exact W.widen hc hs (C.2.2.2.2.2.2.2.2.2.2.2.2.2 v N g H locs ls pc hq hR hS hv)
theorem q_sub {M : zM} {d : Nat} {sc : zS} {mc ms : Nat} {Q : zQ} {cells slots N : Nat} {g : Nat → zE} {pc : Nat} {lv : List (Option Value)} {st : List Value} {lv' : List (Option Value)} (h : ∀ (i : Nat) (v : Value), lv'[i]? = some (some v) → lv[i]? = some (some v)) (k : Wq M d sc mc ms Q cells slots N g pc lv' st) : Wq M d sc mc ms Q cells slots N g pc lv st := by
  intro l p e R s m args below meth c D cA b base QM C H locs ls hR hS hL
  exact k l p e R s m args below meth c D cA b base QM C H locs ls hR hS ⟨hL.1, hL.2.1, fun i v hi => hL.2.2 i v (h i v hi)⟩
theorem q_congr {M : zM} {d : Nat} {sc : zS} {mc ms : Nat} {Q : zQ} {cells slots N : Nat} {g : Nat → zE} {pc : Nat} {lv : List (Option Value)} {st : List Value} {g' : Nat → zE} (h : ∀ k, k < N → g (k + 1) = g' (k + 1)) (k : Wq M d sc mc ms Q cells slots N g' pc lv st) : Wq M d sc mc ms Q cells slots N g pc lv st := by
  intro l p e R s m args below meth c D cA b base QM C H locs ls hR hS hL
  exact k l p e R s m args below meth c D cA b base QM C H locs ls ⟨hR.1, by rw [← zW_congr h]; exact hR.2⟩ hS hL
end
section
/-! what is known of each class -/
theorem zcl : ∀ (ci : Nat) (C : String) (T : u_T) (n : Nat), vwCl[ci]? = some (C, T, n) → (∀ w ∈ u_ws C T n, w ∈ TB) ∧ (∃ ty0 : Nat → FieldType, ∀ k, k < n → parseFieldDescriptor (T k).2.2.1 = some (ty0 k)) ∧ (∀ a, a < n → ∀ b, b < n → a ≠ b → (T a).2.1 ≠ (T b).2.1)
  | 0, C, T, n, h => by
    have h2 : some (RX0, TX0, 9) = some (C, T, n) := h
    cases h2
    exact ⟨inlX0, ⟨tyX0, tyX0_ok⟩, nmX0⟩
  | 1, C, T, n, h => by
    have h2 : some (RX1, TX1, 7) = some (C, T, n) := h
    cases h2
    exact ⟨inlX1, ⟨tyX1, tyX1_ok⟩, nmX1⟩
  | 2, C, T, n, h => by
    have h2 : some (RX2, TX2, 3) = some (C, T, n) := h
    cases h2
    exact ⟨inlX2, ⟨tyX2, tyX2_ok⟩, nmX2⟩
  | 3, C, T, n, h => by
    have h2 : some (RX3, TX3, 2) = some (C, T, n) := h
    cases h2
    exact ⟨inlX3, ⟨tyX3, tyX3_ok⟩, nmX3⟩
  | 4, C, T, n, h => by
    have h2 : some (RX4, TX4, 4) = some (C, T, n) := h
    cases h2
    exact ⟨inlX4, ⟨tyX4, tyX4_ok⟩, nmX4⟩
  | 5, C, T, n, h => by
    have h2 : some (RX5, TX5, 2) = some (C, T, n) := h
    cases h2
    exact ⟨inlX5, ⟨tyX5, tyX5_ok⟩, nmX5⟩
  | 6, C, T, n, h => by
    have h2 : some (RX6, TX6, 7) = some (C, T, n) := h
    cases h2
    exact ⟨inlX6, ⟨tyX6, tyX6_ok⟩, nmX6⟩
  | 7, C, T, n, h => by
    have h2 : some (RX7, TX7, 13) = some (C, T, n) := h
    cases h2
    exact ⟨inlX7, ⟨tyX7, tyX7_ok⟩, nmX7⟩
  | 8, C, T, n, h => by
    have h2 : some (RX8, TX8, 32) = some (C, T, n) := h
    cases h2
    exact ⟨inlX8, ⟨tyX8, tyX8_ok⟩, nmX8⟩
  | k + 9, C, T, n, h => by simp [vwCl] at h
section ZH
variable {p : Program} {l : Launch} {e : Env} {R : Room} {s : State} {m : MethodId} {args : Array Value} {below : List Frame} {meth : Method} {c : Code} {H : Heap} {locs : List Loc} {cells slots : Nat} {Q : State → Prop}
variable {cc : ByteArray} {pc : Nat} {ls : Array Slot} {rest : List Value} {D : va_G} {cl : List vw_C} {A : Nat → Prop} {a : Nat} {tys : List (ClassId × FieldType)} {ws : va_W} {H0 : Heap}
/-- va_put, with what it leaves of the heap's size -/
theorem zput (hexec : p.tables.exec = Jvm.exec) (hb : c.code = cc) {own ref C : String} {T : u_T} {N ci index : Nat} {Ts : List Cond} (hts : ∀ w ∈ Ts, w.before args s = true) (hin : ∀ w ∈ u_ws C T N, w ∈ Ts) (ty0 : Nat → FieldType) (hty : ∀ k, k < N → parseFieldDescriptor (T k).2.2.1 = some (ty0 k)) (hnm : ∀ a, a < N → ∀ b, b < N → a ≠ b → (T a).2.1 ≠ (T b).2.1) (hown : s.vm.findClass own = some m.cls) (hK : va_K D cl tys s) (hP : va_P D cl ws H) (hD : va_D A ws) (hS0 : va_S A H0 H locs) (q0 : Nat) {fs : List Value} (he : ws[q0]? = some (a, .inr (ci, fs))) (hc : cl[ci]? = some (C, T, N)) (k : Nat) (hk : k < N) (hlink : (Cond.fieldLink own index ref (T k).2.1 (T k).2.2.1).before args s = true) (hsame : ∀ x, s.fieldFound? (T k).1 (T k).2.1 (T k).2.2.1 = some x → s.fieldFound? ref (T k).2.1 (T k).2.2.1 = some x) (hfin : (T k).2.2.2 = false) {ty : FieldType} {v : Value} (hd : parseFieldDescriptor (T k).2.2.1 = some ty) (hn : narrow ty v = v) (hfit : fits ty v = true) (hl : k < fs.length)
    (hdg : decode cc pc = .ok (.putfield index, 3)) (kk : ∀ (H1 : Heap) (locs1 : List Loc), H1.size = H.size → va_P D cl (ws.set q0 (a, .inr (ci, fs.set k v))) H1 → va_S A H0 H1 locs1 → W p l e R s m args below meth c H1 locs1 cells slots Q (F0 m (pc + 3) ls rest)) : W p l e R s m args below meth c H locs cells slots Q (F0 m pc ls (v :: .ref a :: rest)) := by
  have hap := va_apart (own := own) hts hin ty0 hty hnm hK hc
  obtain ⟨r, h1, cell, q1, q2, q3, q4⟩ := hP q0 _ he
  have hr : r = (C, T, N) := Option.some.inj (h1.symm.trans hc)
  subst hr
  obtain ⟨hS, hfc, kC, hkC, hkind⟩ := hK.1 ci _ hc
  obtain ⟨cf, kf, fi, f, hi, hsl⟩ := hS k hk
  have hlay := hts _ (hin _ (u_in_lay hk))
  unfold u_lay at hlay
  rw [if_neg (by rw [hfin]; decide)] at hlay
  have hst := (u_facts hfc hkC (u_lays hts hin hk) hi).1
  have h6 := u_store hfc hkC hkind hlay hi hd hn hfit
  refine W.putK hexec hb (f := f) ⟨hown, hlink, ⟨_, _, _, hsame _ hi⟩, hst⟩ (by rw [q2]; exact h6) q1 q3 (by rw [hsl]; exact k2_hasslot (q4 k hk)) rfl rfl hdg fun H' e1 e2 e3 => ?_
  rw [hsl] at e1 ⊢
  exact kk H' _ e2 (hP.set hD he ⟨_, hc, t_OB.to (V := updV (vp_V fs) k v) ⟨_, e1, q2, q3, t_set q4 hap hk v⟩ (fun j _ => vp_updV_set hl v j)⟩ e3) (hS0.put e2 e3 (hD.2 q0 _ he))
theorem zputF (hexec : p.tables.exec = Jvm.exec) (hb : c.code = cc) {own ref C : String} {T : u_T} {N ci index : Nat} {Ts : List Cond} (hts : ∀ w ∈ Ts, w.before args s = true) (hin : ∀ w ∈ u_ws C T N, w ∈ Ts) (ty0 : Nat → FieldType) (hty : ∀ k, k < N → parseFieldDescriptor (T k).2.2.1 = some (ty0 k)) (hnm : ∀ a, a < N → ∀ b, b < N → a ≠ b → (T a).2.1 ≠ (T b).2.1) (hown : s.vm.findClass own = some m.cls) (hK : va_K D cl tys s) (hP : va_P D cl ws H) (hD : va_D A ws) (hS0 : va_S A H0 H locs) (q0 : Nat) {fs : List Value} (he : ws[q0]? = some (a, .inr (ci, fs))) (hc : cl[ci]? = some (C, T, N)) (k : Nat) (hk : k < N) (hlink : (Cond.fieldLink own index ref (T k).2.1 (T k).2.2.1).before args s = true) (hsame : ∀ x, s.fieldFound? (T k).1 (T k).2.1 (T k).2.2.1 = some x → s.fieldFound? ref (T k).2.1 (T k).2.2.1 = some x) (hfin : (T k).2.2.2 = true) (hin2 : meth.name = "<init>") (hdecl : (T k).1 = own) {ty : FieldType} {v : Value} (hd : parseFieldDescriptor (T k).2.2.1 = some ty) (hn : narrow ty v = v) (hfit : fits ty v = true) (hl : k < fs.length)
    (hdg : decode cc pc = .ok (.putfield index, 3)) (kk : ∀ (H1 : Heap) (locs1 : List Loc), H1.size = H.size → va_P D cl (ws.set q0 (a, .inr (ci, fs.set k v))) H1 → va_S A H0 H1 locs1 → W p l e R s m args below meth c H1 locs1 cells slots Q (F0 m (pc + 3) ls rest)) : W p l e R s m args below meth c H locs cells slots Q (F0 m pc ls (v :: .ref a :: rest)) := by
  have hap := va_apart (own := own) hts hin ty0 hty hnm hK hc
  obtain ⟨r, h1, cell, q1, q2, q3, q4⟩ := hP q0 _ he
  have hr : r = (C, T, N) := Option.some.inj (h1.symm.trans hc)
  subst hr
  obtain ⟨hS, hfc, kC, hkC, hkind⟩ := hK.1 ci _ hc
  obtain ⟨cf, kf, fi, f, hi, hsl⟩ := hS k hk
  have hlay := hts _ (hin _ (u_in_lay hk))
  unfold u_lay at hlay
  rw [if_pos hfin] at hlay
  have hst := (u_facts hfc hkC (u_lays hts hin hk) hi).1
  have hcf : m.cls = cf := by
    obtain ⟨_, _, c', _, _, _, -, -, hf', -, -, -, hown2, -⟩ := Cond.laysFinal_spec hlay
    have e1 : c' = cf := by have := hi.symm.trans hf'; simp at this; exact this.1.symm
    rw [hdecl] at hown2
    rw [← e1]; exact Option.some.inj (hown.symm.trans hown2)
  have h6 := u_fits hfc hkC hkind (Or.inr hlay) hi hd hn hfit
  refine W.putFinK hexec hb hown hlink (hsame _ hi) hst hcf hin2 (by rw [q2]; exact h6) q1 q3 (by rw [hsl]; exact k2_hasslot (q4 k hk)) rfl rfl hdg fun H' e1 e2 e3 => ?_
  rw [hsl] at e1 ⊢
  exact kk H' _ e2 (hP.set hD he ⟨_, hc, t_OB.to (V := updV (vp_V fs) k v) ⟨_, e1, q2, q3, t_set q4 hap hk v⟩ (fun j _ => vp_updV_set hl v j)⟩ e3) (hS0.put e2 e3 (hD.2 q0 _ he))
theorem ziast (hexec : p.tables.exec = Jvm.exec) (hb : c.code = cc) (hK : va_K D cl tys s) (hP : va_P D cl ws H) (hD : va_D A ws) (hS : va_S A H0 H locs) (q0 t0 : Nat) {cA : ClassId} {n : Nat} {f : Nat → Int32} (ha : ws[q0]? = some (a, .inl (cA, n, .inl f))) (ht : tys[t0]? = some (cA, .int)) {i : Int32} {x : Int32} (hin : vp_in i n) (hdg : decode cc pc = .ok (.iastore, 1))
    (kk : ∀ (H1 : Heap) (locs1 : List Loc), H1.size = H.size → va_P D cl (ws.set q0 (a, .inl (cA, n, .inl (upd f i.toNatClampNeg x)))) H1 → va_S A H0 H1 locs1 → W p l e R s m args below meth c H1 locs1 cells slots Q (F0 m (pc + 1) ls rest)) : W p l e R s m args below meth c H locs cells slots Q (F0 m pc ls (.int x :: .int i :: .ref a :: rest)) := by
  refine W.iast hexec hb (hP q0 _ ha) ((hK.2 t0 _ ht).1 n (fun j => .int (f j))) (fun q => by cases q) (by show ¬ (i < 0 ∨ (arrV _ _ _).slots.size ≤ _); rw [arrV_size]; exact hin) rfl rfl hdg fun H1 e z oq => ?_
  refine kk H1 _ z (hP.set hD ha ?_ oq) (hS.put z oq (hD.2 q0 _ ha))
  show H1[a]? = some (vp_cell _ _)
  rw [e]
  rw [vp_cell_i, vp_cell_i, arrV_store]
  congr 2
  funext q
  by_cases hq : q = i.toNatClampNeg
  · subst hq
    simp [updV, upd]
    try rfl
  · simp [updV, upd, hq]
theorem zzast (hexec : p.tables.exec = Jvm.exec) (hb : c.code = cc) (hK : va_K D cl tys s) (hP : va_P D cl ws H) (hD : va_D A ws) (hS : va_S A H0 H locs) (q0 t0 : Nat) {cA : ClassId} {n : Nat} {f : Nat → Int32} (ha : ws[q0]? = some (a, .inl (cA, n, .inl f))) (ht : tys[t0]? = some (cA, .boolean)) {i : Int32} {x : Int32} (hin : vp_in i n) (hdg : decode cc pc = .ok (.bastore, 1))
    (kk : ∀ (H1 : Heap) (locs1 : List Loc), H1.size = H.size → va_P D cl (ws.set q0 (a, .inl (cA, n, .inl (upd f i.toNatClampNeg (vp_nar .boolean x))))) H1 → va_S A H0 H1 locs1 → W p l e R s m args below meth c H1 locs1 cells slots Q (F0 m (pc + 1) ls rest)) : W p l e R s m args below meth c H locs cells slots Q (F0 m pc ls (.int x :: .int i :: .ref a :: rest)) := by
  refine W.zast hexec hb (hP q0 _ ha) ((hK.2 t0 _ ht).1 n (fun j => .int (f j))) (fun q => by cases q) (by show ¬ (i < 0 ∨ (arrV _ _ _).slots.size ≤ _); rw [arrV_size]; exact hin) rfl rfl hdg fun H1 e z oq => ?_
  refine kk H1 _ z (hP.set hD ha ?_ oq) (hS.put z oq (hD.2 q0 _ ha))
  show H1[a]? = some (vp_cell _ _)
  rw [e]
  rw [vp_cell_i, vp_cell_i, arrV_store]
  congr 2
  funext q
  by_cases hq : q = i.toNatClampNeg
  · subst hq
    simp [updV, upd, vp_nar]
    try rfl
  · simp [updV, upd, vp_nar, hq]
theorem zlast (hexec : p.tables.exec = Jvm.exec) (hb : c.code = cc) (hK : va_K D cl tys s) (hP : va_P D cl ws H) (hD : va_D A ws) (hS : va_S A H0 H locs) (q0 t0 : Nat) {cA : ClassId} {n : Nat} {f : Nat → Int64} (ha : ws[q0]? = some (a, .inl (cA, n, .inr (.inl f)))) (ht : tys[t0]? = some (cA, .long)) {i : Int32} {x : Int64} (hin : vp_in i n) (hdg : decode cc pc = .ok (.lastore, 1))
    (kk : ∀ (H1 : Heap) (locs1 : List Loc), H1.size = H.size → va_P D cl (ws.set q0 (a, .inl (cA, n, .inr (.inl (vp_updL f i.toNatClampNeg x))))) H1 → va_S A H0 H1 locs1 → W p l e R s m args below meth c H1 locs1 cells slots Q (F0 m (pc + 1) ls rest)) : W p l e R s m args below meth c H locs cells slots Q (F0 m pc ls (.long x :: .int i :: .ref a :: rest)) := by
  refine W.last hexec hb (hP q0 _ ha) ((hK.2 t0 _ ht).1 n (fun j => .long (f j))) (fun q => by cases q) (by show ¬ (i < 0 ∨ (arrV _ _ _).slots.size ≤ _); rw [arrV_size]; exact hin) rfl rfl hdg fun H1 e z oq => ?_
  refine kk H1 _ z (hP.set hD ha ?_ oq) (hS.put z oq (hD.2 q0 _ ha))
  show H1[a]? = some (vp_cell _ _)
  rw [e]
  rw [vp_cell_l, vp_cell_l, arrV_store]
  congr 2
  funext q
  by_cases hq : q = i.toNatClampNeg
  · subst hq
    simp [updV, vp_updL]
    try rfl
  · simp [updV, vp_updL, hq]
theorem zastq (hexec : p.tables.exec = Jvm.exec) (hb : c.code = cc) (hK : va_K D cl tys s) (hP : va_P D cl ws H) (hD : va_D A ws) (hS : va_S A H0 H locs) (q0 t0 qk ci : Nat) {cA : ClassId} {r : vw_C} {n v : Nat} {vs : List Value} {f : Nat → Option Nat} (ha : ws[q0]? = some (a, .inl (cA, n, .inr (.inr (.inr (.inr f)))))) (ht : tys[t0]? = some (cA, .object r.1)) (hv : ws[qk]? = some (v, .inr (ci, vs))) (hc : cl[ci]? = some r) {i : Int32} (hin : vp_in i n) (hdg : decode cc pc = .ok (.aastore, 1))
    (kk : ∀ (H1 : Heap) (locs1 : List Loc), H1.size = H.size → va_P D cl (ws.set q0 (a, .inl (cA, n, .inr (.inr (.inr (.inr (va_up f i.toNatClampNeg (some v)))))))) H1 → va_S A H0 H1 locs1 → W p l e R s m args below meth c H1 locs1 cells slots Q (F0 m (pc + 1) ls rest)) : W p l e R s m args below meth c H locs cells slots Q (F0 m pc ls (.ref v :: .int i :: .ref a :: rest)) := by
  have hlt : i.toNatClampNeg < n := Nat.not_le.mp fun q => hin (Or.inr q)
  have h0 : ¬ i < 0 := fun q => hin (Or.inl q)
  obtain ⟨r', hr', cellV, g1, g2, g3, -⟩ := hP qk _ hv
  have hcls := (hK.1 ci r hc).2
  obtain ⟨kA, comp, k1, k2, k3, -⟩ := (hK.2 t0 _ ht).2
  have hcomp : comp = D.1 ci := Option.some.inj (k3.symm.trans hcls.1)
  subst hcomp
  obtain ⟨kC, hkC, -⟩ := hcls.2
  refine W.aast hexec hb (hP q0 _ ha) (fun q h => by cases h) (fun h => by cases h) k1 k2 rfl hkC ⟨h0, by show _ < (arrV _ _ _).slots.size; rw [arrV_size]; exact hlt⟩ g1 (fun q h => by rw [g3] at h; cases h) (by rw [g2]; exact hkC) (by rw [g2]; exact va_assign hcls) rfl rfl hdg fun H1 e z oq => ?_
  refine kk H1 _ z (hP.set hD ha ?_ oq) (hS.put z oq (hD.2 q0 _ ha))
  show H1[a]? = some (vp_cell _ _)
  rw [e]
  rw [vp_cell_q, vp_cell_q, arrV_store]
  congr 2
  funext q
  by_cases hq : q = i.toNatClampNeg
  · subst hq
    simp [updV, va_up, va_rf]
  · simp [updV, va_up, hq]
end ZH
theorem q_get {M : zM} {d : Nat} {sc : zS} {mc ms : Nat} {Q : zQ} {cells slots N : Nat} {g : Nat → zE} {pc : Nat} {lv : List (Option Value)} {st : List Value} {idx kc ci : Nat} {fs : List Value} {CC : String} {T : u_T} {n : Nat} {v : Value} (j : Nat) (hd : decode (zcc M) pc = .ok (.getfield idx, 3)) (hk : g kc = .inr (ci, fs)) (h1 : 1 ≤ kc) (h2 : kc ≤ N) (hc : vwCl[ci]? = some (CC, T, n)) (hj : j < n) (hl : Cond.fieldLink (zown M) idx (T j).1 (T j).2.1 (T j).2.2.1 ∈ TB) (hv : fs[j]? = some v) (kk : Wq M d sc mc ms Q cells slots N g (pc + 3) lv (v :: st)) : Wq M d sc mc ms Q cells slots N g pc lv (.ref kc :: st) := by
  intro l p e R s m args below meth c D cA b base QM C H locs ls hR hS hL
  obtain ⟨k, rfl⟩ : ∃ k, kc = k + 1 := ⟨kc - 1, by omega⟩
  have hkN : k < N := by omega
  have hg := zW_get (cA := cA) (b := b) (base := base) (g := g) hkN
  rw [hk] at hg
  exact va_get C.1 C.2.1 C.2.2.2.2.2.2.1 (zcl ci CC T n hc).1 C.2.2.2.2.2.1 C.2.2.2.2.2.2.2.2.2.1 hR.2 k hg hc j hj (C.2.2.2.2.2.2.1 _ hl) (fun _ h => h) (v := zV b base v) (by rw [List.getElem?_map, hv]; rfl) hd (kk l p e R s m args below meth c D cA b base QM C H locs ls hR hS hL)
theorem q_puti {M : zM} {d : Nat} {sc : zS} {mc ms : Nat} {Q : zQ} {cells slots N : Nat} {g : Nat → zE} {pc : Nat} {lv : List (Option Value)} {st : List Value} {idx kc ci : Nat} {fs : List Value} {CC : String} {T : u_T} {n : Nat} {x : Int32} (j : Nat) (hd : decode (zcc M) pc = .ok (.putfield idx, 3)) (hk : g kc = .inr (ci, fs)) (h1 : 1 ≤ kc) (h2 : kc ≤ N) (hc : vwCl[ci]? = some (CC, T, n)) (hj : j < n) (hl : Cond.fieldLink (zown M) idx (T j).1 (T j).2.1 (T j).2.2.1 ∈ TB) (hfin : (T j).2.2.2 = false) (hty : parseFieldDescriptor (T j).2.2.1 = some .int) (hlen : j < fs.length) (kk : Wq M d sc mc ms Q cells slots N (va_up g kc (.inr (ci, fs.set j (.int x)))) (pc + 3) lv st) : Wq M d sc mc ms Q cells slots N g pc lv (.int x :: .ref kc :: st) := by
  intro l p e R s m args below meth c D cA b base QM C H locs ls hR hS hL
  obtain ⟨k, rfl⟩ : ∃ k, kc = k + 1 := ⟨kc - 1, by omega⟩
  have hkN : k < N := by omega
  have hg := zW_get (cA := cA) (b := b) (base := base) (g := g) hkN
  rw [hk] at hg
  obtain ⟨hz1, ⟨ty0, hz2⟩, hz3⟩ := zcl ci CC T n hc
  refine zput C.1 C.2.1 C.2.2.2.2.2.2.1 hz1 ty0 hz2 hz3 C.2.2.2.2.2.1 C.2.2.2.2.2.2.2.2.2.1 hR.2 zW_D hS k hg hc j hj (C.2.2.2.2.2.2.1 _ hl) (fun _ h => h) hfin hty (v := (.int x)) rfl rfl (by rw [List.length_map]; exact hlen) hd (fun H1 locs1 hz hP1 hS1 => ?_)
  rw [zW_set (e := .inr (ci, fs.set j (.int x))) (by show Sum.inr _ = _; rw [List.map_set]; rfl)] at hP1
  exact kk l p e R s m args below meth c D cA b base QM C H1 locs1 ls ⟨hz.trans hR.1, hP1⟩ hS1 hL
theorem q_putz {M : zM} {d : Nat} {sc : zS} {mc ms : Nat} {Q : zQ} {cells slots N : Nat} {g : Nat → zE} {pc : Nat} {lv : List (Option Value)} {st : List Value} {idx kc ci : Nat} {fs : List Value} {CC : String} {T : u_T} {n : Nat} {x : Int32} (j : Nat) (hd : decode (zcc M) pc = .ok (.putfield idx, 3)) (hk : g kc = .inr (ci, fs)) (h1 : 1 ≤ kc) (h2 : kc ≤ N) (hc : vwCl[ci]? = some (CC, T, n)) (hj : j < n) (hl : Cond.fieldLink (zown M) idx (T j).1 (T j).2.1 (T j).2.2.1 ∈ TB) (hfin : (T j).2.2.2 = false) (hty : parseFieldDescriptor (T j).2.2.1 = some .boolean) (hlen : j < fs.length) (h01 : x = 0 ∨ x = 1) (kk : Wq M d sc mc ms Q cells slots N (va_up g kc (.inr (ci, fs.set j (.int x)))) (pc + 3) lv st) : Wq M d sc mc ms Q cells slots N g pc lv (.int x :: .ref kc :: st) := by
  intro l p e R s m args below meth c D cA b base QM C H locs ls hR hS hL
  obtain ⟨k, rfl⟩ : ∃ k, kc = k + 1 := ⟨kc - 1, by omega⟩
  have hkN : k < N := by omega
  have hg := zW_get (cA := cA) (b := b) (base := base) (g := g) hkN
  rw [hk] at hg
  obtain ⟨hz1, ⟨ty0, hz2⟩, hz3⟩ := zcl ci CC T n hc
  refine zput C.1 C.2.1 C.2.2.2.2.2.2.1 hz1 ty0 hz2 hz3 C.2.2.2.2.2.1 C.2.2.2.2.2.2.2.2.2.1 hR.2 zW_D hS k hg hc j hj (C.2.2.2.2.2.2.1 _ hl) (fun _ h => h) hfin hty (v := (.int x)) (by rcases h01 with rfl | rfl <;> rfl) (by rcases h01 with rfl | rfl <;> rfl) (by rw [List.length_map]; exact hlen) hd (fun H1 locs1 hz hP1 hS1 => ?_)
  rw [zW_set (e := .inr (ci, fs.set j (.int x))) (by show Sum.inr _ = _; rw [List.map_set]; rfl)] at hP1
  exact kk l p e R s m args below meth c D cA b base QM C H1 locs1 ls ⟨hz.trans hR.1, hP1⟩ hS1 hL
theorem q_putr {M : zM} {d : Nat} {sc : zS} {mc ms : Nat} {Q : zQ} {cells slots N : Nat} {g : Nat → zE} {pc : Nat} {lv : List (Option Value)} {st : List Value} {idx kc ci kv : Nat} {fs : List Value} {CC : String} {T : u_T} {n : Nat} {ty : FieldType} (j : Nat) (hd : decode (zcc M) pc = .ok (.putfield idx, 3)) (hk : g kc = .inr (ci, fs)) (h1 : 1 ≤ kc) (h2 : kc ≤ N) (hc : vwCl[ci]? = some (CC, T, n)) (hj : j < n) (hl : Cond.fieldLink (zown M) idx (T j).1 (T j).2.1 (T j).2.2.1 ∈ TB) (hfin : (T j).2.2.2 = true) (hini : zini M = true) (hdecl : (T j).1 = zown M) (hty : parseFieldDescriptor (T j).2.2.1 = some ty) (hn : ∀ a : Nat, narrow ty (.ref a) = .ref a) (hf : ∀ a : Nat, fits ty (.ref a) = true) (hlen : j < fs.length) (kk : Wq M d sc mc ms Q cells slots N (va_up g kc (.inr (ci, fs.set j (.ref kv)))) (pc + 3) lv st) : Wq M d sc mc ms Q cells slots N g pc lv (.ref kv :: .ref kc :: st) := by
  intro l p e R s m args below meth c D cA b base QM C H locs ls hR hS hL
  obtain ⟨k, rfl⟩ : ∃ k, kc = k + 1 := ⟨kc - 1, by omega⟩
  have hkN : k < N := by omega
  have hg := zW_get (cA := cA) (b := b) (base := base) (g := g) hkN
  rw [hk] at hg
  obtain ⟨hz1, ⟨ty0, hz2⟩, hz3⟩ := zcl ci CC T n hc
  refine zputF C.1 C.2.1 C.2.2.2.2.2.2.1 hz1 ty0 hz2 hz3 C.2.2.2.2.2.1 C.2.2.2.2.2.2.2.2.2.1 hR.2 zW_D hS k hg hc j hj (C.2.2.2.2.2.2.1 _ hl) (fun _ h => h) hfin (C.2.2.2.2.2.2.2.1 hini) hdecl hty (v := .ref (zA b base kv)) (hn _) (hf _) (by rw [List.length_map]; exact hlen) hd (fun H1 locs1 hz hP1 hS1 => ?_)
  rw [zW_set (e := .inr (ci, fs.set j (.ref kv))) (by show Sum.inr _ = _; rw [List.map_set]; rfl)] at hP1
  exact kk l p e R s m args below meth c D cA b base QM C H1 locs1 ls ⟨hz.trans hR.1, hP1⟩ hS1 hL
theorem q_iald {M : zM} {d : Nat} {sc : zS} {mc ms : Nat} {Q : zQ} {cells slots N : Nat} {g : Nat → zE} {pc : Nat} {lv : List (Option Value)} {st : List Value} {kc n : Nat} {f : Nat → Int32} {i : Int32} (hd : decode (zcc M) pc = .ok (.iaload, 1)) (hk : g kc = .inl (0, n, .inl f)) (h1 : 1 ≤ kc) (h2 : kc ≤ N) (hin : vp_in i n) (kk : Wq M d sc mc ms Q cells slots N g (pc + 1) lv (.int (f i.toNatClampNeg) :: st)) : Wq M d sc mc ms Q cells slots N g pc lv (.int i :: .ref kc :: st) := by
  intro l p e R s m args below meth c D cA b base QM C H locs ls hR hS hL
  obtain ⟨k, rfl⟩ : ∃ k, kc = k + 1 := ⟨kc - 1, by omega⟩
  have hkN : k < N := by omega
  have hg := zW_get (cA := cA) (b := b) (base := base) (g := g) hkN
  rw [hk] at hg
  exact va_iald C.1 C.2.1 C.2.2.2.2.2.2.2.2.2.1 hR.2 k 0 hg rfl hin hd (kk l p e R s m args below meth c D cA b base QM C H locs ls hR hS hL)
theorem q_zald {M : zM} {d : Nat} {sc : zS} {mc ms : Nat} {Q : zQ} {cells slots N : Nat} {g : Nat → zE} {pc : Nat} {lv : List (Option Value)} {st : List Value} {kc n : Nat} {f : Nat → Int32} {i : Int32} (hd : decode (zcc M) pc = .ok (.baload, 1)) (hk : g kc = .inl (2, n, .inl f)) (h1 : 1 ≤ kc) (h2 : kc ≤ N) (hin : vp_in i n) (kk : Wq M d sc mc ms Q cells slots N g (pc + 1) lv (.int (f i.toNatClampNeg) :: st)) : Wq M d sc mc ms Q cells slots N g pc lv (.int i :: .ref kc :: st) := by
  intro l p e R s m args below meth c D cA b base QM C H locs ls hR hS hL
  obtain ⟨k, rfl⟩ : ∃ k, kc = k + 1 := ⟨kc - 1, by omega⟩
  have hkN : k < N := by omega
  have hg := zW_get (cA := cA) (b := b) (base := base) (g := g) hkN
  rw [hk] at hg
  exact va_zald C.1 C.2.1 C.2.2.2.2.2.2.2.2.2.1 hR.2 k 2 hg rfl hin hd (kk l p e R s m args below meth c D cA b base QM C H locs ls hR hS hL)
theorem q_lald {M : zM} {d : Nat} {sc : zS} {mc ms : Nat} {Q : zQ} {cells slots N : Nat} {g : Nat → zE} {pc : Nat} {lv : List (Option Value)} {st : List Value} {kc n : Nat} {f : Nat → Int64} {i : Int32} (hd : decode (zcc M) pc = .ok (.laload, 1)) (hk : g kc = .inl (1, n, .inr (.inl f))) (h1 : 1 ≤ kc) (h2 : kc ≤ N) (hin : vp_in i n) (kk : Wq M d sc mc ms Q cells slots N g (pc + 1) lv (.long (f i.toNatClampNeg) :: st)) : Wq M d sc mc ms Q cells slots N g pc lv (.int i :: .ref kc :: st) := by
  intro l p e R s m args below meth c D cA b base QM C H locs ls hR hS hL
  obtain ⟨k, rfl⟩ : ∃ k, kc = k + 1 := ⟨kc - 1, by omega⟩
  have hkN : k < N := by omega
  have hg := zW_get (cA := cA) (b := b) (base := base) (g := g) hkN
  rw [hk] at hg
  exact va_lald C.1 C.2.1 C.2.2.2.2.2.2.2.2.2.1 hR.2 k 1 hg rfl hin hd (kk l p e R s m args below meth c D cA b base QM C H locs ls hR hS hL)
theorem q_aald {M : zM} {d : Nat} {sc : zS} {mc ms : Nat} {Q : zQ} {cells slots N : Nat} {g : Nat → zE} {pc : Nat} {lv : List (Option Value)} {st : List Value} {kc n t : Nat} {C0 : String} {f : Nat → Option Nat} {i : Int32} {kv : Nat} (hd : decode (zcc M) pc = .ok (.aaload, 1)) (hk : g kc = .inl (t, n, .inr (.inr (.inr (.inr f))))) (h1 : 1 ≤ kc) (h2 : kc ≤ N) (ht : ∀ cA : Nat → ClassId, (zTys cA)[t]? = some (cA t, .object C0)) (hin : vp_in i n) (hf : f i.toNatClampNeg = some kv) (kk : Wq M d sc mc ms Q cells slots N g (pc + 1) lv (.ref kv :: st)) : Wq M d sc mc ms Q cells slots N g pc lv (.int i :: .ref kc :: st) := by
  intro l p e R s m args below meth c D cA b base QM C H locs ls hR hS hL
  obtain ⟨k, rfl⟩ : ∃ k, kc = k + 1 := ⟨kc - 1, by omega⟩
  have hkN : k < N := by omega
  have hg := zW_get (cA := cA) (b := b) (base := base) (g := g) hkN
  rw [hk] at hg
  refine va_aldq C.1 C.2.1 C.2.2.2.2.2.2.2.2.2.1 hR.2 k t hg (ht cA) hin hd ?_
  show W _ _ _ _ _ _ _ _ _ _ _ _ _ _ _ (F0 m (pc + 1) ls (va_rf ((f i.toNatClampNeg).map (zA b base)) :: _))
  rw [hf]
  exact kk l p e R s m args below meth c D cA b base QM C H locs ls hR hS hL
theorem q_alen {M : zM} {d : Nat} {sc : zS} {mc ms : Nat} {Q : zQ} {cells slots N : Nat} {g : Nat → zE} {pc : Nat} {lv : List (Option Value)} {st : List Value} {kc t : Nat} {x : vp_A} {ty : FieldType} {v : Int32} (hd : decode (zcc M) pc = .ok (.arraylength, 1)) (hk : g kc = .inl (t, x)) (h1 : 1 ≤ kc) (h2 : kc ≤ N) (ht : ∀ cA : Nat → ClassId, (zTys cA)[t]? = some (cA t, ty)) (hv : Int32.ofNat x.1 = v) (kk : Wq M d sc mc ms Q cells slots N g (pc + 1) lv (.int v :: st)) : Wq M d sc mc ms Q cells slots N g pc lv (.ref kc :: st) := by
  intro l p e R s m args below meth c D cA b base QM C H locs ls hR hS hL
  obtain ⟨k, rfl⟩ : ∃ k, kc = k + 1 := ⟨kc - 1, by omega⟩
  have hkN : k < N := by omega
  have hg := zW_get (cA := cA) (b := b) (base := base) (g := g) hkN
  rw [hk] at hg
  refine va_alen C.1 C.2.1 C.2.2.2.2.2.2.2.2.2.1 hR.2 k t hg (ht cA) (v := v) ?_ hd (kk l p e R s m args below meth c D cA b base QM C H locs ls hR hS hL)
  rw [← hv]
  obtain ⟨n, a⟩ := x
  match a with
  | .inl _ => rfl
  | .inr (.inl _) => rfl
  | .inr (.inr (.inl _)) => rfl
  | .inr (.inr (.inr (.inl _))) => rfl
  | .inr (.inr (.inr (.inr _))) => rfl
theorem q_iast {M : zM} {d : Nat} {sc : zS} {mc ms : Nat} {Q : zQ} {cells slots N : Nat} {g : Nat → zE} {pc : Nat} {lv : List (Option Value)} {st : List Value} {kc n : Nat} {f : Nat → Int32} {i : Int32} {x : Int32} (hd : decode (zcc M) pc = .ok (.iastore, 1)) (hk : g kc = .inl (0, n, .inl f)) (h1 : 1 ≤ kc) (h2 : kc ≤ N) (hin : vp_in i n) (kk : Wq M d sc mc ms Q cells slots N (va_up g kc (.inl (0, n, .inl (upd f i.toNatClampNeg x)))) (pc + 1) lv st) : Wq M d sc mc ms Q cells slots N g pc lv (.int x :: .int i :: .ref kc :: st) := by
  intro l p e R s m args below meth c D cA b base QM C H locs ls hR hS hL
  obtain ⟨k, rfl⟩ : ∃ k, kc = k + 1 := ⟨kc - 1, by omega⟩
  have hkN : k < N := by omega
  have hg := zW_get (cA := cA) (b := b) (base := base) (g := g) hkN
  rw [hk] at hg
  refine ziast C.1 C.2.1 C.2.2.2.2.2.2.2.2.2.1 hR.2 zW_D hS k 0 hg rfl hin hd (fun H1 locs1 hz hP1 hS1 => ?_)
  rw [zW_set (e := .inl (0, n, .inl (upd f i.toNatClampNeg x))) (e' := .inl (cA 0, n, .inl (upd f i.toNatClampNeg x))) rfl] at hP1
  exact kk l p e R s m args below meth c D cA b base QM C H1 locs1 ls ⟨hz.trans hR.1, hP1⟩ hS1 hL
theorem q_last {M : zM} {d : Nat} {sc : zS} {mc ms : Nat} {Q : zQ} {cells slots N : Nat} {g : Nat → zE} {pc : Nat} {lv : List (Option Value)} {st : List Value} {kc n : Nat} {f : Nat → Int64} {i : Int32} {x : Int64} (hd : decode (zcc M) pc = .ok (.lastore, 1)) (hk : g kc = .inl (1, n, .inr (.inl f))) (h1 : 1 ≤ kc) (h2 : kc ≤ N) (hin : vp_in i n) (kk : Wq M d sc mc ms Q cells slots N (va_up g kc (.inl (1, n, .inr (.inl (vp_updL f i.toNatClampNeg x))))) (pc + 1) lv st) : Wq M d sc mc ms Q cells slots N g pc lv (.long x :: .int i :: .ref kc :: st) := by
  intro l p e R s m args below meth c D cA b base QM C H locs ls hR hS hL
  obtain ⟨k, rfl⟩ : ∃ k, kc = k + 1 := ⟨kc - 1, by omega⟩
  have hkN : k < N := by omega
  have hg := zW_get (cA := cA) (b := b) (base := base) (g := g) hkN
  rw [hk] at hg
  refine zlast C.1 C.2.1 C.2.2.2.2.2.2.2.2.2.1 hR.2 zW_D hS k 1 hg rfl hin hd (fun H1 locs1 hz hP1 hS1 => ?_)
  rw [zW_set (e := .inl (1, n, .inr (.inl (vp_updL f i.toNatClampNeg x)))) (e' := .inl (cA 1, n, .inr (.inl (vp_updL f i.toNatClampNeg x)))) rfl] at hP1
  exact kk l p e R s m args below meth c D cA b base QM C H1 locs1 ls ⟨hz.trans hR.1, hP1⟩ hS1 hL
theorem q_zast {M : zM} {d : Nat} {sc : zS} {mc ms : Nat} {Q : zQ} {cells slots N : Nat} {g : Nat → zE} {pc : Nat} {lv : List (Option Value)} {st : List Value} {kc n : Nat} {f : Nat → Int32} {i : Int32} {x : Int32} (hd : decode (zcc M) pc = .ok (.bastore, 1)) (hk : g kc = .inl (2, n, .inl f)) (h1 : 1 ≤ kc) (h2 : kc ≤ N) (hin : vp_in i n) (h01 : x = 0 ∨ x = 1) (kk : Wq M d sc mc ms Q cells slots N (va_up g kc (.inl (2, n, .inl (upd f i.toNatClampNeg x)))) (pc + 1) lv st) : Wq M d sc mc ms Q cells slots N g pc lv (.int x :: .int i :: .ref kc :: st) := by
  intro l p e R s m args below meth c D cA b base QM C H locs ls hR hS hL
  obtain ⟨k, rfl⟩ : ∃ k, kc = k + 1 := ⟨kc - 1, by omega⟩
  have hkN : k < N := by omega
  have hg := zW_get (cA := cA) (b := b) (base := base) (g := g) hkN
  rw [hk] at hg
  have hnx : vp_nar .boolean x = x := by rcases h01 with rfl | rfl <;> rfl
  refine zzast C.1 C.2.1 C.2.2.2.2.2.2.2.2.2.1 hR.2 zW_D hS k 2 hg rfl hin hd (fun H1 locs1 hz hP1 hS1 => ?_)
  rw [hnx] at hP1
  rw [zW_set (e := .inl (2, n, .inl (upd f i.toNatClampNeg x))) (e' := .inl (cA 2, n, .inl (upd f i.toNatClampNeg x))) rfl] at hP1
  exact kk l p e R s m args below meth c D cA b base QM C H1 locs1 ls ⟨hz.trans hR.1, hP1⟩ hS1 hL
theorem q_aast {M : zM} {d : Nat} {sc : zS} {mc ms : Nat} {Q : zQ} {cells slots N : Nat} {g : Nat → zE} {pc : Nat} {lv : List (Option Value)} {st : List Value} {kc kv n t ci : Nat} {r : vw_C} {vs : List Value} {f : Nat → Option Nat} {i : Int32} (hd : decode (zcc M) pc = .ok (.aastore, 1)) (hk : g kc = .inl (t, n, .inr (.inr (.inr (.inr f))))) (h1 : 1 ≤ kc) (h2 : kc ≤ N) (ht : ∀ cA : Nat → ClassId, (zTys cA)[t]? = some (cA t, .object r.1)) (hkv : g kv = .inr (ci, vs)) (h3 : 1 ≤ kv) (h4 : kv ≤ N) (hc : vwCl[ci]? = some r) (hin : vp_in i n) (kk : Wq M d sc mc ms Q cells slots N (va_up g kc (.inl (t, n, .inr (.inr (.inr (.inr (va_up f i.toNatClampNeg (some kv)))))))) (pc + 1) lv st) : Wq M d sc mc ms Q cells slots N g pc lv (.ref kv :: .int i :: .ref kc :: st) := by
  intro l p e R s m args below meth c D cA b base QM C H locs ls hR hS hL
  obtain ⟨k, rfl⟩ : ∃ k, kc = k + 1 := ⟨kc - 1, by omega⟩
  have hkN : k < N := by omega
  have hg := zW_get (cA := cA) (b := b) (base := base) (g := g) hkN
  rw [hk] at hg
  obtain ⟨k2, rfl⟩ : ∃ k2, kv = k2 + 1 := ⟨kv - 1, by omega⟩
  have hg2 := zW_get (cA := cA) (b := b) (base := base) (g := g) (show k2 < N by omega)
  rw [hkv] at hg2
  refine zastq C.1 C.2.1 C.2.2.2.2.2.2.2.2.2.1 hR.2 zW_D hS k t k2 ci hg (ht cA) hg2 hc hin hd (fun H1 locs1 hz hP1 hS1 => ?_)
  rw [zW_set (e := .inl (t, n, .inr (.inr (.inr (.inr (va_up f i.toNatClampNeg (some (k2 + 1)))))))) ?_] at hP1
  · exact kk l p e R s m args below meth c D cA b base QM C H1 locs1 ls ⟨hz.trans hR.1, hP1⟩ hS1 hL
  · show (Sum.inl (cA t, n, Sum.inr (Sum.inr (Sum.inr (Sum.inr (fun j => ((va_up f i.toNatClampNeg (some (k2 + 1))) j).map (zA b base)))))) : va_E) = _
    refine congrArg (fun h => (Sum.inl (cA t, n, Sum.inr (Sum.inr (Sum.inr (Sum.inr h)))) : va_E)) ?_
    funext j
    by_cases hj : j = i.toNatClampNeg
    · subst hj; simp [va_up, zA]
    · simp [va_up, hj]
theorem q_sld {M : zM} {d : Nat} {sc : zS} {mc ms : Nat} {Q : zQ} {cells slots N : Nat} {g : Nat → zE} {pc : Nat} {lv : List (Option Value)} {st : List Value} {L : Nat} {xs : Nat → Int32} {i : Int32} (hsc : sc = some (L, xs)) (hd : decode (zcc M) pc = .ok (.iaload, 1)) (hin : vp_in i L) (kk : Wq M d sc mc ms Q cells slots N g (pc + 1) lv (.int (xs i.toNatClampNeg) :: st)) : Wq M d sc mc ms Q cells slots N g pc lv (.int i :: .ref 0 :: st) := by
  intro l p e R s m args below meth c D cA b base QM C H locs ls hR hS hL
  obtain ⟨hX, hb1, hb2⟩ := C.2.2.2.2.2.2.2.2.2.2.2.2.1 L xs hsc
  exact va_sld C.1 C.2.1 hX hb2 (Nat.not_le.mpr hb1) hS hin hd (kk l p e R s m args below meth c D cA b base QM C H locs ls hR hS hL)
theorem q_slen {M : zM} {d : Nat} {sc : zS} {mc ms : Nat} {Q : zQ} {cells slots N : Nat} {g : Nat → zE} {pc : Nat} {lv : List (Option Value)} {st : List Value} {L : Nat} {xs : Nat → Int32} (hsc : sc = some (L, xs)) (hd : decode (zcc M) pc = .ok (.arraylength, 1)) (kk : Wq M d sc mc ms Q cells slots N g (pc + 1) lv (.int (Int32.ofNat L) :: st)) : Wq M d sc mc ms Q cells slots N g pc lv (.ref 0 :: st) := by
  intro l p e R s m args below meth c D cA b base QM C H locs ls hR hS hL
  obtain ⟨hX, hb1, hb2⟩ := C.2.2.2.2.2.2.2.2.2.2.2.2.1 L xs hsc
  exact va_slen C.1 C.2.1 hX hb2 (Nat.not_le.mpr hb1) hS hd (kk l p e R s m args below meth c D cA b base QM C H locs ls hR hS hL)
theorem zR_push {D : va_G} {cA : Nat → ClassId} {b base N : Nat} {g : Nat → zE} {H H1 : Heap} {x : zE} (hR : zR D cA b base N g H) (hz : H1.size = H.size + 1) (ho : ∀ q, q < H.size → H1[q]? = H[q]?) (hx : va_at D vwCl (base + N, zX cA b base x) H1) : zR D cA b base (N + 1) (va_up g (N + 1) x) H1 := by
  refine ⟨by rw [hz, hR.1]; omega, ?_⟩
  rw [zW_push]
  refine va_P.app (hR.2.kept (fun k q hq => ho q.1 ((hR.2 k q hq).lt))) (fun k q hq => ?_)
  have hz : k < 1 := (List.getElem?_eq_some_iff.mp hq).1
  rw [show k = 0 by omega] at hq
  cases hq
  exact hx
theorem zS_push {A : Nat → Prop} {H0 H H1 : Heap} {locs : List Loc} (hS : va_S A H0 H locs) (hz : H1.size = H.size + 1) (ho : ∀ q, q < H.size → H1[q]? = H[q]?) : va_S A H0 H1 locs :=
  ⟨Nat.le_trans hS.1 (by omega), fun x h1 h2 => (ho x (Nat.lt_of_lt_of_le h1 hS.1)).trans (hS.2.1 x h1 h2), hS.2.2⟩
theorem q_new {M : zM} {d : Nat} {sc : zS} {mc ms : Nat} {Q : zQ} {cells slots N : Nat} {g : Nat → zE} {pc : Nat} {lv : List (Option Value)} {st : List Value} {idx ci : Nat} {CC : String} {T : u_T} {n : Nat} {fs : List Value} (hd : decode (zcc M) pc = .ok (.new idx, 3)) (hc : vwCl[ci]? = some (CC, T, n)) (hl : Cond.classLink (zown M) idx CC ∈ TB) (hi : Cond.instantiable CC n ∈ TB) (hini : Cond.initialized CC ∈ TB) (ty : Nat → FieldType) (hty : ∀ k, k < n → parseFieldDescriptor (T k).2.2.1 = some (ty k)) (hfs : ∀ j, j < n → defaultValue (ty j) = vp_V fs j) (hfz : ∀ b base : Nat, fs.map (zV b base) = fs) (hcl : cells + 1 ≤ mc) (hsl : slots + n ≤ ms) (kk : Wq M d sc mc ms Q (cells + 1) (slots + n) (N + 1) (va_up g (N + 1) (.inr (ci, fs))) (pc + 3) lv (.ref (N + 1) :: st)) : Wq M d sc mc ms Q cells slots N g pc lv st := by
  intro l p e R s m args below meth c D cA b base QM C H locs ls hR hS hL
  have hKn := (C.2.2.2.2.2.2.2.2.2.1).1 ci _ hc
  refine W.newcK C.1 C.2.1 C.2.2.2.2.2.1 (C.2.2.2.2.2.2.1 _ hl) (C.2.2.2.2.2.2.1 _ hi) (C.2.2.2.2.2.2.1 _ hini) rfl hd (Nat.le_trans hcl (C.2.2.2.2.2.2.2.2.1).2.2.1) (Nat.le_trans hsl (C.2.2.2.2.2.2.2.2.1).2.2.2) hKn.2.1 rfl fun H1 kC hkC e1 z1 o1 => ?_
  have hR1 : zR D cA b base (N + 1) (va_up g (N + 1) (.inr (ci, fs))) H1 := by
    refine zR_push hR z1 o1 ⟨_, hc, ?_⟩
    have hb := (u_born ty C.2.2.2.2.2.2.1 (zcl ci CC T n hc).1 hKn hkC e1 hty).to hfs
    show t_OB (base + N) _ _ _ _ (vp_V (fs.map (zV b base)))
    rw [hfz, ← hR.1]
    exact hb
  have hk := kk l p e R s m args below meth c D cA b base QM C H1 locs ls hR1 (zS_push hS z1 o1) hL
  rw [show H.size = base + N from hR.1]
  exact hk
theorem q_newa {M : zM} {d : Nat} {sc : zS} {mc ms : Nat} {Q : zQ} {cells slots N : Nat} {g : Nat → zE} {pc : Nat} {lv : List (Option Value)} {st : List Value} {atype : ArrayType} {ty : FieldType} {t n : Nat} {i : Int32} {a0 : vp_A} (hd : decode (zcc M) pc = .ok (.newarray atype, 2)) (hw : Cond.arrayClass (newarray.typeOf atype) ∈ TB) (hty : newarray.typeOf atype = ty) (ht : ∀ cA : Nat → ClassId, (zTys cA)[t]? = some (cA t, ty)) (hra : ∀ (U : State) (cA : ClassId), va_RA U cA ty = (U.vm.findClass ("[" ++ ty.toString) = some cA)) (ha : ∀ cA : ClassId, vp_cell cA a0 = arrV cA n (fun _ => defaultValue ty)) (hza : ∀ b base : Nat, zF b base a0 = a0) (hi : ¬ i < 0) (hn : i.toNatClampNeg = n) (hby : n * componentBytes ty ≤ 536870912) (hcl : cells + 1 ≤ mc) (hsl : slots + n ≤ ms) (kk : Wq M d sc mc ms Q (cells + 1) (slots + n) (N + 1) (va_up g (N + 1) (.inl (t, a0))) (pc + 2) lv (.ref (N + 1) :: st)) : Wq M d sc mc ms Q cells slots N g pc lv (.int i :: st) := by
  intro l p e R s m args below meth c D cA b base QM C H locs ls hR hS hL
  subst hty
  refine va_newaK C.1 C.2.1 (C.2.2.2.2.2.2.1 _ hw) rfl hd rfl hi hn hby (Nat.le_trans hcl (C.2.2.2.2.2.2.2.2.1).2.2.1) (Nat.le_trans hsl (C.2.2.2.2.2.2.2.2.1).2.2.2) rfl fun H1 cB e1 z1 o1 hAr hNm => ?_
  have hcc : cB = cA t := by
    have h := ((C.2.2.2.2.2.2.2.2.2.1).2 t _ (ht cA)).2
    rw [hra] at h
    exact Option.some.inj (hNm.symm.trans h)
  subst hcc
  have hR1 : zR D cA b base (N + 1) (va_up g (N + 1) (.inl (t, a0))) H1 := by
    refine zR_push hR z1 o1 ?_
    show H1[base + N]? = some (vp_cell (cA t) (zF b base a0))
    rw [hza, ha, ← hR.1]
    exact e1
  have hk := kk l p e R s m args below meth c D cA b base QM C H1 locs ls hR1 (zS_push hS z1 o1) hL
  rw [show H.size = base + N from hR.1]
  exact hk
theorem q_anew {M : zM} {d : Nat} {sc : zS} {mc ms : Nat} {Q : zQ} {cells slots N : Nat} {g : Nat → zE} {pc : Nat} {lv : List (Option Value)} {st : List Value} {idx t n : Nat} {i : Int32} {C0 : String} (hd : decode (zcc M) pc = .ok (.anewarray idx, 3)) (hl : Cond.classLink (zown M) idx C0 ∈ TB) (hao : ∀ U : State, zNest U → va_AO C0 U) (ht : ∀ cA : Nat → ClassId, (zTys cA)[t]? = some (cA t, .object C0)) (hi : ¬ i < 0) (hn : i.toNatClampNeg = n) (hby : n * 4 ≤ 536870912) (hcl : cells + 1 ≤ mc) (hsl : slots + n ≤ ms) (kk : Wq M d sc mc ms Q (cells + 1) (slots + n) (N + 1) (va_up g (N + 1) (.inl (t, n, .inr (.inr (.inr (.inr (fun _ => none))))))) (pc + 3) lv (.ref (N + 1) :: st)) : Wq M d sc mc ms Q cells slots N g pc lv (.int i :: st) := by
  intro l p e R s m args below meth c D cA b base QM C H locs ls hR hS hL
  subst hn
  refine W.anew C.1 C.2.1 C.2.2.2.2.2.1 (C.2.2.2.2.2.2.1 _ hl) (va_AO.use (hao s C.2.2.2.2.2.2.2.2.2.2.1)) rfl hd rfl hi hby (Nat.le_trans hcl (C.2.2.2.2.2.2.2.2.1).2.2.1) (Nat.le_trans hsl (C.2.2.2.2.2.2.2.2.1).2.2.2) fun cB kA comp f1 f2 f3 f4 => ?_
  have hcc : cB = cA t := by
    obtain ⟨_, _, _, _, _, h⟩ := ((C.2.2.2.2.2.2.2.2.2.1).2 t _ (ht cA)).2
    exact Option.some.inj (f1.symm.trans h)
  subst hcc
  generalize hH1 : H.push ({ cls := cA t, slots := Array.replicate i.toNatClampNeg .null, vm := .none } : Cell) = H1
  have z1 : H1.size = H.size + 1 := by rw [← hH1, Array.size_push]
  have e1 : H1[H.size]? = some (arrV (cA t) i.toNatClampNeg (fun _ => .null)) := by rw [← hH1, Array.getElem?_push_size, ← arrV_new]
  have o1 : ∀ q : Nat, q < H.size → H1[q]? = H[q]? := fun q hq => by rw [← hH1, Array.getElem?_push, if_neg (Nat.ne_of_lt hq)]
  have hR1 : zR D cA b base (N + 1) (va_up g (N + 1) (.inl (t, i.toNatClampNeg, .inr (.inr (.inr (.inr (fun _ => none))))))) H1 := by
    refine zR_push hR z1 o1 ?_
    show H1[base + N]? = some (vp_cell (cA t) _)
    rw [← hR.1]
    exact e1
  have hk := kk l p e R s m args below meth c D cA b base QM C H1 locs ls hR1 (zS_push hS z1 o1) hL
  rw [show H.size = base + N from hR.1]
  exact hk
theorem q_objInit {M : zM} {d : Nat} {sc : zS} {mc ms : Nat} {Q : zQ} {cells slots N : Nat} {g : Nat → zE} {pc : Nat} {lv : List (Option Value)} {st : List Value} {idx kc : Nat} (hd : decode (zcc M) pc = .ok (.invokespecial idx, 3)) (hl : Cond.methodLink (zown M) idx objectInit ∈ TB) (hd1 : 1 ≤ d) (hst : (st.map fun v => v.category).sum ≤ 8) (kk : Wq M d sc mc ms Q cells slots N g (pc + 3) lv st) : Wq M d sc mc ms Q cells slots N g pc lv (.ref kc :: st) := by
  intro l p e R s m args below meth c D cA b base QM C H locs ls hR hS hL
  have hsum : ((st.map (zV b base)).map fun v => v.category).sum = (st.map fun v => v.category).sum := by
    rw [List.map_map]
    congr 1
    exact List.map_congr_left (fun v _ => zV_cat b base v)
  refine W.objInit C.1 C.2.1 C.2.2.2.2.2.1 (C.2.2.2.2.2.2.1 _ hl) (C.2.2.2.2.2.2.1 _ im_objectInit) (C.2.2.2.2.2.2.1 _ co_objectInit) rfl (hL.1.trans C.2.2.1.symm) rfl hd (Nat.le_trans hd1 (C.2.2.2.2.2.2.2.2.1).1) ?_ (kk l p e R s m args below meth c D cA b base QM C H locs ls hR hS hL)
  have h36 := (C.2.2.2.2.2.2.2.2.1).2.1
  rw [hsum]
  show 2 * 0 + _ + 12 ≤ R.locals
  omega
/-! calls: what a call site is, by the tables -/
def zLk (own : String) (idx : Nat) (y : MethodName) (M : zM) (n : Nat) : Prop := Cond.methodLink own idx y ∈ TB ∧ Cond.initialized y.cls ∈ TB ∧ Cond.code y (zcc M) (znl M) (zret M) ∈ TB ∧ (y.cls ≠ "java/lang/invoke/MethodHandle" ∧ y.cls ≠ "java/lang/invoke/VarHandle" ∧ (parseMethodDescriptor y.desc).map (fun d => d.parameters.length) = some n) ∧ znl M ≤ 17
def zLV (own : String) (idx : Nat) (y : MethodName) (M : zM) (n : Nat) : Prop := zLk own idx y M n ∧ Cond.instanceMethod y ∈ TB ∧ Cond.selects y.cls y y ∈ TB
def zLS (own : String) (idx : Nat) (y : MethodName) (M : zM) (n : Nat) : Prop := zLk own idx y M n ∧ Cond.static y ∈ TB
def zLI (own : String) (idx : Nat) (y : MethodName) (M : zM) (n : Nat) : Prop := zLk own idx y M n ∧ Cond.instanceMethod y ∈ TB ∧ y.name = "<init>" ∧ zret M = none
def zLN (own : String) (idx : Nat) (y : MethodName) (M : zM) (n : Nat) : Prop := ((own, idx, y, "TextSolver") ∈ zNL ∧ Cond.initialized y.cls ∈ TB ∧ Cond.code y (zcc M) (znl M) (zret M) ∈ TB ∧ (y.cls ≠ "java/lang/invoke/MethodHandle" ∧ y.cls ≠ "java/lang/invoke/VarHandle" ∧ (parseMethodDescriptor y.desc).map (fun d => d.parameters.length) = some n) ∧ znl M ≤ 17) ∧ Cond.instanceMethod y ∈ TB ∧ y.name = "<init>" ∧ zret M = none
section ZCALL
variable {p : Program} {l : Launch} {e : Env} {R : Room} {s : State} {m : MethodId} {args : Array Value} {below : List Frame} {meth : Method} {c : Code} {H : Heap} {locs : List Loc} {cells slots : Nat} {Q : State → Prop}
variable {pc : Nat} {ls : Array Slot} {rest st0 : List Value} {a : Array Value} {H0 : Heap} {mc ms : Nat} {D : va_G} {cA : Nat → ClassId} {b base : Nat} {Q1 : zQ}
theorem zgo (hr : va_Run p l e R s m args below meth c H locs cells slots mc ms (F0 m pc ls st0) rest (zQc D cA b base Q1 a) (fun q : Nat => base ≤ q)) (hS : va_S (fun q : Nat => base ≤ q) H0 H locs)
    (kk : ∀ (v : Option Value) (N : Nat) (g : Nat → zE) (H1 : Heap) (locs1 : List Loc), Q1 v N g → zR D cA b base N g H1 → va_S (fun q : Nat => base ≤ q) H0 H1 locs1 → W p l e R s m args below meth c H1 locs1 (cells + mc) (slots + ms) Q (F0 m (pc + 3) ls ((v.map (zV b base)).toList ++ rest))) : W p l e R s m args below meth c H locs cells slots Q (F0 m pc ls st0) := by
  intro T hT X
  obtain ⟨v, st₀, t, T', L, h0, X', hL, e1, e2, ⟨⟨v1, N1, g1, hv, hq, hR1⟩, hz, hk⟩, st⟩ := hr T hT X
  cases hv
  rw [h0] at hz hk
  obtain ⟨t2, a1, b1⟩ := kk v1 N1 g1 T'.heap (locs ++ L) hq (by rw [e1]; exact hR1)
    ⟨Nat.le_trans hS.1 (by rw [e1]; exact hz), fun q h1 h2 => by rw [e1, hk q (Nat.lt_of_lt_of_le h1 hS.1) h2]; exact hS.2.1 q h1 h2, fun q hq => by
      rcases List.mem_append.mp hq with h | h
      · exact hS.2.2 q h
      · exact hL q h⟩ T' rfl X'
  exact ⟨t2, st t2 a1, b1⟩
end ZCALL
theorem zmapopt {b base : Nat} (v : Option Value) (st : List Value) : (v.map (zV b base)).toList ++ st.map (zV b base) = (v.toList ++ st).map (zV b base) := by cases v <;> simp
theorem zsum {b base : Nat} (st : List Value) : ((st.map (zV b base)).map fun v => v.category).sum = (st.map fun v => v.category).sum := by
  rw [List.map_map]
  congr 1
  exact List.map_congr_left (fun v _ => zV_cat b base v)
theorem q_callV {M : zM} {d : Nat} {sc : zS} {mc ms : Nat} {Q : zQ} {cells slots N : Nat} {g : Nat → zE} {pc : Nat} {lv : List (Option Value)} {st : List Value} {st0 : List Value} {idx d1 mc1 ms1 n1 : Nat} {y : MethodName} {M1 : zM} {Q1 : zQ} {As : List Value} {kc : Nat} {ci : Nat} {fs : List Value} {CC : String} {T : u_T} {n : Nat} (hM : zC y M1 d1 mc1 ms1 (.ref kc :: As) N g Q1) (hl : zLV (zown M) idx y M1 n1) (hd : decode (zcc M) pc = .ok (.invokevirtual idx, 3)) (hk : g kc = .inr (ci, fs)) (h1 : 1 ≤ kc) (h2 : kc ≤ N) (hc : vwCl[ci]? = some (CC, T, n)) (hcy : CC = y.cls) (hn : As.length = n1) (hdd : d1 + 1 ≤ d) (hst : (st.map fun v => v.category).sum ≤ 8) (hcl : cells + mc1 ≤ mc) (hsl : slots + ms1 ≤ ms) (hs0 : st0 = As.reverse ++ .ref kc :: st) (kk : ∀ (v : Option Value) (N2 : Nat) (g2 : Nat → zE), Q1 v N2 g2 → Wq M d sc mc ms Q (cells + mc1) (slots + ms1) N2 g2 (pc + 3) lv (v.toList ++ st)) : Wq M d sc mc ms Q cells slots N g pc lv st0 := by
  intro l p e R s m args below meth c D cA b base QM C H locs ls hR hS hL
  subst hs0
  obtain ⟨k, rfl⟩ : ∃ k, kc = k + 1 := ⟨kc - 1, by omega⟩
  have hkN : k < N := by omega
  have hg := zW_get (cA := cA) (b := b) (base := base) (g := g) hkN
  rw [hk] at hg
  obtain ⟨⟨hml, hini, hco, hd3, hnl⟩, him, hse⟩ := hl
  have hrm : (zRm d1 mc1 ms1).frames + 1 ≤ R.frames ∧ 8 + (znl M1 + 11) + (zRm d1 mc1 ms1).locals ≤ R.locals := by
    have h36 := (C.2.2.2.2.2.2.2.2.1).1
    have h37 := (C.2.2.2.2.2.2.2.2.1).2.1
    show d1 + 1 ≤ R.frames ∧ 8 + (znl M1 + 11) + 36 * d1 ≤ R.locals
    omega
  have cb := callB_of (own := zown M) (index := idx) (mc := mc1) (ms := ms1) (rm := zRm d1 mc1 ms1) n1 C.2.2.2.2.2.2.1 (zGood hco) rfl rfl rfl (C.2.2.2.2.2.2.1 _ hini) (C.2.2.2.2.2.2.1 _ hml) hd3 hrm
  have hr := va_runV (p := p) (l := l) (e := e) (R := R) (s := s) (m := m) (args := args) (below := below) (meth := meth) (c := c) (H := H) (locs := locs) (cells := cells) (slots := slots) (g := F0 m pc ls ((As.reverse ++ .ref (k + 1) :: st).map (zV b base))) (C := y.cls) (b := base + k) (As := As.map (zV b base)) (rest := st.map (zV b base)) ⟨C.1, C.2.1, C.2.2.1, C.2.2.2.2.2.1, C.2.2.2.2.2.2.1⟩ (hM l D cA b base) ⟨cb, C.2.2.2.2.2.2.1 _ him, C.2.2.2.2.2.2.1 _ hse⟩ ⟨zPc_blind, by rw [← hcy]; exact va_recv C.2.2.2.2.2.2.2.2.2.1 hR.2 hc hg, fun U hU hW => ⟨rfl, by rw [hU]; exact hR, va_K.moved hW.alike C.2.2.2.2.2.2.2.2.2.1, zNest.warm hW C.2.2.2.2.2.2.2.2.2.2.1⟩⟩ rfl (by rw [List.length_map]; exact hn) hL.1 (by simp [List.map_reverse, zV, zA]) (lv_room (by rw [zsum]; exact hst)) hd ⟨Nat.le_trans hcl (C.2.2.2.2.2.2.2.2.1).2.2.1, Nat.le_trans hsl (C.2.2.2.2.2.2.2.2.1).2.2.2⟩
  refine zgo hr hS (fun v N2 g2 H1 locs1 hq hR1 hS1 => ?_)
  rw [zmapopt]
  exact kk v N2 g2 hq l p e R s m args below meth c D cA b base QM C H1 locs1 ls hR1 hS1 hL
theorem q_callS {M : zM} {d : Nat} {sc : zS} {mc ms : Nat} {Q : zQ} {cells slots N : Nat} {g : Nat → zE} {pc : Nat} {lv : List (Option Value)} {st : List Value} {st0 : List Value} {idx d1 mc1 ms1 n1 : Nat} {y : MethodName} {M1 : zM} {Q1 : zQ} {As : List Value} (hM : zC y M1 d1 mc1 ms1 (As) N g Q1) (hl : zLS (zown M) idx y M1 n1) (hd : decode (zcc M) pc = .ok (.invokestatic idx, 3)) (hn : As.length = n1) (hdd : d1 + 1 ≤ d) (hst : (st.map fun v => v.category).sum ≤ 8) (hcl : cells + mc1 ≤ mc) (hsl : slots + ms1 ≤ ms) (hs0 : st0 = As.reverse ++ st) (kk : ∀ (v : Option Value) (N2 : Nat) (g2 : Nat → zE), Q1 v N2 g2 → Wq M d sc mc ms Q (cells + mc1) (slots + ms1) N2 g2 (pc + 3) lv (v.toList ++ st)) : Wq M d sc mc ms Q cells slots N g pc lv st0 := by
  intro l p e R s m args below meth c D cA b base QM C H locs ls hR hS hL
  subst hs0
  obtain ⟨⟨hml, hini, hco, hd3, hnl⟩, hss⟩ := hl
  have hrm : (zRm d1 mc1 ms1).frames + 1 ≤ R.frames ∧ 8 + (znl M1 + 11) + (zRm d1 mc1 ms1).locals ≤ R.locals := by
    have h36 := (C.2.2.2.2.2.2.2.2.1).1
    have h37 := (C.2.2.2.2.2.2.2.2.1).2.1
    show d1 + 1 ≤ R.frames ∧ 8 + (znl M1 + 11) + 36 * d1 ≤ R.locals
    omega
  have cb := callB_of (own := zown M) (index := idx) (mc := mc1) (ms := ms1) (rm := zRm d1 mc1 ms1) n1 C.2.2.2.2.2.2.1 (zGood hco) rfl rfl rfl (C.2.2.2.2.2.2.1 _ hini) (C.2.2.2.2.2.2.1 _ hml) hd3 hrm
  have hr := va_runS (p := p) (l := l) (e := e) (R := R) (s := s) (m := m) (args := args) (below := below) (meth := meth) (c := c) (H := H) (locs := locs) (cells := cells) (slots := slots) (g := F0 m pc ls ((As.reverse ++ st).map (zV b base))) (As := As.map (zV b base)) (rest := st.map (zV b base)) ⟨C.1, C.2.1, C.2.2.1, C.2.2.2.2.2.1, C.2.2.2.2.2.2.1⟩ (hM l D cA b base) ⟨cb, C.2.2.2.2.2.2.1 _ hss⟩ ⟨zPc_blind, fun U hU hW => ⟨rfl, by rw [hU]; exact hR, va_K.moved hW.alike C.2.2.2.2.2.2.2.2.2.1, zNest.warm hW C.2.2.2.2.2.2.2.2.2.2.1⟩⟩ rfl (by rw [List.length_map]; exact hn) hL.1 (by simp [List.map_reverse]) (lv_room (by rw [zsum]; exact hst)) hd ⟨Nat.le_trans hcl (C.2.2.2.2.2.2.2.2.1).2.2.1, Nat.le_trans hsl (C.2.2.2.2.2.2.2.2.1).2.2.2⟩
  refine zgo hr hS (fun v N2 g2 H1 locs1 hq hR1 hS1 => ?_)
  rw [zmapopt]
  exact kk v N2 g2 hq l p e R s m args below meth c D cA b base QM C H1 locs1 ls hR1 hS1 hL
theorem q_callI {M : zM} {d : Nat} {sc : zS} {mc ms : Nat} {Q : zQ} {cells slots N : Nat} {g : Nat → zE} {pc : Nat} {lv : List (Option Value)} {st : List Value} {st0 : List Value} {idx d1 mc1 ms1 n1 : Nat} {y : MethodName} {M1 : zM} {Q1 : zQ} {As : List Value} {kc : Nat} (hM : zC y M1 d1 mc1 ms1 (.ref kc :: As) N g Q1) (hl : zLI (zown M) idx y M1 n1) (hd : decode (zcc M) pc = .ok (.invokespecial idx, 3)) (hn : As.length = n1) (hdd : d1 + 1 ≤ d) (hst : (st.map fun v => v.category).sum ≤ 8) (hcl : cells + mc1 ≤ mc) (hsl : slots + ms1 ≤ ms) (hs0 : st0 = As.reverse ++ .ref kc :: st) (kk : ∀ (v : Option Value) (N2 : Nat) (g2 : Nat → zE), Q1 v N2 g2 → Wq M d sc mc ms Q (cells + mc1) (slots + ms1) N2 g2 (pc + 3) lv (v.toList ++ st)) : Wq M d sc mc ms Q cells slots N g pc lv st0 := by
  intro l p e R s m args below meth c D cA b base QM C H locs ls hR hS hL
  subst hs0
  obtain ⟨⟨hml, hini, hco, hd3, hnl⟩, him, hnm, hrn⟩ := hl
  have hrm : (zRm d1 mc1 ms1).frames + 1 ≤ R.frames ∧ 8 + (znl M1 + 11) + (zRm d1 mc1 ms1).locals ≤ R.locals := by
    have h36 := (C.2.2.2.2.2.2.2.2.1).1
    have h37 := (C.2.2.2.2.2.2.2.2.1).2.1
    show d1 + 1 ≤ R.frames ∧ 8 + (znl M1 + 11) + 36 * d1 ≤ R.locals
    omega
  have cb := callB_of (own := zown M) (index := idx) (mc := mc1) (ms := ms1) (rm := zRm d1 mc1 ms1) n1 C.2.2.2.2.2.2.1 (zGood hco) rfl rfl rfl (C.2.2.2.2.2.2.1 _ hini) (C.2.2.2.2.2.2.1 _ hml) hd3 hrm
  have hr := va_runI (p := p) (l := l) (e := e) (R := R) (s := s) (m := m) (args := args) (below := below) (meth := meth) (c := c) (H := H) (locs := locs) (cells := cells) (slots := slots) (g := F0 m pc ls ((As.reverse ++ .ref kc :: st).map (zV b base))) (b := zA b base kc) (As := As.map (zV b base)) (rest := st.map (zV b base)) ⟨C.1, C.2.1, C.2.2.1, C.2.2.2.2.2.1, C.2.2.2.2.2.2.1⟩ (hM l D cA b base) ⟨by rw [hrn] at cb ⊢; exact cb, hnm, C.2.2.2.2.2.2.1 _ him⟩ ⟨zPc_blind, fun U hU hW => ⟨rfl, by rw [hU]; exact hR, va_K.moved hW.alike C.2.2.2.2.2.2.2.2.2.1, zNest.warm hW C.2.2.2.2.2.2.2.2.2.2.1⟩⟩ rfl (by rw [List.length_map]; exact hn) hL.1 (by simp [List.map_reverse, zV, zA]) (lv_room (by rw [zsum]; exact hst)) hd ⟨Nat.le_trans hcl (C.2.2.2.2.2.2.2.2.1).2.2.1, Nat.le_trans hsl (C.2.2.2.2.2.2.2.2.1).2.2.2⟩
  refine zgo hr hS (fun v N2 g2 H1 locs1 hq hR1 hS1 => ?_)
  rw [zmapopt]
  exact kk v N2 g2 hq l p e R s m args below meth c D cA b base QM C H1 locs1 ls hR1 hS1 hL
theorem q_callN {M : zM} {d : Nat} {sc : zS} {mc ms : Nat} {Q : zQ} {cells slots N : Nat} {g : Nat → zE} {pc : Nat} {lv : List (Option Value)} {st : List Value} {st0 : List Value} {idx d1 mc1 ms1 n1 : Nat} {y : MethodName} {M1 : zM} {Q1 : zQ} {As : List Value} {kc : Nat} (hM : zC y M1 d1 mc1 ms1 (.ref kc :: As) N g Q1) (hl : zLN (zown M) idx y M1 n1) (hd : decode (zcc M) pc = .ok (.invokespecial idx, 3)) (hn : As.length = n1) (hdd : d1 + 1 ≤ d) (hst : (st.map fun v => v.category).sum ≤ 8) (hcl : cells + mc1 ≤ mc) (hsl : slots + ms1 ≤ ms) (hs0 : st0 = As.reverse ++ .ref kc :: st) (kk : ∀ (v : Option Value) (N2 : Nat) (g2 : Nat → zE), Q1 v N2 g2 → Wq M d sc mc ms Q (cells + mc1) (slots + ms1) N2 g2 (pc + 3) lv (v.toList ++ st)) : Wq M d sc mc ms Q cells slots N g pc lv st0 := by
  intro l p e R s m args below meth c D cA b base QM C H locs ls hR hS hL
  subst hs0
  obtain ⟨⟨hN1, hini, hco, hd3, hnl⟩, him, hnm, hrn⟩ := hl
  have hrm : (zRm d1 mc1 ms1).frames + 1 ≤ R.frames ∧ 8 + (znl M1 + 11) + (zRm d1 mc1 ms1).locals ≤ R.locals := by
    have h36 := (C.2.2.2.2.2.2.2.2.1).1
    have h37 := (C.2.2.2.2.2.2.2.2.1).2.1
    show d1 + 1 ≤ R.frames ∧ 8 + (znl M1 + 11) + 36 * d1 ≤ R.locals
    omega
  have cb := va_cnB (args := args) (host := "TextSolver") (index := idx) (own := zown M) (mc := mc1) (ms := ms1) (rm := zRm d1 mc1 ms1) n1 C.2.2.2.2.2.2.1 (zGood hco) rfl rfl rfl (C.2.2.2.2.2.2.2.2.2.2.1.1 _ hN1) (C.2.2.2.2.2.2.1 _ hini) hd3 hrm
  have hr := va_runIN (p := p) (l := l) (e := e) (R := R) (s := s) (m := m) (args := args) (below := below) (meth := meth) (c := c) (H := H) (locs := locs) (cells := cells) (slots := slots) (g := F0 m pc ls ((As.reverse ++ .ref kc :: st).map (zV b base))) (b := zA b base kc) (As := As.map (zV b base)) (rest := st.map (zV b base)) ⟨C.1, C.2.1, C.2.2.1, C.2.2.2.2.2.1, C.2.2.2.2.2.2.1⟩ (hM l D cA b base) ⟨by rw [hrn] at cb ⊢; exact cb, hnm, C.2.2.2.2.2.2.1 _ him⟩ ⟨zPc_blind, fun U hU hW => ⟨rfl, by rw [hU]; exact hR, va_K.moved hW.alike C.2.2.2.2.2.2.2.2.2.1, zNest.warm hW C.2.2.2.2.2.2.2.2.2.2.1⟩⟩ rfl (by rw [List.length_map]; exact hn) hL.1 (by simp [List.map_reverse, zV, zA]) (lv_room (by rw [zsum]; exact hst)) hd ⟨Nat.le_trans hcl (C.2.2.2.2.2.2.2.2.1).2.2.1, Nat.le_trans hsl (C.2.2.2.2.2.2.2.2.1).2.2.2⟩
  refine zgo hr hS (fun v N2 g2 H1 locs1 hq hR1 hS1 => ?_)
  rw [zmapopt]
  exact kk v N2 g2 hq l p e R s m args below meth c D cA b base QM C H1 locs1 ls hR1 hS1 hL
end
section
theorem dX0_init_0 : decode (zcc mX0_init) 0 = .ok (.aload_n 0, 1) := by decide +kernel
theorem dX0_init_1 : decode (zcc mX0_init) 1 = .ok (.invokespecial 3, 3) := by decide +kernel
theorem dX0_init_4 : decode (zcc mX0_init) 4 = .ok (.aload_n 0, 1) := by decide +kernel
theorem dX0_init_5 : decode (zcc mX0_init) 5 = .ok (.bipush 125, 2) := by decide +kernel
theorem dX0_init_7 : decode (zcc mX0_init) 7 = .ok (.newarray .long, 2) := by decide +kernel
theorem dX0_init_9 : decode (zcc mX0_init) 9 = .ok (.putfield 9, 3) := by decide +kernel
theorem dX0_init_12 : decode (zcc mX0_init) 12 = .ok (.aload_n 0, 1) := by decide +kernel
theorem dX0_init_13 : decode (zcc mX0_init) 13 = .ok (.bipush 125, 2) := by decide +kernel
theorem dX0_init_15 : decode (zcc mX0_init) 15 = .ok (.newarray .long, 2) := by decide +kernel
theorem dX0_init_17 : decode (zcc mX0_init) 17 = .ok (.putfield 15, 3) := by decide +kernel
theorem dX0_init_20 : decode (zcc mX0_init) 20 = .ok (.return_, 1) := by decide +kernel
theorem dX0_restart_0 : decode (zcc mX0_restart) 0 = .ok (.aload_n 0, 1) := by decide +kernel
theorem dX0_restart_1 : decode (zcc mX0_restart) 1 = .ok (.iload_n 1, 1) := by decide +kernel
theorem dX0_restart_2 : decode (zcc mX0_restart) 2 = .ok (.putfield 18, 3) := by decide +kernel
theorem dX0_restart_5 : decode (zcc mX0_restart) 5 = .ok (.aload_n 0, 1) := by decide +kernel
theorem dX0_restart_6 : decode (zcc mX0_restart) 6 = .ok (.iload_n 2, 1) := by decide +kernel
theorem dX0_restart_7 : decode (zcc mX0_restart) 7 = .ok (.putfield 22, 3) := by decide +kernel
theorem dX0_restart_10 : decode (zcc mX0_restart) 10 = .ok (.aload_n 0, 1) := by decide +kernel
theorem dX0_restart_11 : decode (zcc mX0_restart) 11 = .ok (.iload_n 3, 1) := by decide +kernel
theorem dX0_restart_12 : decode (zcc mX0_restart) 12 = .ok (.putfield 25, 3) := by decide +kernel
theorem dX0_restart_15 : decode (zcc mX0_restart) 15 = .ok (.aload_n 0, 1) := by decide +kernel
theorem dX0_restart_16 : decode (zcc mX0_restart) 16 = .ok (.iload 4, 2) := by decide +kernel
theorem dX0_restart_18 : decode (zcc mX0_restart) 18 = .ok (.putfield 28, 3) := by decide +kernel
theorem dX0_restart_21 : decode (zcc mX0_restart) 21 = .ok (.aload_n 0, 1) := by decide +kernel
theorem dX0_restart_22 : decode (zcc mX0_restart) 22 = .ok (.iload 5, 2) := by decide +kernel
theorem dX0_restart_24 : decode (zcc mX0_restart) 24 = .ok (.putfield 31, 3) := by decide +kernel
theorem dX0_restart_27 : decode (zcc mX0_restart) 27 = .ok (.aload_n 0, 1) := by decide +kernel
theorem dX0_restart_28 : decode (zcc mX0_restart) 28 = .ok (.iconst 0, 1) := by decide +kernel
theorem dX0_restart_29 : decode (zcc mX0_restart) 29 = .ok (.putfield 34, 3) := by decide +kernel
theorem dX0_restart_32 : decode (zcc mX0_restart) 32 = .ok (.aload_n 0, 1) := by decide +kernel
theorem dX0_restart_33 : decode (zcc mX0_restart) 33 = .ok (.iconst 0, 1) := by decide +kernel
theorem dX0_restart_34 : decode (zcc mX0_restart) 34 = .ok (.putfield 38, 3) := by decide +kernel
theorem dX0_restart_37 : decode (zcc mX0_restart) 37 = .ok (.aload_n 0, 1) := by decide +kernel
theorem dX0_restart_38 : decode (zcc mX0_restart) 38 = .ok (.invokevirtual 41, 3) := by decide +kernel
theorem dX0_restart_41 : decode (zcc mX0_restart) 41 = .ok (.return_, 1) := by decide +kernel
theorem dX0_forget_0 : decode (zcc mX0_forget) 0 = .ok (.aload_n 0, 1) := by decide +kernel
theorem dX0_forget_1 : decode (zcc mX0_forget) 1 = .ok (.getfield 9, 3) := by decide +kernel
theorem dX0_forget_4 : decode (zcc mX0_forget) 4 = .ok (.lconst 0, 1) := by decide +kernel
theorem dX0_forget_5 : decode (zcc mX0_forget) 5 = .ok (.invokestatic 44, 3) := by decide +kernel
theorem dX0_forget_8 : decode (zcc mX0_forget) 8 = .ok (.aload_n 0, 1) := by decide +kernel
theorem dX0_forget_9 : decode (zcc mX0_forget) 9 = .ok (.getfield 15, 3) := by decide +kernel
theorem dX0_forget_12 : decode (zcc mX0_forget) 12 = .ok (.lconst 0, 1) := by decide +kernel
theorem dX0_forget_13 : decode (zcc mX0_forget) 13 = .ok (.invokestatic 44, 3) := by decide +kernel
theorem dX0_forget_16 : decode (zcc mX0_forget) 16 = .ok (.return_, 1) := by decide +kernel
theorem dX0_isJudged_0 : decode (zcc mX0_isJudged) 0 = .ok (.aload_n 0, 1) := by decide +kernel
theorem dX0_isJudged_1 : decode (zcc mX0_isJudged) 1 = .ok (.getfield 9, 3) := by decide +kernel
theorem dX0_isJudged_4 : decode (zcc mX0_isJudged) 4 = .ok (.iload_n 1, 1) := by decide +kernel
theorem dX0_isJudged_5 : decode (zcc mX0_isJudged) 5 = .ok (.invokestatic 50, 3) := by decide +kernel
theorem dX0_isJudged_8 : decode (zcc mX0_isJudged) 8 = .ok (.ireturn, 1) := by decide +kernel
theorem dX0_isSoIn_0 : decode (zcc mX0_isSoIn) 0 = .ok (.aload_n 0, 1) := by decide +kernel
theorem dX0_isSoIn_1 : decode (zcc mX0_isSoIn) 1 = .ok (.getfield 15, 3) := by decide +kernel
theorem dX0_isSoIn_4 : decode (zcc mX0_isSoIn) 4 = .ok (.iload_n 1, 1) := by decide +kernel
theorem dX0_isSoIn_5 : decode (zcc mX0_isSoIn) 5 = .ok (.invokestatic 50, 3) := by decide +kernel
theorem dX0_isSoIn_8 : decode (zcc mX0_isSoIn) 8 = .ok (.ireturn, 1) := by decide +kernel
theorem dX0_isBit_0 : decode (zcc mX0_isBit) 0 = .ok (.iload_n 1, 1) := by decide +kernel
theorem dX0_isBit_1 : decode (zcc mX0_isBit) 1 = .ok (.bipush 64, 2) := by decide +kernel
theorem dX0_isBit_3 : decode (zcc mX0_isBit) 3 = .ok (.idiv, 1) := by decide +kernel
theorem dX0_isBit_4 : decode (zcc mX0_isBit) 4 = .ok (.istore_n 2, 1) := by decide +kernel
theorem dX0_isBit_5 : decode (zcc mX0_isBit) 5 = .ok (.iload_n 2, 1) := by decide +kernel
theorem dX0_isBit_6 : decode (zcc mX0_isBit) 6 = .ok (.ifCond .lt 28, 3) := by decide +kernel
theorem dX0_isBit_9 : decode (zcc mX0_isBit) 9 = .ok (.iload_n 2, 1) := by decide +kernel
theorem dX0_isBit_10 : decode (zcc mX0_isBit) 10 = .ok (.aload_n 0, 1) := by decide +kernel
theorem dX0_isBit_11 : decode (zcc mX0_isBit) 11 = .ok (.arraylength, 1) := by decide +kernel
theorem dX0_isBit_12 : decode (zcc mX0_isBit) 12 = .ok (.if_icmp .ge 22, 3) := by decide +kernel
theorem dX0_isBit_15 : decode (zcc mX0_isBit) 15 = .ok (.aload_n 0, 1) := by decide +kernel
theorem dX0_isBit_16 : decode (zcc mX0_isBit) 16 = .ok (.iload_n 2, 1) := by decide +kernel
theorem dX0_isBit_17 : decode (zcc mX0_isBit) 17 = .ok (.laload, 1) := by decide +kernel
theorem dX0_isBit_18 : decode (zcc mX0_isBit) 18 = .ok (.iload_n 1, 1) := by decide +kernel
theorem dX0_isBit_19 : decode (zcc mX0_isBit) 19 = .ok (.bipush 64, 2) := by decide +kernel
theorem dX0_isBit_21 : decode (zcc mX0_isBit) 21 = .ok (.irem, 1) := by decide +kernel
theorem dX0_isBit_22 : decode (zcc mX0_isBit) 22 = .ok (.lushr, 1) := by decide +kernel
theorem dX0_isBit_23 : decode (zcc mX0_isBit) 23 = .ok (.lconst 1, 1) := by decide +kernel
theorem dX0_isBit_24 : decode (zcc mX0_isBit) 24 = .ok (.land, 1) := by decide +kernel
theorem dX0_isBit_25 : decode (zcc mX0_isBit) 25 = .ok (.lconst 0, 1) := by decide +kernel
theorem dX0_isBit_26 : decode (zcc mX0_isBit) 26 = .ok (.lcmp, 1) := by decide +kernel
theorem dX0_isBit_27 : decode (zcc mX0_isBit) 27 = .ok (.ifCond .eq 7, 3) := by decide +kernel
theorem dX0_isBit_30 : decode (zcc mX0_isBit) 30 = .ok (.iconst 1, 1) := by decide +kernel
theorem dX0_isBit_31 : decode (zcc mX0_isBit) 31 = .ok (.goto 4, 3) := by decide +kernel
theorem dX0_isBit_34 : decode (zcc mX0_isBit) 34 = .ok (.iconst 0, 1) := by decide +kernel
theorem dX0_isBit_35 : decode (zcc mX0_isBit) 35 = .ok (.ireturn, 1) := by decide +kernel
theorem dX0_keep_0 : decode (zcc mX0_keep) 0 = .ok (.iload_n 1, 1) := by decide +kernel
theorem dX0_keep_1 : decode (zcc mX0_keep) 1 = .ok (.bipush 64, 2) := by decide +kernel
theorem dX0_keep_3 : decode (zcc mX0_keep) 3 = .ok (.idiv, 1) := by decide +kernel
theorem dX0_keep_4 : decode (zcc mX0_keep) 4 = .ok (.istore_n 3, 1) := by decide +kernel
theorem dX0_keep_5 : decode (zcc mX0_keep) 5 = .ok (.iload_n 3, 1) := by decide +kernel
theorem dX0_keep_6 : decode (zcc mX0_keep) 6 = .ok (.ifCond .lt 47, 3) := by decide +kernel
theorem dX0_keep_9 : decode (zcc mX0_keep) 9 = .ok (.iload_n 3, 1) := by decide +kernel
theorem dX0_keep_10 : decode (zcc mX0_keep) 10 = .ok (.bipush 125, 2) := by decide +kernel
theorem dX0_keep_12 : decode (zcc mX0_keep) 12 = .ok (.if_icmp .ge 41, 3) := by decide +kernel
theorem dX0_keep_15 : decode (zcc mX0_keep) 15 = .ok (.aload_n 0, 1) := by decide +kernel
theorem dX0_keep_16 : decode (zcc mX0_keep) 16 = .ok (.getfield 9, 3) := by decide +kernel
theorem dX0_keep_19 : decode (zcc mX0_keep) 19 = .ok (.iload_n 3, 1) := by decide +kernel
theorem dX0_keep_20 : decode (zcc mX0_keep) 20 = .ok (.dup2, 1) := by decide +kernel
theorem dX0_keep_21 : decode (zcc mX0_keep) 21 = .ok (.laload, 1) := by decide +kernel
theorem dX0_keep_22 : decode (zcc mX0_keep) 22 = .ok (.lconst 1, 1) := by decide +kernel
theorem dX0_keep_23 : decode (zcc mX0_keep) 23 = .ok (.iload_n 1, 1) := by decide +kernel
theorem dX0_keep_24 : decode (zcc mX0_keep) 24 = .ok (.bipush 64, 2) := by decide +kernel
theorem dX0_keep_26 : decode (zcc mX0_keep) 26 = .ok (.irem, 1) := by decide +kernel
theorem dX0_keep_27 : decode (zcc mX0_keep) 27 = .ok (.lshl, 1) := by decide +kernel
theorem dX0_keep_28 : decode (zcc mX0_keep) 28 = .ok (.lor, 1) := by decide +kernel
theorem dX0_keep_29 : decode (zcc mX0_keep) 29 = .ok (.lastore, 1) := by decide +kernel
theorem dX0_keep_30 : decode (zcc mX0_keep) 30 = .ok (.aload_n 0, 1) := by decide +kernel
theorem dX0_keep_31 : decode (zcc mX0_keep) 31 = .ok (.getfield 15, 3) := by decide +kernel
theorem dX0_keep_34 : decode (zcc mX0_keep) 34 = .ok (.iload_n 3, 1) := by decide +kernel
theorem dX0_keep_35 : decode (zcc mX0_keep) 35 = .ok (.dup2, 1) := by decide +kernel
theorem dX0_keep_36 : decode (zcc mX0_keep) 36 = .ok (.laload, 1) := by decide +kernel
theorem dX0_keep_37 : decode (zcc mX0_keep) 37 = .ok (.iload_n 2, 1) := by decide +kernel
theorem dX0_keep_38 : decode (zcc mX0_keep) 38 = .ok (.ifCond .eq 7, 3) := by decide +kernel
theorem dX0_keep_41 : decode (zcc mX0_keep) 41 = .ok (.lconst 1, 1) := by decide +kernel
theorem dX0_keep_42 : decode (zcc mX0_keep) 42 = .ok (.goto 4, 3) := by decide +kernel
theorem dX0_keep_45 : decode (zcc mX0_keep) 45 = .ok (.lconst 0, 1) := by decide +kernel
theorem dX0_keep_46 : decode (zcc mX0_keep) 46 = .ok (.iload_n 1, 1) := by decide +kernel
theorem dX0_keep_47 : decode (zcc mX0_keep) 47 = .ok (.bipush 64, 2) := by decide +kernel
theorem dX0_keep_49 : decode (zcc mX0_keep) 49 = .ok (.irem, 1) := by decide +kernel
theorem dX0_keep_50 : decode (zcc mX0_keep) 50 = .ok (.lshl, 1) := by decide +kernel
theorem dX0_keep_51 : decode (zcc mX0_keep) 51 = .ok (.lor, 1) := by decide +kernel
theorem dX0_keep_52 : decode (zcc mX0_keep) 52 = .ok (.lastore, 1) := by decide +kernel
theorem dX0_keep_53 : decode (zcc mX0_keep) 53 = .ok (.return_, 1) := by decide +kernel
theorem dX0_ruledOut_0 : decode (zcc mX0_ruledOut) 0 = .ok (.iload_n 1, 1) := by decide +kernel
theorem dX0_ruledOut_1 : decode (zcc mX0_ruledOut) 1 = .ok (.ifCond .lt 9, 3) := by decide +kernel
theorem dX0_ruledOut_4 : decode (zcc mX0_ruledOut) 4 = .ok (.iload_n 1, 1) := by decide +kernel
theorem dX0_ruledOut_5 : decode (zcc mX0_ruledOut) 5 = .ok (.bipush 125, 2) := by decide +kernel
theorem dX0_ruledOut_7 : decode (zcc mX0_ruledOut) 7 = .ok (.if_icmp .lt 5, 3) := by decide +kernel
theorem dX0_ruledOut_10 : decode (zcc mX0_ruledOut) 10 = .ok (.lconst 0, 1) := by decide +kernel
theorem dX0_ruledOut_11 : decode (zcc mX0_ruledOut) 11 = .ok (.lreturn, 1) := by decide +kernel
theorem dX0_ruledOut_12 : decode (zcc mX0_ruledOut) 12 = .ok (.aload_n 0, 1) := by decide +kernel
theorem dX0_ruledOut_13 : decode (zcc mX0_ruledOut) 13 = .ok (.getfield 9, 3) := by decide +kernel
theorem dX0_ruledOut_16 : decode (zcc mX0_ruledOut) 16 = .ok (.iload_n 1, 1) := by decide +kernel
theorem dX0_ruledOut_17 : decode (zcc mX0_ruledOut) 17 = .ok (.laload, 1) := by decide +kernel
theorem dX0_ruledOut_18 : decode (zcc mX0_ruledOut) 18 = .ok (.aload_n 0, 1) := by decide +kernel
theorem dX0_ruledOut_19 : decode (zcc mX0_ruledOut) 19 = .ok (.getfield 34, 3) := by decide +kernel
theorem dX0_ruledOut_22 : decode (zcc mX0_ruledOut) 22 = .ok (.ifCond .eq 12, 3) := by decide +kernel
theorem dX0_ruledOut_25 : decode (zcc mX0_ruledOut) 25 = .ok (.aload_n 0, 1) := by decide +kernel
theorem dX0_ruledOut_26 : decode (zcc mX0_ruledOut) 26 = .ok (.getfield 15, 3) := by decide +kernel
theorem dX0_ruledOut_29 : decode (zcc mX0_ruledOut) 29 = .ok (.iload_n 1, 1) := by decide +kernel
theorem dX0_ruledOut_30 : decode (zcc mX0_ruledOut) 30 = .ok (.laload, 1) := by decide +kernel
theorem dX0_ruledOut_31 : decode (zcc mX0_ruledOut) 31 = .ok (.goto 13, 3) := by decide +kernel
theorem dX0_ruledOut_34 : decode (zcc mX0_ruledOut) 34 = .ok (.aload_n 0, 1) := by decide +kernel
theorem dX0_ruledOut_35 : decode (zcc mX0_ruledOut) 35 = .ok (.getfield 15, 3) := by decide +kernel
theorem dX0_ruledOut_38 : decode (zcc mX0_ruledOut) 38 = .ok (.iload_n 1, 1) := by decide +kernel
theorem dX0_ruledOut_39 : decode (zcc mX0_ruledOut) 39 = .ok (.laload, 1) := by decide +kernel
theorem dX0_ruledOut_40 : decode (zcc mX0_ruledOut) 40 = .ok (.ldc2_w 54, 3) := by decide +kernel
theorem dX0_ruledOut_43 : decode (zcc mX0_ruledOut) 43 = .ok (.lxor, 1) := by decide +kernel
theorem dX0_ruledOut_44 : decode (zcc mX0_ruledOut) 44 = .ok (.land, 1) := by decide +kernel
theorem dX0_ruledOut_45 : decode (zcc mX0_ruledOut) 45 = .ok (.lreturn, 1) := by decide +kernel
theorem dX0_notJudged_0 : decode (zcc mX0_notJudged) 0 = .ok (.iload_n 1, 1) := by decide +kernel
theorem dX0_notJudged_1 : decode (zcc mX0_notJudged) 1 = .ok (.ifCond .lt 9, 3) := by decide +kernel
theorem dX0_notJudged_4 : decode (zcc mX0_notJudged) 4 = .ok (.iload_n 1, 1) := by decide +kernel
theorem dX0_notJudged_5 : decode (zcc mX0_notJudged) 5 = .ok (.bipush 125, 2) := by decide +kernel
theorem dX0_notJudged_7 : decode (zcc mX0_notJudged) 7 = .ok (.if_icmp .lt 7, 3) := by decide +kernel
theorem dX0_notJudged_10 : decode (zcc mX0_notJudged) 10 = .ok (.lconst 0, 1) := by decide +kernel
theorem dX0_notJudged_11 : decode (zcc mX0_notJudged) 11 = .ok (.goto 13, 3) := by decide +kernel
theorem dX0_notJudged_14 : decode (zcc mX0_notJudged) 14 = .ok (.aload_n 0, 1) := by decide +kernel
theorem dX0_notJudged_15 : decode (zcc mX0_notJudged) 15 = .ok (.getfield 9, 3) := by decide +kernel
theorem dX0_notJudged_18 : decode (zcc mX0_notJudged) 18 = .ok (.iload_n 1, 1) := by decide +kernel
theorem dX0_notJudged_19 : decode (zcc mX0_notJudged) 19 = .ok (.laload, 1) := by decide +kernel
theorem dX0_notJudged_20 : decode (zcc mX0_notJudged) 20 = .ok (.ldc2_w 54, 3) := by decide +kernel
theorem dX0_notJudged_23 : decode (zcc mX0_notJudged) 23 = .ok (.lxor, 1) := by decide +kernel
theorem dX0_notJudged_24 : decode (zcc mX0_notJudged) 24 = .ok (.lreturn, 1) := by decide +kernel
theorem dX0_hasSecondTerm_0 : decode (zcc mX0_hasSecondTerm) 0 = .ok (.aload_n 0, 1) := by decide +kernel
theorem dX0_hasSecondTerm_1 : decode (zcc mX0_hasSecondTerm) 1 = .ok (.getfield 18, 3) := by decide +kernel
theorem dX0_hasSecondTerm_4 : decode (zcc mX0_hasSecondTerm) 4 = .ok (.iconst 2, 1) := by decide +kernel
theorem dX0_hasSecondTerm_5 : decode (zcc mX0_hasSecondTerm) 5 = .ok (.if_icmp .eq 15, 3) := by decide +kernel
theorem dX0_hasSecondTerm_8 : decode (zcc mX0_hasSecondTerm) 8 = .ok (.aload_n 0, 1) := by decide +kernel
theorem dX0_hasSecondTerm_9 : decode (zcc mX0_hasSecondTerm) 9 = .ok (.getfield 18, 3) := by decide +kernel
theorem dX0_hasSecondTerm_12 : decode (zcc mX0_hasSecondTerm) 12 = .ok (.iconst 5, 1) := by decide +kernel
theorem dX0_hasSecondTerm_13 : decode (zcc mX0_hasSecondTerm) 13 = .ok (.if_icmp .eq 7, 3) := by decide +kernel
theorem dX0_hasSecondTerm_16 : decode (zcc mX0_hasSecondTerm) 16 = .ok (.iconst 1, 1) := by decide +kernel
theorem dX0_hasSecondTerm_17 : decode (zcc mX0_hasSecondTerm) 17 = .ok (.goto 4, 3) := by decide +kernel
theorem dX0_hasSecondTerm_20 : decode (zcc mX0_hasSecondTerm) 20 = .ok (.iconst 0, 1) := by decide +kernel
theorem dX0_hasSecondTerm_21 : decode (zcc mX0_hasSecondTerm) 21 = .ok (.ireturn, 1) := by decide +kernel
theorem dX0_isAboutTerm_0 : decode (zcc mX0_isAboutTerm) 0 = .ok (.aload_n 0, 1) := by decide +kernel
theorem dX0_isAboutTerm_1 : decode (zcc mX0_isAboutTerm) 1 = .ok (.getfield 22, 3) := by decide +kernel
theorem dX0_isAboutTerm_4 : decode (zcc mX0_isAboutTerm) 4 = .ok (.iload_n 1, 1) := by decide +kernel
theorem dX0_isAboutTerm_5 : decode (zcc mX0_isAboutTerm) 5 = .ok (.if_icmp .eq 43, 3) := by decide +kernel
theorem dX0_isAboutTerm_8 : decode (zcc mX0_isAboutTerm) 8 = .ok (.aload_n 0, 1) := by decide +kernel
theorem dX0_isAboutTerm_9 : decode (zcc mX0_isAboutTerm) 9 = .ok (.invokevirtual 56, 3) := by decide +kernel
theorem dX0_isAboutTerm_12 : decode (zcc mX0_isAboutTerm) 12 = .ok (.ifCond .eq 11, 3) := by decide +kernel
theorem dX0_isAboutTerm_15 : decode (zcc mX0_isAboutTerm) 15 = .ok (.aload_n 0, 1) := by decide +kernel
theorem dX0_isAboutTerm_16 : decode (zcc mX0_isAboutTerm) 16 = .ok (.getfield 25, 3) := by decide +kernel
theorem dX0_isAboutTerm_19 : decode (zcc mX0_isAboutTerm) 19 = .ok (.iload_n 1, 1) := by decide +kernel
theorem dX0_isAboutTerm_20 : decode (zcc mX0_isAboutTerm) 20 = .ok (.if_icmp .eq 28, 3) := by decide +kernel
theorem dX0_isAboutTerm_23 : decode (zcc mX0_isAboutTerm) 23 = .ok (.aload_n 0, 1) := by decide +kernel
theorem dX0_isAboutTerm_24 : decode (zcc mX0_isAboutTerm) 24 = .ok (.getfield 18, 3) := by decide +kernel
theorem dX0_isAboutTerm_27 : decode (zcc mX0_isAboutTerm) 27 = .ok (.bipush 6, 2) := by decide +kernel
theorem dX0_isAboutTerm_29 : decode (zcc mX0_isAboutTerm) 29 = .ok (.if_icmp .ne 23, 3) := by decide +kernel
theorem dX0_isAboutTerm_32 : decode (zcc mX0_isAboutTerm) 32 = .ok (.aload_n 0, 1) := by decide +kernel
theorem dX0_isAboutTerm_33 : decode (zcc mX0_isAboutTerm) 33 = .ok (.getfield 28, 3) := by decide +kernel
theorem dX0_isAboutTerm_36 : decode (zcc mX0_isAboutTerm) 36 = .ok (.iload_n 1, 1) := by decide +kernel
theorem dX0_isAboutTerm_37 : decode (zcc mX0_isAboutTerm) 37 = .ok (.if_icmp .eq 11, 3) := by decide +kernel
theorem dX0_isAboutTerm_40 : decode (zcc mX0_isAboutTerm) 40 = .ok (.aload_n 0, 1) := by decide +kernel
theorem dX0_isAboutTerm_41 : decode (zcc mX0_isAboutTerm) 41 = .ok (.getfield 31, 3) := by decide +kernel
theorem dX0_isAboutTerm_44 : decode (zcc mX0_isAboutTerm) 44 = .ok (.iload_n 1, 1) := by decide +kernel
theorem dX0_isAboutTerm_45 : decode (zcc mX0_isAboutTerm) 45 = .ok (.if_icmp .ne 7, 3) := by decide +kernel
theorem dX0_isAboutTerm_48 : decode (zcc mX0_isAboutTerm) 48 = .ok (.iconst 1, 1) := by decide +kernel
theorem dX0_isAboutTerm_49 : decode (zcc mX0_isAboutTerm) 49 = .ok (.goto 4, 3) := by decide +kernel
theorem dX0_isAboutTerm_52 : decode (zcc mX0_isAboutTerm) 52 = .ok (.iconst 0, 1) := by decide +kernel
theorem dX0_isAboutTerm_53 : decode (zcc mX0_isAboutTerm) 53 = .ok (.ireturn, 1) := by decide +kernel
theorem dX0_isAboutMachine_0 : decode (zcc mX0_isAboutMachine) 0 = .ok (.aload_n 0, 1) := by decide +kernel
theorem dX0_isAboutMachine_1 : decode (zcc mX0_isAboutMachine) 1 = .ok (.getfield 18, 3) := by decide +kernel
theorem dX0_isAboutMachine_4 : decode (zcc mX0_isAboutMachine) 4 = .ok (.iconst 2, 1) := by decide +kernel
theorem dX0_isAboutMachine_5 : decode (zcc mX0_isAboutMachine) 5 = .ok (.if_icmp .ne 15, 3) := by decide +kernel
theorem dX0_isAboutMachine_8 : decode (zcc mX0_isAboutMachine) 8 = .ok (.aload_n 0, 1) := by decide +kernel
theorem dX0_isAboutMachine_9 : decode (zcc mX0_isAboutMachine) 9 = .ok (.getfield 25, 3) := by decide +kernel
theorem dX0_isAboutMachine_12 : decode (zcc mX0_isAboutMachine) 12 = .ok (.iload_n 1, 1) := by decide +kernel
theorem dX0_isAboutMachine_13 : decode (zcc mX0_isAboutMachine) 13 = .ok (.if_icmp .ne 7, 3) := by decide +kernel
theorem dX0_isAboutMachine_16 : decode (zcc mX0_isAboutMachine) 16 = .ok (.iconst 1, 1) := by decide +kernel
theorem dX0_isAboutMachine_17 : decode (zcc mX0_isAboutMachine) 17 = .ok (.goto 4, 3) := by decide +kernel
theorem dX0_isAboutMachine_20 : decode (zcc mX0_isAboutMachine) 20 = .ok (.iconst 0, 1) := by decide +kernel
theorem dX0_isAboutMachine_21 : decode (zcc mX0_isAboutMachine) 21 = .ok (.ireturn, 1) := by decide +kernel
theorem dX1_init_0 : decode (zcc mX1_init) 0 = .ok (.aload_n 0, 1) := by decide +kernel
theorem dX1_init_1 : decode (zcc mX1_init) 1 = .ok (.invokespecial 3, 3) := by decide +kernel
theorem dX1_init_4 : decode (zcc mX1_init) 4 = .ok (.aload_n 0, 1) := by decide +kernel
theorem dX1_init_5 : decode (zcc mX1_init) 5 = .ok (.new 9, 3) := by decide +kernel
theorem dX1_init_8 : decode (zcc mX1_init) 8 = .ok (.dup, 1) := by decide +kernel
theorem dX1_init_9 : decode (zcc mX1_init) 9 = .ok (.invokespecial 11, 3) := by decide +kernel
theorem dX1_init_12 : decode (zcc mX1_init) 12 = .ok (.putfield 12, 3) := by decide +kernel
theorem dX1_init_15 : decode (zcc mX1_init) 15 = .ok (.aload_n 0, 1) := by decide +kernel
theorem dX1_init_16 : decode (zcc mX1_init) 16 = .ok (.new 18, 3) := by decide +kernel
theorem dX1_init_19 : decode (zcc mX1_init) 19 = .ok (.dup, 1) := by decide +kernel
theorem dX1_init_20 : decode (zcc mX1_init) 20 = .ok (.invokespecial 20, 3) := by decide +kernel
theorem dX1_init_23 : decode (zcc mX1_init) 23 = .ok (.putfield 21, 3) := by decide +kernel
theorem dX1_init_26 : decode (zcc mX1_init) 26 = .ok (.aload_n 0, 1) := by decide +kernel
theorem dX1_init_27 : decode (zcc mX1_init) 27 = .ok (.new 18, 3) := by decide +kernel
theorem dX1_init_30 : decode (zcc mX1_init) 30 = .ok (.dup, 1) := by decide +kernel
theorem dX1_init_31 : decode (zcc mX1_init) 31 = .ok (.invokespecial 20, 3) := by decide +kernel
theorem dX1_init_34 : decode (zcc mX1_init) 34 = .ok (.putfield 25, 3) := by decide +kernel
theorem dX1_init_37 : decode (zcc mX1_init) 37 = .ok (.aload_n 0, 1) := by decide +kernel
theorem dX1_init_38 : decode (zcc mX1_init) 38 = .ok (.new 18, 3) := by decide +kernel
theorem dX1_init_41 : decode (zcc mX1_init) 41 = .ok (.dup, 1) := by decide +kernel
theorem dX1_init_42 : decode (zcc mX1_init) 42 = .ok (.invokespecial 20, 3) := by decide +kernel
theorem dX1_init_45 : decode (zcc mX1_init) 45 = .ok (.putfield 28, 3) := by decide +kernel
theorem dX1_init_48 : decode (zcc mX1_init) 48 = .ok (.aload_n 0, 1) := by decide +kernel
theorem dX1_init_49 : decode (zcc mX1_init) 49 = .ok (.new 18, 3) := by decide +kernel
theorem dX1_init_52 : decode (zcc mX1_init) 52 = .ok (.dup, 1) := by decide +kernel
theorem dX1_init_53 : decode (zcc mX1_init) 53 = .ok (.invokespecial 20, 3) := by decide +kernel
theorem dX1_init_56 : decode (zcc mX1_init) 56 = .ok (.putfield 31, 3) := by decide +kernel
theorem dX1_init_59 : decode (zcc mX1_init) 59 = .ok (.aload_n 0, 1) := by decide +kernel
theorem dX1_init_60 : decode (zcc mX1_init) 60 = .ok (.aload_n 1, 1) := by decide +kernel
theorem dX1_init_61 : decode (zcc mX1_init) 61 = .ok (.putfield 34, 3) := by decide +kernel
theorem dX1_init_64 : decode (zcc mX1_init) 64 = .ok (.aload_n 0, 1) := by decide +kernel
theorem dX1_init_65 : decode (zcc mX1_init) 65 = .ok (.aload_n 2, 1) := by decide +kernel
theorem dX1_init_66 : decode (zcc mX1_init) 66 = .ok (.putfield 38, 3) := by decide +kernel
theorem dX1_init_69 : decode (zcc mX1_init) 69 = .ok (.return_, 1) := by decide +kernel
theorem dX1_termAt_0 : decode (zcc mX1_termAt) 0 = .ok (.iload_n 1, 1) := by decide +kernel
theorem dX1_termAt_1 : decode (zcc mX1_termAt) 1 = .ok (.ifCond .lt 21, 3) := by decide +kernel
theorem dX1_termAt_4 : decode (zcc mX1_termAt) 4 = .ok (.iload_n 1, 1) := by decide +kernel
theorem dX1_termAt_5 : decode (zcc mX1_termAt) 5 = .ok (.aload_n 0, 1) := by decide +kernel
theorem dX1_termAt_6 : decode (zcc mX1_termAt) 6 = .ok (.getfield 34, 3) := by decide +kernel
theorem dX1_termAt_9 : decode (zcc mX1_termAt) 9 = .ok (.arraylength, 1) := by decide +kernel
theorem dX1_termAt_10 : decode (zcc mX1_termAt) 10 = .ok (.if_icmp .ge 12, 3) := by decide +kernel
theorem dX1_termAt_13 : decode (zcc mX1_termAt) 13 = .ok (.aload_n 0, 1) := by decide +kernel
theorem dX1_termAt_14 : decode (zcc mX1_termAt) 14 = .ok (.getfield 34, 3) := by decide +kernel
theorem dX1_termAt_17 : decode (zcc mX1_termAt) 17 = .ok (.iload_n 1, 1) := by decide +kernel
theorem dX1_termAt_18 : decode (zcc mX1_termAt) 18 = .ok (.aaload, 1) := by decide +kernel
theorem dX1_termAt_19 : decode (zcc mX1_termAt) 19 = .ok (.goto 7, 3) := by decide +kernel
theorem dX1_termAt_22 : decode (zcc mX1_termAt) 22 = .ok (.aload_n 0, 1) := by decide +kernel
theorem dX1_termAt_23 : decode (zcc mX1_termAt) 23 = .ok (.getfield 12, 3) := by decide +kernel
theorem dX1_termAt_26 : decode (zcc mX1_termAt) 26 = .ok (.areturn, 1) := by decide +kernel
theorem dX1_machineAt_0 : decode (zcc mX1_machineAt) 0 = .ok (.iload_n 1, 1) := by decide +kernel
theorem dX1_machineAt_1 : decode (zcc mX1_machineAt) 1 = .ok (.ifCond .lt 21, 3) := by decide +kernel
theorem dX1_machineAt_4 : decode (zcc mX1_machineAt) 4 = .ok (.iload_n 1, 1) := by decide +kernel
theorem dX1_machineAt_5 : decode (zcc mX1_machineAt) 5 = .ok (.aload_n 0, 1) := by decide +kernel
theorem dX1_machineAt_6 : decode (zcc mX1_machineAt) 6 = .ok (.getfield 38, 3) := by decide +kernel
theorem dX1_machineAt_9 : decode (zcc mX1_machineAt) 9 = .ok (.arraylength, 1) := by decide +kernel
theorem dX1_machineAt_10 : decode (zcc mX1_machineAt) 10 = .ok (.if_icmp .ge 12, 3) := by decide +kernel
theorem dX1_machineAt_13 : decode (zcc mX1_machineAt) 13 = .ok (.aload_n 0, 1) := by decide +kernel
theorem dX1_machineAt_14 : decode (zcc mX1_machineAt) 14 = .ok (.getfield 38, 3) := by decide +kernel
theorem dX1_machineAt_17 : decode (zcc mX1_machineAt) 17 = .ok (.iload_n 1, 1) := by decide +kernel
theorem dX1_machineAt_18 : decode (zcc mX1_machineAt) 18 = .ok (.aaload, 1) := by decide +kernel
theorem dX1_machineAt_19 : decode (zcc mX1_machineAt) 19 = .ok (.goto 4, 3) := by decide +kernel
theorem dX1_machineAt_22 : decode (zcc mX1_machineAt) 22 = .ok (.aconst_null, 1) := by decide +kernel
theorem dX1_machineAt_23 : decode (zcc mX1_machineAt) 23 = .ok (.areturn, 1) := by decide +kernel
theorem dX1_isLonger_0 : decode (zcc mX1_isLonger) 0 = .ok (.aload_n 0, 1) := by decide +kernel
theorem dX1_isLonger_1 : decode (zcc mX1_isLonger) 1 = .ok (.aload_n 1, 1) := by decide +kernel
theorem dX1_isLonger_2 : decode (zcc mX1_isLonger) 2 = .ok (.getfield 42, 3) := by decide +kernel
theorem dX1_isLonger_5 : decode (zcc mX1_isLonger) 5 = .ok (.invokevirtual 47, 3) := by decide +kernel
theorem dX1_isLonger_8 : decode (zcc mX1_isLonger) 8 = .ok (.aload_n 2, 1) := by decide +kernel
theorem dX1_isLonger_9 : decode (zcc mX1_isLonger) 9 = .ok (.invokevirtual 51, 3) := by decide +kernel
theorem dX1_isLonger_12 : decode (zcc mX1_isLonger) 12 = .ok (.aload_n 0, 1) := by decide +kernel
theorem dX1_isLonger_13 : decode (zcc mX1_isLonger) 13 = .ok (.aload_n 1, 1) := by decide +kernel
theorem dX1_isLonger_14 : decode (zcc mX1_isLonger) 14 = .ok (.getfield 55, 3) := by decide +kernel
theorem dX1_isLonger_17 : decode (zcc mX1_isLonger) 17 = .ok (.invokevirtual 47, 3) := by decide +kernel
theorem dX1_isLonger_20 : decode (zcc mX1_isLonger) 20 = .ok (.aload_n 2, 1) := by decide +kernel
theorem dX1_isLonger_21 : decode (zcc mX1_isLonger) 21 = .ok (.invokevirtual 51, 3) := by decide +kernel
theorem dX1_isLonger_24 : decode (zcc mX1_isLonger) 24 = .ok (.isub, 1) := by decide +kernel
theorem dX1_isLonger_25 : decode (zcc mX1_isLonger) 25 = .ok (.istore_n 3, 1) := by decide +kernel
theorem dX1_isLonger_26 : decode (zcc mX1_isLonger) 26 = .ok (.iload_n 3, 1) := by decide +kernel
theorem dX1_isLonger_27 : decode (zcc mX1_isLonger) 27 = .ok (.aload_n 1, 1) := by decide +kernel
theorem dX1_isLonger_28 : decode (zcc mX1_isLonger) 28 = .ok (.getfield 57, 3) := by decide +kernel
theorem dX1_isLonger_31 : decode (zcc mX1_isLonger) 31 = .ok (.if_icmp .lt 7, 3) := by decide +kernel
theorem dX1_isLonger_34 : decode (zcc mX1_isLonger) 34 = .ok (.iconst 1, 1) := by decide +kernel
theorem dX1_isLonger_35 : decode (zcc mX1_isLonger) 35 = .ok (.goto 4, 3) := by decide +kernel
theorem dX1_isLonger_38 : decode (zcc mX1_isLonger) 38 = .ok (.iconst 0, 1) := by decide +kernel
theorem dX1_isLonger_39 : decode (zcc mX1_isLonger) 39 = .ok (.ireturn, 1) := by decide +kernel
theorem dX1_isOneLength_0 : decode (zcc mX1_isOneLength) 0 = .ok (.aload_n 0, 1) := by decide +kernel
theorem dX1_isOneLength_1 : decode (zcc mX1_isOneLength) 1 = .ok (.aload_n 1, 1) := by decide +kernel
theorem dX1_isOneLength_2 : decode (zcc mX1_isOneLength) 2 = .ok (.getfield 42, 3) := by decide +kernel
theorem dX1_isOneLength_5 : decode (zcc mX1_isOneLength) 5 = .ok (.invokevirtual 47, 3) := by decide +kernel
theorem dX1_isOneLength_8 : decode (zcc mX1_isOneLength) 8 = .ok (.aload_n 2, 1) := by decide +kernel
theorem dX1_isOneLength_9 : decode (zcc mX1_isOneLength) 9 = .ok (.invokevirtual 51, 3) := by decide +kernel
theorem dX1_isOneLength_12 : decode (zcc mX1_isOneLength) 12 = .ok (.aload_n 0, 1) := by decide +kernel
theorem dX1_isOneLength_13 : decode (zcc mX1_isOneLength) 13 = .ok (.aload_n 1, 1) := by decide +kernel
theorem dX1_isOneLength_14 : decode (zcc mX1_isOneLength) 14 = .ok (.getfield 55, 3) := by decide +kernel
theorem dX1_isOneLength_17 : decode (zcc mX1_isOneLength) 17 = .ok (.invokevirtual 47, 3) := by decide +kernel
theorem dX1_isOneLength_20 : decode (zcc mX1_isOneLength) 20 = .ok (.aload_n 2, 1) := by decide +kernel
theorem dX1_isOneLength_21 : decode (zcc mX1_isOneLength) 21 = .ok (.invokevirtual 51, 3) := by decide +kernel
theorem dX1_isOneLength_24 : decode (zcc mX1_isOneLength) 24 = .ok (.if_icmp .ne 7, 3) := by decide +kernel
theorem dX1_isOneLength_27 : decode (zcc mX1_isOneLength) 27 = .ok (.iconst 1, 1) := by decide +kernel
theorem dX1_isOneLength_28 : decode (zcc mX1_isOneLength) 28 = .ok (.goto 4, 3) := by decide +kernel
theorem dX1_isOneLength_31 : decode (zcc mX1_isOneLength) 31 = .ok (.iconst 0, 1) := by decide +kernel
theorem dX1_isOneLength_32 : decode (zcc mX1_isOneLength) 32 = .ok (.ireturn, 1) := by decide +kernel
theorem dX1_isSo_0 : decode (zcc mX1_isSo) 0 = .ok (.aload_n 1, 1) := by decide +kernel
theorem dX1_isSo_1 : decode (zcc mX1_isSo) 1 = .ok (.getfield 59, 3) := by decide +kernel
theorem dX1_isSo_4 : decode (zcc mX1_isSo) 4 = .ok (.iconst 1, 1) := by decide +kernel
theorem dX1_isSo_5 : decode (zcc mX1_isSo) 5 = .ok (.if_icmp .ne 13, 3) := by decide +kernel
theorem dX1_isSo_8 : decode (zcc mX1_isSo) 8 = .ok (.aload_n 0, 1) := by decide +kernel
theorem dX1_isSo_9 : decode (zcc mX1_isSo) 9 = .ok (.aload_n 1, 1) := by decide +kernel
theorem dX1_isSo_10 : decode (zcc mX1_isSo) 10 = .ok (.aload_n 2, 1) := by decide +kernel
theorem dX1_isSo_11 : decode (zcc mX1_isSo) 11 = .ok (.getfield 62, 3) := by decide +kernel
theorem dX1_isSo_14 : decode (zcc mX1_isSo) 14 = .ok (.invokevirtual 68, 3) := by decide +kernel
theorem dX1_isSo_17 : decode (zcc mX1_isSo) 17 = .ok (.ireturn, 1) := by decide +kernel
theorem dX1_isSo_18 : decode (zcc mX1_isSo) 18 = .ok (.aload_n 1, 1) := by decide +kernel
theorem dX1_isSo_19 : decode (zcc mX1_isSo) 19 = .ok (.getfield 59, 3) := by decide +kernel
theorem dX1_isSo_22 : decode (zcc mX1_isSo) 22 = .ok (.ifCond .ne 17, 3) := by decide +kernel
theorem dX1_isSo_25 : decode (zcc mX1_isSo) 25 = .ok (.aload_n 0, 1) := by decide +kernel
theorem dX1_isSo_26 : decode (zcc mX1_isSo) 26 = .ok (.aload_n 1, 1) := by decide +kernel
theorem dX1_isSo_27 : decode (zcc mX1_isSo) 27 = .ok (.aload_n 2, 1) := by decide +kernel
theorem dX1_isSo_28 : decode (zcc mX1_isSo) 28 = .ok (.getfield 62, 3) := by decide +kernel
theorem dX1_isSo_31 : decode (zcc mX1_isSo) 31 = .ok (.invokevirtual 72, 3) := by decide +kernel
theorem dX1_isSo_34 : decode (zcc mX1_isSo) 34 = .ok (.ifCond .ne 5, 3) := by decide +kernel
theorem dX1_isSo_37 : decode (zcc mX1_isSo) 37 = .ok (.iconst 0, 1) := by decide +kernel
theorem dX1_isSo_38 : decode (zcc mX1_isSo) 38 = .ok (.ireturn, 1) := by decide +kernel
theorem dX1_isSo_39 : decode (zcc mX1_isSo) 39 = .ok (.aload_n 0, 1) := by decide +kernel
theorem dX1_isSo_40 : decode (zcc mX1_isSo) 40 = .ok (.getfield 21, 3) := by decide +kernel
theorem dX1_isSo_43 : decode (zcc mX1_isSo) 43 = .ok (.aload_n 0, 1) := by decide +kernel
theorem dX1_isSo_44 : decode (zcc mX1_isSo) 44 = .ok (.aload_n 1, 1) := by decide +kernel
theorem dX1_isSo_45 : decode (zcc mX1_isSo) 45 = .ok (.getfield 42, 3) := by decide +kernel
theorem dX1_isSo_48 : decode (zcc mX1_isSo) 48 = .ok (.invokevirtual 47, 3) := by decide +kernel
theorem dX1_isSo_51 : decode (zcc mX1_isSo) 51 = .ok (.aload_n 2, 1) := by decide +kernel
theorem dX1_isSo_52 : decode (zcc mX1_isSo) 52 = .ok (.invokevirtual 75, 3) := by decide +kernel
theorem dX1_isSo_55 : decode (zcc mX1_isSo) 55 = .ok (.aload_n 1, 1) := by decide +kernel
theorem dX1_isSo_56 : decode (zcc mX1_isSo) 56 = .ok (.invokevirtual 79, 3) := by decide +kernel
theorem dX1_isSo_59 : decode (zcc mX1_isSo) 59 = .ok (.ifCond .eq 19, 3) := by decide +kernel
theorem dX1_isSo_62 : decode (zcc mX1_isSo) 62 = .ok (.aload_n 0, 1) := by decide +kernel
theorem dX1_isSo_63 : decode (zcc mX1_isSo) 63 = .ok (.getfield 25, 3) := by decide +kernel
theorem dX1_isSo_66 : decode (zcc mX1_isSo) 66 = .ok (.aload_n 0, 1) := by decide +kernel
theorem dX1_isSo_67 : decode (zcc mX1_isSo) 67 = .ok (.aload_n 1, 1) := by decide +kernel
theorem dX1_isSo_68 : decode (zcc mX1_isSo) 68 = .ok (.getfield 55, 3) := by decide +kernel
theorem dX1_isSo_71 : decode (zcc mX1_isSo) 71 = .ok (.invokevirtual 47, 3) := by decide +kernel
theorem dX1_isSo_74 : decode (zcc mX1_isSo) 74 = .ok (.aload_n 2, 1) := by decide +kernel
theorem dX1_isSo_75 : decode (zcc mX1_isSo) 75 = .ok (.invokevirtual 75, 3) := by decide +kernel
theorem dX1_isSo_78 : decode (zcc mX1_isSo) 78 = .ok (.aload_n 1, 1) := by decide +kernel
theorem dX1_isSo_79 : decode (zcc mX1_isSo) 79 = .ok (.getfield 59, 3) := by decide +kernel
theorem dX1_isSo_82 : decode (zcc mX1_isSo) 82 = .ok (.tableswitch 223 0 6 #[42, 223, 54, 84, 96, 117, 133], 42) := by decide +kernel
theorem dX1_isSo_124 : decode (zcc mX1_isSo) 124 = .ok (.aload_n 0, 1) := by decide +kernel
theorem dX1_isSo_125 : decode (zcc mX1_isSo) 125 = .ok (.getfield 21, 3) := by decide +kernel
theorem dX1_isSo_128 : decode (zcc mX1_isSo) 128 = .ok (.aload_n 0, 1) := by decide +kernel
theorem dX1_isSo_129 : decode (zcc mX1_isSo) 129 = .ok (.getfield 25, 3) := by decide +kernel
theorem dX1_isSo_132 : decode (zcc mX1_isSo) 132 = .ok (.invokevirtual 83, 3) := by decide +kernel
theorem dX1_isSo_135 : decode (zcc mX1_isSo) 135 = .ok (.ireturn, 1) := by decide +kernel
theorem dX1_isSo_136 : decode (zcc mX1_isSo) 136 = .ok (.aload_n 0, 1) := by decide +kernel
theorem dX1_isSo_137 : decode (zcc mX1_isSo) 137 = .ok (.aload_n 1, 1) := by decide +kernel
theorem dX1_isSo_138 : decode (zcc mX1_isSo) 138 = .ok (.getfield 55, 3) := by decide +kernel
theorem dX1_isSo_141 : decode (zcc mX1_isSo) 141 = .ok (.invokevirtual 87, 3) := by decide +kernel
theorem dX1_isSo_144 : decode (zcc mX1_isSo) 144 = .ok (.astore_n 3, 1) := by decide +kernel
theorem dX1_isSo_145 : decode (zcc mX1_isSo) 145 = .ok (.aload_n 3, 1) := by decide +kernel
theorem dX1_isSo_146 : decode (zcc mX1_isSo) 146 = .ok (.ifnull 18, 3) := by decide +kernel
theorem dX1_isSo_149 : decode (zcc mX1_isSo) 149 = .ok (.aload_n 3, 1) := by decide +kernel
theorem dX1_isSo_150 : decode (zcc mX1_isSo) 150 = .ok (.aload_n 0, 1) := by decide +kernel
theorem dX1_isSo_151 : decode (zcc mX1_isSo) 151 = .ok (.getfield 21, 3) := by decide +kernel
theorem dX1_isSo_154 : decode (zcc mX1_isSo) 154 = .ok (.invokevirtual 91, 3) := by decide +kernel
theorem dX1_isSo_157 : decode (zcc mX1_isSo) 157 = .ok (.ifCond .eq 7, 3) := by decide +kernel
theorem dX1_isSo_160 : decode (zcc mX1_isSo) 160 = .ok (.iconst 1, 1) := by decide +kernel
theorem dX1_isSo_161 : decode (zcc mX1_isSo) 161 = .ok (.goto 4, 3) := by decide +kernel
theorem dX1_isSo_164 : decode (zcc mX1_isSo) 164 = .ok (.iconst 0, 1) := by decide +kernel
theorem dX1_isSo_165 : decode (zcc mX1_isSo) 165 = .ok (.ireturn, 1) := by decide +kernel
theorem dX1_isSo_166 : decode (zcc mX1_isSo) 166 = .ok (.aload_n 0, 1) := by decide +kernel
theorem dX1_isSo_167 : decode (zcc mX1_isSo) 167 = .ok (.getfield 21, 3) := by decide +kernel
theorem dX1_isSo_170 : decode (zcc mX1_isSo) 170 = .ok (.aload_n 0, 1) := by decide +kernel
theorem dX1_isSo_171 : decode (zcc mX1_isSo) 171 = .ok (.getfield 25, 3) := by decide +kernel
theorem dX1_isSo_174 : decode (zcc mX1_isSo) 174 = .ok (.invokevirtual 96, 3) := by decide +kernel
theorem dX1_isSo_177 : decode (zcc mX1_isSo) 177 = .ok (.ireturn, 1) := by decide +kernel
theorem dX1_isSo_178 : decode (zcc mX1_isSo) 178 = .ok (.aload_n 0, 1) := by decide +kernel
theorem dX1_isSo_179 : decode (zcc mX1_isSo) 179 = .ok (.getfield 21, 3) := by decide +kernel
theorem dX1_isSo_182 : decode (zcc mX1_isSo) 182 = .ok (.aload_n 0, 1) := by decide +kernel
theorem dX1_isSo_183 : decode (zcc mX1_isSo) 183 = .ok (.getfield 25, 3) := by decide +kernel
theorem dX1_isSo_186 : decode (zcc mX1_isSo) 186 = .ok (.invokevirtual 99, 3) := by decide +kernel
theorem dX1_isSo_189 : decode (zcc mX1_isSo) 189 = .ok (.iconst (-1), 1) := by decide +kernel
theorem dX1_isSo_190 : decode (zcc mX1_isSo) 190 = .ok (.if_icmp .eq 7, 3) := by decide +kernel
theorem dX1_isSo_193 : decode (zcc mX1_isSo) 193 = .ok (.iconst 1, 1) := by decide +kernel
theorem dX1_isSo_194 : decode (zcc mX1_isSo) 194 = .ok (.goto 4, 3) := by decide +kernel
theorem dX1_isSo_197 : decode (zcc mX1_isSo) 197 = .ok (.iconst 0, 1) := by decide +kernel
theorem dX1_isSo_198 : decode (zcc mX1_isSo) 198 = .ok (.ireturn, 1) := by decide +kernel
theorem dX1_isSo_199 : decode (zcc mX1_isSo) 199 = .ok (.aload_n 0, 1) := by decide +kernel
theorem dX1_isSo_200 : decode (zcc mX1_isSo) 200 = .ok (.getfield 21, 3) := by decide +kernel
theorem dX1_isSo_203 : decode (zcc mX1_isSo) 203 = .ok (.aload_n 1, 1) := by decide +kernel
theorem dX1_isSo_204 : decode (zcc mX1_isSo) 204 = .ok (.getfield 55, 3) := by decide +kernel
theorem dX1_isSo_207 : decode (zcc mX1_isSo) 207 = .ok (.aload_n 1, 1) := by decide +kernel
theorem dX1_isSo_208 : decode (zcc mX1_isSo) 208 = .ok (.getfield 57, 3) := by decide +kernel
theorem dX1_isSo_211 : decode (zcc mX1_isSo) 211 = .ok (.invokevirtual 103, 3) := by decide +kernel
theorem dX1_isSo_214 : decode (zcc mX1_isSo) 214 = .ok (.ireturn, 1) := by decide +kernel
theorem dX1_isSo_215 : decode (zcc mX1_isSo) 215 = .ok (.aload_n 0, 1) := by decide +kernel
theorem dX1_isSo_216 : decode (zcc mX1_isSo) 216 = .ok (.getfield 28, 3) := by decide +kernel
theorem dX1_isSo_219 : decode (zcc mX1_isSo) 219 = .ok (.aload_n 0, 1) := by decide +kernel
theorem dX1_isSo_220 : decode (zcc mX1_isSo) 220 = .ok (.aload_n 1, 1) := by decide +kernel
theorem dX1_isSo_221 : decode (zcc mX1_isSo) 221 = .ok (.getfield 57, 3) := by decide +kernel
theorem dX1_isSo_224 : decode (zcc mX1_isSo) 224 = .ok (.invokevirtual 47, 3) := by decide +kernel
theorem dX1_isSo_227 : decode (zcc mX1_isSo) 227 = .ok (.aload_n 2, 1) := by decide +kernel
theorem dX1_isSo_228 : decode (zcc mX1_isSo) 228 = .ok (.invokevirtual 75, 3) := by decide +kernel
theorem dX1_isSo_231 : decode (zcc mX1_isSo) 231 = .ok (.aload_n 0, 1) := by decide +kernel
theorem dX1_isSo_232 : decode (zcc mX1_isSo) 232 = .ok (.getfield 31, 3) := by decide +kernel
theorem dX1_isSo_235 : decode (zcc mX1_isSo) 235 = .ok (.aload_n 0, 1) := by decide +kernel
theorem dX1_isSo_236 : decode (zcc mX1_isSo) 236 = .ok (.aload_n 1, 1) := by decide +kernel
theorem dX1_isSo_237 : decode (zcc mX1_isSo) 237 = .ok (.getfield 107, 3) := by decide +kernel
theorem dX1_isSo_240 : decode (zcc mX1_isSo) 240 = .ok (.invokevirtual 47, 3) := by decide +kernel
theorem dX1_isSo_243 : decode (zcc mX1_isSo) 243 = .ok (.aload_n 2, 1) := by decide +kernel
theorem dX1_isSo_244 : decode (zcc mX1_isSo) 244 = .ok (.invokevirtual 75, 3) := by decide +kernel
theorem dX1_isSo_247 : decode (zcc mX1_isSo) 247 = .ok (.aload_n 0, 1) := by decide +kernel
theorem dX1_isSo_248 : decode (zcc mX1_isSo) 248 = .ok (.getfield 25, 3) := by decide +kernel
theorem dX1_isSo_251 : decode (zcc mX1_isSo) 251 = .ok (.aload_n 0, 1) := by decide +kernel
theorem dX1_isSo_252 : decode (zcc mX1_isSo) 252 = .ok (.getfield 28, 3) := by decide +kernel
theorem dX1_isSo_255 : decode (zcc mX1_isSo) 255 = .ok (.invokevirtual 99, 3) := by decide +kernel
theorem dX1_isSo_258 : decode (zcc mX1_isSo) 258 = .ok (.istore 4, 2) := by decide +kernel
theorem dX1_isSo_260 : decode (zcc mX1_isSo) 260 = .ok (.iload 4, 2) := by decide +kernel
theorem dX1_isSo_262 : decode (zcc mX1_isSo) 262 = .ok (.iconst (-1), 1) := by decide +kernel
theorem dX1_isSo_263 : decode (zcc mX1_isSo) 263 = .ok (.if_icmp .ne 17, 3) := by decide +kernel
theorem dX1_isSo_266 : decode (zcc mX1_isSo) 266 = .ok (.aload_n 0, 1) := by decide +kernel
theorem dX1_isSo_267 : decode (zcc mX1_isSo) 267 = .ok (.getfield 21, 3) := by decide +kernel
theorem dX1_isSo_270 : decode (zcc mX1_isSo) 270 = .ok (.aload_n 0, 1) := by decide +kernel
theorem dX1_isSo_271 : decode (zcc mX1_isSo) 271 = .ok (.getfield 25, 3) := by decide +kernel
theorem dX1_isSo_274 : decode (zcc mX1_isSo) 274 = .ok (.invokevirtual 83, 3) := by decide +kernel
theorem dX1_isSo_277 : decode (zcc mX1_isSo) 277 = .ok (.goto 27, 3) := by decide +kernel
theorem dX1_isSo_280 : decode (zcc mX1_isSo) 280 = .ok (.aload_n 0, 1) := by decide +kernel
theorem dX1_isSo_281 : decode (zcc mX1_isSo) 281 = .ok (.getfield 21, 3) := by decide +kernel
theorem dX1_isSo_284 : decode (zcc mX1_isSo) 284 = .ok (.aload_n 0, 1) := by decide +kernel
theorem dX1_isSo_285 : decode (zcc mX1_isSo) 285 = .ok (.getfield 25, 3) := by decide +kernel
theorem dX1_isSo_288 : decode (zcc mX1_isSo) 288 = .ok (.iload 4, 2) := by decide +kernel
theorem dX1_isSo_290 : decode (zcc mX1_isSo) 290 = .ok (.aload_n 0, 1) := by decide +kernel
theorem dX1_isSo_291 : decode (zcc mX1_isSo) 291 = .ok (.getfield 28, 3) := by decide +kernel
theorem dX1_isSo_294 : decode (zcc mX1_isSo) 294 = .ok (.getfield 109, 3) := by decide +kernel
theorem dX1_isSo_297 : decode (zcc mX1_isSo) 297 = .ok (.aload_n 0, 1) := by decide +kernel
theorem dX1_isSo_298 : decode (zcc mX1_isSo) 298 = .ok (.getfield 31, 3) := by decide +kernel
theorem dX1_isSo_301 : decode (zcc mX1_isSo) 301 = .ok (.invokevirtual 112, 3) := by decide +kernel
theorem dX1_isSo_304 : decode (zcc mX1_isSo) 304 = .ok (.ireturn, 1) := by decide +kernel
theorem dX1_isSo_305 : decode (zcc mX1_isSo) 305 = .ok (.iconst 0, 1) := by decide +kernel
theorem dX1_isSo_306 : decode (zcc mX1_isSo) 306 = .ok (.ireturn, 1) := by decide +kernel
theorem dX2_init_0 : decode (zcc mX2_init) 0 = .ok (.aload_n 0, 1) := by decide +kernel
theorem dX2_init_1 : decode (zcc mX2_init) 1 = .ok (.invokespecial 3, 3) := by decide +kernel
theorem dX2_init_4 : decode (zcc mX2_init) 4 = .ok (.aload_n 0, 1) := by decide +kernel
end
section
theorem dX2_init_5 : decode (zcc mX2_init) 5 = .ok (.bipush 18, 2) := by decide +kernel
theorem dX2_init_7 : decode (zcc mX2_init) 7 = .ok (.newarray .int, 2) := by decide +kernel
theorem dX2_init_9 : decode (zcc mX2_init) 9 = .ok (.putfield 9, 3) := by decide +kernel
theorem dX2_init_12 : decode (zcc mX2_init) 12 = .ok (.aload_n 0, 1) := by decide +kernel
theorem dX2_init_13 : decode (zcc mX2_init) 13 = .ok (.iconst 1, 1) := by decide +kernel
theorem dX2_init_14 : decode (zcc mX2_init) 14 = .ok (.putfield 15, 3) := by decide +kernel
theorem dX2_init_17 : decode (zcc mX2_init) 17 = .ok (.return_, 1) := by decide +kernel
theorem dX2_restart_0 : decode (zcc mX2_restart) 0 = .ok (.aload_n 0, 1) := by decide +kernel
theorem dX2_restart_1 : decode (zcc mX2_restart) 1 = .ok (.iload_n 1, 1) := by decide +kernel
theorem dX2_restart_2 : decode (zcc mX2_restart) 2 = .ok (.putfield 15, 3) := by decide +kernel
theorem dX2_restart_5 : decode (zcc mX2_restart) 5 = .ok (.aload_n 0, 1) := by decide +kernel
theorem dX2_restart_6 : decode (zcc mX2_restart) 6 = .ok (.iconst 0, 1) := by decide +kernel
theorem dX2_restart_7 : decode (zcc mX2_restart) 7 = .ok (.putfield 19, 3) := by decide +kernel
theorem dX2_restart_10 : decode (zcc mX2_restart) 10 = .ok (.aload_n 0, 1) := by decide +kernel
theorem dX2_restart_11 : decode (zcc mX2_restart) 11 = .ok (.getfield 9, 3) := by decide +kernel
theorem dX2_restart_14 : decode (zcc mX2_restart) 14 = .ok (.iconst 0, 1) := by decide +kernel
theorem dX2_restart_15 : decode (zcc mX2_restart) 15 = .ok (.invokestatic 22, 3) := by decide +kernel
theorem dX2_restart_18 : decode (zcc mX2_restart) 18 = .ok (.return_, 1) := by decide +kernel
theorem dX2_isState_0 : decode (zcc mX2_isState) 0 = .ok (.iload_n 1, 1) := by decide +kernel
theorem dX2_isState_1 : decode (zcc mX2_isState) 1 = .ok (.ifCond .lt 15, 3) := by decide +kernel
theorem dX2_isState_4 : decode (zcc mX2_isState) 4 = .ok (.iload_n 1, 1) := by decide +kernel
theorem dX2_isState_5 : decode (zcc mX2_isState) 5 = .ok (.aload_n 0, 1) := by decide +kernel
theorem dX2_isState_6 : decode (zcc mX2_isState) 6 = .ok (.getfield 15, 3) := by decide +kernel
theorem dX2_isState_9 : decode (zcc mX2_isState) 9 = .ok (.if_icmp .ge 7, 3) := by decide +kernel
theorem dX2_isState_12 : decode (zcc mX2_isState) 12 = .ok (.iconst 1, 1) := by decide +kernel
theorem dX2_isState_13 : decode (zcc mX2_isState) 13 = .ok (.goto 4, 3) := by decide +kernel
theorem dX2_isState_16 : decode (zcc mX2_isState) 16 = .ok (.iconst 0, 1) := by decide +kernel
theorem dX2_isState_17 : decode (zcc mX2_isState) 17 = .ok (.ireturn, 1) := by decide +kernel
theorem dX2_next_0 : decode (zcc mX2_next) 0 = .ok (.iload_n 1, 1) := by decide +kernel
theorem dX2_next_1 : decode (zcc mX2_next) 1 = .ok (.iconst 3, 1) := by decide +kernel
theorem dX2_next_2 : decode (zcc mX2_next) 2 = .ok (.imul, 1) := by decide +kernel
theorem dX2_next_3 : decode (zcc mX2_next) 3 = .ok (.iload_n 2, 1) := by decide +kernel
theorem dX2_next_4 : decode (zcc mX2_next) 4 = .ok (.iadd, 1) := by decide +kernel
theorem dX2_next_5 : decode (zcc mX2_next) 5 = .ok (.istore_n 3, 1) := by decide +kernel
theorem dX2_next_6 : decode (zcc mX2_next) 6 = .ok (.iload_n 3, 1) := by decide +kernel
theorem dX2_next_7 : decode (zcc mX2_next) 7 = .ok (.ifCond .lt 21, 3) := by decide +kernel
theorem dX2_next_10 : decode (zcc mX2_next) 10 = .ok (.iload_n 3, 1) := by decide +kernel
theorem dX2_next_11 : decode (zcc mX2_next) 11 = .ok (.aload_n 0, 1) := by decide +kernel
theorem dX2_next_12 : decode (zcc mX2_next) 12 = .ok (.getfield 9, 3) := by decide +kernel
theorem dX2_next_15 : decode (zcc mX2_next) 15 = .ok (.arraylength, 1) := by decide +kernel
theorem dX2_next_16 : decode (zcc mX2_next) 16 = .ok (.if_icmp .ge 12, 3) := by decide +kernel
theorem dX2_next_19 : decode (zcc mX2_next) 19 = .ok (.aload_n 0, 1) := by decide +kernel
theorem dX2_next_20 : decode (zcc mX2_next) 20 = .ok (.getfield 9, 3) := by decide +kernel
theorem dX2_next_23 : decode (zcc mX2_next) 23 = .ok (.iload_n 3, 1) := by decide +kernel
theorem dX2_next_24 : decode (zcc mX2_next) 24 = .ok (.iaload, 1) := by decide +kernel
theorem dX2_next_25 : decode (zcc mX2_next) 25 = .ok (.goto 4, 3) := by decide +kernel
theorem dX2_next_28 : decode (zcc mX2_next) 28 = .ok (.iconst 0, 1) := by decide +kernel
theorem dX2_next_29 : decode (zcc mX2_next) 29 = .ok (.ireturn, 1) := by decide +kernel
theorem dX2_lead_0 : decode (zcc mX2_lead) 0 = .ok (.iload_n 1, 1) := by decide +kernel
theorem dX2_lead_1 : decode (zcc mX2_lead) 1 = .ok (.iconst 3, 1) := by decide +kernel
theorem dX2_lead_2 : decode (zcc mX2_lead) 2 = .ok (.imul, 1) := by decide +kernel
theorem dX2_lead_3 : decode (zcc mX2_lead) 3 = .ok (.iload_n 2, 1) := by decide +kernel
theorem dX2_lead_4 : decode (zcc mX2_lead) 4 = .ok (.iadd, 1) := by decide +kernel
theorem dX2_lead_5 : decode (zcc mX2_lead) 5 = .ok (.istore 4, 2) := by decide +kernel
theorem dX2_lead_7 : decode (zcc mX2_lead) 7 = .ok (.iload 4, 2) := by decide +kernel
theorem dX2_lead_9 : decode (zcc mX2_lead) 9 = .ok (.ifCond .lt 21, 3) := by decide +kernel
theorem dX2_lead_12 : decode (zcc mX2_lead) 12 = .ok (.iload 4, 2) := by decide +kernel
theorem dX2_lead_14 : decode (zcc mX2_lead) 14 = .ok (.aload_n 0, 1) := by decide +kernel
theorem dX2_lead_15 : decode (zcc mX2_lead) 15 = .ok (.getfield 9, 3) := by decide +kernel
theorem dX2_lead_18 : decode (zcc mX2_lead) 18 = .ok (.arraylength, 1) := by decide +kernel
theorem dX2_lead_19 : decode (zcc mX2_lead) 19 = .ok (.if_icmp .ge 11, 3) := by decide +kernel
theorem dX2_lead_22 : decode (zcc mX2_lead) 22 = .ok (.aload_n 0, 1) := by decide +kernel
theorem dX2_lead_23 : decode (zcc mX2_lead) 23 = .ok (.getfield 9, 3) := by decide +kernel
theorem dX2_lead_26 : decode (zcc mX2_lead) 26 = .ok (.iload 4, 2) := by decide +kernel
theorem dX2_lead_28 : decode (zcc mX2_lead) 28 = .ok (.iload_n 3, 1) := by decide +kernel
theorem dX2_lead_29 : decode (zcc mX2_lead) 29 = .ok (.iastore, 1) := by decide +kernel
theorem dX2_lead_30 : decode (zcc mX2_lead) 30 = .ok (.return_, 1) := by decide +kernel
theorem dX2_isGood_0 : decode (zcc mX2_isGood) 0 = .ok (.aload_n 0, 1) := by decide +kernel
theorem dX2_isGood_1 : decode (zcc mX2_isGood) 1 = .ok (.getfield 19, 3) := by decide +kernel
theorem dX2_isGood_4 : decode (zcc mX2_isGood) 4 = .ok (.iload_n 1, 1) := by decide +kernel
theorem dX2_isGood_5 : decode (zcc mX2_isGood) 5 = .ok (.ishr, 1) := by decide +kernel
theorem dX2_isGood_6 : decode (zcc mX2_isGood) 6 = .ok (.iconst 1, 1) := by decide +kernel
theorem dX2_isGood_7 : decode (zcc mX2_isGood) 7 = .ok (.iand, 1) := by decide +kernel
theorem dX2_isGood_8 : decode (zcc mX2_isGood) 8 = .ok (.ifCond .eq 7, 3) := by decide +kernel
theorem dX2_isGood_11 : decode (zcc mX2_isGood) 11 = .ok (.iconst 1, 1) := by decide +kernel
theorem dX2_isGood_12 : decode (zcc mX2_isGood) 12 = .ok (.goto 4, 3) := by decide +kernel
theorem dX2_isGood_15 : decode (zcc mX2_isGood) 15 = .ok (.iconst 0, 1) := by decide +kernel
theorem dX2_isGood_16 : decode (zcc mX2_isGood) 16 = .ok (.ireturn, 1) := by decide +kernel
theorem dX2_setGood_0 : decode (zcc mX2_setGood) 0 = .ok (.aload_n 0, 1) := by decide +kernel
theorem dX2_setGood_1 : decode (zcc mX2_setGood) 1 = .ok (.iload_n 2, 1) := by decide +kernel
theorem dX2_setGood_2 : decode (zcc mX2_setGood) 2 = .ok (.ifCond .eq 14, 3) := by decide +kernel
theorem dX2_setGood_5 : decode (zcc mX2_setGood) 5 = .ok (.aload_n 0, 1) := by decide +kernel
theorem dX2_setGood_6 : decode (zcc mX2_setGood) 6 = .ok (.getfield 19, 3) := by decide +kernel
theorem dX2_setGood_9 : decode (zcc mX2_setGood) 9 = .ok (.iconst 1, 1) := by decide +kernel
theorem dX2_setGood_10 : decode (zcc mX2_setGood) 10 = .ok (.iload_n 1, 1) := by decide +kernel
theorem dX2_setGood_11 : decode (zcc mX2_setGood) 11 = .ok (.ishl, 1) := by decide +kernel
theorem dX2_setGood_12 : decode (zcc mX2_setGood) 12 = .ok (.ior, 1) := by decide +kernel
theorem dX2_setGood_13 : decode (zcc mX2_setGood) 13 = .ok (.goto 13, 3) := by decide +kernel
theorem dX2_setGood_16 : decode (zcc mX2_setGood) 16 = .ok (.aload_n 0, 1) := by decide +kernel
theorem dX2_setGood_17 : decode (zcc mX2_setGood) 17 = .ok (.getfield 19, 3) := by decide +kernel
theorem dX2_setGood_20 : decode (zcc mX2_setGood) 20 = .ok (.iconst 1, 1) := by decide +kernel
theorem dX2_setGood_21 : decode (zcc mX2_setGood) 21 = .ok (.iload_n 1, 1) := by decide +kernel
theorem dX2_setGood_22 : decode (zcc mX2_setGood) 22 = .ok (.ishl, 1) := by decide +kernel
theorem dX2_setGood_23 : decode (zcc mX2_setGood) 23 = .ok (.iconst (-1), 1) := by decide +kernel
theorem dX2_setGood_24 : decode (zcc mX2_setGood) 24 = .ok (.ixor, 1) := by decide +kernel
theorem dX2_setGood_25 : decode (zcc mX2_setGood) 25 = .ok (.iand, 1) := by decide +kernel
theorem dX2_setGood_26 : decode (zcc mX2_setGood) 26 = .ok (.putfield 19, 3) := by decide +kernel
theorem dX2_setGood_29 : decode (zcc mX2_setGood) 29 = .ok (.return_, 1) := by decide +kernel
theorem dX2_takes_0 : decode (zcc mX2_takes) 0 = .ok (.iconst 0, 1) := by decide +kernel
theorem dX2_takes_1 : decode (zcc mX2_takes) 1 = .ok (.istore_n 2, 1) := by decide +kernel
theorem dX2_takes_2 : decode (zcc mX2_takes) 2 = .ok (.iconst 0, 1) := by decide +kernel
theorem dX2_takes_3 : decode (zcc mX2_takes) 3 = .ok (.istore_n 3, 1) := by decide +kernel
theorem dX2_takes_4 : decode (zcc mX2_takes) 4 = .ok (.iload_n 3, 1) := by decide +kernel
theorem dX2_takes_5 : decode (zcc mX2_takes) 5 = .ok (.aload_n 1, 1) := by decide +kernel
theorem dX2_takes_6 : decode (zcc mX2_takes) 6 = .ok (.getfield 28, 3) := by decide +kernel
theorem dX2_takes_9 : decode (zcc mX2_takes) 9 = .ok (.if_icmp .ge 21, 3) := by decide +kernel
theorem dX2_takes_12 : decode (zcc mX2_takes) 12 = .ok (.aload_n 0, 1) := by decide +kernel
theorem dX2_takes_13 : decode (zcc mX2_takes) 13 = .ok (.iload_n 2, 1) := by decide +kernel
theorem dX2_takes_14 : decode (zcc mX2_takes) 14 = .ok (.aload_n 1, 1) := by decide +kernel
theorem dX2_takes_15 : decode (zcc mX2_takes) 15 = .ok (.getfield 33, 3) := by decide +kernel
theorem dX2_takes_18 : decode (zcc mX2_takes) 18 = .ok (.iload_n 3, 1) := by decide +kernel
theorem dX2_takes_19 : decode (zcc mX2_takes) 19 = .ok (.iaload, 1) := by decide +kernel
theorem dX2_takes_20 : decode (zcc mX2_takes) 20 = .ok (.invokevirtual 36, 3) := by decide +kernel
theorem dX2_takes_23 : decode (zcc mX2_takes) 23 = .ok (.istore_n 2, 1) := by decide +kernel
theorem dX2_takes_24 : decode (zcc mX2_takes) 24 = .ok (.iinc 3 1, 3) := by decide +kernel
theorem dX2_takes_27 : decode (zcc mX2_takes) 27 = .ok (.goto (-23), 3) := by decide +kernel
theorem dX2_takes_30 : decode (zcc mX2_takes) 30 = .ok (.aload_n 0, 1) := by decide +kernel
theorem dX2_takes_31 : decode (zcc mX2_takes) 31 = .ok (.iload_n 2, 1) := by decide +kernel
theorem dX2_takes_32 : decode (zcc mX2_takes) 32 = .ok (.invokevirtual 40, 3) := by decide +kernel
theorem dX2_takes_35 : decode (zcc mX2_takes) 35 = .ok (.ireturn, 1) := by decide +kernel
theorem dX2_shortestWith_0 : decode (zcc mX2_shortestWith) 0 = .ok (.lconst 1, 1) := by decide +kernel
theorem dX2_shortestWith_1 : decode (zcc mX2_shortestWith) 1 = .ok (.lstore_n 3, 1) := by decide +kernel
theorem dX2_shortestWith_2 : decode (zcc mX2_shortestWith) 2 = .ok (.iconst 0, 1) := by decide +kernel
theorem dX2_shortestWith_3 : decode (zcc mX2_shortestWith) 3 = .ok (.istore 5, 2) := by decide +kernel
theorem dX2_shortestWith_5 : decode (zcc mX2_shortestWith) 5 = .ok (.iload 5, 2) := by decide +kernel
theorem dX2_shortestWith_7 : decode (zcc mX2_shortestWith) 7 = .ok (.bipush 36, 2) := by decide +kernel
theorem dX2_shortestWith_9 : decode (zcc mX2_shortestWith) 9 = .ok (.if_icmp .ge 131, 3) := by decide +kernel
theorem dX2_shortestWith_12 : decode (zcc mX2_shortestWith) 12 = .ok (.lload_n 3, 1) := by decide +kernel
theorem dX2_shortestWith_13 : decode (zcc mX2_shortestWith) 13 = .ok (.lstore 6, 2) := by decide +kernel
theorem dX2_shortestWith_15 : decode (zcc mX2_shortestWith) 15 = .ok (.iconst 0, 1) := by decide +kernel
theorem dX2_shortestWith_16 : decode (zcc mX2_shortestWith) 16 = .ok (.istore 8, 2) := by decide +kernel
theorem dX2_shortestWith_18 : decode (zcc mX2_shortestWith) 18 = .ok (.iload 8, 2) := by decide +kernel
theorem dX2_shortestWith_20 : decode (zcc mX2_shortestWith) 20 = .ok (.bipush 36, 2) := by decide +kernel
theorem dX2_shortestWith_22 : decode (zcc mX2_shortestWith) 22 = .ok (.if_icmp .ge 100, 3) := by decide +kernel
theorem dX2_shortestWith_25 : decode (zcc mX2_shortestWith) 25 = .ok (.lload_n 3, 1) := by decide +kernel
theorem dX2_shortestWith_26 : decode (zcc mX2_shortestWith) 26 = .ok (.iload 8, 2) := by decide +kernel
theorem dX2_shortestWith_28 : decode (zcc mX2_shortestWith) 28 = .ok (.lshr, 1) := by decide +kernel
theorem dX2_shortestWith_29 : decode (zcc mX2_shortestWith) 29 = .ok (.lconst 1, 1) := by decide +kernel
theorem dX2_shortestWith_30 : decode (zcc mX2_shortestWith) 30 = .ok (.land, 1) := by decide +kernel
theorem dX2_shortestWith_31 : decode (zcc mX2_shortestWith) 31 = .ok (.lconst 0, 1) := by decide +kernel
theorem dX2_shortestWith_32 : decode (zcc mX2_shortestWith) 32 = .ok (.lcmp, 1) := by decide +kernel
theorem dX2_shortestWith_33 : decode (zcc mX2_shortestWith) 33 = .ok (.ifCond .ne 6, 3) := by decide +kernel
theorem dX2_shortestWith_36 : decode (zcc mX2_shortestWith) 36 = .ok (.goto 80, 3) := by decide +kernel
theorem dX2_shortestWith_39 : decode (zcc mX2_shortestWith) 39 = .ok (.iload 8, 2) := by decide +kernel
theorem dX2_shortestWith_41 : decode (zcc mX2_shortestWith) 41 = .ok (.bipush 6, 2) := by decide +kernel
theorem dX2_shortestWith_43 : decode (zcc mX2_shortestWith) 43 = .ok (.idiv, 1) := by decide +kernel
theorem dX2_shortestWith_44 : decode (zcc mX2_shortestWith) 44 = .ok (.istore 9, 2) := by decide +kernel
theorem dX2_shortestWith_46 : decode (zcc mX2_shortestWith) 46 = .ok (.iload 8, 2) := by decide +kernel
theorem dX2_shortestWith_48 : decode (zcc mX2_shortestWith) 48 = .ok (.bipush 6, 2) := by decide +kernel
theorem dX2_shortestWith_50 : decode (zcc mX2_shortestWith) 50 = .ok (.irem, 1) := by decide +kernel
theorem dX2_shortestWith_51 : decode (zcc mX2_shortestWith) 51 = .ok (.istore 10, 2) := by decide +kernel
theorem dX2_shortestWith_53 : decode (zcc mX2_shortestWith) 53 = .ok (.aload_n 0, 1) := by decide +kernel
theorem dX2_shortestWith_54 : decode (zcc mX2_shortestWith) 54 = .ok (.iload 9, 2) := by decide +kernel
theorem dX2_shortestWith_56 : decode (zcc mX2_shortestWith) 56 = .ok (.invokevirtual 40, 3) := by decide +kernel
theorem dX2_shortestWith_59 : decode (zcc mX2_shortestWith) 59 = .ok (.ifCond .eq 15, 3) := by decide +kernel
theorem dX2_shortestWith_62 : decode (zcc mX2_shortestWith) 62 = .ok (.aload_n 1, 1) := by decide +kernel
theorem dX2_shortestWith_63 : decode (zcc mX2_shortestWith) 63 = .ok (.iload 10, 2) := by decide +kernel
theorem dX2_shortestWith_65 : decode (zcc mX2_shortestWith) 65 = .ok (.invokevirtual 40, 3) := by decide +kernel
theorem dX2_shortestWith_68 : decode (zcc mX2_shortestWith) 68 = .ok (.ifCond .eq 6, 3) := by decide +kernel
theorem dX2_shortestWith_71 : decode (zcc mX2_shortestWith) 71 = .ok (.iload 5, 2) := by decide +kernel
theorem dX2_shortestWith_73 : decode (zcc mX2_shortestWith) 73 = .ok (.ireturn, 1) := by decide +kernel
theorem dX2_shortestWith_74 : decode (zcc mX2_shortestWith) 74 = .ok (.iconst 0, 1) := by decide +kernel
theorem dX2_shortestWith_75 : decode (zcc mX2_shortestWith) 75 = .ok (.istore 11, 2) := by decide +kernel
theorem dX2_shortestWith_77 : decode (zcc mX2_shortestWith) 77 = .ok (.iload 11, 2) := by decide +kernel
theorem dX2_shortestWith_79 : decode (zcc mX2_shortestWith) 79 = .ok (.iload_n 2, 1) := by decide +kernel
theorem dX2_shortestWith_80 : decode (zcc mX2_shortestWith) 80 = .ok (.if_icmp .ge 36, 3) := by decide +kernel
theorem dX2_shortestWith_83 : decode (zcc mX2_shortestWith) 83 = .ok (.lload 6, 2) := by decide +kernel
theorem dX2_shortestWith_85 : decode (zcc mX2_shortestWith) 85 = .ok (.lconst 1, 1) := by decide +kernel
theorem dX2_shortestWith_86 : decode (zcc mX2_shortestWith) 86 = .ok (.aload_n 0, 1) := by decide +kernel
theorem dX2_shortestWith_87 : decode (zcc mX2_shortestWith) 87 = .ok (.iload 9, 2) := by decide +kernel
theorem dX2_shortestWith_89 : decode (zcc mX2_shortestWith) 89 = .ok (.iload 11, 2) := by decide +kernel
theorem dX2_shortestWith_91 : decode (zcc mX2_shortestWith) 91 = .ok (.invokevirtual 36, 3) := by decide +kernel
theorem dX2_shortestWith_94 : decode (zcc mX2_shortestWith) 94 = .ok (.bipush 6, 2) := by decide +kernel
theorem dX2_shortestWith_96 : decode (zcc mX2_shortestWith) 96 = .ok (.imul, 1) := by decide +kernel
theorem dX2_shortestWith_97 : decode (zcc mX2_shortestWith) 97 = .ok (.aload_n 1, 1) := by decide +kernel
theorem dX2_shortestWith_98 : decode (zcc mX2_shortestWith) 98 = .ok (.iload 10, 2) := by decide +kernel
theorem dX2_shortestWith_100 : decode (zcc mX2_shortestWith) 100 = .ok (.iload 11, 2) := by decide +kernel
theorem dX2_shortestWith_102 : decode (zcc mX2_shortestWith) 102 = .ok (.invokevirtual 36, 3) := by decide +kernel
theorem dX2_shortestWith_105 : decode (zcc mX2_shortestWith) 105 = .ok (.iadd, 1) := by decide +kernel
theorem dX2_shortestWith_106 : decode (zcc mX2_shortestWith) 106 = .ok (.lshl, 1) := by decide +kernel
theorem dX2_shortestWith_107 : decode (zcc mX2_shortestWith) 107 = .ok (.lor, 1) := by decide +kernel
theorem dX2_shortestWith_108 : decode (zcc mX2_shortestWith) 108 = .ok (.lstore 6, 2) := by decide +kernel
theorem dX2_shortestWith_110 : decode (zcc mX2_shortestWith) 110 = .ok (.iinc 11 1, 3) := by decide +kernel
theorem dX2_shortestWith_113 : decode (zcc mX2_shortestWith) 113 = .ok (.goto (-36), 3) := by decide +kernel
theorem dX2_shortestWith_116 : decode (zcc mX2_shortestWith) 116 = .ok (.iinc 8 1, 3) := by decide +kernel
theorem dX2_shortestWith_119 : decode (zcc mX2_shortestWith) 119 = .ok (.goto (-101), 3) := by decide +kernel
theorem dX2_shortestWith_122 : decode (zcc mX2_shortestWith) 122 = .ok (.lload 6, 2) := by decide +kernel
theorem dX2_shortestWith_124 : decode (zcc mX2_shortestWith) 124 = .ok (.lload_n 3, 1) := by decide +kernel
theorem dX2_shortestWith_125 : decode (zcc mX2_shortestWith) 125 = .ok (.lcmp, 1) := by decide +kernel
theorem dX2_shortestWith_126 : decode (zcc mX2_shortestWith) 126 = .ok (.ifCond .ne 5, 3) := by decide +kernel
theorem dX2_shortestWith_129 : decode (zcc mX2_shortestWith) 129 = .ok (.iconst (-1), 1) := by decide +kernel
theorem dX2_shortestWith_130 : decode (zcc mX2_shortestWith) 130 = .ok (.ireturn, 1) := by decide +kernel
theorem dX2_shortestWith_131 : decode (zcc mX2_shortestWith) 131 = .ok (.lload 6, 2) := by decide +kernel
theorem dX2_shortestWith_133 : decode (zcc mX2_shortestWith) 133 = .ok (.lstore_n 3, 1) := by decide +kernel
theorem dX2_shortestWith_134 : decode (zcc mX2_shortestWith) 134 = .ok (.iinc 5 1, 3) := by decide +kernel
theorem dX2_shortestWith_137 : decode (zcc mX2_shortestWith) 137 = .ok (.goto (-132), 3) := by decide +kernel
theorem dX2_shortestWith_140 : decode (zcc mX2_shortestWith) 140 = .ok (.iconst (-1), 1) := by decide +kernel
theorem dX2_shortestWith_141 : decode (zcc mX2_shortestWith) 141 = .ok (.ireturn, 1) := by decide +kernel
theorem dX3_init_0 : decode (zcc mX3_init) 0 = .ok (.aload_n 0, 1) := by decide +kernel
theorem dX3_init_1 : decode (zcc mX3_init) 1 = .ok (.invokespecial 3, 3) := by decide +kernel
theorem dX3_init_4 : decode (zcc mX3_init) 4 = .ok (.aload_n 0, 1) := by decide +kernel
theorem dX3_init_5 : decode (zcc mX3_init) 5 = .ok (.bipush 30, 2) := by decide +kernel
theorem dX3_init_7 : decode (zcc mX3_init) 7 = .ok (.newarray .int, 2) := by decide +kernel
theorem dX3_init_9 : decode (zcc mX3_init) 9 = .ok (.putfield 9, 3) := by decide +kernel
theorem dX3_init_12 : decode (zcc mX3_init) 12 = .ok (.return_, 1) := by decide +kernel
theorem dX3_write_0 : decode (zcc mX3_write) 0 = .ok (.aload_n 0, 1) := by decide +kernel
theorem dX3_write_1 : decode (zcc mX3_write) 1 = .ok (.iconst 0, 1) := by decide +kernel
theorem dX3_write_2 : decode (zcc mX3_write) 2 = .ok (.putfield 15, 3) := by decide +kernel
theorem dX3_write_5 : decode (zcc mX3_write) 5 = .ok (.iconst 0, 1) := by decide +kernel
theorem dX3_write_6 : decode (zcc mX3_write) 6 = .ok (.istore_n 3, 1) := by decide +kernel
theorem dX3_write_7 : decode (zcc mX3_write) 7 = .ok (.iload_n 3, 1) := by decide +kernel
theorem dX3_write_8 : decode (zcc mX3_write) 8 = .ok (.aload_n 1, 1) := by decide +kernel
theorem dX3_write_9 : decode (zcc mX3_write) 9 = .ok (.getfield 19, 3) := by decide +kernel
theorem dX3_write_12 : decode (zcc mX3_write) 12 = .ok (.if_icmp .ge 70, 3) := by decide +kernel
theorem dX3_write_15 : decode (zcc mX3_write) 15 = .ok (.aload_n 1, 1) := by decide +kernel
theorem dX3_write_16 : decode (zcc mX3_write) 16 = .ok (.getfield 22, 3) := by decide +kernel
theorem dX3_write_19 : decode (zcc mX3_write) 19 = .ok (.iload_n 3, 1) := by decide +kernel
theorem dX3_write_20 : decode (zcc mX3_write) 20 = .ok (.iaload, 1) := by decide +kernel
theorem dX3_write_21 : decode (zcc mX3_write) 21 = .ok (.bipush 8, 2) := by decide +kernel
theorem dX3_write_23 : decode (zcc mX3_write) 23 = .ok (.isub, 1) := by decide +kernel
theorem dX3_write_24 : decode (zcc mX3_write) 24 = .ok (.istore 4, 2) := by decide +kernel
theorem dX3_write_26 : decode (zcc mX3_write) 26 = .ok (.iload 4, 2) := by decide +kernel
theorem dX3_write_28 : decode (zcc mX3_write) 28 = .ok (.ifCond .ge 16, 3) := by decide +kernel
theorem dX3_write_31 : decode (zcc mX3_write) 31 = .ok (.aload_n 0, 1) := by decide +kernel
theorem dX3_write_32 : decode (zcc mX3_write) 32 = .ok (.aload_n 1, 1) := by decide +kernel
theorem dX3_write_33 : decode (zcc mX3_write) 33 = .ok (.getfield 22, 3) := by decide +kernel
theorem dX3_write_36 : decode (zcc mX3_write) 36 = .ok (.iload_n 3, 1) := by decide +kernel
theorem dX3_write_37 : decode (zcc mX3_write) 37 = .ok (.iaload, 1) := by decide +kernel
theorem dX3_write_38 : decode (zcc mX3_write) 38 = .ok (.invokevirtual 25, 3) := by decide +kernel
theorem dX3_write_41 : decode (zcc mX3_write) 41 = .ok (.goto 35, 3) := by decide +kernel
theorem dX3_write_44 : decode (zcc mX3_write) 44 = .ok (.iload 4, 2) := by decide +kernel
theorem dX3_write_46 : decode (zcc mX3_write) 46 = .ok (.aload_n 2, 1) := by decide +kernel
theorem dX3_write_47 : decode (zcc mX3_write) 47 = .ok (.getfield 29, 3) := by decide +kernel
theorem dX3_write_50 : decode (zcc mX3_write) 50 = .ok (.arraylength, 1) := by decide +kernel
theorem dX3_write_51 : decode (zcc mX3_write) 51 = .ok (.if_icmp .ge 25, 3) := by decide +kernel
theorem dX3_write_54 : decode (zcc mX3_write) 54 = .ok (.aload_n 0, 1) := by decide +kernel
theorem dX3_write_55 : decode (zcc mX3_write) 55 = .ok (.aload_n 2, 1) := by decide +kernel
theorem dX3_write_56 : decode (zcc mX3_write) 56 = .ok (.getfield 34, 3) := by decide +kernel
theorem dX3_write_59 : decode (zcc mX3_write) 59 = .ok (.aload_n 2, 1) := by decide +kernel
theorem dX3_write_60 : decode (zcc mX3_write) 60 = .ok (.getfield 37, 3) := by decide +kernel
theorem dX3_write_63 : decode (zcc mX3_write) 63 = .ok (.iload 4, 2) := by decide +kernel
theorem dX3_write_65 : decode (zcc mX3_write) 65 = .ok (.iaload, 1) := by decide +kernel
theorem dX3_write_66 : decode (zcc mX3_write) 66 = .ok (.aload_n 2, 1) := by decide +kernel
theorem dX3_write_67 : decode (zcc mX3_write) 67 = .ok (.getfield 29, 3) := by decide +kernel
theorem dX3_write_70 : decode (zcc mX3_write) 70 = .ok (.iload 4, 2) := by decide +kernel
theorem dX3_write_72 : decode (zcc mX3_write) 72 = .ok (.iaload, 1) := by decide +kernel
theorem dX3_write_73 : decode (zcc mX3_write) 73 = .ok (.invokevirtual 40, 3) := by decide +kernel
theorem dX3_write_76 : decode (zcc mX3_write) 76 = .ok (.iinc 3 1, 3) := by decide +kernel
theorem dX3_write_79 : decode (zcc mX3_write) 79 = .ok (.goto (-72), 3) := by decide +kernel
theorem dX3_write_82 : decode (zcc mX3_write) 82 = .ok (.return_, 1) := by decide +kernel
theorem dX3_addLetter_0 : decode (zcc mX3_addLetter) 0 = .ok (.aload_n 0, 1) := by decide +kernel
theorem dX3_addLetter_1 : decode (zcc mX3_addLetter) 1 = .ok (.getfield 15, 3) := by decide +kernel
theorem dX3_addLetter_4 : decode (zcc mX3_addLetter) 4 = .ok (.aload_n 0, 1) := by decide +kernel
theorem dX3_addLetter_5 : decode (zcc mX3_addLetter) 5 = .ok (.getfield 9, 3) := by decide +kernel
theorem dX3_addLetter_8 : decode (zcc mX3_addLetter) 8 = .ok (.arraylength, 1) := by decide +kernel
theorem dX3_addLetter_9 : decode (zcc mX3_addLetter) 9 = .ok (.if_icmp .ge 23, 3) := by decide +kernel
theorem dX3_addLetter_12 : decode (zcc mX3_addLetter) 12 = .ok (.aload_n 0, 1) := by decide +kernel
theorem dX3_addLetter_13 : decode (zcc mX3_addLetter) 13 = .ok (.getfield 9, 3) := by decide +kernel
theorem dX3_addLetter_16 : decode (zcc mX3_addLetter) 16 = .ok (.aload_n 0, 1) := by decide +kernel
theorem dX3_addLetter_17 : decode (zcc mX3_addLetter) 17 = .ok (.getfield 15, 3) := by decide +kernel
theorem dX3_addLetter_20 : decode (zcc mX3_addLetter) 20 = .ok (.iload_n 1, 1) := by decide +kernel
theorem dX3_addLetter_21 : decode (zcc mX3_addLetter) 21 = .ok (.iastore, 1) := by decide +kernel
theorem dX3_addLetter_22 : decode (zcc mX3_addLetter) 22 = .ok (.aload_n 0, 1) := by decide +kernel
theorem dX3_addLetter_23 : decode (zcc mX3_addLetter) 23 = .ok (.dup, 1) := by decide +kernel
theorem dX3_addLetter_24 : decode (zcc mX3_addLetter) 24 = .ok (.getfield 15, 3) := by decide +kernel
theorem dX3_addLetter_27 : decode (zcc mX3_addLetter) 27 = .ok (.iconst 1, 1) := by decide +kernel
theorem dX3_addLetter_28 : decode (zcc mX3_addLetter) 28 = .ok (.iadd, 1) := by decide +kernel
theorem dX3_addLetter_29 : decode (zcc mX3_addLetter) 29 = .ok (.putfield 15, 3) := by decide +kernel
theorem dX3_addLetter_32 : decode (zcc mX3_addLetter) 32 = .ok (.return_, 1) := by decide +kernel
theorem dX3_addRow_0 : decode (zcc mX3_addRow) 0 = .ok (.iconst 0, 1) := by decide +kernel
theorem dX3_addRow_1 : decode (zcc mX3_addRow) 1 = .ok (.istore 4, 2) := by decide +kernel
theorem dX3_addRow_3 : decode (zcc mX3_addRow) 3 = .ok (.iload 4, 2) := by decide +kernel
theorem dX3_addRow_5 : decode (zcc mX3_addRow) 5 = .ok (.iload_n 3, 1) := by decide +kernel
theorem dX3_addRow_6 : decode (zcc mX3_addRow) 6 = .ok (.if_icmp .ge 55, 3) := by decide +kernel
theorem dX3_addRow_9 : decode (zcc mX3_addRow) 9 = .ok (.aload_n 0, 1) := by decide +kernel
theorem dX3_addRow_10 : decode (zcc mX3_addRow) 10 = .ok (.getfield 15, 3) := by decide +kernel
theorem dX3_addRow_13 : decode (zcc mX3_addRow) 13 = .ok (.aload_n 0, 1) := by decide +kernel
theorem dX3_addRow_14 : decode (zcc mX3_addRow) 14 = .ok (.getfield 9, 3) := by decide +kernel
theorem dX3_addRow_17 : decode (zcc mX3_addRow) 17 = .ok (.arraylength, 1) := by decide +kernel
theorem dX3_addRow_18 : decode (zcc mX3_addRow) 18 = .ok (.if_icmp .ge 43, 3) := by decide +kernel
theorem dX3_addRow_21 : decode (zcc mX3_addRow) 21 = .ok (.iload_n 2, 1) := by decide +kernel
theorem dX3_addRow_22 : decode (zcc mX3_addRow) 22 = .ok (.iload 4, 2) := by decide +kernel
theorem dX3_addRow_24 : decode (zcc mX3_addRow) 24 = .ok (.iadd, 1) := by decide +kernel
theorem dX3_addRow_25 : decode (zcc mX3_addRow) 25 = .ok (.aload_n 1, 1) := by decide +kernel
theorem dX3_addRow_26 : decode (zcc mX3_addRow) 26 = .ok (.arraylength, 1) := by decide +kernel
theorem dX3_addRow_27 : decode (zcc mX3_addRow) 27 = .ok (.if_icmp .ge 34, 3) := by decide +kernel
theorem dX3_addRow_30 : decode (zcc mX3_addRow) 30 = .ok (.aload_n 0, 1) := by decide +kernel
theorem dX3_addRow_31 : decode (zcc mX3_addRow) 31 = .ok (.getfield 9, 3) := by decide +kernel
theorem dX3_addRow_34 : decode (zcc mX3_addRow) 34 = .ok (.aload_n 0, 1) := by decide +kernel
theorem dX3_addRow_35 : decode (zcc mX3_addRow) 35 = .ok (.getfield 15, 3) := by decide +kernel
theorem dX3_addRow_38 : decode (zcc mX3_addRow) 38 = .ok (.aload_n 1, 1) := by decide +kernel
theorem dX3_addRow_39 : decode (zcc mX3_addRow) 39 = .ok (.iload_n 2, 1) := by decide +kernel
theorem dX3_addRow_40 : decode (zcc mX3_addRow) 40 = .ok (.iload 4, 2) := by decide +kernel
theorem dX3_addRow_42 : decode (zcc mX3_addRow) 42 = .ok (.iadd, 1) := by decide +kernel
theorem dX3_addRow_43 : decode (zcc mX3_addRow) 43 = .ok (.iaload, 1) := by decide +kernel
theorem dX3_addRow_44 : decode (zcc mX3_addRow) 44 = .ok (.iastore, 1) := by decide +kernel
theorem dX3_addRow_45 : decode (zcc mX3_addRow) 45 = .ok (.aload_n 0, 1) := by decide +kernel
theorem dX3_addRow_46 : decode (zcc mX3_addRow) 46 = .ok (.dup, 1) := by decide +kernel
theorem dX3_addRow_47 : decode (zcc mX3_addRow) 47 = .ok (.getfield 15, 3) := by decide +kernel
theorem dX3_addRow_50 : decode (zcc mX3_addRow) 50 = .ok (.iconst 1, 1) := by decide +kernel
theorem dX3_addRow_51 : decode (zcc mX3_addRow) 51 = .ok (.iadd, 1) := by decide +kernel
theorem dX3_addRow_52 : decode (zcc mX3_addRow) 52 = .ok (.putfield 15, 3) := by decide +kernel
theorem dX3_addRow_55 : decode (zcc mX3_addRow) 55 = .ok (.iinc 4 1, 3) := by decide +kernel
theorem dX3_addRow_58 : decode (zcc mX3_addRow) 58 = .ok (.goto (-55), 3) := by decide +kernel
theorem dX3_addRow_61 : decode (zcc mX3_addRow) 61 = .ok (.return_, 1) := by decide +kernel
theorem dX3_agrees_0 : decode (zcc mX3_agrees) 0 = .ok (.iload_n 1, 1) := by decide +kernel
theorem dX3_agrees_1 : decode (zcc mX3_agrees) 1 = .ok (.iload 4, 2) := by decide +kernel
theorem dX3_agrees_3 : decode (zcc mX3_agrees) 3 = .ok (.iadd, 1) := by decide +kernel
theorem dX3_agrees_4 : decode (zcc mX3_agrees) 4 = .ok (.aload_n 0, 1) := by decide +kernel
theorem dX3_agrees_5 : decode (zcc mX3_agrees) 5 = .ok (.getfield 15, 3) := by decide +kernel
theorem dX3_agrees_8 : decode (zcc mX3_agrees) 8 = .ok (.if_icmp .gt 14, 3) := by decide +kernel
theorem dX3_agrees_11 : decode (zcc mX3_agrees) 11 = .ok (.iload_n 3, 1) := by decide +kernel
theorem dX3_agrees_12 : decode (zcc mX3_agrees) 12 = .ok (.iload 4, 2) := by decide +kernel
theorem dX3_agrees_14 : decode (zcc mX3_agrees) 14 = .ok (.iadd, 1) := by decide +kernel
theorem dX3_agrees_15 : decode (zcc mX3_agrees) 15 = .ok (.aload_n 2, 1) := by decide +kernel
theorem dX3_agrees_16 : decode (zcc mX3_agrees) 16 = .ok (.getfield 15, 3) := by decide +kernel
theorem dX3_agrees_19 : decode (zcc mX3_agrees) 19 = .ok (.if_icmp .le 5, 3) := by decide +kernel
theorem dX3_agrees_22 : decode (zcc mX3_agrees) 22 = .ok (.iconst 0, 1) := by decide +kernel
theorem dX3_agrees_23 : decode (zcc mX3_agrees) 23 = .ok (.ireturn, 1) := by decide +kernel
theorem dX3_agrees_24 : decode (zcc mX3_agrees) 24 = .ok (.iconst 0, 1) := by decide +kernel
theorem dX3_agrees_25 : decode (zcc mX3_agrees) 25 = .ok (.istore 5, 2) := by decide +kernel
theorem dX3_agrees_27 : decode (zcc mX3_agrees) 27 = .ok (.iload 5, 2) := by decide +kernel
theorem dX3_agrees_29 : decode (zcc mX3_agrees) 29 = .ok (.iload 4, 2) := by decide +kernel
theorem dX3_agrees_31 : decode (zcc mX3_agrees) 31 = .ok (.if_icmp .ge 32, 3) := by decide +kernel
theorem dX3_agrees_34 : decode (zcc mX3_agrees) 34 = .ok (.aload_n 0, 1) := by decide +kernel
theorem dX3_agrees_35 : decode (zcc mX3_agrees) 35 = .ok (.getfield 9, 3) := by decide +kernel
theorem dX3_agrees_38 : decode (zcc mX3_agrees) 38 = .ok (.iload_n 1, 1) := by decide +kernel
theorem dX3_agrees_39 : decode (zcc mX3_agrees) 39 = .ok (.iload 5, 2) := by decide +kernel
theorem dX3_agrees_41 : decode (zcc mX3_agrees) 41 = .ok (.iadd, 1) := by decide +kernel
theorem dX3_agrees_42 : decode (zcc mX3_agrees) 42 = .ok (.iaload, 1) := by decide +kernel
theorem dX3_agrees_43 : decode (zcc mX3_agrees) 43 = .ok (.aload_n 2, 1) := by decide +kernel
theorem dX3_agrees_44 : decode (zcc mX3_agrees) 44 = .ok (.getfield 9, 3) := by decide +kernel
theorem dX3_agrees_47 : decode (zcc mX3_agrees) 47 = .ok (.iload_n 3, 1) := by decide +kernel
theorem dX3_agrees_48 : decode (zcc mX3_agrees) 48 = .ok (.iload 5, 2) := by decide +kernel
theorem dX3_agrees_50 : decode (zcc mX3_agrees) 50 = .ok (.iadd, 1) := by decide +kernel
theorem dX3_agrees_51 : decode (zcc mX3_agrees) 51 = .ok (.iaload, 1) := by decide +kernel
theorem dX3_agrees_52 : decode (zcc mX3_agrees) 52 = .ok (.if_icmp .eq 5, 3) := by decide +kernel
theorem dX3_agrees_55 : decode (zcc mX3_agrees) 55 = .ok (.iconst 0, 1) := by decide +kernel
theorem dX3_agrees_56 : decode (zcc mX3_agrees) 56 = .ok (.ireturn, 1) := by decide +kernel
theorem dX3_agrees_57 : decode (zcc mX3_agrees) 57 = .ok (.iinc 5 1, 3) := by decide +kernel
theorem dX3_agrees_60 : decode (zcc mX3_agrees) 60 = .ok (.goto (-33), 3) := by decide +kernel
theorem dX3_agrees_63 : decode (zcc mX3_agrees) 63 = .ok (.iconst 1, 1) := by decide +kernel
theorem dX3_agrees_64 : decode (zcc mX3_agrees) 64 = .ok (.ireturn, 1) := by decide +kernel
theorem dX3_isSame_0 : decode (zcc mX3_isSame) 0 = .ok (.aload_n 0, 1) := by decide +kernel
theorem dX3_isSame_1 : decode (zcc mX3_isSame) 1 = .ok (.getfield 15, 3) := by decide +kernel
theorem dX3_isSame_4 : decode (zcc mX3_isSame) 4 = .ok (.aload_n 1, 1) := by decide +kernel
theorem dX3_isSame_5 : decode (zcc mX3_isSame) 5 = .ok (.getfield 15, 3) := by decide +kernel
theorem dX3_isSame_8 : decode (zcc mX3_isSame) 8 = .ok (.if_icmp .ne 21, 3) := by decide +kernel
theorem dX3_isSame_11 : decode (zcc mX3_isSame) 11 = .ok (.aload_n 0, 1) := by decide +kernel
theorem dX3_isSame_12 : decode (zcc mX3_isSame) 12 = .ok (.iconst 0, 1) := by decide +kernel
theorem dX3_isSame_13 : decode (zcc mX3_isSame) 13 = .ok (.aload_n 1, 1) := by decide +kernel
theorem dX3_isSame_14 : decode (zcc mX3_isSame) 14 = .ok (.iconst 0, 1) := by decide +kernel
theorem dX3_isSame_15 : decode (zcc mX3_isSame) 15 = .ok (.aload_n 0, 1) := by decide +kernel
theorem dX3_isSame_16 : decode (zcc mX3_isSame) 16 = .ok (.getfield 15, 3) := by decide +kernel
theorem dX3_isSame_19 : decode (zcc mX3_isSame) 19 = .ok (.invokevirtual 44, 3) := by decide +kernel
theorem dX3_isSame_22 : decode (zcc mX3_isSame) 22 = .ok (.ifCond .eq 7, 3) := by decide +kernel
theorem dX3_isSame_25 : decode (zcc mX3_isSame) 25 = .ok (.iconst 1, 1) := by decide +kernel
theorem dX3_isSame_26 : decode (zcc mX3_isSame) 26 = .ok (.goto 4, 3) := by decide +kernel
theorem dX3_isSame_29 : decode (zcc mX3_isSame) 29 = .ok (.iconst 0, 1) := by decide +kernel
theorem dX3_isSame_30 : decode (zcc mX3_isSame) 30 = .ok (.ireturn, 1) := by decide +kernel
theorem dX3_placeOf_0 : decode (zcc mX3_placeOf) 0 = .ok (.iconst 0, 1) := by decide +kernel
theorem dX3_placeOf_1 : decode (zcc mX3_placeOf) 1 = .ok (.istore_n 2, 1) := by decide +kernel
theorem dX3_placeOf_2 : decode (zcc mX3_placeOf) 2 = .ok (.iload_n 2, 1) := by decide +kernel
theorem dX3_placeOf_3 : decode (zcc mX3_placeOf) 3 = .ok (.aload_n 1, 1) := by decide +kernel
theorem dX3_placeOf_4 : decode (zcc mX3_placeOf) 4 = .ok (.getfield 15, 3) := by decide +kernel
theorem dX3_placeOf_7 : decode (zcc mX3_placeOf) 7 = .ok (.iadd, 1) := by decide +kernel
theorem dX3_placeOf_8 : decode (zcc mX3_placeOf) 8 = .ok (.aload_n 0, 1) := by decide +kernel
theorem dX3_placeOf_9 : decode (zcc mX3_placeOf) 9 = .ok (.getfield 15, 3) := by decide +kernel
theorem dX3_placeOf_12 : decode (zcc mX3_placeOf) 12 = .ok (.if_icmp .gt 25, 3) := by decide +kernel
theorem dX3_placeOf_15 : decode (zcc mX3_placeOf) 15 = .ok (.aload_n 0, 1) := by decide +kernel
theorem dX3_placeOf_16 : decode (zcc mX3_placeOf) 16 = .ok (.iload_n 2, 1) := by decide +kernel
theorem dX3_placeOf_17 : decode (zcc mX3_placeOf) 17 = .ok (.aload_n 1, 1) := by decide +kernel
theorem dX3_placeOf_18 : decode (zcc mX3_placeOf) 18 = .ok (.iconst 0, 1) := by decide +kernel
theorem dX3_placeOf_19 : decode (zcc mX3_placeOf) 19 = .ok (.aload_n 1, 1) := by decide +kernel
theorem dX3_placeOf_20 : decode (zcc mX3_placeOf) 20 = .ok (.getfield 15, 3) := by decide +kernel
theorem dX3_placeOf_23 : decode (zcc mX3_placeOf) 23 = .ok (.invokevirtual 44, 3) := by decide +kernel
theorem dX3_placeOf_26 : decode (zcc mX3_placeOf) 26 = .ok (.ifCond .eq 5, 3) := by decide +kernel
theorem dX3_placeOf_29 : decode (zcc mX3_placeOf) 29 = .ok (.iload_n 2, 1) := by decide +kernel
theorem dX3_placeOf_30 : decode (zcc mX3_placeOf) 30 = .ok (.ireturn, 1) := by decide +kernel
theorem dX3_placeOf_31 : decode (zcc mX3_placeOf) 31 = .ok (.iinc 2 1, 3) := by decide +kernel
theorem dX3_placeOf_34 : decode (zcc mX3_placeOf) 34 = .ok (.goto (-32), 3) := by decide +kernel
theorem dX3_placeOf_37 : decode (zcc mX3_placeOf) 37 = .ok (.iconst (-1), 1) := by decide +kernel
theorem dX3_placeOf_38 : decode (zcc mX3_placeOf) 38 = .ok (.ireturn, 1) := by decide +kernel
theorem dX3_isBefore_0 : decode (zcc mX3_isBefore) 0 = .ok (.iconst 0, 1) := by decide +kernel
theorem dX3_isBefore_1 : decode (zcc mX3_isBefore) 1 = .ok (.istore_n 2, 1) := by decide +kernel
theorem dX3_isBefore_2 : decode (zcc mX3_isBefore) 2 = .ok (.iload_n 2, 1) := by decide +kernel
theorem dX3_isBefore_3 : decode (zcc mX3_isBefore) 3 = .ok (.aload_n 0, 1) := by decide +kernel
theorem dX3_isBefore_4 : decode (zcc mX3_isBefore) 4 = .ok (.getfield 15, 3) := by decide +kernel
theorem dX3_isBefore_7 : decode (zcc mX3_isBefore) 7 = .ok (.if_icmp .ge 53, 3) := by decide +kernel
theorem dX3_isBefore_10 : decode (zcc mX3_isBefore) 10 = .ok (.iload_n 2, 1) := by decide +kernel
theorem dX3_isBefore_11 : decode (zcc mX3_isBefore) 11 = .ok (.aload_n 1, 1) := by decide +kernel
theorem dX3_isBefore_12 : decode (zcc mX3_isBefore) 12 = .ok (.getfield 15, 3) := by decide +kernel
theorem dX3_isBefore_15 : decode (zcc mX3_isBefore) 15 = .ok (.if_icmp .ge 45, 3) := by decide +kernel
theorem dX3_isBefore_18 : decode (zcc mX3_isBefore) 18 = .ok (.aload_n 0, 1) := by decide +kernel
theorem dX3_isBefore_19 : decode (zcc mX3_isBefore) 19 = .ok (.getfield 9, 3) := by decide +kernel
theorem dX3_isBefore_22 : decode (zcc mX3_isBefore) 22 = .ok (.iload_n 2, 1) := by decide +kernel
theorem dX3_isBefore_23 : decode (zcc mX3_isBefore) 23 = .ok (.iaload, 1) := by decide +kernel
theorem dX3_isBefore_24 : decode (zcc mX3_isBefore) 24 = .ok (.aload_n 1, 1) := by decide +kernel
theorem dX3_isBefore_25 : decode (zcc mX3_isBefore) 25 = .ok (.getfield 9, 3) := by decide +kernel
theorem dX3_isBefore_28 : decode (zcc mX3_isBefore) 28 = .ok (.iload_n 2, 1) := by decide +kernel
theorem dX3_isBefore_29 : decode (zcc mX3_isBefore) 29 = .ok (.iaload, 1) := by decide +kernel
theorem dX3_isBefore_30 : decode (zcc mX3_isBefore) 30 = .ok (.if_icmp .eq 24, 3) := by decide +kernel
theorem dX3_isBefore_33 : decode (zcc mX3_isBefore) 33 = .ok (.aload_n 0, 1) := by decide +kernel
theorem dX3_isBefore_34 : decode (zcc mX3_isBefore) 34 = .ok (.getfield 9, 3) := by decide +kernel
theorem dX3_isBefore_37 : decode (zcc mX3_isBefore) 37 = .ok (.iload_n 2, 1) := by decide +kernel
theorem dX3_isBefore_38 : decode (zcc mX3_isBefore) 38 = .ok (.iaload, 1) := by decide +kernel
theorem dX3_isBefore_39 : decode (zcc mX3_isBefore) 39 = .ok (.aload_n 1, 1) := by decide +kernel
theorem dX3_isBefore_40 : decode (zcc mX3_isBefore) 40 = .ok (.getfield 9, 3) := by decide +kernel
theorem dX3_isBefore_43 : decode (zcc mX3_isBefore) 43 = .ok (.iload_n 2, 1) := by decide +kernel
theorem dX3_isBefore_44 : decode (zcc mX3_isBefore) 44 = .ok (.iaload, 1) := by decide +kernel
theorem dX3_isBefore_45 : decode (zcc mX3_isBefore) 45 = .ok (.if_icmp .ge 7, 3) := by decide +kernel
theorem dX3_isBefore_48 : decode (zcc mX3_isBefore) 48 = .ok (.iconst 1, 1) := by decide +kernel
theorem dX3_isBefore_49 : decode (zcc mX3_isBefore) 49 = .ok (.goto 4, 3) := by decide +kernel
theorem dX3_isBefore_52 : decode (zcc mX3_isBefore) 52 = .ok (.iconst 0, 1) := by decide +kernel
theorem dX3_isBefore_53 : decode (zcc mX3_isBefore) 53 = .ok (.ireturn, 1) := by decide +kernel
theorem dX3_isBefore_54 : decode (zcc mX3_isBefore) 54 = .ok (.iinc 2 1, 3) := by decide +kernel
theorem dX3_isBefore_57 : decode (zcc mX3_isBefore) 57 = .ok (.goto (-55), 3) := by decide +kernel
theorem dX3_isBefore_60 : decode (zcc mX3_isBefore) 60 = .ok (.aload_n 0, 1) := by decide +kernel
theorem dX3_isBefore_61 : decode (zcc mX3_isBefore) 61 = .ok (.getfield 15, 3) := by decide +kernel
theorem dX3_isBefore_64 : decode (zcc mX3_isBefore) 64 = .ok (.aload_n 1, 1) := by decide +kernel
theorem dX3_isBefore_65 : decode (zcc mX3_isBefore) 65 = .ok (.getfield 15, 3) := by decide +kernel
theorem dX3_isBefore_68 : decode (zcc mX3_isBefore) 68 = .ok (.if_icmp .ge 7, 3) := by decide +kernel
theorem dX3_isBefore_71 : decode (zcc mX3_isBefore) 71 = .ok (.iconst 1, 1) := by decide +kernel
theorem dX3_isBefore_72 : decode (zcc mX3_isBefore) 72 = .ok (.goto 4, 3) := by decide +kernel
theorem dX3_isBefore_75 : decode (zcc mX3_isBefore) 75 = .ok (.iconst 0, 1) := by decide +kernel
theorem dX3_isBefore_76 : decode (zcc mX3_isBefore) 76 = .ok (.ireturn, 1) := by decide +kernel
theorem dX3_hasSum_0 : decode (zcc mX3_hasSum) 0 = .ok (.iconst 0, 1) := by decide +kernel
theorem dX3_hasSum_1 : decode (zcc mX3_hasSum) 1 = .ok (.istore_n 3, 1) := by decide +kernel
theorem dX3_hasSum_2 : decode (zcc mX3_hasSum) 2 = .ok (.iconst 0, 1) := by decide +kernel
theorem dX3_hasSum_3 : decode (zcc mX3_hasSum) 3 = .ok (.istore 4, 2) := by decide +kernel
theorem dX3_hasSum_5 : decode (zcc mX3_hasSum) 5 = .ok (.iload 4, 2) := by decide +kernel
theorem dX3_hasSum_7 : decode (zcc mX3_hasSum) 7 = .ok (.aload_n 0, 1) := by decide +kernel
theorem dX3_hasSum_8 : decode (zcc mX3_hasSum) 8 = .ok (.getfield 15, 3) := by decide +kernel
theorem dX3_hasSum_11 : decode (zcc mX3_hasSum) 11 = .ok (.if_icmp .ge 24, 3) := by decide +kernel
theorem dX3_hasSum_14 : decode (zcc mX3_hasSum) 14 = .ok (.bipush 31, 2) := by decide +kernel
theorem dX3_hasSum_16 : decode (zcc mX3_hasSum) 16 = .ok (.iload_n 3, 1) := by decide +kernel
theorem dX3_hasSum_17 : decode (zcc mX3_hasSum) 17 = .ok (.imul, 1) := by decide +kernel
theorem dX3_hasSum_18 : decode (zcc mX3_hasSum) 18 = .ok (.aload_n 0, 1) := by decide +kernel
theorem dX3_hasSum_19 : decode (zcc mX3_hasSum) 19 = .ok (.getfield 9, 3) := by decide +kernel
theorem dX3_hasSum_22 : decode (zcc mX3_hasSum) 22 = .ok (.iload 4, 2) := by decide +kernel
theorem dX3_hasSum_24 : decode (zcc mX3_hasSum) 24 = .ok (.iaload, 1) := by decide +kernel
theorem dX3_hasSum_25 : decode (zcc mX3_hasSum) 25 = .ok (.iadd, 1) := by decide +kernel
theorem dX3_hasSum_26 : decode (zcc mX3_hasSum) 26 = .ok (.iconst 1, 1) := by decide +kernel
theorem dX3_hasSum_27 : decode (zcc mX3_hasSum) 27 = .ok (.iadd, 1) := by decide +kernel
theorem dX3_hasSum_28 : decode (zcc mX3_hasSum) 28 = .ok (.istore_n 3, 1) := by decide +kernel
theorem dX3_hasSum_29 : decode (zcc mX3_hasSum) 29 = .ok (.iinc 4 1, 3) := by decide +kernel
theorem dX3_hasSum_32 : decode (zcc mX3_hasSum) 32 = .ok (.goto (-27), 3) := by decide +kernel
theorem dX3_hasSum_35 : decode (zcc mX3_hasSum) 35 = .ok (.iload_n 1, 1) := by decide +kernel
theorem dX3_hasSum_36 : decode (zcc mX3_hasSum) 36 = .ok (.ifCond .le 16, 3) := by decide +kernel
theorem dX3_hasSum_39 : decode (zcc mX3_hasSum) 39 = .ok (.iload_n 3, 1) := by decide +kernel
end
section
theorem dX3_hasSum_40 : decode (zcc mX3_hasSum) 40 = .ok (.iload_n 1, 1) := by decide +kernel
theorem dX3_hasSum_41 : decode (zcc mX3_hasSum) 41 = .ok (.invokestatic 48, 3) := by decide +kernel
theorem dX3_hasSum_44 : decode (zcc mX3_hasSum) 44 = .ok (.iload_n 2, 1) := by decide +kernel
theorem dX3_hasSum_45 : decode (zcc mX3_hasSum) 45 = .ok (.if_icmp .ne 7, 3) := by decide +kernel
theorem dX3_hasSum_48 : decode (zcc mX3_hasSum) 48 = .ok (.iconst 1, 1) := by decide +kernel
theorem dX3_hasSum_49 : decode (zcc mX3_hasSum) 49 = .ok (.goto 4, 3) := by decide +kernel
theorem dX3_hasSum_52 : decode (zcc mX3_hasSum) 52 = .ok (.iconst 0, 1) := by decide +kernel
theorem dX3_hasSum_53 : decode (zcc mX3_hasSum) 53 = .ok (.ireturn, 1) := by decide +kernel
theorem dX3_isReplaced_0 : decode (zcc mX3_isReplaced) 0 = .ok (.aload_n 1, 1) := by decide +kernel
theorem dX3_isReplaced_1 : decode (zcc mX3_isReplaced) 1 = .ok (.getfield 15, 3) := by decide +kernel
theorem dX3_isReplaced_4 : decode (zcc mX3_isReplaced) 4 = .ok (.iload_n 2, 1) := by decide +kernel
theorem dX3_isReplaced_5 : decode (zcc mX3_isReplaced) 5 = .ok (.isub, 1) := by decide +kernel
theorem dX3_isReplaced_6 : decode (zcc mX3_isReplaced) 6 = .ok (.iload_n 3, 1) := by decide +kernel
theorem dX3_isReplaced_7 : decode (zcc mX3_isReplaced) 7 = .ok (.isub, 1) := by decide +kernel
theorem dX3_isReplaced_8 : decode (zcc mX3_isReplaced) 8 = .ok (.istore 5, 2) := by decide +kernel
theorem dX3_isReplaced_10 : decode (zcc mX3_isReplaced) 10 = .ok (.aload_n 0, 1) := by decide +kernel
theorem dX3_isReplaced_11 : decode (zcc mX3_isReplaced) 11 = .ok (.getfield 15, 3) := by decide +kernel
theorem dX3_isReplaced_14 : decode (zcc mX3_isReplaced) 14 = .ok (.iload_n 2, 1) := by decide +kernel
theorem dX3_isReplaced_15 : decode (zcc mX3_isReplaced) 15 = .ok (.aload 4, 2) := by decide +kernel
theorem dX3_isReplaced_17 : decode (zcc mX3_isReplaced) 17 = .ok (.getfield 15, 3) := by decide +kernel
theorem dX3_isReplaced_20 : decode (zcc mX3_isReplaced) 20 = .ok (.iadd, 1) := by decide +kernel
theorem dX3_isReplaced_21 : decode (zcc mX3_isReplaced) 21 = .ok (.iload 5, 2) := by decide +kernel
theorem dX3_isReplaced_23 : decode (zcc mX3_isReplaced) 23 = .ok (.iadd, 1) := by decide +kernel
theorem dX3_isReplaced_24 : decode (zcc mX3_isReplaced) 24 = .ok (.if_icmp .ne 54, 3) := by decide +kernel
theorem dX3_isReplaced_27 : decode (zcc mX3_isReplaced) 27 = .ok (.aload_n 0, 1) := by decide +kernel
theorem dX3_isReplaced_28 : decode (zcc mX3_isReplaced) 28 = .ok (.iconst 0, 1) := by decide +kernel
theorem dX3_isReplaced_29 : decode (zcc mX3_isReplaced) 29 = .ok (.aload_n 1, 1) := by decide +kernel
theorem dX3_isReplaced_30 : decode (zcc mX3_isReplaced) 30 = .ok (.iconst 0, 1) := by decide +kernel
theorem dX3_isReplaced_31 : decode (zcc mX3_isReplaced) 31 = .ok (.iload_n 2, 1) := by decide +kernel
theorem dX3_isReplaced_32 : decode (zcc mX3_isReplaced) 32 = .ok (.invokevirtual 44, 3) := by decide +kernel
theorem dX3_isReplaced_35 : decode (zcc mX3_isReplaced) 35 = .ok (.ifCond .eq 43, 3) := by decide +kernel
theorem dX3_isReplaced_38 : decode (zcc mX3_isReplaced) 38 = .ok (.aload_n 0, 1) := by decide +kernel
theorem dX3_isReplaced_39 : decode (zcc mX3_isReplaced) 39 = .ok (.iload_n 2, 1) := by decide +kernel
theorem dX3_isReplaced_40 : decode (zcc mX3_isReplaced) 40 = .ok (.aload 4, 2) := by decide +kernel
theorem dX3_isReplaced_42 : decode (zcc mX3_isReplaced) 42 = .ok (.iconst 0, 1) := by decide +kernel
theorem dX3_isReplaced_43 : decode (zcc mX3_isReplaced) 43 = .ok (.aload 4, 2) := by decide +kernel
theorem dX3_isReplaced_45 : decode (zcc mX3_isReplaced) 45 = .ok (.getfield 15, 3) := by decide +kernel
theorem dX3_isReplaced_48 : decode (zcc mX3_isReplaced) 48 = .ok (.invokevirtual 44, 3) := by decide +kernel
theorem dX3_isReplaced_51 : decode (zcc mX3_isReplaced) 51 = .ok (.ifCond .eq 27, 3) := by decide +kernel
theorem dX3_isReplaced_54 : decode (zcc mX3_isReplaced) 54 = .ok (.aload_n 0, 1) := by decide +kernel
theorem dX3_isReplaced_55 : decode (zcc mX3_isReplaced) 55 = .ok (.iload_n 2, 1) := by decide +kernel
theorem dX3_isReplaced_56 : decode (zcc mX3_isReplaced) 56 = .ok (.aload 4, 2) := by decide +kernel
theorem dX3_isReplaced_58 : decode (zcc mX3_isReplaced) 58 = .ok (.getfield 15, 3) := by decide +kernel
theorem dX3_isReplaced_61 : decode (zcc mX3_isReplaced) 61 = .ok (.iadd, 1) := by decide +kernel
theorem dX3_isReplaced_62 : decode (zcc mX3_isReplaced) 62 = .ok (.aload_n 1, 1) := by decide +kernel
theorem dX3_isReplaced_63 : decode (zcc mX3_isReplaced) 63 = .ok (.iload_n 2, 1) := by decide +kernel
theorem dX3_isReplaced_64 : decode (zcc mX3_isReplaced) 64 = .ok (.iload_n 3, 1) := by decide +kernel
theorem dX3_isReplaced_65 : decode (zcc mX3_isReplaced) 65 = .ok (.iadd, 1) := by decide +kernel
theorem dX3_isReplaced_66 : decode (zcc mX3_isReplaced) 66 = .ok (.iload 5, 2) := by decide +kernel
theorem dX3_isReplaced_68 : decode (zcc mX3_isReplaced) 68 = .ok (.invokevirtual 44, 3) := by decide +kernel
theorem dX3_isReplaced_71 : decode (zcc mX3_isReplaced) 71 = .ok (.ifCond .eq 7, 3) := by decide +kernel
theorem dX3_isReplaced_74 : decode (zcc mX3_isReplaced) 74 = .ok (.iconst 1, 1) := by decide +kernel
theorem dX3_isReplaced_75 : decode (zcc mX3_isReplaced) 75 = .ok (.goto 4, 3) := by decide +kernel
theorem dX3_isReplaced_78 : decode (zcc mX3_isReplaced) 78 = .ok (.iconst 0, 1) := by decide +kernel
theorem dX3_isReplaced_79 : decode (zcc mX3_isReplaced) 79 = .ok (.ireturn, 1) := by decide +kernel
theorem dX4_init_0 : decode (zcc mX4_init) 0 = .ok (.aload_n 0, 1) := by decide +kernel
theorem dX4_init_1 : decode (zcc mX4_init) 1 = .ok (.invokespecial 3, 3) := by decide +kernel
theorem dX4_init_4 : decode (zcc mX4_init) 4 = .ok (.aload_n 0, 1) := by decide +kernel
theorem dX4_init_5 : decode (zcc mX4_init) 5 = .ok (.iconst 4, 1) := by decide +kernel
theorem dX4_init_6 : decode (zcc mX4_init) 6 = .ok (.newarray .int, 2) := by decide +kernel
theorem dX4_init_8 : decode (zcc mX4_init) 8 = .ok (.putfield 9, 3) := by decide +kernel
theorem dX4_init_11 : decode (zcc mX4_init) 11 = .ok (.aload_n 0, 1) := by decide +kernel
theorem dX4_init_12 : decode (zcc mX4_init) 12 = .ok (.iconst 2, 1) := by decide +kernel
theorem dX4_init_13 : decode (zcc mX4_init) 13 = .ok (.putfield 15, 3) := by decide +kernel
theorem dX4_init_16 : decode (zcc mX4_init) 16 = .ok (.aload_n 0, 1) := by decide +kernel
theorem dX4_init_17 : decode (zcc mX4_init) 17 = .ok (.iconst 1, 1) := by decide +kernel
theorem dX4_init_18 : decode (zcc mX4_init) 18 = .ok (.putfield 19, 3) := by decide +kernel
theorem dX4_init_21 : decode (zcc mX4_init) 21 = .ok (.return_, 1) := by decide +kernel
theorem dX4_restart_0 : decode (zcc mX4_restart) 0 = .ok (.aload_n 0, 1) := by decide +kernel
theorem dX4_restart_1 : decode (zcc mX4_restart) 1 = .ok (.iload_n 1, 1) := by decide +kernel
theorem dX4_restart_2 : decode (zcc mX4_restart) 2 = .ok (.putfield 15, 3) := by decide +kernel
theorem dX4_restart_5 : decode (zcc mX4_restart) 5 = .ok (.aload_n 0, 1) := by decide +kernel
theorem dX4_restart_6 : decode (zcc mX4_restart) 6 = .ok (.iconst 0, 1) := by decide +kernel
theorem dX4_restart_7 : decode (zcc mX4_restart) 7 = .ok (.putfield 22, 3) := by decide +kernel
theorem dX4_restart_10 : decode (zcc mX4_restart) 10 = .ok (.aload_n 0, 1) := by decide +kernel
theorem dX4_restart_11 : decode (zcc mX4_restart) 11 = .ok (.iconst 1, 1) := by decide +kernel
theorem dX4_restart_12 : decode (zcc mX4_restart) 12 = .ok (.putfield 19, 3) := by decide +kernel
theorem dX4_restart_15 : decode (zcc mX4_restart) 15 = .ok (.return_, 1) := by decide +kernel
theorem dX4_isLetter_0 : decode (zcc mX4_isLetter) 0 = .ok (.iload_n 1, 1) := by decide +kernel
theorem dX4_isLetter_1 : decode (zcc mX4_isLetter) 1 = .ok (.ifCond .lt 15, 3) := by decide +kernel
theorem dX4_isLetter_4 : decode (zcc mX4_isLetter) 4 = .ok (.iload_n 1, 1) := by decide +kernel
theorem dX4_isLetter_5 : decode (zcc mX4_isLetter) 5 = .ok (.aload_n 0, 1) := by decide +kernel
theorem dX4_isLetter_6 : decode (zcc mX4_isLetter) 6 = .ok (.getfield 15, 3) := by decide +kernel
theorem dX4_isLetter_9 : decode (zcc mX4_isLetter) 9 = .ok (.if_icmp .ge 7, 3) := by decide +kernel
theorem dX4_isLetter_12 : decode (zcc mX4_isLetter) 12 = .ok (.iconst 1, 1) := by decide +kernel
theorem dX4_isLetter_13 : decode (zcc mX4_isLetter) 13 = .ok (.goto 4, 3) := by decide +kernel
theorem dX4_isLetter_16 : decode (zcc mX4_isLetter) 16 = .ok (.iconst 0, 1) := by decide +kernel
theorem dX4_isLetter_17 : decode (zcc mX4_isLetter) 17 = .ok (.ireturn, 1) := by decide +kernel
theorem dX4_isText_0 : decode (zcc mX4_isText) 0 = .ok (.iload_n 1, 1) := by decide +kernel
theorem dX4_isText_1 : decode (zcc mX4_isText) 1 = .ok (.ifCond .lt 15, 3) := by decide +kernel
theorem dX4_isText_4 : decode (zcc mX4_isText) 4 = .ok (.iload_n 1, 1) := by decide +kernel
theorem dX4_isText_5 : decode (zcc mX4_isText) 5 = .ok (.aload_n 0, 1) := by decide +kernel
theorem dX4_isText_6 : decode (zcc mX4_isText) 6 = .ok (.getfield 22, 3) := by decide +kernel
theorem dX4_isText_9 : decode (zcc mX4_isText) 9 = .ok (.if_icmp .ge 7, 3) := by decide +kernel
theorem dX4_isText_12 : decode (zcc mX4_isText) 12 = .ok (.iconst 1, 1) := by decide +kernel
theorem dX4_isText_13 : decode (zcc mX4_isText) 13 = .ok (.goto 4, 3) := by decide +kernel
theorem dX4_isText_16 : decode (zcc mX4_isText) 16 = .ok (.iconst 0, 1) := by decide +kernel
theorem dX4_isText_17 : decode (zcc mX4_isText) 17 = .ok (.ireturn, 1) := by decide +kernel
theorem dX4_hasRoomFor_0 : decode (zcc mX4_hasRoomFor) 0 = .ok (.aload_n 0, 1) := by decide +kernel
theorem dX4_hasRoomFor_1 : decode (zcc mX4_hasRoomFor) 1 = .ok (.getfield 22, 3) := by decide +kernel
theorem dX4_hasRoomFor_4 : decode (zcc mX4_hasRoomFor) 4 = .ok (.iconst 4, 1) := by decide +kernel
theorem dX4_hasRoomFor_5 : decode (zcc mX4_hasRoomFor) 5 = .ok (.if_icmp .ge 23, 3) := by decide +kernel
theorem dX4_hasRoomFor_8 : decode (zcc mX4_hasRoomFor) 8 = .ok (.aload_n 0, 1) := by decide +kernel
theorem dX4_hasRoomFor_9 : decode (zcc mX4_hasRoomFor) 9 = .ok (.getfield 19, 3) := by decide +kernel
theorem dX4_hasRoomFor_12 : decode (zcc mX4_hasRoomFor) 12 = .ok (.aload_n 0, 1) := by decide +kernel
theorem dX4_hasRoomFor_13 : decode (zcc mX4_hasRoomFor) 13 = .ok (.iload_n 1, 1) := by decide +kernel
theorem dX4_hasRoomFor_14 : decode (zcc mX4_hasRoomFor) 14 = .ok (.invokevirtual 25, 3) := by decide +kernel
theorem dX4_hasRoomFor_17 : decode (zcc mX4_hasRoomFor) 17 = .ok (.imul, 1) := by decide +kernel
theorem dX4_hasRoomFor_18 : decode (zcc mX4_hasRoomFor) 18 = .ok (.sipush 8000, 3) := by decide +kernel
theorem dX4_hasRoomFor_21 : decode (zcc mX4_hasRoomFor) 21 = .ok (.if_icmp .gt 7, 3) := by decide +kernel
theorem dX4_hasRoomFor_24 : decode (zcc mX4_hasRoomFor) 24 = .ok (.iconst 1, 1) := by decide +kernel
theorem dX4_hasRoomFor_25 : decode (zcc mX4_hasRoomFor) 25 = .ok (.goto 4, 3) := by decide +kernel
theorem dX4_hasRoomFor_28 : decode (zcc mX4_hasRoomFor) 28 = .ok (.iconst 0, 1) := by decide +kernel
theorem dX4_hasRoomFor_29 : decode (zcc mX4_hasRoomFor) 29 = .ok (.ireturn, 1) := by decide +kernel
theorem dX4_add_0 : decode (zcc mX4_add) 0 = .ok (.aload_n 0, 1) := by decide +kernel
theorem dX4_add_1 : decode (zcc mX4_add) 1 = .ok (.getfield 22, 3) := by decide +kernel
theorem dX4_add_4 : decode (zcc mX4_add) 4 = .ok (.iconst 4, 1) := by decide +kernel
theorem dX4_add_5 : decode (zcc mX4_add) 5 = .ok (.if_icmp .ge 37, 3) := by decide +kernel
theorem dX4_add_8 : decode (zcc mX4_add) 8 = .ok (.aload_n 0, 1) := by decide +kernel
theorem dX4_add_9 : decode (zcc mX4_add) 9 = .ok (.getfield 9, 3) := by decide +kernel
theorem dX4_add_12 : decode (zcc mX4_add) 12 = .ok (.aload_n 0, 1) := by decide +kernel
theorem dX4_add_13 : decode (zcc mX4_add) 13 = .ok (.getfield 22, 3) := by decide +kernel
theorem dX4_add_16 : decode (zcc mX4_add) 16 = .ok (.iload_n 1, 1) := by decide +kernel
theorem dX4_add_17 : decode (zcc mX4_add) 17 = .ok (.iastore, 1) := by decide +kernel
theorem dX4_add_18 : decode (zcc mX4_add) 18 = .ok (.aload_n 0, 1) := by decide +kernel
theorem dX4_add_19 : decode (zcc mX4_add) 19 = .ok (.dup, 1) := by decide +kernel
theorem dX4_add_20 : decode (zcc mX4_add) 20 = .ok (.getfield 22, 3) := by decide +kernel
theorem dX4_add_23 : decode (zcc mX4_add) 23 = .ok (.iconst 1, 1) := by decide +kernel
theorem dX4_add_24 : decode (zcc mX4_add) 24 = .ok (.iadd, 1) := by decide +kernel
theorem dX4_add_25 : decode (zcc mX4_add) 25 = .ok (.putfield 22, 3) := by decide +kernel
theorem dX4_add_28 : decode (zcc mX4_add) 28 = .ok (.aload_n 0, 1) := by decide +kernel
theorem dX4_add_29 : decode (zcc mX4_add) 29 = .ok (.dup, 1) := by decide +kernel
theorem dX4_add_30 : decode (zcc mX4_add) 30 = .ok (.getfield 19, 3) := by decide +kernel
theorem dX4_add_33 : decode (zcc mX4_add) 33 = .ok (.aload_n 0, 1) := by decide +kernel
theorem dX4_add_34 : decode (zcc mX4_add) 34 = .ok (.iload_n 1, 1) := by decide +kernel
theorem dX4_add_35 : decode (zcc mX4_add) 35 = .ok (.invokevirtual 25, 3) := by decide +kernel
theorem dX4_add_38 : decode (zcc mX4_add) 38 = .ok (.imul, 1) := by decide +kernel
theorem dX4_add_39 : decode (zcc mX4_add) 39 = .ok (.putfield 19, 3) := by decide +kernel
theorem dX4_add_42 : decode (zcc mX4_add) 42 = .ok (.return_, 1) := by decide +kernel
theorem dX4_rowsUpTo_0 : decode (zcc mX4_rowsUpTo) 0 = .ok (.iconst 1, 1) := by decide +kernel
theorem dX4_rowsUpTo_1 : decode (zcc mX4_rowsUpTo) 1 = .ok (.istore_n 2, 1) := by decide +kernel
theorem dX4_rowsUpTo_2 : decode (zcc mX4_rowsUpTo) 2 = .ok (.iconst 1, 1) := by decide +kernel
theorem dX4_rowsUpTo_3 : decode (zcc mX4_rowsUpTo) 3 = .ok (.istore_n 3, 1) := by decide +kernel
theorem dX4_rowsUpTo_4 : decode (zcc mX4_rowsUpTo) 4 = .ok (.iconst 0, 1) := by decide +kernel
theorem dX4_rowsUpTo_5 : decode (zcc mX4_rowsUpTo) 5 = .ok (.istore 4, 2) := by decide +kernel
theorem dX4_rowsUpTo_7 : decode (zcc mX4_rowsUpTo) 7 = .ok (.iload 4, 2) := by decide +kernel
theorem dX4_rowsUpTo_9 : decode (zcc mX4_rowsUpTo) 9 = .ok (.iload_n 1, 1) := by decide +kernel
theorem dX4_rowsUpTo_10 : decode (zcc mX4_rowsUpTo) 10 = .ok (.if_icmp .ge 20, 3) := by decide +kernel
theorem dX4_rowsUpTo_13 : decode (zcc mX4_rowsUpTo) 13 = .ok (.iload_n 3, 1) := by decide +kernel
theorem dX4_rowsUpTo_14 : decode (zcc mX4_rowsUpTo) 14 = .ok (.aload_n 0, 1) := by decide +kernel
theorem dX4_rowsUpTo_15 : decode (zcc mX4_rowsUpTo) 15 = .ok (.getfield 15, 3) := by decide +kernel
theorem dX4_rowsUpTo_18 : decode (zcc mX4_rowsUpTo) 18 = .ok (.imul, 1) := by decide +kernel
theorem dX4_rowsUpTo_19 : decode (zcc mX4_rowsUpTo) 19 = .ok (.istore_n 3, 1) := by decide +kernel
theorem dX4_rowsUpTo_20 : decode (zcc mX4_rowsUpTo) 20 = .ok (.iload_n 2, 1) := by decide +kernel
theorem dX4_rowsUpTo_21 : decode (zcc mX4_rowsUpTo) 21 = .ok (.iload_n 3, 1) := by decide +kernel
theorem dX4_rowsUpTo_22 : decode (zcc mX4_rowsUpTo) 22 = .ok (.iadd, 1) := by decide +kernel
theorem dX4_rowsUpTo_23 : decode (zcc mX4_rowsUpTo) 23 = .ok (.istore_n 2, 1) := by decide +kernel
theorem dX4_rowsUpTo_24 : decode (zcc mX4_rowsUpTo) 24 = .ok (.iinc 4 1, 3) := by decide +kernel
theorem dX4_rowsUpTo_27 : decode (zcc mX4_rowsUpTo) 27 = .ok (.goto (-20), 3) := by decide +kernel
theorem dX4_rowsUpTo_30 : decode (zcc mX4_rowsUpTo) 30 = .ok (.iload_n 2, 1) := by decide +kernel
theorem dX4_rowsUpTo_31 : decode (zcc mX4_rowsUpTo) 31 = .ok (.ireturn, 1) := by decide +kernel
theorem dX4_lengthWays_0 : decode (zcc mX4_lengthWays) 0 = .ok (.iconst 1, 1) := by decide +kernel
theorem dX4_lengthWays_1 : decode (zcc mX4_lengthWays) 1 = .ok (.istore_n 1, 1) := by decide +kernel
theorem dX4_lengthWays_2 : decode (zcc mX4_lengthWays) 2 = .ok (.iconst 0, 1) := by decide +kernel
theorem dX4_lengthWays_3 : decode (zcc mX4_lengthWays) 3 = .ok (.istore_n 2, 1) := by decide +kernel
theorem dX4_lengthWays_4 : decode (zcc mX4_lengthWays) 4 = .ok (.iload_n 2, 1) := by decide +kernel
theorem dX4_lengthWays_5 : decode (zcc mX4_lengthWays) 5 = .ok (.aload_n 0, 1) := by decide +kernel
theorem dX4_lengthWays_6 : decode (zcc mX4_lengthWays) 6 = .ok (.getfield 22, 3) := by decide +kernel
theorem dX4_lengthWays_9 : decode (zcc mX4_lengthWays) 9 = .ok (.if_icmp .ge 20, 3) := by decide +kernel
theorem dX4_lengthWays_12 : decode (zcc mX4_lengthWays) 12 = .ok (.iload_n 1, 1) := by decide +kernel
theorem dX4_lengthWays_13 : decode (zcc mX4_lengthWays) 13 = .ok (.aload_n 0, 1) := by decide +kernel
theorem dX4_lengthWays_14 : decode (zcc mX4_lengthWays) 14 = .ok (.getfield 9, 3) := by decide +kernel
theorem dX4_lengthWays_17 : decode (zcc mX4_lengthWays) 17 = .ok (.iload_n 2, 1) := by decide +kernel
theorem dX4_lengthWays_18 : decode (zcc mX4_lengthWays) 18 = .ok (.iaload, 1) := by decide +kernel
theorem dX4_lengthWays_19 : decode (zcc mX4_lengthWays) 19 = .ok (.iconst 1, 1) := by decide +kernel
theorem dX4_lengthWays_20 : decode (zcc mX4_lengthWays) 20 = .ok (.iadd, 1) := by decide +kernel
theorem dX4_lengthWays_21 : decode (zcc mX4_lengthWays) 21 = .ok (.imul, 1) := by decide +kernel
theorem dX4_lengthWays_22 : decode (zcc mX4_lengthWays) 22 = .ok (.istore_n 1, 1) := by decide +kernel
theorem dX4_lengthWays_23 : decode (zcc mX4_lengthWays) 23 = .ok (.iinc 2 1, 3) := by decide +kernel
theorem dX4_lengthWays_26 : decode (zcc mX4_lengthWays) 26 = .ok (.goto (-22), 3) := by decide +kernel
theorem dX4_lengthWays_29 : decode (zcc mX4_lengthWays) 29 = .ok (.iload_n 1, 1) := by decide +kernel
theorem dX4_lengthWays_30 : decode (zcc mX4_lengthWays) 30 = .ok (.ireturn, 1) := by decide +kernel
theorem dX5_init_0 : decode (zcc mX5_init) 0 = .ok (.aload_n 0, 1) := by decide +kernel
theorem dX5_init_1 : decode (zcc mX5_init) 1 = .ok (.invokespecial 3, 3) := by decide +kernel
theorem dX5_init_4 : decode (zcc mX5_init) 4 = .ok (.aload_n 0, 1) := by decide +kernel
theorem dX5_init_5 : decode (zcc mX5_init) 5 = .ok (.bipush 6, 2) := by decide +kernel
theorem dX5_init_7 : decode (zcc mX5_init) 7 = .ok (.newarray .int, 2) := by decide +kernel
theorem dX5_init_9 : decode (zcc mX5_init) 9 = .ok (.putfield 9, 3) := by decide +kernel
theorem dX5_init_12 : decode (zcc mX5_init) 12 = .ok (.return_, 1) := by decide +kernel
theorem dX5_restart_0 : decode (zcc mX5_restart) 0 = .ok (.aload_n 0, 1) := by decide +kernel
theorem dX5_restart_1 : decode (zcc mX5_restart) 1 = .ok (.iconst 0, 1) := by decide +kernel
theorem dX5_restart_2 : decode (zcc mX5_restart) 2 = .ok (.putfield 15, 3) := by decide +kernel
theorem dX5_restart_5 : decode (zcc mX5_restart) 5 = .ok (.return_, 1) := by decide +kernel
theorem dX5_add_0 : decode (zcc mX5_add) 0 = .ok (.aload_n 0, 1) := by decide +kernel
theorem dX5_add_1 : decode (zcc mX5_add) 1 = .ok (.getfield 15, 3) := by decide +kernel
theorem dX5_add_4 : decode (zcc mX5_add) 4 = .ok (.bipush 6, 2) := by decide +kernel
theorem dX5_add_6 : decode (zcc mX5_add) 6 = .ok (.if_icmp .lt 5, 3) := by decide +kernel
theorem dX5_add_9 : decode (zcc mX5_add) 9 = .ok (.iconst 0, 1) := by decide +kernel
theorem dX5_add_10 : decode (zcc mX5_add) 10 = .ok (.ireturn, 1) := by decide +kernel
theorem dX5_add_11 : decode (zcc mX5_add) 11 = .ok (.aload_n 0, 1) := by decide +kernel
theorem dX5_add_12 : decode (zcc mX5_add) 12 = .ok (.getfield 9, 3) := by decide +kernel
theorem dX5_add_15 : decode (zcc mX5_add) 15 = .ok (.aload_n 0, 1) := by decide +kernel
theorem dX5_add_16 : decode (zcc mX5_add) 16 = .ok (.getfield 15, 3) := by decide +kernel
theorem dX5_add_19 : decode (zcc mX5_add) 19 = .ok (.iload_n 1, 1) := by decide +kernel
theorem dX5_add_20 : decode (zcc mX5_add) 20 = .ok (.iastore, 1) := by decide +kernel
theorem dX5_add_21 : decode (zcc mX5_add) 21 = .ok (.aload_n 0, 1) := by decide +kernel
theorem dX5_add_22 : decode (zcc mX5_add) 22 = .ok (.dup, 1) := by decide +kernel
theorem dX5_add_23 : decode (zcc mX5_add) 23 = .ok (.getfield 15, 3) := by decide +kernel
theorem dX5_add_26 : decode (zcc mX5_add) 26 = .ok (.iconst 1, 1) := by decide +kernel
theorem dX5_add_27 : decode (zcc mX5_add) 27 = .ok (.iadd, 1) := by decide +kernel
theorem dX5_add_28 : decode (zcc mX5_add) 28 = .ok (.putfield 15, 3) := by decide +kernel
theorem dX5_add_31 : decode (zcc mX5_add) 31 = .ok (.iconst 1, 1) := by decide +kernel
theorem dX5_add_32 : decode (zcc mX5_add) 32 = .ok (.ireturn, 1) := by decide +kernel
theorem dX5_lengthWith_0 : decode (zcc mX5_lengthWith) 0 = .ok (.iconst 0, 1) := by decide +kernel
theorem dX5_lengthWith_1 : decode (zcc mX5_lengthWith) 1 = .ok (.istore_n 2, 1) := by decide +kernel
theorem dX5_lengthWith_2 : decode (zcc mX5_lengthWith) 2 = .ok (.iconst 0, 1) := by decide +kernel
theorem dX5_lengthWith_3 : decode (zcc mX5_lengthWith) 3 = .ok (.istore_n 3, 1) := by decide +kernel
theorem dX5_lengthWith_4 : decode (zcc mX5_lengthWith) 4 = .ok (.iload_n 3, 1) := by decide +kernel
theorem dX5_lengthWith_5 : decode (zcc mX5_lengthWith) 5 = .ok (.aload_n 0, 1) := by decide +kernel
theorem dX5_lengthWith_6 : decode (zcc mX5_lengthWith) 6 = .ok (.getfield 15, 3) := by decide +kernel
theorem dX5_lengthWith_9 : decode (zcc mX5_lengthWith) 9 = .ok (.if_icmp .ge 43, 3) := by decide +kernel
theorem dX5_lengthWith_12 : decode (zcc mX5_lengthWith) 12 = .ok (.aload_n 0, 1) := by decide +kernel
theorem dX5_lengthWith_13 : decode (zcc mX5_lengthWith) 13 = .ok (.getfield 9, 3) := by decide +kernel
theorem dX5_lengthWith_16 : decode (zcc mX5_lengthWith) 16 = .ok (.iload_n 3, 1) := by decide +kernel
theorem dX5_lengthWith_17 : decode (zcc mX5_lengthWith) 17 = .ok (.iaload, 1) := by decide +kernel
theorem dX5_lengthWith_18 : decode (zcc mX5_lengthWith) 18 = .ok (.bipush 8, 2) := by decide +kernel
theorem dX5_lengthWith_20 : decode (zcc mX5_lengthWith) 20 = .ok (.isub, 1) := by decide +kernel
theorem dX5_lengthWith_21 : decode (zcc mX5_lengthWith) 21 = .ok (.istore 4, 2) := by decide +kernel
theorem dX5_lengthWith_23 : decode (zcc mX5_lengthWith) 23 = .ok (.iload_n 2, 1) := by decide +kernel
theorem dX5_lengthWith_24 : decode (zcc mX5_lengthWith) 24 = .ok (.iload 4, 2) := by decide +kernel
theorem dX5_lengthWith_26 : decode (zcc mX5_lengthWith) 26 = .ok (.ifCond .lt 17, 3) := by decide +kernel
theorem dX5_lengthWith_29 : decode (zcc mX5_lengthWith) 29 = .ok (.iload 4, 2) := by decide +kernel
theorem dX5_lengthWith_31 : decode (zcc mX5_lengthWith) 31 = .ok (.aload_n 1, 1) := by decide +kernel
theorem dX5_lengthWith_32 : decode (zcc mX5_lengthWith) 32 = .ok (.arraylength, 1) := by decide +kernel
theorem dX5_lengthWith_33 : decode (zcc mX5_lengthWith) 33 = .ok (.if_icmp .ge 10, 3) := by decide +kernel
theorem dX5_lengthWith_36 : decode (zcc mX5_lengthWith) 36 = .ok (.aload_n 1, 1) := by decide +kernel
theorem dX5_lengthWith_37 : decode (zcc mX5_lengthWith) 37 = .ok (.iload 4, 2) := by decide +kernel
theorem dX5_lengthWith_39 : decode (zcc mX5_lengthWith) 39 = .ok (.iaload, 1) := by decide +kernel
theorem dX5_lengthWith_40 : decode (zcc mX5_lengthWith) 40 = .ok (.goto 4, 3) := by decide +kernel
theorem dX5_lengthWith_43 : decode (zcc mX5_lengthWith) 43 = .ok (.iconst 1, 1) := by decide +kernel
theorem dX5_lengthWith_44 : decode (zcc mX5_lengthWith) 44 = .ok (.iadd, 1) := by decide +kernel
theorem dX5_lengthWith_45 : decode (zcc mX5_lengthWith) 45 = .ok (.istore_n 2, 1) := by decide +kernel
theorem dX5_lengthWith_46 : decode (zcc mX5_lengthWith) 46 = .ok (.iinc 3 1, 3) := by decide +kernel
theorem dX5_lengthWith_49 : decode (zcc mX5_lengthWith) 49 = .ok (.goto (-45), 3) := by decide +kernel
theorem dX5_lengthWith_52 : decode (zcc mX5_lengthWith) 52 = .ok (.iload_n 2, 1) := by decide +kernel
theorem dX5_lengthWith_53 : decode (zcc mX5_lengthWith) 53 = .ok (.ireturn, 1) := by decide +kernel
theorem dX6_init_0 : decode (zcc mX6_init) 0 = .ok (.aload_n 0, 1) := by decide +kernel
theorem dX6_init_1 : decode (zcc mX6_init) 1 = .ok (.invokespecial 3, 3) := by decide +kernel
theorem dX6_init_4 : decode (zcc mX6_init) 4 = .ok (.aload_n 0, 1) := by decide +kernel
theorem dX6_init_5 : decode (zcc mX6_init) 5 = .ok (.iconst 4, 1) := by decide +kernel
theorem dX6_init_6 : decode (zcc mX6_init) 6 = .ok (.newarray .int, 2) := by decide +kernel
theorem dX6_init_8 : decode (zcc mX6_init) 8 = .ok (.putfield 9, 3) := by decide +kernel
theorem dX6_init_11 : decode (zcc mX6_init) 11 = .ok (.aload_n 0, 1) := by decide +kernel
theorem dX6_init_12 : decode (zcc mX6_init) 12 = .ok (.iconst 4, 1) := by decide +kernel
theorem dX6_init_13 : decode (zcc mX6_init) 13 = .ok (.newarray .int, 2) := by decide +kernel
theorem dX6_init_15 : decode (zcc mX6_init) 15 = .ok (.putfield 15, 3) := by decide +kernel
theorem dX6_init_18 : decode (zcc mX6_init) 18 = .ok (.aload_n 0, 1) := by decide +kernel
theorem dX6_init_19 : decode (zcc mX6_init) 19 = .ok (.bipush 20, 2) := by decide +kernel
theorem dX6_init_21 : decode (zcc mX6_init) 21 = .ok (.newarray .int, 2) := by decide +kernel
theorem dX6_init_23 : decode (zcc mX6_init) 23 = .ok (.putfield 18, 3) := by decide +kernel
theorem dX6_init_26 : decode (zcc mX6_init) 26 = .ok (.aload_n 0, 1) := by decide +kernel
theorem dX6_init_27 : decode (zcc mX6_init) 27 = .ok (.iconst 1, 1) := by decide +kernel
theorem dX6_init_28 : decode (zcc mX6_init) 28 = .ok (.putfield 21, 3) := by decide +kernel
theorem dX6_init_31 : decode (zcc mX6_init) 31 = .ok (.aload_n 0, 1) := by decide +kernel
theorem dX6_init_32 : decode (zcc mX6_init) 32 = .ok (.aload_n 1, 1) := by decide +kernel
theorem dX6_init_33 : decode (zcc mX6_init) 33 = .ok (.putfield 25, 3) := by decide +kernel
theorem dX6_init_36 : decode (zcc mX6_init) 36 = .ok (.return_, 1) := by decide +kernel
theorem dX6_restart_0 : decode (zcc mX6_restart) 0 = .ok (.aload_n 0, 1) := by decide +kernel
theorem dX6_restart_1 : decode (zcc mX6_restart) 1 = .ok (.getfield 9, 3) := by decide +kernel
theorem dX6_restart_4 : decode (zcc mX6_restart) 4 = .ok (.iconst 0, 1) := by decide +kernel
theorem dX6_restart_5 : decode (zcc mX6_restart) 5 = .ok (.invokestatic 29, 3) := by decide +kernel
theorem dX6_restart_8 : decode (zcc mX6_restart) 8 = .ok (.aload_n 0, 1) := by decide +kernel
theorem dX6_restart_9 : decode (zcc mX6_restart) 9 = .ok (.iconst 0, 1) := by decide +kernel
theorem dX6_restart_10 : decode (zcc mX6_restart) 10 = .ok (.putfield 35, 3) := by decide +kernel
theorem dX6_restart_13 : decode (zcc mX6_restart) 13 = .ok (.aload_n 0, 1) := by decide +kernel
theorem dX6_restart_14 : decode (zcc mX6_restart) 14 = .ok (.invokevirtual 38, 3) := by decide +kernel
theorem dX6_restart_17 : decode (zcc mX6_restart) 17 = .ok (.return_, 1) := by decide +kernel
theorem dX6_layOut_0 : decode (zcc mX6_layOut) 0 = .ok (.aload_n 0, 1) := by decide +kernel
theorem dX6_layOut_1 : decode (zcc mX6_layOut) 1 = .ok (.iconst 0, 1) := by decide +kernel
theorem dX6_layOut_2 : decode (zcc mX6_layOut) 2 = .ok (.putfield 41, 3) := by decide +kernel
theorem dX6_layOut_5 : decode (zcc mX6_layOut) 5 = .ok (.iconst 0, 1) := by decide +kernel
theorem dX6_layOut_6 : decode (zcc mX6_layOut) 6 = .ok (.istore_n 1, 1) := by decide +kernel
theorem dX6_layOut_7 : decode (zcc mX6_layOut) 7 = .ok (.iload_n 1, 1) := by decide +kernel
theorem dX6_layOut_8 : decode (zcc mX6_layOut) 8 = .ok (.aload_n 0, 1) := by decide +kernel
theorem dX6_layOut_9 : decode (zcc mX6_layOut) 9 = .ok (.getfield 25, 3) := by decide +kernel
theorem dX6_layOut_12 : decode (zcc mX6_layOut) 12 = .ok (.getfield 44, 3) := by decide +kernel
theorem dX6_layOut_15 : decode (zcc mX6_layOut) 15 = .ok (.if_icmp .ge 34, 3) := by decide +kernel
theorem dX6_layOut_18 : decode (zcc mX6_layOut) 18 = .ok (.aload_n 0, 1) := by decide +kernel
theorem dX6_layOut_19 : decode (zcc mX6_layOut) 19 = .ok (.getfield 15, 3) := by decide +kernel
theorem dX6_layOut_22 : decode (zcc mX6_layOut) 22 = .ok (.iload_n 1, 1) := by decide +kernel
theorem dX6_layOut_23 : decode (zcc mX6_layOut) 23 = .ok (.aload_n 0, 1) := by decide +kernel
theorem dX6_layOut_24 : decode (zcc mX6_layOut) 24 = .ok (.getfield 41, 3) := by decide +kernel
theorem dX6_layOut_27 : decode (zcc mX6_layOut) 27 = .ok (.iastore, 1) := by decide +kernel
theorem dX6_layOut_28 : decode (zcc mX6_layOut) 28 = .ok (.aload_n 0, 1) := by decide +kernel
theorem dX6_layOut_29 : decode (zcc mX6_layOut) 29 = .ok (.dup, 1) := by decide +kernel
theorem dX6_layOut_30 : decode (zcc mX6_layOut) 30 = .ok (.getfield 41, 3) := by decide +kernel
theorem dX6_layOut_33 : decode (zcc mX6_layOut) 33 = .ok (.aload_n 0, 1) := by decide +kernel
theorem dX6_layOut_34 : decode (zcc mX6_layOut) 34 = .ok (.getfield 9, 3) := by decide +kernel
theorem dX6_layOut_37 : decode (zcc mX6_layOut) 37 = .ok (.iload_n 1, 1) := by decide +kernel
theorem dX6_layOut_38 : decode (zcc mX6_layOut) 38 = .ok (.iaload, 1) := by decide +kernel
theorem dX6_layOut_39 : decode (zcc mX6_layOut) 39 = .ok (.iadd, 1) := by decide +kernel
theorem dX6_layOut_40 : decode (zcc mX6_layOut) 40 = .ok (.putfield 41, 3) := by decide +kernel
theorem dX6_layOut_43 : decode (zcc mX6_layOut) 43 = .ok (.iinc 1 1, 3) := by decide +kernel
theorem dX6_layOut_46 : decode (zcc mX6_layOut) 46 = .ok (.goto (-39), 3) := by decide +kernel
theorem dX6_layOut_49 : decode (zcc mX6_layOut) 49 = .ok (.aload_n 0, 1) := by decide +kernel
theorem dX6_layOut_50 : decode (zcc mX6_layOut) 50 = .ok (.iconst 1, 1) := by decide +kernel
theorem dX6_layOut_51 : decode (zcc mX6_layOut) 51 = .ok (.putfield 21, 3) := by decide +kernel
theorem dX6_layOut_54 : decode (zcc mX6_layOut) 54 = .ok (.iconst 0, 1) := by decide +kernel
theorem dX6_layOut_55 : decode (zcc mX6_layOut) 55 = .ok (.istore_n 1, 1) := by decide +kernel
theorem dX6_layOut_56 : decode (zcc mX6_layOut) 56 = .ok (.iload_n 1, 1) := by decide +kernel
theorem dX6_layOut_57 : decode (zcc mX6_layOut) 57 = .ok (.aload_n 0, 1) := by decide +kernel
theorem dX6_layOut_58 : decode (zcc mX6_layOut) 58 = .ok (.getfield 41, 3) := by decide +kernel
theorem dX6_layOut_61 : decode (zcc mX6_layOut) 61 = .ok (.if_icmp .ge 25, 3) := by decide +kernel
theorem dX6_layOut_64 : decode (zcc mX6_layOut) 64 = .ok (.aload_n 0, 1) := by decide +kernel
theorem dX6_layOut_65 : decode (zcc mX6_layOut) 65 = .ok (.dup, 1) := by decide +kernel
theorem dX6_layOut_66 : decode (zcc mX6_layOut) 66 = .ok (.getfield 21, 3) := by decide +kernel
theorem dX6_layOut_69 : decode (zcc mX6_layOut) 69 = .ok (.aload_n 0, 1) := by decide +kernel
theorem dX6_layOut_70 : decode (zcc mX6_layOut) 70 = .ok (.getfield 25, 3) := by decide +kernel
theorem dX6_layOut_73 : decode (zcc mX6_layOut) 73 = .ok (.getfield 49, 3) := by decide +kernel
theorem dX6_layOut_76 : decode (zcc mX6_layOut) 76 = .ok (.imul, 1) := by decide +kernel
theorem dX6_layOut_77 : decode (zcc mX6_layOut) 77 = .ok (.putfield 21, 3) := by decide +kernel
theorem dX6_layOut_80 : decode (zcc mX6_layOut) 80 = .ok (.iinc 1 1, 3) := by decide +kernel
theorem dX6_layOut_83 : decode (zcc mX6_layOut) 83 = .ok (.goto (-27), 3) := by decide +kernel
theorem dX6_layOut_86 : decode (zcc mX6_layOut) 86 = .ok (.return_, 1) := by decide +kernel
theorem dX6_goToNextLengths_0 : decode (zcc mX6_goToNextLengths) 0 = .ok (.aload_n 0, 1) := by decide +kernel
theorem dX6_goToNextLengths_1 : decode (zcc mX6_goToNextLengths) 1 = .ok (.dup, 1) := by decide +kernel
theorem dX6_goToNextLengths_2 : decode (zcc mX6_goToNextLengths) 2 = .ok (.getfield 35, 3) := by decide +kernel
theorem dX6_goToNextLengths_5 : decode (zcc mX6_goToNextLengths) 5 = .ok (.aload_n 0, 1) := by decide +kernel
theorem dX6_goToNextLengths_6 : decode (zcc mX6_goToNextLengths) 6 = .ok (.getfield 21, 3) := by decide +kernel
theorem dX6_goToNextLengths_9 : decode (zcc mX6_goToNextLengths) 9 = .ok (.iadd, 1) := by decide +kernel
theorem dX6_goToNextLengths_10 : decode (zcc mX6_goToNextLengths) 10 = .ok (.putfield 35, 3) := by decide +kernel
theorem dX6_goToNextLengths_13 : decode (zcc mX6_goToNextLengths) 13 = .ok (.aload_n 0, 1) := by decide +kernel
theorem dX6_goToNextLengths_14 : decode (zcc mX6_goToNextLengths) 14 = .ok (.getfield 25, 3) := by decide +kernel
theorem dX6_goToNextLengths_17 : decode (zcc mX6_goToNextLengths) 17 = .ok (.getfield 44, 3) := by decide +kernel
theorem dX6_goToNextLengths_20 : decode (zcc mX6_goToNextLengths) 20 = .ok (.iconst 1, 1) := by decide +kernel
theorem dX6_goToNextLengths_21 : decode (zcc mX6_goToNextLengths) 21 = .ok (.isub, 1) := by decide +kernel
theorem dX6_goToNextLengths_22 : decode (zcc mX6_goToNextLengths) 22 = .ok (.istore_n 1, 1) := by decide +kernel
theorem dX6_goToNextLengths_23 : decode (zcc mX6_goToNextLengths) 23 = .ok (.iload_n 1, 1) := by decide +kernel
theorem dX6_goToNextLengths_24 : decode (zcc mX6_goToNextLengths) 24 = .ok (.ifCond .lt 34, 3) := by decide +kernel
theorem dX6_goToNextLengths_27 : decode (zcc mX6_goToNextLengths) 27 = .ok (.aload_n 0, 1) := by decide +kernel
theorem dX6_goToNextLengths_28 : decode (zcc mX6_goToNextLengths) 28 = .ok (.getfield 9, 3) := by decide +kernel
theorem dX6_goToNextLengths_31 : decode (zcc mX6_goToNextLengths) 31 = .ok (.iload_n 1, 1) := by decide +kernel
theorem dX6_goToNextLengths_32 : decode (zcc mX6_goToNextLengths) 32 = .ok (.iaload, 1) := by decide +kernel
theorem dX6_goToNextLengths_33 : decode (zcc mX6_goToNextLengths) 33 = .ok (.aload_n 0, 1) := by decide +kernel
theorem dX6_goToNextLengths_34 : decode (zcc mX6_goToNextLengths) 34 = .ok (.getfield 25, 3) := by decide +kernel
theorem dX6_goToNextLengths_37 : decode (zcc mX6_goToNextLengths) 37 = .ok (.getfield 52, 3) := by decide +kernel
theorem dX6_goToNextLengths_40 : decode (zcc mX6_goToNextLengths) 40 = .ok (.iload_n 1, 1) := by decide +kernel
theorem dX6_goToNextLengths_41 : decode (zcc mX6_goToNextLengths) 41 = .ok (.iaload, 1) := by decide +kernel
theorem dX6_goToNextLengths_42 : decode (zcc mX6_goToNextLengths) 42 = .ok (.if_icmp .lt 16, 3) := by decide +kernel
theorem dX6_goToNextLengths_45 : decode (zcc mX6_goToNextLengths) 45 = .ok (.aload_n 0, 1) := by decide +kernel
theorem dX6_goToNextLengths_46 : decode (zcc mX6_goToNextLengths) 46 = .ok (.getfield 9, 3) := by decide +kernel
theorem dX6_goToNextLengths_49 : decode (zcc mX6_goToNextLengths) 49 = .ok (.iload_n 1, 1) := by decide +kernel
theorem dX6_goToNextLengths_50 : decode (zcc mX6_goToNextLengths) 50 = .ok (.iconst 0, 1) := by decide +kernel
theorem dX6_goToNextLengths_51 : decode (zcc mX6_goToNextLengths) 51 = .ok (.iastore, 1) := by decide +kernel
theorem dX6_goToNextLengths_52 : decode (zcc mX6_goToNextLengths) 52 = .ok (.iinc 1 (-1), 3) := by decide +kernel
theorem dX6_goToNextLengths_55 : decode (zcc mX6_goToNextLengths) 55 = .ok (.goto (-32), 3) := by decide +kernel
theorem dX6_goToNextLengths_58 : decode (zcc mX6_goToNextLengths) 58 = .ok (.iload_n 1, 1) := by decide +kernel
theorem dX6_goToNextLengths_59 : decode (zcc mX6_goToNextLengths) 59 = .ok (.ifCond .lt 16, 3) := by decide +kernel
theorem dX6_goToNextLengths_62 : decode (zcc mX6_goToNextLengths) 62 = .ok (.aload_n 0, 1) := by decide +kernel
theorem dX6_goToNextLengths_63 : decode (zcc mX6_goToNextLengths) 63 = .ok (.getfield 9, 3) := by decide +kernel
theorem dX6_goToNextLengths_66 : decode (zcc mX6_goToNextLengths) 66 = .ok (.iload_n 1, 1) := by decide +kernel
theorem dX6_goToNextLengths_67 : decode (zcc mX6_goToNextLengths) 67 = .ok (.dup2, 1) := by decide +kernel
theorem dX6_goToNextLengths_68 : decode (zcc mX6_goToNextLengths) 68 = .ok (.iaload, 1) := by decide +kernel
theorem dX6_goToNextLengths_69 : decode (zcc mX6_goToNextLengths) 69 = .ok (.iconst 1, 1) := by decide +kernel
theorem dX6_goToNextLengths_70 : decode (zcc mX6_goToNextLengths) 70 = .ok (.iadd, 1) := by decide +kernel
theorem dX6_goToNextLengths_71 : decode (zcc mX6_goToNextLengths) 71 = .ok (.iastore, 1) := by decide +kernel
theorem dX6_goToNextLengths_72 : decode (zcc mX6_goToNextLengths) 72 = .ok (.goto 8, 3) := by decide +kernel
theorem dX6_goToNextLengths_75 : decode (zcc mX6_goToNextLengths) 75 = .ok (.aload_n 0, 1) := by decide +kernel
theorem dX6_goToNextLengths_76 : decode (zcc mX6_goToNextLengths) 76 = .ok (.iconst 0, 1) := by decide +kernel
theorem dX6_goToNextLengths_77 : decode (zcc mX6_goToNextLengths) 77 = .ok (.putfield 35, 3) := by decide +kernel
theorem dX6_goToNextLengths_80 : decode (zcc mX6_goToNextLengths) 80 = .ok (.aload_n 0, 1) := by decide +kernel
theorem dX6_goToNextLengths_81 : decode (zcc mX6_goToNextLengths) 81 = .ok (.invokevirtual 38, 3) := by decide +kernel
theorem dX6_goToNextLengths_84 : decode (zcc mX6_goToNextLengths) 84 = .ok (.return_, 1) := by decide +kernel
theorem dX6_goTo_0 : decode (zcc mX6_goTo) 0 = .ok (.iload_n 1, 1) := by decide +kernel
theorem dX6_goTo_1 : decode (zcc mX6_goTo) 1 = .ok (.aload_n 0, 1) := by decide +kernel
theorem dX6_goTo_2 : decode (zcc mX6_goTo) 2 = .ok (.getfield 35, 3) := by decide +kernel
theorem dX6_goTo_5 : decode (zcc mX6_goTo) 5 = .ok (.if_icmp .ge 7, 3) := by decide +kernel
theorem dX6_goTo_8 : decode (zcc mX6_goTo) 8 = .ok (.aload_n 0, 1) := by decide +kernel
theorem dX6_goTo_9 : decode (zcc mX6_goTo) 9 = .ok (.invokevirtual 55, 3) := by decide +kernel
theorem dX6_goTo_12 : decode (zcc mX6_goTo) 12 = .ok (.aload_n 0, 1) := by decide +kernel
theorem dX6_goTo_13 : decode (zcc mX6_goTo) 13 = .ok (.getfield 25, 3) := by decide +kernel
theorem dX6_goTo_16 : decode (zcc mX6_goTo) 16 = .ok (.invokevirtual 58, 3) := by decide +kernel
theorem dX6_goTo_19 : decode (zcc mX6_goTo) 19 = .ok (.istore_n 2, 1) := by decide +kernel
theorem dX6_goTo_20 : decode (zcc mX6_goTo) 20 = .ok (.iload_n 2, 1) := by decide +kernel
theorem dX6_goTo_21 : decode (zcc mX6_goTo) 21 = .ok (.ifCond .le 26, 3) := by decide +kernel
theorem dX6_goTo_24 : decode (zcc mX6_goTo) 24 = .ok (.iload_n 1, 1) := by decide +kernel
theorem dX6_goTo_25 : decode (zcc mX6_goTo) 25 = .ok (.aload_n 0, 1) := by decide +kernel
theorem dX6_goTo_26 : decode (zcc mX6_goTo) 26 = .ok (.getfield 35, 3) := by decide +kernel
theorem dX6_goTo_29 : decode (zcc mX6_goTo) 29 = .ok (.aload_n 0, 1) := by decide +kernel
theorem dX6_goTo_30 : decode (zcc mX6_goTo) 30 = .ok (.getfield 21, 3) := by decide +kernel
theorem dX6_goTo_33 : decode (zcc mX6_goTo) 33 = .ok (.iadd, 1) := by decide +kernel
theorem dX6_goTo_34 : decode (zcc mX6_goTo) 34 = .ok (.if_icmp .lt 13, 3) := by decide +kernel
theorem dX6_goTo_37 : decode (zcc mX6_goTo) 37 = .ok (.aload_n 0, 1) := by decide +kernel
theorem dX6_goTo_38 : decode (zcc mX6_goTo) 38 = .ok (.invokevirtual 62, 3) := by decide +kernel
theorem dX6_goTo_41 : decode (zcc mX6_goTo) 41 = .ok (.iinc 2 (-1), 3) := by decide +kernel
theorem dX6_goTo_44 : decode (zcc mX6_goTo) 44 = .ok (.goto (-24), 3) := by decide +kernel
theorem dX6_goTo_47 : decode (zcc mX6_goTo) 47 = .ok (.iload_n 1, 1) := by decide +kernel
theorem dX6_goTo_48 : decode (zcc mX6_goTo) 48 = .ok (.aload_n 0, 1) := by decide +kernel
theorem dX6_goTo_49 : decode (zcc mX6_goTo) 49 = .ok (.getfield 35, 3) := by decide +kernel
theorem dX6_goTo_52 : decode (zcc mX6_goTo) 52 = .ok (.isub, 1) := by decide +kernel
theorem dX6_goTo_53 : decode (zcc mX6_goTo) 53 = .ok (.istore_n 2, 1) := by decide +kernel
theorem dX6_goTo_54 : decode (zcc mX6_goTo) 54 = .ok (.aload_n 0, 1) := by decide +kernel
theorem dX6_goTo_55 : decode (zcc mX6_goTo) 55 = .ok (.getfield 41, 3) := by decide +kernel
theorem dX6_goTo_58 : decode (zcc mX6_goTo) 58 = .ok (.iconst 1, 1) := by decide +kernel
theorem dX6_goTo_59 : decode (zcc mX6_goTo) 59 = .ok (.isub, 1) := by decide +kernel
theorem dX6_goTo_60 : decode (zcc mX6_goTo) 60 = .ok (.istore_n 3, 1) := by decide +kernel
theorem dX6_goTo_61 : decode (zcc mX6_goTo) 61 = .ok (.iload_n 3, 1) := by decide +kernel
theorem dX6_goTo_62 : decode (zcc mX6_goTo) 62 = .ok (.ifCond .lt 44, 3) := by decide +kernel
theorem dX6_goTo_65 : decode (zcc mX6_goTo) 65 = .ok (.aload_n 0, 1) := by decide +kernel
theorem dX6_goTo_66 : decode (zcc mX6_goTo) 66 = .ok (.getfield 25, 3) := by decide +kernel
theorem dX6_goTo_69 : decode (zcc mX6_goTo) 69 = .ok (.getfield 49, 3) := by decide +kernel
theorem dX6_goTo_72 : decode (zcc mX6_goTo) 72 = .ok (.ifCond .le 34, 3) := by decide +kernel
theorem dX6_goTo_75 : decode (zcc mX6_goTo) 75 = .ok (.aload_n 0, 1) := by decide +kernel
theorem dX6_goTo_76 : decode (zcc mX6_goTo) 76 = .ok (.getfield 18, 3) := by decide +kernel
theorem dX6_goTo_79 : decode (zcc mX6_goTo) 79 = .ok (.iload_n 3, 1) := by decide +kernel
theorem dX6_goTo_80 : decode (zcc mX6_goTo) 80 = .ok (.iload_n 2, 1) := by decide +kernel
theorem dX6_goTo_81 : decode (zcc mX6_goTo) 81 = .ok (.aload_n 0, 1) := by decide +kernel
theorem dX6_goTo_82 : decode (zcc mX6_goTo) 82 = .ok (.getfield 25, 3) := by decide +kernel
theorem dX6_goTo_85 : decode (zcc mX6_goTo) 85 = .ok (.getfield 49, 3) := by decide +kernel
theorem dX6_goTo_88 : decode (zcc mX6_goTo) 88 = .ok (.irem, 1) := by decide +kernel
theorem dX6_goTo_89 : decode (zcc mX6_goTo) 89 = .ok (.iastore, 1) := by decide +kernel
theorem dX6_goTo_90 : decode (zcc mX6_goTo) 90 = .ok (.iload_n 2, 1) := by decide +kernel
theorem dX6_goTo_91 : decode (zcc mX6_goTo) 91 = .ok (.aload_n 0, 1) := by decide +kernel
theorem dX6_goTo_92 : decode (zcc mX6_goTo) 92 = .ok (.getfield 25, 3) := by decide +kernel
theorem dX6_goTo_95 : decode (zcc mX6_goTo) 95 = .ok (.getfield 49, 3) := by decide +kernel
theorem dX6_goTo_98 : decode (zcc mX6_goTo) 98 = .ok (.idiv, 1) := by decide +kernel
theorem dX6_goTo_99 : decode (zcc mX6_goTo) 99 = .ok (.istore_n 2, 1) := by decide +kernel
theorem dX6_goTo_100 : decode (zcc mX6_goTo) 100 = .ok (.iinc 3 (-1), 3) := by decide +kernel
theorem dX6_goTo_103 : decode (zcc mX6_goTo) 103 = .ok (.goto (-42), 3) := by decide +kernel
theorem dX6_goTo_106 : decode (zcc mX6_goTo) 106 = .ok (.return_, 1) := by decide +kernel
theorem dX6_lengthOf_0 : decode (zcc mX6_lengthOf) 0 = .ok (.aload_n 0, 1) := by decide +kernel
theorem dX6_lengthOf_1 : decode (zcc mX6_lengthOf) 1 = .ok (.getfield 25, 3) := by decide +kernel
theorem dX6_lengthOf_4 : decode (zcc mX6_lengthOf) 4 = .ok (.iload_n 1, 1) := by decide +kernel
theorem dX6_lengthOf_5 : decode (zcc mX6_lengthOf) 5 = .ok (.invokevirtual 65, 3) := by decide +kernel
theorem dX6_lengthOf_8 : decode (zcc mX6_lengthOf) 8 = .ok (.ifCond .eq 12, 3) := by decide +kernel
theorem dX6_lengthOf_11 : decode (zcc mX6_lengthOf) 11 = .ok (.aload_n 0, 1) := by decide +kernel
theorem dX6_lengthOf_12 : decode (zcc mX6_lengthOf) 12 = .ok (.getfield 9, 3) := by decide +kernel
theorem dX6_lengthOf_15 : decode (zcc mX6_lengthOf) 15 = .ok (.iload_n 1, 1) := by decide +kernel
theorem dX6_lengthOf_16 : decode (zcc mX6_lengthOf) 16 = .ok (.iaload, 1) := by decide +kernel
theorem dX6_lengthOf_17 : decode (zcc mX6_lengthOf) 17 = .ok (.goto 4, 3) := by decide +kernel
theorem dX6_lengthOf_20 : decode (zcc mX6_lengthOf) 20 = .ok (.iconst 0, 1) := by decide +kernel
theorem dX6_lengthOf_21 : decode (zcc mX6_lengthOf) 21 = .ok (.ireturn, 1) := by decide +kernel
theorem dX6_letterOf_0 : decode (zcc mX6_letterOf) 0 = .ok (.iload_n 2, 1) := by decide +kernel
theorem dX6_letterOf_1 : decode (zcc mX6_letterOf) 1 = .ok (.ifCond .lt 28, 3) := by decide +kernel
theorem dX6_letterOf_4 : decode (zcc mX6_letterOf) 4 = .ok (.iload_n 2, 1) := by decide +kernel
theorem dX6_letterOf_5 : decode (zcc mX6_letterOf) 5 = .ok (.aload_n 0, 1) := by decide +kernel
theorem dX6_letterOf_6 : decode (zcc mX6_letterOf) 6 = .ok (.iload_n 1, 1) := by decide +kernel
theorem dX6_letterOf_7 : decode (zcc mX6_letterOf) 7 = .ok (.invokevirtual 69, 3) := by decide +kernel
theorem dX6_letterOf_10 : decode (zcc mX6_letterOf) 10 = .ok (.if_icmp .ge 19, 3) := by decide +kernel
theorem dX6_letterOf_13 : decode (zcc mX6_letterOf) 13 = .ok (.aload_n 0, 1) := by decide +kernel
end
section
theorem dX6_letterOf_14 : decode (zcc mX6_letterOf) 14 = .ok (.getfield 18, 3) := by decide +kernel
theorem dX6_letterOf_17 : decode (zcc mX6_letterOf) 17 = .ok (.aload_n 0, 1) := by decide +kernel
theorem dX6_letterOf_18 : decode (zcc mX6_letterOf) 18 = .ok (.getfield 15, 3) := by decide +kernel
theorem dX6_letterOf_21 : decode (zcc mX6_letterOf) 21 = .ok (.iload_n 1, 1) := by decide +kernel
theorem dX6_letterOf_22 : decode (zcc mX6_letterOf) 22 = .ok (.iaload, 1) := by decide +kernel
theorem dX6_letterOf_23 : decode (zcc mX6_letterOf) 23 = .ok (.iload_n 2, 1) := by decide +kernel
theorem dX6_letterOf_24 : decode (zcc mX6_letterOf) 24 = .ok (.iadd, 1) := by decide +kernel
theorem dX6_letterOf_25 : decode (zcc mX6_letterOf) 25 = .ok (.iaload, 1) := by decide +kernel
theorem dX6_letterOf_26 : decode (zcc mX6_letterOf) 26 = .ok (.goto 4, 3) := by decide +kernel
theorem dX6_letterOf_29 : decode (zcc mX6_letterOf) 29 = .ok (.iconst (-1), 1) := by decide +kernel
theorem dX6_letterOf_30 : decode (zcc mX6_letterOf) 30 = .ok (.ireturn, 1) := by decide +kernel
theorem dX7_init_0 : decode (zcc mX7_init) 0 = .ok (.aload_n 0, 1) := by decide +kernel
theorem dX7_init_1 : decode (zcc mX7_init) 1 = .ok (.invokespecial 3, 3) := by decide +kernel
theorem dX7_init_4 : decode (zcc mX7_init) 4 = .ok (.aload_n 0, 1) := by decide +kernel
theorem dX7_init_5 : decode (zcc mX7_init) 5 = .ok (.new 9, 3) := by decide +kernel
theorem dX7_init_8 : decode (zcc mX7_init) 8 = .ok (.dup, 1) := by decide +kernel
theorem dX7_init_9 : decode (zcc mX7_init) 9 = .ok (.invokespecial 11, 3) := by decide +kernel
theorem dX7_init_12 : decode (zcc mX7_init) 12 = .ok (.putfield 12, 3) := by decide +kernel
theorem dX7_init_15 : decode (zcc mX7_init) 15 = .ok (.aload_n 0, 1) := by decide +kernel
theorem dX7_init_16 : decode (zcc mX7_init) 16 = .ok (.new 16, 3) := by decide +kernel
theorem dX7_init_19 : decode (zcc mX7_init) 19 = .ok (.dup, 1) := by decide +kernel
theorem dX7_init_20 : decode (zcc mX7_init) 20 = .ok (.aload_n 0, 1) := by decide +kernel
theorem dX7_init_21 : decode (zcc mX7_init) 21 = .ok (.getfield 12, 3) := by decide +kernel
theorem dX7_init_24 : decode (zcc mX7_init) 24 = .ok (.invokespecial 18, 3) := by decide +kernel
theorem dX7_init_27 : decode (zcc mX7_init) 27 = .ok (.putfield 21, 3) := by decide +kernel
theorem dX7_init_30 : decode (zcc mX7_init) 30 = .ok (.aload_n 0, 1) := by decide +kernel
theorem dX7_init_31 : decode (zcc mX7_init) 31 = .ok (.new 16, 3) := by decide +kernel
theorem dX7_init_34 : decode (zcc mX7_init) 34 = .ok (.dup, 1) := by decide +kernel
theorem dX7_init_35 : decode (zcc mX7_init) 35 = .ok (.aload_n 0, 1) := by decide +kernel
theorem dX7_init_36 : decode (zcc mX7_init) 36 = .ok (.getfield 12, 3) := by decide +kernel
theorem dX7_init_39 : decode (zcc mX7_init) 39 = .ok (.invokespecial 18, 3) := by decide +kernel
theorem dX7_init_42 : decode (zcc mX7_init) 42 = .ok (.putfield 25, 3) := by decide +kernel
theorem dX7_init_45 : decode (zcc mX7_init) 45 = .ok (.aload_n 0, 1) := by decide +kernel
theorem dX7_init_46 : decode (zcc mX7_init) 46 = .ok (.bipush 12, 2) := by decide +kernel
theorem dX7_init_48 : decode (zcc mX7_init) 48 = .ok (.anewarray 28, 3) := by decide +kernel
theorem dX7_init_51 : decode (zcc mX7_init) 51 = .ok (.putfield 30, 3) := by decide +kernel
theorem dX7_init_54 : decode (zcc mX7_init) 54 = .ok (.aload_n 0, 1) := by decide +kernel
theorem dX7_init_55 : decode (zcc mX7_init) 55 = .ok (.iconst 3, 1) := by decide +kernel
theorem dX7_init_56 : decode (zcc mX7_init) 56 = .ok (.anewarray 34, 3) := by decide +kernel
theorem dX7_init_59 : decode (zcc mX7_init) 59 = .ok (.putfield 36, 3) := by decide +kernel
theorem dX7_init_62 : decode (zcc mX7_init) 62 = .ok (.aload_n 0, 1) := by decide +kernel
theorem dX7_init_63 : decode (zcc mX7_init) 63 = .ok (.bipush 10, 2) := by decide +kernel
theorem dX7_init_65 : decode (zcc mX7_init) 65 = .ok (.anewarray 40, 3) := by decide +kernel
theorem dX7_init_68 : decode (zcc mX7_init) 68 = .ok (.putfield 42, 3) := by decide +kernel
theorem dX7_init_71 : decode (zcc mX7_init) 71 = .ok (.aload_n 0, 1) := by decide +kernel
theorem dX7_init_72 : decode (zcc mX7_init) 72 = .ok (.new 46, 3) := by decide +kernel
theorem dX7_init_75 : decode (zcc mX7_init) 75 = .ok (.dup, 1) := by decide +kernel
theorem dX7_init_76 : decode (zcc mX7_init) 76 = .ok (.aload_n 0, 1) := by decide +kernel
theorem dX7_init_77 : decode (zcc mX7_init) 77 = .ok (.getfield 30, 3) := by decide +kernel
theorem dX7_init_80 : decode (zcc mX7_init) 80 = .ok (.aload_n 0, 1) := by decide +kernel
theorem dX7_init_81 : decode (zcc mX7_init) 81 = .ok (.getfield 36, 3) := by decide +kernel
theorem dX7_init_84 : decode (zcc mX7_init) 84 = .ok (.invokespecial 48, 3) := by decide +kernel
theorem dX7_init_87 : decode (zcc mX7_init) 87 = .ok (.putfield 51, 3) := by decide +kernel
theorem dX7_init_90 : decode (zcc mX7_init) 90 = .ok (.iconst 0, 1) := by decide +kernel
theorem dX7_init_91 : decode (zcc mX7_init) 91 = .ok (.istore_n 1, 1) := by decide +kernel
theorem dX7_init_92 : decode (zcc mX7_init) 92 = .ok (.iload_n 1, 1) := by decide +kernel
theorem dX7_init_93 : decode (zcc mX7_init) 93 = .ok (.bipush 12, 2) := by decide +kernel
theorem dX7_init_95 : decode (zcc mX7_init) 95 = .ok (.if_icmp .ge 22, 3) := by decide +kernel
theorem dX7_init_98 : decode (zcc mX7_init) 98 = .ok (.aload_n 0, 1) := by decide +kernel
theorem dX7_init_99 : decode (zcc mX7_init) 99 = .ok (.getfield 30, 3) := by decide +kernel
theorem dX7_init_102 : decode (zcc mX7_init) 102 = .ok (.iload_n 1, 1) := by decide +kernel
theorem dX7_init_103 : decode (zcc mX7_init) 103 = .ok (.new 28, 3) := by decide +kernel
theorem dX7_init_106 : decode (zcc mX7_init) 106 = .ok (.dup, 1) := by decide +kernel
theorem dX7_init_107 : decode (zcc mX7_init) 107 = .ok (.invokespecial 55, 3) := by decide +kernel
theorem dX7_init_110 : decode (zcc mX7_init) 110 = .ok (.aastore, 1) := by decide +kernel
theorem dX7_init_111 : decode (zcc mX7_init) 111 = .ok (.iinc 1 1, 3) := by decide +kernel
theorem dX7_init_114 : decode (zcc mX7_init) 114 = .ok (.goto (-22), 3) := by decide +kernel
theorem dX7_init_117 : decode (zcc mX7_init) 117 = .ok (.iconst 0, 1) := by decide +kernel
theorem dX7_init_118 : decode (zcc mX7_init) 118 = .ok (.istore_n 1, 1) := by decide +kernel
theorem dX7_init_119 : decode (zcc mX7_init) 119 = .ok (.iload_n 1, 1) := by decide +kernel
theorem dX7_init_120 : decode (zcc mX7_init) 120 = .ok (.iconst 3, 1) := by decide +kernel
theorem dX7_init_121 : decode (zcc mX7_init) 121 = .ok (.if_icmp .ge 22, 3) := by decide +kernel
theorem dX7_init_124 : decode (zcc mX7_init) 124 = .ok (.aload_n 0, 1) := by decide +kernel
theorem dX7_init_125 : decode (zcc mX7_init) 125 = .ok (.getfield 36, 3) := by decide +kernel
theorem dX7_init_128 : decode (zcc mX7_init) 128 = .ok (.iload_n 1, 1) := by decide +kernel
theorem dX7_init_129 : decode (zcc mX7_init) 129 = .ok (.new 34, 3) := by decide +kernel
theorem dX7_init_132 : decode (zcc mX7_init) 132 = .ok (.dup, 1) := by decide +kernel
theorem dX7_init_133 : decode (zcc mX7_init) 133 = .ok (.invokespecial 56, 3) := by decide +kernel
theorem dX7_init_136 : decode (zcc mX7_init) 136 = .ok (.aastore, 1) := by decide +kernel
theorem dX7_init_137 : decode (zcc mX7_init) 137 = .ok (.iinc 1 1, 3) := by decide +kernel
theorem dX7_init_140 : decode (zcc mX7_init) 140 = .ok (.goto (-21), 3) := by decide +kernel
theorem dX7_init_143 : decode (zcc mX7_init) 143 = .ok (.iconst 0, 1) := by decide +kernel
theorem dX7_init_144 : decode (zcc mX7_init) 144 = .ok (.istore_n 1, 1) := by decide +kernel
theorem dX7_init_145 : decode (zcc mX7_init) 145 = .ok (.iload_n 1, 1) := by decide +kernel
theorem dX7_init_146 : decode (zcc mX7_init) 146 = .ok (.bipush 10, 2) := by decide +kernel
theorem dX7_init_148 : decode (zcc mX7_init) 148 = .ok (.if_icmp .ge 22, 3) := by decide +kernel
theorem dX7_init_151 : decode (zcc mX7_init) 151 = .ok (.aload_n 0, 1) := by decide +kernel
theorem dX7_init_152 : decode (zcc mX7_init) 152 = .ok (.getfield 42, 3) := by decide +kernel
theorem dX7_init_155 : decode (zcc mX7_init) 155 = .ok (.iload_n 1, 1) := by decide +kernel
theorem dX7_init_156 : decode (zcc mX7_init) 156 = .ok (.new 40, 3) := by decide +kernel
theorem dX7_init_159 : decode (zcc mX7_init) 159 = .ok (.dup, 1) := by decide +kernel
theorem dX7_init_160 : decode (zcc mX7_init) 160 = .ok (.invokespecial 57, 3) := by decide +kernel
theorem dX7_init_163 : decode (zcc mX7_init) 163 = .ok (.aastore, 1) := by decide +kernel
theorem dX7_init_164 : decode (zcc mX7_init) 164 = .ok (.iinc 1 1, 3) := by decide +kernel
theorem dX7_init_167 : decode (zcc mX7_init) 167 = .ok (.goto (-22), 3) := by decide +kernel
theorem dX7_init_170 : decode (zcc mX7_init) 170 = .ok (.return_, 1) := by decide +kernel
theorem dX7_clear_0 : decode (zcc mX7_clear) 0 = .ok (.iload_n 1, 1) := by decide +kernel
theorem dX7_clear_1 : decode (zcc mX7_clear) 1 = .ok (.iconst 2, 1) := by decide +kernel
theorem dX7_clear_2 : decode (zcc mX7_clear) 2 = .ok (.if_icmp .lt 8, 3) := by decide +kernel
theorem dX7_clear_5 : decode (zcc mX7_clear) 5 = .ok (.iload_n 1, 1) := by decide +kernel
theorem dX7_clear_6 : decode (zcc mX7_clear) 6 = .ok (.iconst 3, 1) := by decide +kernel
theorem dX7_clear_7 : decode (zcc mX7_clear) 7 = .ok (.if_icmp .le 6, 3) := by decide +kernel
theorem dX7_clear_10 : decode (zcc mX7_clear) 10 = .ok (.bipush (-3), 2) := by decide +kernel
theorem dX7_clear_12 : decode (zcc mX7_clear) 12 = .ok (.ireturn, 1) := by decide +kernel
theorem dX7_clear_13 : decode (zcc mX7_clear) 13 = .ok (.aload_n 0, 1) := by decide +kernel
theorem dX7_clear_14 : decode (zcc mX7_clear) 14 = .ok (.getfield 58, 3) := by decide +kernel
theorem dX7_clear_17 : decode (zcc mX7_clear) 17 = .ok (.istore_n 2, 1) := by decide +kernel
theorem dX7_clear_18 : decode (zcc mX7_clear) 18 = .ok (.aload_n 0, 1) := by decide +kernel
theorem dX7_clear_19 : decode (zcc mX7_clear) 19 = .ok (.getfield 12, 3) := by decide +kernel
theorem dX7_clear_22 : decode (zcc mX7_clear) 22 = .ok (.iload_n 1, 1) := by decide +kernel
theorem dX7_clear_23 : decode (zcc mX7_clear) 23 = .ok (.invokevirtual 62, 3) := by decide +kernel
theorem dX7_clear_26 : decode (zcc mX7_clear) 26 = .ok (.aload_n 0, 1) := by decide +kernel
theorem dX7_clear_27 : decode (zcc mX7_clear) 27 = .ok (.iconst 0, 1) := by decide +kernel
theorem dX7_clear_28 : decode (zcc mX7_clear) 28 = .ok (.putfield 66, 3) := by decide +kernel
theorem dX7_clear_31 : decode (zcc mX7_clear) 31 = .ok (.aload_n 0, 1) := by decide +kernel
theorem dX7_clear_32 : decode (zcc mX7_clear) 32 = .ok (.iconst 0, 1) := by decide +kernel
theorem dX7_clear_33 : decode (zcc mX7_clear) 33 = .ok (.putfield 69, 3) := by decide +kernel
theorem dX7_clear_36 : decode (zcc mX7_clear) 36 = .ok (.aload_n 0, 1) := by decide +kernel
theorem dX7_clear_37 : decode (zcc mX7_clear) 37 = .ok (.iconst 0, 1) := by decide +kernel
theorem dX7_clear_38 : decode (zcc mX7_clear) 38 = .ok (.putfield 58, 3) := by decide +kernel
theorem dX7_clear_41 : decode (zcc mX7_clear) 41 = .ok (.aload_n 0, 1) := by decide +kernel
theorem dX7_clear_42 : decode (zcc mX7_clear) 42 = .ok (.invokevirtual 72, 3) := by decide +kernel
theorem dX7_clear_45 : decode (zcc mX7_clear) 45 = .ok (.aload_n 0, 1) := by decide +kernel
theorem dX7_clear_46 : decode (zcc mX7_clear) 46 = .ok (.invokevirtual 75, 3) := by decide +kernel
theorem dX7_clear_49 : decode (zcc mX7_clear) 49 = .ok (.iload_n 2, 1) := by decide +kernel
theorem dX7_clear_50 : decode (zcc mX7_clear) 50 = .ok (.ireturn, 1) := by decide +kernel
theorem dX7_text_0 : decode (zcc mX7_text) 0 = .ok (.iload_n 1, 1) := by decide +kernel
theorem dX7_text_1 : decode (zcc mX7_text) 1 = .ok (.ifCond .lt 8, 3) := by decide +kernel
theorem dX7_text_4 : decode (zcc mX7_text) 4 = .ok (.iload_n 1, 1) := by decide +kernel
theorem dX7_text_5 : decode (zcc mX7_text) 5 = .ok (.iconst 5, 1) := by decide +kernel
theorem dX7_text_6 : decode (zcc mX7_text) 6 = .ok (.if_icmp .le 6, 3) := by decide +kernel
theorem dX7_text_9 : decode (zcc mX7_text) 9 = .ok (.bipush (-3), 2) := by decide +kernel
theorem dX7_text_11 : decode (zcc mX7_text) 11 = .ok (.ireturn, 1) := by decide +kernel
theorem dX7_text_12 : decode (zcc mX7_text) 12 = .ok (.aload_n 0, 1) := by decide +kernel
theorem dX7_text_13 : decode (zcc mX7_text) 13 = .ok (.getfield 12, 3) := by decide +kernel
theorem dX7_text_16 : decode (zcc mX7_text) 16 = .ok (.iload_n 1, 1) := by decide +kernel
theorem dX7_text_17 : decode (zcc mX7_text) 17 = .ok (.invokevirtual 78, 3) := by decide +kernel
theorem dX7_text_20 : decode (zcc mX7_text) 20 = .ok (.ifCond .ne 6, 3) := by decide +kernel
theorem dX7_text_23 : decode (zcc mX7_text) 23 = .ok (.bipush (-5), 2) := by decide +kernel
theorem dX7_text_25 : decode (zcc mX7_text) 25 = .ok (.ireturn, 1) := by decide +kernel
theorem dX7_text_26 : decode (zcc mX7_text) 26 = .ok (.aload_n 0, 1) := by decide +kernel
theorem dX7_text_27 : decode (zcc mX7_text) 27 = .ok (.getfield 12, 3) := by decide +kernel
theorem dX7_text_30 : decode (zcc mX7_text) 30 = .ok (.iload_n 1, 1) := by decide +kernel
theorem dX7_text_31 : decode (zcc mX7_text) 31 = .ok (.invokevirtual 82, 3) := by decide +kernel
theorem dX7_text_34 : decode (zcc mX7_text) 34 = .ok (.aload_n 0, 1) := by decide +kernel
theorem dX7_text_35 : decode (zcc mX7_text) 35 = .ok (.invokevirtual 72, 3) := by decide +kernel
theorem dX7_text_38 : decode (zcc mX7_text) 38 = .ok (.aload_n 0, 1) := by decide +kernel
theorem dX7_text_39 : decode (zcc mX7_text) 39 = .ok (.invokevirtual 75, 3) := by decide +kernel
theorem dX7_text_42 : decode (zcc mX7_text) 42 = .ok (.aload_n 0, 1) := by decide +kernel
theorem dX7_text_43 : decode (zcc mX7_text) 43 = .ok (.getfield 12, 3) := by decide +kernel
theorem dX7_text_46 : decode (zcc mX7_text) 46 = .ok (.getfield 85, 3) := by decide +kernel
theorem dX7_text_49 : decode (zcc mX7_text) 49 = .ok (.iconst 1, 1) := by decide +kernel
theorem dX7_text_50 : decode (zcc mX7_text) 50 = .ok (.isub, 1) := by decide +kernel
theorem dX7_text_51 : decode (zcc mX7_text) 51 = .ok (.ireturn, 1) := by decide +kernel
theorem dX7_term_0 : decode (zcc mX7_term) 0 = .ok (.aload_n 0, 1) := by decide +kernel
theorem dX7_term_1 : decode (zcc mX7_term) 1 = .ok (.getfield 66, 3) := by decide +kernel
theorem dX7_term_4 : decode (zcc mX7_term) 4 = .ok (.bipush 12, 2) := by decide +kernel
theorem dX7_term_6 : decode (zcc mX7_term) 6 = .ok (.if_icmp .lt 6, 3) := by decide +kernel
theorem dX7_term_9 : decode (zcc mX7_term) 9 = .ok (.bipush (-5), 2) := by decide +kernel
theorem dX7_term_11 : decode (zcc mX7_term) 11 = .ok (.ireturn, 1) := by decide +kernel
theorem dX7_term_12 : decode (zcc mX7_term) 12 = .ok (.aload_n 0, 1) := by decide +kernel
theorem dX7_term_13 : decode (zcc mX7_term) 13 = .ok (.getfield 30, 3) := by decide +kernel
theorem dX7_term_16 : decode (zcc mX7_term) 16 = .ok (.aload_n 0, 1) := by decide +kernel
theorem dX7_term_17 : decode (zcc mX7_term) 17 = .ok (.getfield 66, 3) := by decide +kernel
theorem dX7_term_20 : decode (zcc mX7_term) 20 = .ok (.aaload, 1) := by decide +kernel
theorem dX7_term_21 : decode (zcc mX7_term) 21 = .ok (.invokevirtual 88, 3) := by decide +kernel
theorem dX7_term_24 : decode (zcc mX7_term) 24 = .ok (.aload_n 0, 1) := by decide +kernel
theorem dX7_term_25 : decode (zcc mX7_term) 25 = .ok (.dup, 1) := by decide +kernel
theorem dX7_term_26 : decode (zcc mX7_term) 26 = .ok (.getfield 66, 3) := by decide +kernel
theorem dX7_term_29 : decode (zcc mX7_term) 29 = .ok (.iconst 1, 1) := by decide +kernel
theorem dX7_term_30 : decode (zcc mX7_term) 30 = .ok (.iadd, 1) := by decide +kernel
theorem dX7_term_31 : decode (zcc mX7_term) 31 = .ok (.putfield 66, 3) := by decide +kernel
theorem dX7_term_34 : decode (zcc mX7_term) 34 = .ok (.aload_n 0, 1) := by decide +kernel
theorem dX7_term_35 : decode (zcc mX7_term) 35 = .ok (.invokevirtual 75, 3) := by decide +kernel
theorem dX7_term_38 : decode (zcc mX7_term) 38 = .ok (.aload_n 0, 1) := by decide +kernel
theorem dX7_term_39 : decode (zcc mX7_term) 39 = .ok (.getfield 66, 3) := by decide +kernel
theorem dX7_term_42 : decode (zcc mX7_term) 42 = .ok (.iconst 1, 1) := by decide +kernel
theorem dX7_term_43 : decode (zcc mX7_term) 43 = .ok (.isub, 1) := by decide +kernel
theorem dX7_term_44 : decode (zcc mX7_term) 44 = .ok (.ireturn, 1) := by decide +kernel
theorem dX7_part_0 : decode (zcc mX7_part) 0 = .ok (.aload_n 0, 1) := by decide +kernel
theorem dX7_part_1 : decode (zcc mX7_part) 1 = .ok (.iload_n 1, 1) := by decide +kernel
theorem dX7_part_2 : decode (zcc mX7_part) 2 = .ok (.invokevirtual 90, 3) := by decide +kernel
theorem dX7_part_5 : decode (zcc mX7_part) 5 = .ok (.ifCond .ne 6, 3) := by decide +kernel
theorem dX7_part_8 : decode (zcc mX7_part) 8 = .ok (.bipush (-2), 2) := by decide +kernel
theorem dX7_part_10 : decode (zcc mX7_part) 10 = .ok (.ireturn, 1) := by decide +kernel
theorem dX7_part_11 : decode (zcc mX7_part) 11 = .ok (.aload_n 0, 1) := by decide +kernel
theorem dX7_part_12 : decode (zcc mX7_part) 12 = .ok (.getfield 12, 3) := by decide +kernel
theorem dX7_part_15 : decode (zcc mX7_part) 15 = .ok (.iload_n 2, 1) := by decide +kernel
theorem dX7_part_16 : decode (zcc mX7_part) 16 = .ok (.invokevirtual 93, 3) := by decide +kernel
theorem dX7_part_19 : decode (zcc mX7_part) 19 = .ok (.ifCond .ne 26, 3) := by decide +kernel
theorem dX7_part_22 : decode (zcc mX7_part) 22 = .ok (.iload_n 2, 1) := by decide +kernel
theorem dX7_part_23 : decode (zcc mX7_part) 23 = .ok (.bipush 8, 2) := by decide +kernel
theorem dX7_part_25 : decode (zcc mX7_part) 25 = .ok (.if_icmp .lt 17, 3) := by decide +kernel
theorem dX7_part_28 : decode (zcc mX7_part) 28 = .ok (.aload_n 0, 1) := by decide +kernel
theorem dX7_part_29 : decode (zcc mX7_part) 29 = .ok (.getfield 12, 3) := by decide +kernel
theorem dX7_part_32 : decode (zcc mX7_part) 32 = .ok (.iload_n 2, 1) := by decide +kernel
theorem dX7_part_33 : decode (zcc mX7_part) 33 = .ok (.bipush 8, 2) := by decide +kernel
theorem dX7_part_35 : decode (zcc mX7_part) 35 = .ok (.isub, 1) := by decide +kernel
theorem dX7_part_36 : decode (zcc mX7_part) 36 = .ok (.invokevirtual 96, 3) := by decide +kernel
theorem dX7_part_39 : decode (zcc mX7_part) 39 = .ok (.ifCond .ne 6, 3) := by decide +kernel
theorem dX7_part_42 : decode (zcc mX7_part) 42 = .ok (.bipush (-3), 2) := by decide +kernel
theorem dX7_part_44 : decode (zcc mX7_part) 44 = .ok (.ireturn, 1) := by decide +kernel
theorem dX7_part_45 : decode (zcc mX7_part) 45 = .ok (.aload_n 0, 1) := by decide +kernel
theorem dX7_part_46 : decode (zcc mX7_part) 46 = .ok (.getfield 30, 3) := by decide +kernel
theorem dX7_part_49 : decode (zcc mX7_part) 49 = .ok (.iload_n 1, 1) := by decide +kernel
theorem dX7_part_50 : decode (zcc mX7_part) 50 = .ok (.aaload, 1) := by decide +kernel
theorem dX7_part_51 : decode (zcc mX7_part) 51 = .ok (.iload_n 2, 1) := by decide +kernel
theorem dX7_part_52 : decode (zcc mX7_part) 52 = .ok (.invokevirtual 99, 3) := by decide +kernel
theorem dX7_part_55 : decode (zcc mX7_part) 55 = .ok (.ifCond .ne 6, 3) := by decide +kernel
theorem dX7_part_58 : decode (zcc mX7_part) 58 = .ok (.bipush (-5), 2) := by decide +kernel
theorem dX7_part_60 : decode (zcc mX7_part) 60 = .ok (.ireturn, 1) := by decide +kernel
theorem dX7_part_61 : decode (zcc mX7_part) 61 = .ok (.iconst 0, 1) := by decide +kernel
theorem dX7_part_62 : decode (zcc mX7_part) 62 = .ok (.istore_n 3, 1) := by decide +kernel
theorem dX7_part_63 : decode (zcc mX7_part) 63 = .ok (.iload_n 3, 1) := by decide +kernel
theorem dX7_part_64 : decode (zcc mX7_part) 64 = .ok (.aload_n 0, 1) := by decide +kernel
theorem dX7_part_65 : decode (zcc mX7_part) 65 = .ok (.getfield 58, 3) := by decide +kernel
theorem dX7_part_68 : decode (zcc mX7_part) 68 = .ok (.if_icmp .ge 31, 3) := by decide +kernel
theorem dX7_part_71 : decode (zcc mX7_part) 71 = .ok (.aload_n 0, 1) := by decide +kernel
theorem dX7_part_72 : decode (zcc mX7_part) 72 = .ok (.getfield 42, 3) := by decide +kernel
theorem dX7_part_75 : decode (zcc mX7_part) 75 = .ok (.iload_n 3, 1) := by decide +kernel
theorem dX7_part_76 : decode (zcc mX7_part) 76 = .ok (.aaload, 1) := by decide +kernel
theorem dX7_part_77 : decode (zcc mX7_part) 77 = .ok (.iload_n 1, 1) := by decide +kernel
theorem dX7_part_78 : decode (zcc mX7_part) 78 = .ok (.invokevirtual 101, 3) := by decide +kernel
theorem dX7_part_81 : decode (zcc mX7_part) 81 = .ok (.ifCond .eq 12, 3) := by decide +kernel
theorem dX7_part_84 : decode (zcc mX7_part) 84 = .ok (.aload_n 0, 1) := by decide +kernel
theorem dX7_part_85 : decode (zcc mX7_part) 85 = .ok (.getfield 42, 3) := by decide +kernel
theorem dX7_part_88 : decode (zcc mX7_part) 88 = .ok (.iload_n 3, 1) := by decide +kernel
theorem dX7_part_89 : decode (zcc mX7_part) 89 = .ok (.aaload, 1) := by decide +kernel
theorem dX7_part_90 : decode (zcc mX7_part) 90 = .ok (.invokevirtual 104, 3) := by decide +kernel
theorem dX7_part_93 : decode (zcc mX7_part) 93 = .ok (.iinc 3 1, 3) := by decide +kernel
theorem dX7_part_96 : decode (zcc mX7_part) 96 = .ok (.goto (-33), 3) := by decide +kernel
theorem dX7_part_99 : decode (zcc mX7_part) 99 = .ok (.aload_n 0, 1) := by decide +kernel
theorem dX7_part_100 : decode (zcc mX7_part) 100 = .ok (.invokevirtual 75, 3) := by decide +kernel
theorem dX7_part_103 : decode (zcc mX7_part) 103 = .ok (.aload_n 0, 1) := by decide +kernel
theorem dX7_part_104 : decode (zcc mX7_part) 104 = .ok (.getfield 30, 3) := by decide +kernel
theorem dX7_part_107 : decode (zcc mX7_part) 107 = .ok (.iload_n 1, 1) := by decide +kernel
theorem dX7_part_108 : decode (zcc mX7_part) 108 = .ok (.aaload, 1) := by decide +kernel
theorem dX7_part_109 : decode (zcc mX7_part) 109 = .ok (.getfield 107, 3) := by decide +kernel
theorem dX7_part_112 : decode (zcc mX7_part) 112 = .ok (.ireturn, 1) := by decide +kernel
theorem dX7_machine_0 : decode (zcc mX7_machine) 0 = .ok (.iload_n 1, 1) := by decide +kernel
theorem dX7_machine_1 : decode (zcc mX7_machine) 1 = .ok (.iconst 1, 1) := by decide +kernel
theorem dX7_machine_2 : decode (zcc mX7_machine) 2 = .ok (.if_icmp .lt 9, 3) := by decide +kernel
theorem dX7_machine_5 : decode (zcc mX7_machine) 5 = .ok (.iload_n 1, 1) := by decide +kernel
theorem dX7_machine_6 : decode (zcc mX7_machine) 6 = .ok (.bipush 6, 2) := by decide +kernel
theorem dX7_machine_8 : decode (zcc mX7_machine) 8 = .ok (.if_icmp .le 6, 3) := by decide +kernel
theorem dX7_machine_11 : decode (zcc mX7_machine) 11 = .ok (.bipush (-3), 2) := by decide +kernel
theorem dX7_machine_13 : decode (zcc mX7_machine) 13 = .ok (.ireturn, 1) := by decide +kernel
theorem dX7_machine_14 : decode (zcc mX7_machine) 14 = .ok (.aload_n 0, 1) := by decide +kernel
theorem dX7_machine_15 : decode (zcc mX7_machine) 15 = .ok (.getfield 69, 3) := by decide +kernel
theorem dX7_machine_18 : decode (zcc mX7_machine) 18 = .ok (.iconst 3, 1) := by decide +kernel
theorem dX7_machine_19 : decode (zcc mX7_machine) 19 = .ok (.if_icmp .lt 6, 3) := by decide +kernel
theorem dX7_machine_22 : decode (zcc mX7_machine) 22 = .ok (.bipush (-5), 2) := by decide +kernel
theorem dX7_machine_24 : decode (zcc mX7_machine) 24 = .ok (.ireturn, 1) := by decide +kernel
theorem dX7_machine_25 : decode (zcc mX7_machine) 25 = .ok (.aload_n 0, 1) := by decide +kernel
theorem dX7_machine_26 : decode (zcc mX7_machine) 26 = .ok (.getfield 36, 3) := by decide +kernel
theorem dX7_machine_29 : decode (zcc mX7_machine) 29 = .ok (.aload_n 0, 1) := by decide +kernel
theorem dX7_machine_30 : decode (zcc mX7_machine) 30 = .ok (.getfield 69, 3) := by decide +kernel
theorem dX7_machine_33 : decode (zcc mX7_machine) 33 = .ok (.aaload, 1) := by decide +kernel
theorem dX7_machine_34 : decode (zcc mX7_machine) 34 = .ok (.iload_n 1, 1) := by decide +kernel
theorem dX7_machine_35 : decode (zcc mX7_machine) 35 = .ok (.invokevirtual 110, 3) := by decide +kernel
theorem dX7_machine_38 : decode (zcc mX7_machine) 38 = .ok (.aload_n 0, 1) := by decide +kernel
theorem dX7_machine_39 : decode (zcc mX7_machine) 39 = .ok (.dup, 1) := by decide +kernel
theorem dX7_machine_40 : decode (zcc mX7_machine) 40 = .ok (.getfield 69, 3) := by decide +kernel
theorem dX7_machine_43 : decode (zcc mX7_machine) 43 = .ok (.iconst 1, 1) := by decide +kernel
theorem dX7_machine_44 : decode (zcc mX7_machine) 44 = .ok (.iadd, 1) := by decide +kernel
theorem dX7_machine_45 : decode (zcc mX7_machine) 45 = .ok (.putfield 69, 3) := by decide +kernel
theorem dX7_machine_48 : decode (zcc mX7_machine) 48 = .ok (.aload_n 0, 1) := by decide +kernel
theorem dX7_machine_49 : decode (zcc mX7_machine) 49 = .ok (.invokevirtual 75, 3) := by decide +kernel
theorem dX7_machine_52 : decode (zcc mX7_machine) 52 = .ok (.aload_n 0, 1) := by decide +kernel
theorem dX7_machine_53 : decode (zcc mX7_machine) 53 = .ok (.getfield 69, 3) := by decide +kernel
theorem dX7_machine_56 : decode (zcc mX7_machine) 56 = .ok (.iconst 1, 1) := by decide +kernel
theorem dX7_machine_57 : decode (zcc mX7_machine) 57 = .ok (.isub, 1) := by decide +kernel
theorem dX7_machine_58 : decode (zcc mX7_machine) 58 = .ok (.ireturn, 1) := by decide +kernel
theorem dX7_step_0 : decode (zcc mX7_step) 0 = .ok (.aload_n 0, 1) := by decide +kernel
theorem dX7_step_1 : decode (zcc mX7_step) 1 = .ok (.iload_n 1, 1) := by decide +kernel
theorem dX7_step_2 : decode (zcc mX7_step) 2 = .ok (.invokevirtual 111, 3) := by decide +kernel
theorem dX7_step_5 : decode (zcc mX7_step) 5 = .ok (.ifCond .ne 6, 3) := by decide +kernel
theorem dX7_step_8 : decode (zcc mX7_step) 8 = .ok (.bipush (-2), 2) := by decide +kernel
theorem dX7_step_10 : decode (zcc mX7_step) 10 = .ok (.ireturn, 1) := by decide +kernel
theorem dX7_step_11 : decode (zcc mX7_step) 11 = .ok (.aload_n 0, 1) := by decide +kernel
theorem dX7_step_12 : decode (zcc mX7_step) 12 = .ok (.getfield 36, 3) := by decide +kernel
theorem dX7_step_15 : decode (zcc mX7_step) 15 = .ok (.iload_n 1, 1) := by decide +kernel
theorem dX7_step_16 : decode (zcc mX7_step) 16 = .ok (.aaload, 1) := by decide +kernel
theorem dX7_step_17 : decode (zcc mX7_step) 17 = .ok (.astore 5, 2) := by decide +kernel
theorem dX7_step_19 : decode (zcc mX7_step) 19 = .ok (.aload 5, 2) := by decide +kernel
theorem dX7_step_21 : decode (zcc mX7_step) 21 = .ok (.iload_n 2, 1) := by decide +kernel
theorem dX7_step_22 : decode (zcc mX7_step) 22 = .ok (.invokevirtual 114, 3) := by decide +kernel
theorem dX7_step_25 : decode (zcc mX7_step) 25 = .ok (.ifCond .eq 24, 3) := by decide +kernel
theorem dX7_step_28 : decode (zcc mX7_step) 28 = .ok (.aload_n 0, 1) := by decide +kernel
theorem dX7_step_29 : decode (zcc mX7_step) 29 = .ok (.getfield 12, 3) := by decide +kernel
theorem dX7_step_32 : decode (zcc mX7_step) 32 = .ok (.iload_n 3, 1) := by decide +kernel
theorem dX7_step_33 : decode (zcc mX7_step) 33 = .ok (.invokevirtual 93, 3) := by decide +kernel
theorem dX7_step_36 : decode (zcc mX7_step) 36 = .ok (.ifCond .eq 13, 3) := by decide +kernel
theorem dX7_step_39 : decode (zcc mX7_step) 39 = .ok (.aload 5, 2) := by decide +kernel
theorem dX7_step_41 : decode (zcc mX7_step) 41 = .ok (.iload 4, 2) := by decide +kernel
theorem dX7_step_43 : decode (zcc mX7_step) 43 = .ok (.invokevirtual 114, 3) := by decide +kernel
theorem dX7_step_46 : decode (zcc mX7_step) 46 = .ok (.ifCond .ne 6, 3) := by decide +kernel
theorem dX7_step_49 : decode (zcc mX7_step) 49 = .ok (.bipush (-3), 2) := by decide +kernel
theorem dX7_step_51 : decode (zcc mX7_step) 51 = .ok (.ireturn, 1) := by decide +kernel
theorem dX7_step_52 : decode (zcc mX7_step) 52 = .ok (.aload 5, 2) := by decide +kernel
theorem dX7_step_54 : decode (zcc mX7_step) 54 = .ok (.iload_n 2, 1) := by decide +kernel
theorem dX7_step_55 : decode (zcc mX7_step) 55 = .ok (.iload_n 3, 1) := by decide +kernel
theorem dX7_step_56 : decode (zcc mX7_step) 56 = .ok (.invokevirtual 117, 3) := by decide +kernel
theorem dX7_step_59 : decode (zcc mX7_step) 59 = .ok (.istore 6, 2) := by decide +kernel
theorem dX7_step_61 : decode (zcc mX7_step) 61 = .ok (.aload 5, 2) := by decide +kernel
theorem dX7_step_63 : decode (zcc mX7_step) 63 = .ok (.iload_n 2, 1) := by decide +kernel
theorem dX7_step_64 : decode (zcc mX7_step) 64 = .ok (.iload_n 3, 1) := by decide +kernel
theorem dX7_step_65 : decode (zcc mX7_step) 65 = .ok (.iload 4, 2) := by decide +kernel
theorem dX7_step_67 : decode (zcc mX7_step) 67 = .ok (.invokevirtual 121, 3) := by decide +kernel
theorem dX7_step_70 : decode (zcc mX7_step) 70 = .ok (.aload_n 0, 1) := by decide +kernel
theorem dX7_step_71 : decode (zcc mX7_step) 71 = .ok (.iload_n 1, 1) := by decide +kernel
theorem dX7_step_72 : decode (zcc mX7_step) 72 = .ok (.invokevirtual 125, 3) := by decide +kernel
theorem dX7_step_75 : decode (zcc mX7_step) 75 = .ok (.iload 6, 2) := by decide +kernel
theorem dX7_step_77 : decode (zcc mX7_step) 77 = .ok (.ireturn, 1) := by decide +kernel
theorem dX7_good_0 : decode (zcc mX7_good) 0 = .ok (.aload_n 0, 1) := by decide +kernel
theorem dX7_good_1 : decode (zcc mX7_good) 1 = .ok (.iload_n 1, 1) := by decide +kernel
theorem dX7_good_2 : decode (zcc mX7_good) 2 = .ok (.invokevirtual 111, 3) := by decide +kernel
theorem dX7_good_5 : decode (zcc mX7_good) 5 = .ok (.ifCond .ne 6, 3) := by decide +kernel
theorem dX7_good_8 : decode (zcc mX7_good) 8 = .ok (.bipush (-2), 2) := by decide +kernel
theorem dX7_good_10 : decode (zcc mX7_good) 10 = .ok (.ireturn, 1) := by decide +kernel
theorem dX7_good_11 : decode (zcc mX7_good) 11 = .ok (.aload_n 0, 1) := by decide +kernel
theorem dX7_good_12 : decode (zcc mX7_good) 12 = .ok (.getfield 36, 3) := by decide +kernel
theorem dX7_good_15 : decode (zcc mX7_good) 15 = .ok (.iload_n 1, 1) := by decide +kernel
theorem dX7_good_16 : decode (zcc mX7_good) 16 = .ok (.aaload, 1) := by decide +kernel
theorem dX7_good_17 : decode (zcc mX7_good) 17 = .ok (.astore 4, 2) := by decide +kernel
theorem dX7_good_19 : decode (zcc mX7_good) 19 = .ok (.aload 4, 2) := by decide +kernel
theorem dX7_good_21 : decode (zcc mX7_good) 21 = .ok (.iload_n 2, 1) := by decide +kernel
theorem dX7_good_22 : decode (zcc mX7_good) 22 = .ok (.invokevirtual 114, 3) := by decide +kernel
theorem dX7_good_25 : decode (zcc mX7_good) 25 = .ok (.ifCond .ne 6, 3) := by decide +kernel
theorem dX7_good_28 : decode (zcc mX7_good) 28 = .ok (.bipush (-3), 2) := by decide +kernel
theorem dX7_good_30 : decode (zcc mX7_good) 30 = .ok (.ireturn, 1) := by decide +kernel
theorem dX7_good_31 : decode (zcc mX7_good) 31 = .ok (.aload 4, 2) := by decide +kernel
theorem dX7_good_33 : decode (zcc mX7_good) 33 = .ok (.iload_n 2, 1) := by decide +kernel
theorem dX7_good_34 : decode (zcc mX7_good) 34 = .ok (.invokevirtual 128, 3) := by decide +kernel
theorem dX7_good_37 : decode (zcc mX7_good) 37 = .ok (.invokestatic 131, 3) := by decide +kernel
theorem dX7_good_40 : decode (zcc mX7_good) 40 = .ok (.istore 5, 2) := by decide +kernel
theorem dX7_good_42 : decode (zcc mX7_good) 42 = .ok (.aload 4, 2) := by decide +kernel
theorem dX7_good_44 : decode (zcc mX7_good) 44 = .ok (.iload_n 2, 1) := by decide +kernel
theorem dX7_good_45 : decode (zcc mX7_good) 45 = .ok (.iload_n 3, 1) := by decide +kernel
theorem dX7_good_46 : decode (zcc mX7_good) 46 = .ok (.invokevirtual 135, 3) := by decide +kernel
theorem dX7_good_49 : decode (zcc mX7_good) 49 = .ok (.aload_n 0, 1) := by decide +kernel
theorem dX7_good_50 : decode (zcc mX7_good) 50 = .ok (.iload_n 1, 1) := by decide +kernel
theorem dX7_good_51 : decode (zcc mX7_good) 51 = .ok (.invokevirtual 125, 3) := by decide +kernel
theorem dX7_good_54 : decode (zcc mX7_good) 54 = .ok (.iload 5, 2) := by decide +kernel
theorem dX7_good_56 : decode (zcc mX7_good) 56 = .ok (.ireturn, 1) := by decide +kernel
theorem dX7_formula_0 : decode (zcc mX7_formula) 0 = .ok (.iload_n 1, 1) := by decide +kernel
theorem dX7_formula_1 : decode (zcc mX7_formula) 1 = .ok (.ifCond .lt 9, 3) := by decide +kernel
theorem dX7_formula_4 : decode (zcc mX7_formula) 4 = .ok (.iload_n 1, 1) := by decide +kernel
theorem dX7_formula_5 : decode (zcc mX7_formula) 5 = .ok (.bipush 6, 2) := by decide +kernel
theorem dX7_formula_7 : decode (zcc mX7_formula) 7 = .ok (.if_icmp .le 6, 3) := by decide +kernel
theorem dX7_formula_10 : decode (zcc mX7_formula) 10 = .ok (.bipush (-3), 2) := by decide +kernel
theorem dX7_formula_12 : decode (zcc mX7_formula) 12 = .ok (.ireturn, 1) := by decide +kernel
theorem dX7_formula_13 : decode (zcc mX7_formula) 13 = .ok (.aload_n 0, 1) := by decide +kernel
theorem dX7_formula_14 : decode (zcc mX7_formula) 14 = .ok (.iload_n 2, 1) := by decide +kernel
theorem dX7_formula_15 : decode (zcc mX7_formula) 15 = .ok (.invokevirtual 90, 3) := by decide +kernel
theorem dX7_formula_18 : decode (zcc mX7_formula) 18 = .ok (.ifCond .eq 16, 3) := by decide +kernel
theorem dX7_formula_21 : decode (zcc mX7_formula) 21 = .ok (.aload_n 0, 1) := by decide +kernel
theorem dX7_formula_22 : decode (zcc mX7_formula) 22 = .ok (.iload_n 1, 1) := by decide +kernel
theorem dX7_formula_23 : decode (zcc mX7_formula) 23 = .ok (.iload_n 3, 1) := by decide +kernel
theorem dX7_formula_24 : decode (zcc mX7_formula) 24 = .ok (.iload 4, 2) := by decide +kernel
theorem dX7_formula_26 : decode (zcc mX7_formula) 26 = .ok (.iload 5, 2) := by decide +kernel
theorem dX7_formula_28 : decode (zcc mX7_formula) 28 = .ok (.invokevirtual 139, 3) := by decide +kernel
theorem dX7_formula_31 : decode (zcc mX7_formula) 31 = .ok (.ifCond .ne 6, 3) := by decide +kernel
theorem dX7_formula_34 : decode (zcc mX7_formula) 34 = .ok (.bipush (-2), 2) := by decide +kernel
theorem dX7_formula_36 : decode (zcc mX7_formula) 36 = .ok (.ireturn, 1) := by decide +kernel
theorem dX7_formula_37 : decode (zcc mX7_formula) 37 = .ok (.iload_n 1, 1) := by decide +kernel
theorem dX7_formula_38 : decode (zcc mX7_formula) 38 = .ok (.iload_n 3, 1) := by decide +kernel
theorem dX7_formula_39 : decode (zcc mX7_formula) 39 = .ok (.iload 4, 2) := by decide +kernel
theorem dX7_formula_41 : decode (zcc mX7_formula) 41 = .ok (.invokestatic 143, 3) := by decide +kernel
theorem dX7_formula_44 : decode (zcc mX7_formula) 44 = .ok (.ifCond .ne 6, 3) := by decide +kernel
theorem dX7_formula_47 : decode (zcc mX7_formula) 47 = .ok (.bipush (-3), 2) := by decide +kernel
theorem dX7_formula_49 : decode (zcc mX7_formula) 49 = .ok (.ireturn, 1) := by decide +kernel
theorem dX7_formula_50 : decode (zcc mX7_formula) 50 = .ok (.aload_n 0, 1) := by decide +kernel
theorem dX7_formula_51 : decode (zcc mX7_formula) 51 = .ok (.getfield 58, 3) := by decide +kernel
theorem dX7_formula_54 : decode (zcc mX7_formula) 54 = .ok (.bipush 10, 2) := by decide +kernel
theorem dX7_formula_56 : decode (zcc mX7_formula) 56 = .ok (.if_icmp .lt 6, 3) := by decide +kernel
theorem dX7_formula_59 : decode (zcc mX7_formula) 59 = .ok (.bipush (-5), 2) := by decide +kernel
theorem dX7_formula_61 : decode (zcc mX7_formula) 61 = .ok (.ireturn, 1) := by decide +kernel
theorem dX7_formula_62 : decode (zcc mX7_formula) 62 = .ok (.aload_n 0, 1) := by decide +kernel
theorem dX7_formula_63 : decode (zcc mX7_formula) 63 = .ok (.getfield 42, 3) := by decide +kernel
theorem dX7_formula_66 : decode (zcc mX7_formula) 66 = .ok (.aload_n 0, 1) := by decide +kernel
theorem dX7_formula_67 : decode (zcc mX7_formula) 67 = .ok (.getfield 58, 3) := by decide +kernel
theorem dX7_formula_70 : decode (zcc mX7_formula) 70 = .ok (.aaload, 1) := by decide +kernel
theorem dX7_formula_71 : decode (zcc mX7_formula) 71 = .ok (.iload_n 1, 1) := by decide +kernel
theorem dX7_formula_72 : decode (zcc mX7_formula) 72 = .ok (.iload_n 2, 1) := by decide +kernel
theorem dX7_formula_73 : decode (zcc mX7_formula) 73 = .ok (.iload_n 3, 1) := by decide +kernel
theorem dX7_formula_74 : decode (zcc mX7_formula) 74 = .ok (.iload 4, 2) := by decide +kernel
theorem dX7_formula_76 : decode (zcc mX7_formula) 76 = .ok (.iload 5, 2) := by decide +kernel
theorem dX7_formula_78 : decode (zcc mX7_formula) 78 = .ok (.invokevirtual 147, 3) := by decide +kernel
theorem dX7_formula_81 : decode (zcc mX7_formula) 81 = .ok (.aload_n 0, 1) := by decide +kernel
theorem dX7_formula_82 : decode (zcc mX7_formula) 82 = .ok (.dup, 1) := by decide +kernel
theorem dX7_formula_83 : decode (zcc mX7_formula) 83 = .ok (.getfield 58, 3) := by decide +kernel
theorem dX7_formula_86 : decode (zcc mX7_formula) 86 = .ok (.iconst 1, 1) := by decide +kernel
theorem dX7_formula_87 : decode (zcc mX7_formula) 87 = .ok (.iadd, 1) := by decide +kernel
theorem dX7_formula_88 : decode (zcc mX7_formula) 88 = .ok (.putfield 58, 3) := by decide +kernel
theorem dX7_formula_91 : decode (zcc mX7_formula) 91 = .ok (.aload_n 0, 1) := by decide +kernel
theorem dX7_formula_92 : decode (zcc mX7_formula) 92 = .ok (.invokevirtual 75, 3) := by decide +kernel
theorem dX7_formula_95 : decode (zcc mX7_formula) 95 = .ok (.aload_n 0, 1) := by decide +kernel
theorem dX7_formula_96 : decode (zcc mX7_formula) 96 = .ok (.getfield 58, 3) := by decide +kernel
theorem dX7_formula_99 : decode (zcc mX7_formula) 99 = .ok (.iconst 1, 1) := by decide +kernel
theorem dX7_formula_100 : decode (zcc mX7_formula) 100 = .ok (.isub, 1) := by decide +kernel
theorem dX7_formula_101 : decode (zcc mX7_formula) 101 = .ok (.ireturn, 1) := by decide +kernel
theorem dX7_deny_0 : decode (zcc mX7_deny) 0 = .ok (.aload_n 0, 1) := by decide +kernel
theorem dX7_deny_1 : decode (zcc mX7_deny) 1 = .ok (.iload_n 1, 1) := by decide +kernel
theorem dX7_deny_2 : decode (zcc mX7_deny) 2 = .ok (.invokevirtual 150, 3) := by decide +kernel
theorem dX7_deny_5 : decode (zcc mX7_deny) 5 = .ok (.ifCond .ne 6, 3) := by decide +kernel
theorem dX7_deny_8 : decode (zcc mX7_deny) 8 = .ok (.bipush (-2), 2) := by decide +kernel
theorem dX7_deny_10 : decode (zcc mX7_deny) 10 = .ok (.ireturn, 1) := by decide +kernel
theorem dX7_deny_11 : decode (zcc mX7_deny) 11 = .ok (.aload_n 0, 1) := by decide +kernel
theorem dX7_deny_12 : decode (zcc mX7_deny) 12 = .ok (.getfield 42, 3) := by decide +kernel
theorem dX7_deny_15 : decode (zcc mX7_deny) 15 = .ok (.iload_n 1, 1) := by decide +kernel
theorem dX7_deny_16 : decode (zcc mX7_deny) 16 = .ok (.aaload, 1) := by decide +kernel
theorem dX7_deny_17 : decode (zcc mX7_deny) 17 = .ok (.getfield 153, 3) := by decide +kernel
theorem dX7_deny_20 : decode (zcc mX7_deny) 20 = .ok (.invokestatic 131, 3) := by decide +kernel
theorem dX7_deny_23 : decode (zcc mX7_deny) 23 = .ok (.istore_n 3, 1) := by decide +kernel
theorem dX7_deny_24 : decode (zcc mX7_deny) 24 = .ok (.aload_n 0, 1) := by decide +kernel
theorem dX7_deny_25 : decode (zcc mX7_deny) 25 = .ok (.getfield 42, 3) := by decide +kernel
theorem dX7_deny_28 : decode (zcc mX7_deny) 28 = .ok (.iload_n 1, 1) := by decide +kernel
theorem dX7_deny_29 : decode (zcc mX7_deny) 29 = .ok (.aaload, 1) := by decide +kernel
theorem dX7_deny_30 : decode (zcc mX7_deny) 30 = .ok (.iload_n 2, 1) := by decide +kernel
theorem dX7_deny_31 : decode (zcc mX7_deny) 31 = .ok (.putfield 153, 3) := by decide +kernel
theorem dX7_deny_34 : decode (zcc mX7_deny) 34 = .ok (.aload_n 0, 1) := by decide +kernel
theorem dX7_deny_35 : decode (zcc mX7_deny) 35 = .ok (.invokevirtual 75, 3) := by decide +kernel
theorem dX7_deny_38 : decode (zcc mX7_deny) 38 = .ok (.iload_n 3, 1) := by decide +kernel
theorem dX7_deny_39 : decode (zcc mX7_deny) 39 = .ok (.ireturn, 1) := by decide +kernel
theorem dX7_leave_0 : decode (zcc mX7_leave) 0 = .ok (.aload_n 0, 1) := by decide +kernel
theorem dX7_leave_1 : decode (zcc mX7_leave) 1 = .ok (.iload_n 1, 1) := by decide +kernel
theorem dX7_leave_2 : decode (zcc mX7_leave) 2 = .ok (.invokevirtual 150, 3) := by decide +kernel
theorem dX7_leave_5 : decode (zcc mX7_leave) 5 = .ok (.ifCond .ne 6, 3) := by decide +kernel
theorem dX7_leave_8 : decode (zcc mX7_leave) 8 = .ok (.bipush (-2), 2) := by decide +kernel
theorem dX7_leave_10 : decode (zcc mX7_leave) 10 = .ok (.ireturn, 1) := by decide +kernel
theorem dX7_leave_11 : decode (zcc mX7_leave) 11 = .ok (.aload_n 0, 1) := by decide +kernel
theorem dX7_leave_12 : decode (zcc mX7_leave) 12 = .ok (.getfield 42, 3) := by decide +kernel
theorem dX7_leave_15 : decode (zcc mX7_leave) 15 = .ok (.iload_n 1, 1) := by decide +kernel
theorem dX7_leave_16 : decode (zcc mX7_leave) 16 = .ok (.aaload, 1) := by decide +kernel
theorem dX7_leave_17 : decode (zcc mX7_leave) 17 = .ok (.getfield 157, 3) := by decide +kernel
theorem dX7_leave_20 : decode (zcc mX7_leave) 20 = .ok (.invokestatic 131, 3) := by decide +kernel
theorem dX7_leave_23 : decode (zcc mX7_leave) 23 = .ok (.istore_n 3, 1) := by decide +kernel
theorem dX7_leave_24 : decode (zcc mX7_leave) 24 = .ok (.aload_n 0, 1) := by decide +kernel
theorem dX7_leave_25 : decode (zcc mX7_leave) 25 = .ok (.getfield 42, 3) := by decide +kernel
theorem dX7_leave_28 : decode (zcc mX7_leave) 28 = .ok (.iload_n 1, 1) := by decide +kernel
theorem dX7_leave_29 : decode (zcc mX7_leave) 29 = .ok (.aaload, 1) := by decide +kernel
theorem dX7_leave_30 : decode (zcc mX7_leave) 30 = .ok (.iload_n 2, 1) := by decide +kernel
theorem dX7_leave_31 : decode (zcc mX7_leave) 31 = .ok (.putfield 157, 3) := by decide +kernel
theorem dX7_leave_34 : decode (zcc mX7_leave) 34 = .ok (.aload_n 0, 1) := by decide +kernel
theorem dX7_leave_35 : decode (zcc mX7_leave) 35 = .ok (.invokevirtual 75, 3) := by decide +kernel
theorem dX7_leave_38 : decode (zcc mX7_leave) 38 = .ok (.iload_n 3, 1) := by decide +kernel
theorem dX7_leave_39 : decode (zcc mX7_leave) 39 = .ok (.ireturn, 1) := by decide +kernel
theorem dX7_solve_0 : decode (zcc mX7_solve) 0 = .ok (.aload_n 0, 1) := by decide +kernel
theorem dX7_solve_1 : decode (zcc mX7_solve) 1 = .ok (.iconst 0, 1) := by decide +kernel
end
section
theorem dX7_solve_2 : decode (zcc mX7_solve) 2 = .ok (.invokevirtual 160, 3) := by decide +kernel
theorem dX7_solve_5 : decode (zcc mX7_solve) 5 = .ok (.ireturn, 1) := by decide +kernel
theorem dX7_model_0 : decode (zcc mX7_model) 0 = .ok (.aload_n 0, 1) := by decide +kernel
theorem dX7_model_1 : decode (zcc mX7_model) 1 = .ok (.iload_n 1, 1) := by decide +kernel
theorem dX7_model_2 : decode (zcc mX7_model) 2 = .ok (.invokevirtual 160, 3) := by decide +kernel
theorem dX7_model_5 : decode (zcc mX7_model) 5 = .ok (.ireturn, 1) := by decide +kernel
theorem dX7_models_0 : decode (zcc mX7_models) 0 = .ok (.aload_n 0, 1) := by decide +kernel
theorem dX7_models_1 : decode (zcc mX7_models) 1 = .ok (.invokevirtual 164, 3) := by decide +kernel
theorem dX7_models_4 : decode (zcc mX7_models) 4 = .ok (.istore_n 1, 1) := by decide +kernel
theorem dX7_models_5 : decode (zcc mX7_models) 5 = .ok (.iconst 0, 1) := by decide +kernel
theorem dX7_models_6 : decode (zcc mX7_models) 6 = .ok (.istore_n 2, 1) := by decide +kernel
theorem dX7_models_7 : decode (zcc mX7_models) 7 = .ok (.iconst 0, 1) := by decide +kernel
theorem dX7_models_8 : decode (zcc mX7_models) 8 = .ok (.istore_n 3, 1) := by decide +kernel
theorem dX7_models_9 : decode (zcc mX7_models) 9 = .ok (.iload_n 3, 1) := by decide +kernel
theorem dX7_models_10 : decode (zcc mX7_models) 10 = .ok (.bipush 125, 2) := by decide +kernel
theorem dX7_models_12 : decode (zcc mX7_models) 12 = .ok (.if_icmp .ge 21, 3) := by decide +kernel
theorem dX7_models_15 : decode (zcc mX7_models) 15 = .ok (.iload_n 2, 1) := by decide +kernel
theorem dX7_models_16 : decode (zcc mX7_models) 16 = .ok (.aload_n 0, 1) := by decide +kernel
theorem dX7_models_17 : decode (zcc mX7_models) 17 = .ok (.iload_n 3, 1) := by decide +kernel
theorem dX7_models_18 : decode (zcc mX7_models) 18 = .ok (.iload_n 1, 1) := by decide +kernel
theorem dX7_models_19 : decode (zcc mX7_models) 19 = .ok (.invokevirtual 168, 3) := by decide +kernel
theorem dX7_models_22 : decode (zcc mX7_models) 22 = .ok (.invokestatic 172, 3) := by decide +kernel
theorem dX7_models_25 : decode (zcc mX7_models) 25 = .ok (.iadd, 1) := by decide +kernel
theorem dX7_models_26 : decode (zcc mX7_models) 26 = .ok (.istore_n 2, 1) := by decide +kernel
theorem dX7_models_27 : decode (zcc mX7_models) 27 = .ok (.iinc 3 1, 3) := by decide +kernel
theorem dX7_models_30 : decode (zcc mX7_models) 30 = .ok (.goto (-21), 3) := by decide +kernel
theorem dX7_models_33 : decode (zcc mX7_models) 33 = .ok (.iload_n 2, 1) := by decide +kernel
theorem dX7_models_34 : decode (zcc mX7_models) 34 = .ok (.ireturn, 1) := by decide +kernel
theorem dX7_length_0 : decode (zcc mX7_length) 0 = .ok (.aload_n 0, 1) := by decide +kernel
theorem dX7_length_1 : decode (zcc mX7_length) 1 = .ok (.getfield 12, 3) := by decide +kernel
theorem dX7_length_4 : decode (zcc mX7_length) 4 = .ok (.iload_n 1, 1) := by decide +kernel
theorem dX7_length_5 : decode (zcc mX7_length) 5 = .ok (.invokevirtual 96, 3) := by decide +kernel
theorem dX7_length_8 : decode (zcc mX7_length) 8 = .ok (.ifCond .ne 6, 3) := by decide +kernel
theorem dX7_length_11 : decode (zcc mX7_length) 11 = .ok (.bipush (-2), 2) := by decide +kernel
theorem dX7_length_13 : decode (zcc mX7_length) 13 = .ok (.ireturn, 1) := by decide +kernel
theorem dX7_length_14 : decode (zcc mX7_length) 14 = .ok (.aload_n 0, 1) := by decide +kernel
theorem dX7_length_15 : decode (zcc mX7_length) 15 = .ok (.getfield 178, 3) := by decide +kernel
theorem dX7_length_18 : decode (zcc mX7_length) 18 = .ok (.ifCond .eq 14, 3) := by decide +kernel
theorem dX7_length_21 : decode (zcc mX7_length) 21 = .ok (.aload_n 0, 1) := by decide +kernel
theorem dX7_length_22 : decode (zcc mX7_length) 22 = .ok (.getfield 25, 3) := by decide +kernel
theorem dX7_length_25 : decode (zcc mX7_length) 25 = .ok (.iload_n 1, 1) := by decide +kernel
theorem dX7_length_26 : decode (zcc mX7_length) 26 = .ok (.invokevirtual 181, 3) := by decide +kernel
theorem dX7_length_29 : decode (zcc mX7_length) 29 = .ok (.goto 5, 3) := by decide +kernel
theorem dX7_length_32 : decode (zcc mX7_length) 32 = .ok (.bipush (-4), 2) := by decide +kernel
theorem dX7_length_34 : decode (zcc mX7_length) 34 = .ok (.ireturn, 1) := by decide +kernel
theorem dX7_letter_0 : decode (zcc mX7_letter) 0 = .ok (.aload_n 0, 1) := by decide +kernel
theorem dX7_letter_1 : decode (zcc mX7_letter) 1 = .ok (.getfield 12, 3) := by decide +kernel
theorem dX7_letter_4 : decode (zcc mX7_letter) 4 = .ok (.iload_n 1, 1) := by decide +kernel
theorem dX7_letter_5 : decode (zcc mX7_letter) 5 = .ok (.invokevirtual 96, 3) := by decide +kernel
theorem dX7_letter_8 : decode (zcc mX7_letter) 8 = .ok (.ifCond .ne 6, 3) := by decide +kernel
theorem dX7_letter_11 : decode (zcc mX7_letter) 11 = .ok (.bipush (-2), 2) := by decide +kernel
theorem dX7_letter_13 : decode (zcc mX7_letter) 13 = .ok (.ireturn, 1) := by decide +kernel
theorem dX7_letter_14 : decode (zcc mX7_letter) 14 = .ok (.aload_n 0, 1) := by decide +kernel
theorem dX7_letter_15 : decode (zcc mX7_letter) 15 = .ok (.getfield 178, 3) := by decide +kernel
theorem dX7_letter_18 : decode (zcc mX7_letter) 18 = .ok (.ifCond .eq 15, 3) := by decide +kernel
theorem dX7_letter_21 : decode (zcc mX7_letter) 21 = .ok (.aload_n 0, 1) := by decide +kernel
theorem dX7_letter_22 : decode (zcc mX7_letter) 22 = .ok (.getfield 25, 3) := by decide +kernel
theorem dX7_letter_25 : decode (zcc mX7_letter) 25 = .ok (.iload_n 1, 1) := by decide +kernel
theorem dX7_letter_26 : decode (zcc mX7_letter) 26 = .ok (.iload_n 2, 1) := by decide +kernel
theorem dX7_letter_27 : decode (zcc mX7_letter) 27 = .ok (.invokevirtual 184, 3) := by decide +kernel
theorem dX7_letter_30 : decode (zcc mX7_letter) 30 = .ok (.goto 5, 3) := by decide +kernel
theorem dX7_letter_33 : decode (zcc mX7_letter) 33 = .ok (.bipush (-4), 2) := by decide +kernel
theorem dX7_letter_35 : decode (zcc mX7_letter) 35 = .ok (.ireturn, 1) := by decide +kernel
theorem dX7_holds_0 : decode (zcc mX7_holds) 0 = .ok (.aload_n 0, 1) := by decide +kernel
theorem dX7_holds_1 : decode (zcc mX7_holds) 1 = .ok (.iload_n 1, 1) := by decide +kernel
theorem dX7_holds_2 : decode (zcc mX7_holds) 2 = .ok (.invokevirtual 150, 3) := by decide +kernel
theorem dX7_holds_5 : decode (zcc mX7_holds) 5 = .ok (.ifCond .ne 6, 3) := by decide +kernel
theorem dX7_holds_8 : decode (zcc mX7_holds) 8 = .ok (.bipush (-2), 2) := by decide +kernel
theorem dX7_holds_10 : decode (zcc mX7_holds) 10 = .ok (.ireturn, 1) := by decide +kernel
theorem dX7_holds_11 : decode (zcc mX7_holds) 11 = .ok (.aload_n 0, 1) := by decide +kernel
theorem dX7_holds_12 : decode (zcc mX7_holds) 12 = .ok (.getfield 178, 3) := by decide +kernel
theorem dX7_holds_15 : decode (zcc mX7_holds) 15 = .ok (.ifCond .eq 26, 3) := by decide +kernel
theorem dX7_holds_18 : decode (zcc mX7_holds) 18 = .ok (.aload_n 0, 1) := by decide +kernel
theorem dX7_holds_19 : decode (zcc mX7_holds) 19 = .ok (.getfield 51, 3) := by decide +kernel
theorem dX7_holds_22 : decode (zcc mX7_holds) 22 = .ok (.aload_n 0, 1) := by decide +kernel
theorem dX7_holds_23 : decode (zcc mX7_holds) 23 = .ok (.getfield 42, 3) := by decide +kernel
theorem dX7_holds_26 : decode (zcc mX7_holds) 26 = .ok (.iload_n 1, 1) := by decide +kernel
theorem dX7_holds_27 : decode (zcc mX7_holds) 27 = .ok (.aaload, 1) := by decide +kernel
theorem dX7_holds_28 : decode (zcc mX7_holds) 28 = .ok (.aload_n 0, 1) := by decide +kernel
theorem dX7_holds_29 : decode (zcc mX7_holds) 29 = .ok (.getfield 25, 3) := by decide +kernel
theorem dX7_holds_32 : decode (zcc mX7_holds) 32 = .ok (.invokevirtual 187, 3) := by decide +kernel
theorem dX7_holds_35 : decode (zcc mX7_holds) 35 = .ok (.invokestatic 131, 3) := by decide +kernel
theorem dX7_holds_38 : decode (zcc mX7_holds) 38 = .ok (.goto 5, 3) := by decide +kernel
theorem dX7_holds_41 : decode (zcc mX7_holds) 41 = .ok (.bipush (-4), 2) := by decide +kernel
theorem dX7_holds_43 : decode (zcc mX7_holds) 43 = .ok (.ireturn, 1) := by decide +kernel
theorem dX7_core_0 : decode (zcc mX7_core) 0 = .ok (.aload_n 0, 1) := by decide +kernel
theorem dX7_core_1 : decode (zcc mX7_core) 1 = .ok (.invokevirtual 164, 3) := by decide +kernel
theorem dX7_core_4 : decode (zcc mX7_core) 4 = .ok (.istore_n 1, 1) := by decide +kernel
theorem dX7_core_5 : decode (zcc mX7_core) 5 = .ok (.aload_n 0, 1) := by decide +kernel
theorem dX7_core_6 : decode (zcc mX7_core) 6 = .ok (.iload_n 1, 1) := by decide +kernel
theorem dX7_core_7 : decode (zcc mX7_core) 7 = .ok (.invokevirtual 191, 3) := by decide +kernel
theorem dX7_core_10 : decode (zcc mX7_core) 10 = .ok (.ifCond .eq 6, 3) := by decide +kernel
theorem dX7_core_13 : decode (zcc mX7_core) 13 = .ok (.bipush (-4), 2) := by decide +kernel
theorem dX7_core_15 : decode (zcc mX7_core) 15 = .ok (.ireturn, 1) := by decide +kernel
theorem dX7_core_16 : decode (zcc mX7_core) 16 = .ok (.aload_n 0, 1) := by decide +kernel
theorem dX7_core_17 : decode (zcc mX7_core) 17 = .ok (.getfield 58, 3) := by decide +kernel
theorem dX7_core_20 : decode (zcc mX7_core) 20 = .ok (.iconst 1, 1) := by decide +kernel
theorem dX7_core_21 : decode (zcc mX7_core) 21 = .ok (.isub, 1) := by decide +kernel
theorem dX7_core_22 : decode (zcc mX7_core) 22 = .ok (.istore_n 2, 1) := by decide +kernel
theorem dX7_core_23 : decode (zcc mX7_core) 23 = .ok (.iload_n 2, 1) := by decide +kernel
theorem dX7_core_24 : decode (zcc mX7_core) 24 = .ok (.ifCond .lt 27, 3) := by decide +kernel
theorem dX7_core_27 : decode (zcc mX7_core) 27 = .ok (.iload_n 1, 1) := by decide +kernel
theorem dX7_core_28 : decode (zcc mX7_core) 28 = .ok (.iconst 1, 1) := by decide +kernel
theorem dX7_core_29 : decode (zcc mX7_core) 29 = .ok (.iload_n 2, 1) := by decide +kernel
theorem dX7_core_30 : decode (zcc mX7_core) 30 = .ok (.ishl, 1) := by decide +kernel
theorem dX7_core_31 : decode (zcc mX7_core) 31 = .ok (.iconst (-1), 1) := by decide +kernel
theorem dX7_core_32 : decode (zcc mX7_core) 32 = .ok (.ixor, 1) := by decide +kernel
theorem dX7_core_33 : decode (zcc mX7_core) 33 = .ok (.iand, 1) := by decide +kernel
theorem dX7_core_34 : decode (zcc mX7_core) 34 = .ok (.istore_n 3, 1) := by decide +kernel
theorem dX7_core_35 : decode (zcc mX7_core) 35 = .ok (.aload_n 0, 1) := by decide +kernel
theorem dX7_core_36 : decode (zcc mX7_core) 36 = .ok (.iload_n 3, 1) := by decide +kernel
theorem dX7_core_37 : decode (zcc mX7_core) 37 = .ok (.invokevirtual 191, 3) := by decide +kernel
theorem dX7_core_40 : decode (zcc mX7_core) 40 = .ok (.ifCond .ne 5, 3) := by decide +kernel
theorem dX7_core_43 : decode (zcc mX7_core) 43 = .ok (.iload_n 3, 1) := by decide +kernel
theorem dX7_core_44 : decode (zcc mX7_core) 44 = .ok (.istore_n 1, 1) := by decide +kernel
theorem dX7_core_45 : decode (zcc mX7_core) 45 = .ok (.iinc 2 (-1), 3) := by decide +kernel
theorem dX7_core_48 : decode (zcc mX7_core) 48 = .ok (.goto (-25), 3) := by decide +kernel
theorem dX7_core_51 : decode (zcc mX7_core) 51 = .ok (.aload_n 0, 1) := by decide +kernel
theorem dX7_core_52 : decode (zcc mX7_core) 52 = .ok (.iload_n 1, 1) := by decide +kernel
theorem dX7_core_53 : decode (zcc mX7_core) 53 = .ok (.putfield 194, 3) := by decide +kernel
theorem dX7_core_56 : decode (zcc mX7_core) 56 = .ok (.aload_n 0, 1) := by decide +kernel
theorem dX7_core_57 : decode (zcc mX7_core) 57 = .ok (.iconst 1, 1) := by decide +kernel
theorem dX7_core_58 : decode (zcc mX7_core) 58 = .ok (.putfield 197, 3) := by decide +kernel
theorem dX7_core_61 : decode (zcc mX7_core) 61 = .ok (.iload_n 1, 1) := by decide +kernel
theorem dX7_core_62 : decode (zcc mX7_core) 62 = .ok (.invokestatic 200, 3) := by decide +kernel
theorem dX7_core_65 : decode (zcc mX7_core) 65 = .ok (.ireturn, 1) := by decide +kernel
theorem dX7_inCore_0 : decode (zcc mX7_inCore) 0 = .ok (.aload_n 0, 1) := by decide +kernel
theorem dX7_inCore_1 : decode (zcc mX7_inCore) 1 = .ok (.iload_n 1, 1) := by decide +kernel
theorem dX7_inCore_2 : decode (zcc mX7_inCore) 2 = .ok (.invokevirtual 150, 3) := by decide +kernel
theorem dX7_inCore_5 : decode (zcc mX7_inCore) 5 = .ok (.ifCond .ne 6, 3) := by decide +kernel
theorem dX7_inCore_8 : decode (zcc mX7_inCore) 8 = .ok (.bipush (-2), 2) := by decide +kernel
theorem dX7_inCore_10 : decode (zcc mX7_inCore) 10 = .ok (.ireturn, 1) := by decide +kernel
theorem dX7_inCore_11 : decode (zcc mX7_inCore) 11 = .ok (.aload_n 0, 1) := by decide +kernel
theorem dX7_inCore_12 : decode (zcc mX7_inCore) 12 = .ok (.getfield 197, 3) := by decide +kernel
theorem dX7_inCore_15 : decode (zcc mX7_inCore) 15 = .ok (.ifCond .eq 17, 3) := by decide +kernel
theorem dX7_inCore_18 : decode (zcc mX7_inCore) 18 = .ok (.aload_n 0, 1) := by decide +kernel
theorem dX7_inCore_19 : decode (zcc mX7_inCore) 19 = .ok (.getfield 194, 3) := by decide +kernel
theorem dX7_inCore_22 : decode (zcc mX7_inCore) 22 = .ok (.iload_n 1, 1) := by decide +kernel
theorem dX7_inCore_23 : decode (zcc mX7_inCore) 23 = .ok (.invokestatic 204, 3) := by decide +kernel
theorem dX7_inCore_26 : decode (zcc mX7_inCore) 26 = .ok (.invokestatic 131, 3) := by decide +kernel
theorem dX7_inCore_29 : decode (zcc mX7_inCore) 29 = .ok (.goto 5, 3) := by decide +kernel
theorem dX7_inCore_32 : decode (zcc mX7_inCore) 32 = .ok (.bipush (-4), 2) := by decide +kernel
theorem dX7_inCore_34 : decode (zcc mX7_inCore) 34 = .ok (.ireturn, 1) := by decide +kernel
theorem dX7_spans_0 : decode (zcc mX7_spans) 0 = .ok (.iconst 0, 1) := by decide +kernel
theorem dX7_spans_1 : decode (zcc mX7_spans) 1 = .ok (.istore_n 1, 1) := by decide +kernel
theorem dX7_spans_2 : decode (zcc mX7_spans) 2 = .ok (.aload_n 0, 1) := by decide +kernel
theorem dX7_spans_3 : decode (zcc mX7_spans) 3 = .ok (.getfield 21, 3) := by decide +kernel
theorem dX7_spans_6 : decode (zcc mX7_spans) 6 = .ok (.invokevirtual 208, 3) := by decide +kernel
theorem dX7_spans_9 : decode (zcc mX7_spans) 9 = .ok (.aload_n 0, 1) := by decide +kernel
theorem dX7_spans_10 : decode (zcc mX7_spans) 10 = .ok (.getfield 12, 3) := by decide +kernel
theorem dX7_spans_13 : decode (zcc mX7_spans) 13 = .ok (.invokevirtual 209, 3) := by decide +kernel
theorem dX7_spans_16 : decode (zcc mX7_spans) 16 = .ok (.istore_n 2, 1) := by decide +kernel
theorem dX7_spans_17 : decode (zcc mX7_spans) 17 = .ok (.iconst 0, 1) := by decide +kernel
theorem dX7_spans_18 : decode (zcc mX7_spans) 18 = .ok (.istore_n 3, 1) := by decide +kernel
theorem dX7_spans_19 : decode (zcc mX7_spans) 19 = .ok (.iload_n 3, 1) := by decide +kernel
theorem dX7_spans_20 : decode (zcc mX7_spans) 20 = .ok (.iload_n 2, 1) := by decide +kernel
theorem dX7_spans_21 : decode (zcc mX7_spans) 21 = .ok (.if_icmp .ge 26, 3) := by decide +kernel
theorem dX7_spans_24 : decode (zcc mX7_spans) 24 = .ok (.aload_n 0, 1) := by decide +kernel
theorem dX7_spans_25 : decode (zcc mX7_spans) 25 = .ok (.invokevirtual 212, 3) := by decide +kernel
theorem dX7_spans_28 : decode (zcc mX7_spans) 28 = .ok (.ifCond .eq 6, 3) := by decide +kernel
theorem dX7_spans_31 : decode (zcc mX7_spans) 31 = .ok (.iinc 1 1, 3) := by decide +kernel
theorem dX7_spans_34 : decode (zcc mX7_spans) 34 = .ok (.aload_n 0, 1) := by decide +kernel
theorem dX7_spans_35 : decode (zcc mX7_spans) 35 = .ok (.getfield 21, 3) := by decide +kernel
theorem dX7_spans_38 : decode (zcc mX7_spans) 38 = .ok (.invokevirtual 216, 3) := by decide +kernel
theorem dX7_spans_41 : decode (zcc mX7_spans) 41 = .ok (.iinc 3 1, 3) := by decide +kernel
theorem dX7_spans_44 : decode (zcc mX7_spans) 44 = .ok (.goto (-25), 3) := by decide +kernel
theorem dX7_spans_47 : decode (zcc mX7_spans) 47 = .ok (.iload_n 1, 1) := by decide +kernel
theorem dX7_spans_48 : decode (zcc mX7_spans) 48 = .ok (.ireturn, 1) := by decide +kernel
theorem dX7_meet_0 : decode (zcc mX7_meet) 0 = .ok (.aload_n 0, 1) := by decide +kernel
theorem dX7_meet_1 : decode (zcc mX7_meet) 1 = .ok (.iload_n 1, 1) := by decide +kernel
theorem dX7_meet_2 : decode (zcc mX7_meet) 2 = .ok (.invokevirtual 111, 3) := by decide +kernel
theorem dX7_meet_5 : decode (zcc mX7_meet) 5 = .ok (.ifCond .eq 11, 3) := by decide +kernel
theorem dX7_meet_8 : decode (zcc mX7_meet) 8 = .ok (.aload_n 0, 1) := by decide +kernel
theorem dX7_meet_9 : decode (zcc mX7_meet) 9 = .ok (.iload_n 2, 1) := by decide +kernel
theorem dX7_meet_10 : decode (zcc mX7_meet) 10 = .ok (.invokevirtual 111, 3) := by decide +kernel
theorem dX7_meet_13 : decode (zcc mX7_meet) 13 = .ok (.ifCond .ne 6, 3) := by decide +kernel
theorem dX7_meet_16 : decode (zcc mX7_meet) 16 = .ok (.bipush (-2), 2) := by decide +kernel
theorem dX7_meet_18 : decode (zcc mX7_meet) 18 = .ok (.ireturn, 1) := by decide +kernel
theorem dX7_meet_19 : decode (zcc mX7_meet) 19 = .ok (.aload_n 0, 1) := by decide +kernel
theorem dX7_meet_20 : decode (zcc mX7_meet) 20 = .ok (.getfield 36, 3) := by decide +kernel
theorem dX7_meet_23 : decode (zcc mX7_meet) 23 = .ok (.iload_n 1, 1) := by decide +kernel
theorem dX7_meet_24 : decode (zcc mX7_meet) 24 = .ok (.aaload, 1) := by decide +kernel
theorem dX7_meet_25 : decode (zcc mX7_meet) 25 = .ok (.aload_n 0, 1) := by decide +kernel
theorem dX7_meet_26 : decode (zcc mX7_meet) 26 = .ok (.getfield 36, 3) := by decide +kernel
theorem dX7_meet_29 : decode (zcc mX7_meet) 29 = .ok (.iload_n 2, 1) := by decide +kernel
theorem dX7_meet_30 : decode (zcc mX7_meet) 30 = .ok (.aaload, 1) := by decide +kernel
theorem dX7_meet_31 : decode (zcc mX7_meet) 31 = .ok (.aload_n 0, 1) := by decide +kernel
theorem dX7_meet_32 : decode (zcc mX7_meet) 32 = .ok (.getfield 12, 3) := by decide +kernel
theorem dX7_meet_35 : decode (zcc mX7_meet) 35 = .ok (.getfield 219, 3) := by decide +kernel
theorem dX7_meet_38 : decode (zcc mX7_meet) 38 = .ok (.invokevirtual 222, 3) := by decide +kernel
theorem dX7_meet_41 : decode (zcc mX7_meet) 41 = .ok (.ireturn, 1) := by decide +kernel
theorem dX7_told_0 : decode (zcc mX7_told) 0 = .ok (.iload_n 1, 1) := by decide +kernel
theorem dX7_told_1 : decode (zcc mX7_told) 1 = .ok (.tableswitch 90 0 6 #[43, 51, 59, 64, 69, 74, 82], 43) := by decide +kernel
theorem dX7_told_44 : decode (zcc mX7_told) 44 = .ok (.aload_n 0, 1) := by decide +kernel
theorem dX7_told_45 : decode (zcc mX7_told) 45 = .ok (.getfield 12, 3) := by decide +kernel
theorem dX7_told_48 : decode (zcc mX7_told) 48 = .ok (.getfield 219, 3) := by decide +kernel
theorem dX7_told_51 : decode (zcc mX7_told) 51 = .ok (.ireturn, 1) := by decide +kernel
theorem dX7_told_52 : decode (zcc mX7_told) 52 = .ok (.aload_n 0, 1) := by decide +kernel
theorem dX7_told_53 : decode (zcc mX7_told) 53 = .ok (.getfield 12, 3) := by decide +kernel
theorem dX7_told_56 : decode (zcc mX7_told) 56 = .ok (.getfield 85, 3) := by decide +kernel
theorem dX7_told_59 : decode (zcc mX7_told) 59 = .ok (.ireturn, 1) := by decide +kernel
theorem dX7_told_60 : decode (zcc mX7_told) 60 = .ok (.aload_n 0, 1) := by decide +kernel
theorem dX7_told_61 : decode (zcc mX7_told) 61 = .ok (.getfield 66, 3) := by decide +kernel
theorem dX7_told_64 : decode (zcc mX7_told) 64 = .ok (.ireturn, 1) := by decide +kernel
theorem dX7_told_65 : decode (zcc mX7_told) 65 = .ok (.aload_n 0, 1) := by decide +kernel
theorem dX7_told_66 : decode (zcc mX7_told) 66 = .ok (.getfield 69, 3) := by decide +kernel
theorem dX7_told_69 : decode (zcc mX7_told) 69 = .ok (.ireturn, 1) := by decide +kernel
theorem dX7_told_70 : decode (zcc mX7_told) 70 = .ok (.aload_n 0, 1) := by decide +kernel
theorem dX7_told_71 : decode (zcc mX7_told) 71 = .ok (.getfield 58, 3) := by decide +kernel
theorem dX7_told_74 : decode (zcc mX7_told) 74 = .ok (.ireturn, 1) := by decide +kernel
theorem dX7_told_75 : decode (zcc mX7_told) 75 = .ok (.aload_n 0, 1) := by decide +kernel
theorem dX7_told_76 : decode (zcc mX7_told) 76 = .ok (.getfield 12, 3) := by decide +kernel
theorem dX7_told_79 : decode (zcc mX7_told) 79 = .ok (.getfield 226, 3) := by decide +kernel
theorem dX7_told_82 : decode (zcc mX7_told) 82 = .ok (.ireturn, 1) := by decide +kernel
theorem dX7_told_83 : decode (zcc mX7_told) 83 = .ok (.aload_n 0, 1) := by decide +kernel
theorem dX7_told_84 : decode (zcc mX7_told) 84 = .ok (.getfield 178, 3) := by decide +kernel
theorem dX7_told_87 : decode (zcc mX7_told) 87 = .ok (.invokestatic 131, 3) := by decide +kernel
theorem dX7_told_90 : decode (zcc mX7_told) 90 = .ok (.ireturn, 1) := by decide +kernel
theorem dX7_told_91 : decode (zcc mX7_told) 91 = .ok (.bipush (-3), 2) := by decide +kernel
theorem dX7_told_93 : decode (zcc mX7_told) 93 = .ok (.ireturn, 1) := by decide +kernel
theorem dX7_asNumber_0 : decode (zcc mX7_asNumber) 0 = .ok (.iload_n 0, 1) := by decide +kernel
theorem dX7_asNumber_1 : decode (zcc mX7_asNumber) 1 = .ok (.ifCond .eq 7, 3) := by decide +kernel
theorem dX7_asNumber_4 : decode (zcc mX7_asNumber) 4 = .ok (.iconst 1, 1) := by decide +kernel
theorem dX7_asNumber_5 : decode (zcc mX7_asNumber) 5 = .ok (.goto 4, 3) := by decide +kernel
theorem dX7_asNumber_8 : decode (zcc mX7_asNumber) 8 = .ok (.iconst 0, 1) := by decide +kernel
theorem dX7_asNumber_9 : decode (zcc mX7_asNumber) 9 = .ok (.ireturn, 1) := by decide +kernel
theorem dX7_isIn_0 : decode (zcc mX7_isIn) 0 = .ok (.iload_n 0, 1) := by decide +kernel
theorem dX7_isIn_1 : decode (zcc mX7_isIn) 1 = .ok (.iload_n 1, 1) := by decide +kernel
theorem dX7_isIn_2 : decode (zcc mX7_isIn) 2 = .ok (.ishr, 1) := by decide +kernel
theorem dX7_isIn_3 : decode (zcc mX7_isIn) 3 = .ok (.iconst 1, 1) := by decide +kernel
theorem dX7_isIn_4 : decode (zcc mX7_isIn) 4 = .ok (.iand, 1) := by decide +kernel
theorem dX7_isIn_5 : decode (zcc mX7_isIn) 5 = .ok (.ifCond .eq 7, 3) := by decide +kernel
theorem dX7_isIn_8 : decode (zcc mX7_isIn) 8 = .ok (.iconst 1, 1) := by decide +kernel
theorem dX7_isIn_9 : decode (zcc mX7_isIn) 9 = .ok (.goto 4, 3) := by decide +kernel
theorem dX7_isIn_12 : decode (zcc mX7_isIn) 12 = .ok (.iconst 0, 1) := by decide +kernel
theorem dX7_isIn_13 : decode (zcc mX7_isIn) 13 = .ok (.ireturn, 1) := by decide +kernel
theorem dX7_isTerm_0 : decode (zcc mX7_isTerm) 0 = .ok (.iload_n 1, 1) := by decide +kernel
theorem dX7_isTerm_1 : decode (zcc mX7_isTerm) 1 = .ok (.ifCond .lt 15, 3) := by decide +kernel
theorem dX7_isTerm_4 : decode (zcc mX7_isTerm) 4 = .ok (.iload_n 1, 1) := by decide +kernel
theorem dX7_isTerm_5 : decode (zcc mX7_isTerm) 5 = .ok (.aload_n 0, 1) := by decide +kernel
theorem dX7_isTerm_6 : decode (zcc mX7_isTerm) 6 = .ok (.getfield 66, 3) := by decide +kernel
theorem dX7_isTerm_9 : decode (zcc mX7_isTerm) 9 = .ok (.if_icmp .ge 7, 3) := by decide +kernel
theorem dX7_isTerm_12 : decode (zcc mX7_isTerm) 12 = .ok (.iconst 1, 1) := by decide +kernel
theorem dX7_isTerm_13 : decode (zcc mX7_isTerm) 13 = .ok (.goto 4, 3) := by decide +kernel
theorem dX7_isTerm_16 : decode (zcc mX7_isTerm) 16 = .ok (.iconst 0, 1) := by decide +kernel
theorem dX7_isTerm_17 : decode (zcc mX7_isTerm) 17 = .ok (.ireturn, 1) := by decide +kernel
theorem dX7_isMachine_0 : decode (zcc mX7_isMachine) 0 = .ok (.iload_n 1, 1) := by decide +kernel
theorem dX7_isMachine_1 : decode (zcc mX7_isMachine) 1 = .ok (.ifCond .lt 15, 3) := by decide +kernel
theorem dX7_isMachine_4 : decode (zcc mX7_isMachine) 4 = .ok (.iload_n 1, 1) := by decide +kernel
theorem dX7_isMachine_5 : decode (zcc mX7_isMachine) 5 = .ok (.aload_n 0, 1) := by decide +kernel
theorem dX7_isMachine_6 : decode (zcc mX7_isMachine) 6 = .ok (.getfield 69, 3) := by decide +kernel
theorem dX7_isMachine_9 : decode (zcc mX7_isMachine) 9 = .ok (.if_icmp .ge 7, 3) := by decide +kernel
theorem dX7_isMachine_12 : decode (zcc mX7_isMachine) 12 = .ok (.iconst 1, 1) := by decide +kernel
theorem dX7_isMachine_13 : decode (zcc mX7_isMachine) 13 = .ok (.goto 4, 3) := by decide +kernel
theorem dX7_isMachine_16 : decode (zcc mX7_isMachine) 16 = .ok (.iconst 0, 1) := by decide +kernel
theorem dX7_isMachine_17 : decode (zcc mX7_isMachine) 17 = .ok (.ireturn, 1) := by decide +kernel
theorem dX7_isFormula_0 : decode (zcc mX7_isFormula) 0 = .ok (.iload_n 1, 1) := by decide +kernel
theorem dX7_isFormula_1 : decode (zcc mX7_isFormula) 1 = .ok (.ifCond .lt 15, 3) := by decide +kernel
theorem dX7_isFormula_4 : decode (zcc mX7_isFormula) 4 = .ok (.iload_n 1, 1) := by decide +kernel
theorem dX7_isFormula_5 : decode (zcc mX7_isFormula) 5 = .ok (.aload_n 0, 1) := by decide +kernel
theorem dX7_isFormula_6 : decode (zcc mX7_isFormula) 6 = .ok (.getfield 58, 3) := by decide +kernel
theorem dX7_isFormula_9 : decode (zcc mX7_isFormula) 9 = .ok (.if_icmp .ge 7, 3) := by decide +kernel
theorem dX7_isFormula_12 : decode (zcc mX7_isFormula) 12 = .ok (.iconst 1, 1) := by decide +kernel
theorem dX7_isFormula_13 : decode (zcc mX7_isFormula) 13 = .ok (.goto 4, 3) := by decide +kernel
theorem dX7_isFormula_16 : decode (zcc mX7_isFormula) 16 = .ok (.iconst 0, 1) := by decide +kernel
theorem dX7_isFormula_17 : decode (zcc mX7_isFormula) 17 = .ok (.ireturn, 1) := by decide +kernel
theorem dX7_areOthersKnown_0 : decode (zcc mX7_areOthersKnown) 0 = .ok (.iload_n 1, 1) := by decide +kernel
theorem dX7_areOthersKnown_1 : decode (zcc mX7_areOthersKnown) 1 = .ok (.tableswitch 97 1 6 #[39, 58, 97, 97, 64, 66], 39) := by decide +kernel
theorem dX7_areOthersKnown_40 : decode (zcc mX7_areOthersKnown) 40 = .ok (.iload_n 2, 1) := by decide +kernel
theorem dX7_areOthersKnown_41 : decode (zcc mX7_areOthersKnown) 41 = .ok (.iconst (-1), 1) := by decide +kernel
theorem dX7_areOthersKnown_42 : decode (zcc mX7_areOthersKnown) 42 = .ok (.if_icmp .eq 11, 3) := by decide +kernel
theorem dX7_areOthersKnown_45 : decode (zcc mX7_areOthersKnown) 45 = .ok (.aload_n 0, 1) := by decide +kernel
theorem dX7_areOthersKnown_46 : decode (zcc mX7_areOthersKnown) 46 = .ok (.iload_n 2, 1) := by decide +kernel
theorem dX7_areOthersKnown_47 : decode (zcc mX7_areOthersKnown) 47 = .ok (.invokevirtual 90, 3) := by decide +kernel
theorem dX7_areOthersKnown_50 : decode (zcc mX7_areOthersKnown) 50 = .ok (.ifCond .eq 7, 3) := by decide +kernel
theorem dX7_areOthersKnown_53 : decode (zcc mX7_areOthersKnown) 53 = .ok (.iconst 1, 1) := by decide +kernel
theorem dX7_areOthersKnown_54 : decode (zcc mX7_areOthersKnown) 54 = .ok (.goto 4, 3) := by decide +kernel
theorem dX7_areOthersKnown_57 : decode (zcc mX7_areOthersKnown) 57 = .ok (.iconst 0, 1) := by decide +kernel
theorem dX7_areOthersKnown_58 : decode (zcc mX7_areOthersKnown) 58 = .ok (.ireturn, 1) := by decide +kernel
theorem dX7_areOthersKnown_59 : decode (zcc mX7_areOthersKnown) 59 = .ok (.aload_n 0, 1) := by decide +kernel
theorem dX7_areOthersKnown_60 : decode (zcc mX7_areOthersKnown) 60 = .ok (.iload_n 2, 1) := by decide +kernel
theorem dX7_areOthersKnown_61 : decode (zcc mX7_areOthersKnown) 61 = .ok (.invokevirtual 111, 3) := by decide +kernel
theorem dX7_areOthersKnown_64 : decode (zcc mX7_areOthersKnown) 64 = .ok (.ireturn, 1) := by decide +kernel
theorem dX7_areOthersKnown_65 : decode (zcc mX7_areOthersKnown) 65 = .ok (.iconst 1, 1) := by decide +kernel
theorem dX7_areOthersKnown_66 : decode (zcc mX7_areOthersKnown) 66 = .ok (.ireturn, 1) := by decide +kernel
theorem dX7_areOthersKnown_67 : decode (zcc mX7_areOthersKnown) 67 = .ok (.aload_n 0, 1) := by decide +kernel
theorem dX7_areOthersKnown_68 : decode (zcc mX7_areOthersKnown) 68 = .ok (.iload_n 2, 1) := by decide +kernel
theorem dX7_areOthersKnown_69 : decode (zcc mX7_areOthersKnown) 69 = .ok (.invokevirtual 90, 3) := by decide +kernel
theorem dX7_areOthersKnown_72 : decode (zcc mX7_areOthersKnown) 72 = .ok (.ifCond .eq 24, 3) := by decide +kernel
theorem dX7_areOthersKnown_75 : decode (zcc mX7_areOthersKnown) 75 = .ok (.aload_n 0, 1) := by decide +kernel
theorem dX7_areOthersKnown_76 : decode (zcc mX7_areOthersKnown) 76 = .ok (.iload_n 3, 1) := by decide +kernel
theorem dX7_areOthersKnown_77 : decode (zcc mX7_areOthersKnown) 77 = .ok (.invokevirtual 90, 3) := by decide +kernel
theorem dX7_areOthersKnown_80 : decode (zcc mX7_areOthersKnown) 80 = .ok (.ifCond .eq 16, 3) := by decide +kernel
theorem dX7_areOthersKnown_83 : decode (zcc mX7_areOthersKnown) 83 = .ok (.aload_n 0, 1) := by decide +kernel
theorem dX7_areOthersKnown_84 : decode (zcc mX7_areOthersKnown) 84 = .ok (.iload 4, 2) := by decide +kernel
theorem dX7_areOthersKnown_86 : decode (zcc mX7_areOthersKnown) 86 = .ok (.invokevirtual 90, 3) := by decide +kernel
theorem dX7_areOthersKnown_89 : decode (zcc mX7_areOthersKnown) 89 = .ok (.ifCond .eq 7, 3) := by decide +kernel
theorem dX7_areOthersKnown_92 : decode (zcc mX7_areOthersKnown) 92 = .ok (.iconst 1, 1) := by decide +kernel
theorem dX7_areOthersKnown_93 : decode (zcc mX7_areOthersKnown) 93 = .ok (.goto 4, 3) := by decide +kernel
theorem dX7_areOthersKnown_96 : decode (zcc mX7_areOthersKnown) 96 = .ok (.iconst 0, 1) := by decide +kernel
theorem dX7_areOthersKnown_97 : decode (zcc mX7_areOthersKnown) 97 = .ok (.ireturn, 1) := by decide +kernel
theorem dX7_areOthersKnown_98 : decode (zcc mX7_areOthersKnown) 98 = .ok (.aload_n 0, 1) := by decide +kernel
theorem dX7_areOthersKnown_99 : decode (zcc mX7_areOthersKnown) 99 = .ok (.iload_n 2, 1) := by decide +kernel
theorem dX7_areOthersKnown_100 : decode (zcc mX7_areOthersKnown) 100 = .ok (.invokevirtual 90, 3) := by decide +kernel
theorem dX7_areOthersKnown_103 : decode (zcc mX7_areOthersKnown) 103 = .ok (.ireturn, 1) := by decide +kernel
theorem dX7_areNumbersInside_0 : decode (zcc mX7_areNumbersInside) 0 = .ok (.iload_n 0, 1) := by decide +kernel
theorem dX7_areNumbersInside_1 : decode (zcc mX7_areNumbersInside) 1 = .ok (.lookupswitch 71 #[(1, 27), (5, 45)], 27) := by decide +kernel
theorem dX7_areNumbersInside_28 : decode (zcc mX7_areNumbersInside) 28 = .ok (.iload_n 2, 1) := by decide +kernel
theorem dX7_areNumbersInside_29 : decode (zcc mX7_areNumbersInside) 29 = .ok (.bipush (-40), 2) := by decide +kernel
theorem dX7_areNumbersInside_31 : decode (zcc mX7_areNumbersInside) 31 = .ok (.if_icmp .lt 13, 3) := by decide +kernel
theorem dX7_areNumbersInside_34 : decode (zcc mX7_areNumbersInside) 34 = .ok (.iload_n 2, 1) := by decide +kernel
theorem dX7_areNumbersInside_35 : decode (zcc mX7_areNumbersInside) 35 = .ok (.bipush 40, 2) := by decide +kernel
theorem dX7_areNumbersInside_37 : decode (zcc mX7_areNumbersInside) 37 = .ok (.if_icmp .gt 7, 3) := by decide +kernel
theorem dX7_areNumbersInside_40 : decode (zcc mX7_areNumbersInside) 40 = .ok (.iconst 1, 1) := by decide +kernel
theorem dX7_areNumbersInside_41 : decode (zcc mX7_areNumbersInside) 41 = .ok (.goto 4, 3) := by decide +kernel
theorem dX7_areNumbersInside_44 : decode (zcc mX7_areNumbersInside) 44 = .ok (.iconst 0, 1) := by decide +kernel
theorem dX7_areNumbersInside_45 : decode (zcc mX7_areNumbersInside) 45 = .ok (.ireturn, 1) := by decide +kernel
theorem dX7_areNumbersInside_46 : decode (zcc mX7_areNumbersInside) 46 = .ok (.iload_n 1, 1) := by decide +kernel
theorem dX7_areNumbersInside_47 : decode (zcc mX7_areNumbersInside) 47 = .ok (.iconst 2, 1) := by decide +kernel
theorem dX7_areNumbersInside_48 : decode (zcc mX7_areNumbersInside) 48 = .ok (.if_icmp .lt 22, 3) := by decide +kernel
theorem dX7_areNumbersInside_51 : decode (zcc mX7_areNumbersInside) 51 = .ok (.iload_n 1, 1) := by decide +kernel
theorem dX7_areNumbersInside_52 : decode (zcc mX7_areNumbersInside) 52 = .ok (.bipush 16, 2) := by decide +kernel
theorem dX7_areNumbersInside_54 : decode (zcc mX7_areNumbersInside) 54 = .ok (.if_icmp .gt 16, 3) := by decide +kernel
theorem dX7_areNumbersInside_57 : decode (zcc mX7_areNumbersInside) 57 = .ok (.iload_n 2, 1) := by decide +kernel
theorem dX7_areNumbersInside_58 : decode (zcc mX7_areNumbersInside) 58 = .ok (.ifCond .lt 12, 3) := by decide +kernel
theorem dX7_areNumbersInside_61 : decode (zcc mX7_areNumbersInside) 61 = .ok (.iload_n 2, 1) := by decide +kernel
theorem dX7_areNumbersInside_62 : decode (zcc mX7_areNumbersInside) 62 = .ok (.iload_n 1, 1) := by decide +kernel
theorem dX7_areNumbersInside_63 : decode (zcc mX7_areNumbersInside) 63 = .ok (.if_icmp .ge 7, 3) := by decide +kernel
theorem dX7_areNumbersInside_66 : decode (zcc mX7_areNumbersInside) 66 = .ok (.iconst 1, 1) := by decide +kernel
theorem dX7_areNumbersInside_67 : decode (zcc mX7_areNumbersInside) 67 = .ok (.goto 4, 3) := by decide +kernel
theorem dX7_areNumbersInside_70 : decode (zcc mX7_areNumbersInside) 70 = .ok (.iconst 0, 1) := by decide +kernel
theorem dX7_areNumbersInside_71 : decode (zcc mX7_areNumbersInside) 71 = .ok (.ireturn, 1) := by decide +kernel
theorem dX7_areNumbersInside_72 : decode (zcc mX7_areNumbersInside) 72 = .ok (.iconst 1, 1) := by decide +kernel
theorem dX7_areNumbersInside_73 : decode (zcc mX7_areNumbersInside) 73 = .ok (.ireturn, 1) := by decide +kernel
theorem dX7_dropFindings_0 : decode (zcc mX7_dropFindings) 0 = .ok (.aload_n 0, 1) := by decide +kernel
theorem dX7_dropFindings_1 : decode (zcc mX7_dropFindings) 1 = .ok (.iconst 0, 1) := by decide +kernel
theorem dX7_dropFindings_2 : decode (zcc mX7_dropFindings) 2 = .ok (.putfield 178, 3) := by decide +kernel
theorem dX7_dropFindings_5 : decode (zcc mX7_dropFindings) 5 = .ok (.aload_n 0, 1) := by decide +kernel
theorem dX7_dropFindings_6 : decode (zcc mX7_dropFindings) 6 = .ok (.iconst 0, 1) := by decide +kernel
theorem dX7_dropFindings_7 : decode (zcc mX7_dropFindings) 7 = .ok (.putfield 197, 3) := by decide +kernel
theorem dX7_dropFindings_10 : decode (zcc mX7_dropFindings) 10 = .ok (.return_, 1) := by decide +kernel
theorem dX7_dropFindingsOfMachine_0 : decode (zcc mX7_dropFindingsOfMachine) 0 = .ok (.iconst 0, 1) := by decide +kernel
theorem dX7_dropFindingsOfMachine_1 : decode (zcc mX7_dropFindingsOfMachine) 1 = .ok (.istore_n 2, 1) := by decide +kernel
theorem dX7_dropFindingsOfMachine_2 : decode (zcc mX7_dropFindingsOfMachine) 2 = .ok (.iload_n 2, 1) := by decide +kernel
theorem dX7_dropFindingsOfMachine_3 : decode (zcc mX7_dropFindingsOfMachine) 3 = .ok (.aload_n 0, 1) := by decide +kernel
theorem dX7_dropFindingsOfMachine_4 : decode (zcc mX7_dropFindingsOfMachine) 4 = .ok (.getfield 58, 3) := by decide +kernel
theorem dX7_dropFindingsOfMachine_7 : decode (zcc mX7_dropFindingsOfMachine) 7 = .ok (.if_icmp .ge 31, 3) := by decide +kernel
theorem dX7_dropFindingsOfMachine_10 : decode (zcc mX7_dropFindingsOfMachine) 10 = .ok (.aload_n 0, 1) := by decide +kernel
theorem dX7_dropFindingsOfMachine_11 : decode (zcc mX7_dropFindingsOfMachine) 11 = .ok (.getfield 42, 3) := by decide +kernel
theorem dX7_dropFindingsOfMachine_14 : decode (zcc mX7_dropFindingsOfMachine) 14 = .ok (.iload_n 2, 1) := by decide +kernel
theorem dX7_dropFindingsOfMachine_15 : decode (zcc mX7_dropFindingsOfMachine) 15 = .ok (.aaload, 1) := by decide +kernel
theorem dX7_dropFindingsOfMachine_16 : decode (zcc mX7_dropFindingsOfMachine) 16 = .ok (.iload_n 1, 1) := by decide +kernel
theorem dX7_dropFindingsOfMachine_17 : decode (zcc mX7_dropFindingsOfMachine) 17 = .ok (.invokevirtual 227, 3) := by decide +kernel
theorem dX7_dropFindingsOfMachine_20 : decode (zcc mX7_dropFindingsOfMachine) 20 = .ok (.ifCond .eq 12, 3) := by decide +kernel
theorem dX7_dropFindingsOfMachine_23 : decode (zcc mX7_dropFindingsOfMachine) 23 = .ok (.aload_n 0, 1) := by decide +kernel
theorem dX7_dropFindingsOfMachine_24 : decode (zcc mX7_dropFindingsOfMachine) 24 = .ok (.getfield 42, 3) := by decide +kernel
theorem dX7_dropFindingsOfMachine_27 : decode (zcc mX7_dropFindingsOfMachine) 27 = .ok (.iload_n 2, 1) := by decide +kernel
theorem dX7_dropFindingsOfMachine_28 : decode (zcc mX7_dropFindingsOfMachine) 28 = .ok (.aaload, 1) := by decide +kernel
theorem dX7_dropFindingsOfMachine_29 : decode (zcc mX7_dropFindingsOfMachine) 29 = .ok (.invokevirtual 104, 3) := by decide +kernel
theorem dX7_dropFindingsOfMachine_32 : decode (zcc mX7_dropFindingsOfMachine) 32 = .ok (.iinc 2 1, 3) := by decide +kernel
theorem dX7_dropFindingsOfMachine_35 : decode (zcc mX7_dropFindingsOfMachine) 35 = .ok (.goto (-33), 3) := by decide +kernel
theorem dX7_dropFindingsOfMachine_38 : decode (zcc mX7_dropFindingsOfMachine) 38 = .ok (.aload_n 0, 1) := by decide +kernel
theorem dX7_dropFindingsOfMachine_39 : decode (zcc mX7_dropFindingsOfMachine) 39 = .ok (.invokevirtual 75, 3) := by decide +kernel
theorem dX7_dropFindingsOfMachine_42 : decode (zcc mX7_dropFindingsOfMachine) 42 = .ok (.return_, 1) := by decide +kernel
theorem dX7_dropWays_0 : decode (zcc mX7_dropWays) 0 = .ok (.aload_n 0, 1) := by decide +kernel
theorem dX7_dropWays_1 : decode (zcc mX7_dropWays) 1 = .ok (.getfield 21, 3) := by decide +kernel
theorem dX7_dropWays_4 : decode (zcc mX7_dropWays) 4 = .ok (.invokevirtual 208, 3) := by decide +kernel
theorem dX7_dropWays_7 : decode (zcc mX7_dropWays) 7 = .ok (.aload_n 0, 1) := by decide +kernel
theorem dX7_dropWays_8 : decode (zcc mX7_dropWays) 8 = .ok (.getfield 25, 3) := by decide +kernel
theorem dX7_dropWays_11 : decode (zcc mX7_dropWays) 11 = .ok (.invokevirtual 208, 3) := by decide +kernel
theorem dX7_dropWays_14 : decode (zcc mX7_dropWays) 14 = .ok (.iconst 0, 1) := by decide +kernel
theorem dX7_dropWays_15 : decode (zcc mX7_dropWays) 15 = .ok (.istore_n 1, 1) := by decide +kernel
theorem dX7_dropWays_16 : decode (zcc mX7_dropWays) 16 = .ok (.iload_n 1, 1) := by decide +kernel
theorem dX7_dropWays_17 : decode (zcc mX7_dropWays) 17 = .ok (.aload_n 0, 1) := by decide +kernel
theorem dX7_dropWays_18 : decode (zcc mX7_dropWays) 18 = .ok (.getfield 58, 3) := by decide +kernel
theorem dX7_dropWays_21 : decode (zcc mX7_dropWays) 21 = .ok (.if_icmp .ge 18, 3) := by decide +kernel
theorem dX7_dropWays_24 : decode (zcc mX7_dropWays) 24 = .ok (.aload_n 0, 1) := by decide +kernel
theorem dX7_dropWays_25 : decode (zcc mX7_dropWays) 25 = .ok (.getfield 42, 3) := by decide +kernel
theorem dX7_dropWays_28 : decode (zcc mX7_dropWays) 28 = .ok (.iload_n 1, 1) := by decide +kernel
theorem dX7_dropWays_29 : decode (zcc mX7_dropWays) 29 = .ok (.aaload, 1) := by decide +kernel
theorem dX7_dropWays_30 : decode (zcc mX7_dropWays) 30 = .ok (.invokevirtual 104, 3) := by decide +kernel
theorem dX7_dropWays_33 : decode (zcc mX7_dropWays) 33 = .ok (.iinc 1 1, 3) := by decide +kernel
theorem dX7_dropWays_36 : decode (zcc mX7_dropWays) 36 = .ok (.goto (-20), 3) := by decide +kernel
theorem dX7_dropWays_39 : decode (zcc mX7_dropWays) 39 = .ok (.return_, 1) := by decide +kernel
theorem dX7_takeInHand_0 : decode (zcc mX7_takeInHand) 0 = .ok (.aload_n 0, 1) := by decide +kernel
theorem dX7_takeInHand_1 : decode (zcc mX7_takeInHand) 1 = .ok (.invokevirtual 164, 3) := by decide +kernel
theorem dX7_takeInHand_4 : decode (zcc mX7_takeInHand) 4 = .ok (.istore_n 2, 1) := by decide +kernel
theorem dX7_takeInHand_5 : decode (zcc mX7_takeInHand) 5 = .ok (.iload_n 1, 1) := by decide +kernel
theorem dX7_takeInHand_6 : decode (zcc mX7_takeInHand) 6 = .ok (.istore_n 3, 1) := by decide +kernel
theorem dX7_takeInHand_7 : decode (zcc mX7_takeInHand) 7 = .ok (.iconst 0, 1) := by decide +kernel
theorem dX7_takeInHand_8 : decode (zcc mX7_takeInHand) 8 = .ok (.istore 4, 2) := by decide +kernel
theorem dX7_takeInHand_10 : decode (zcc mX7_takeInHand) 10 = .ok (.iload 4, 2) := by decide +kernel
theorem dX7_takeInHand_12 : decode (zcc mX7_takeInHand) 12 = .ok (.bipush 125, 2) := by decide +kernel
theorem dX7_takeInHand_14 : decode (zcc mX7_takeInHand) 14 = .ok (.if_icmp .ge 66, 3) := by decide +kernel
theorem dX7_takeInHand_17 : decode (zcc mX7_takeInHand) 17 = .ok (.iload_n 3, 1) := by decide +kernel
theorem dX7_takeInHand_18 : decode (zcc mX7_takeInHand) 18 = .ok (.ifCond .lt 62, 3) := by decide +kernel
theorem dX7_takeInHand_21 : decode (zcc mX7_takeInHand) 21 = .ok (.aload_n 0, 1) := by decide +kernel
theorem dX7_takeInHand_22 : decode (zcc mX7_takeInHand) 22 = .ok (.iload 4, 2) := by decide +kernel
theorem dX7_takeInHand_24 : decode (zcc mX7_takeInHand) 24 = .ok (.iload_n 2, 1) := by decide +kernel
theorem dX7_takeInHand_25 : decode (zcc mX7_takeInHand) 25 = .ok (.invokevirtual 168, 3) := by decide +kernel
theorem dX7_takeInHand_28 : decode (zcc mX7_takeInHand) 28 = .ok (.lstore 5, 2) := by decide +kernel
theorem dX7_takeInHand_30 : decode (zcc mX7_takeInHand) 30 = .ok (.lload 5, 2) := by decide +kernel
theorem dX7_takeInHand_32 : decode (zcc mX7_takeInHand) 32 = .ok (.invokestatic 172, 3) := by decide +kernel
theorem dX7_takeInHand_35 : decode (zcc mX7_takeInHand) 35 = .ok (.istore 7, 2) := by decide +kernel
theorem dX7_takeInHand_37 : decode (zcc mX7_takeInHand) 37 = .ok (.iload_n 3, 1) := by decide +kernel
theorem dX7_takeInHand_38 : decode (zcc mX7_takeInHand) 38 = .ok (.iload 7, 2) := by decide +kernel
theorem dX7_takeInHand_40 : decode (zcc mX7_takeInHand) 40 = .ok (.if_icmp .ge 29, 3) := by decide +kernel
theorem dX7_takeInHand_43 : decode (zcc mX7_takeInHand) 43 = .ok (.aload_n 0, 1) := by decide +kernel
theorem dX7_takeInHand_44 : decode (zcc mX7_takeInHand) 44 = .ok (.getfield 25, 3) := by decide +kernel
theorem dX7_takeInHand_47 : decode (zcc mX7_takeInHand) 47 = .ok (.iload 4, 2) := by decide +kernel
theorem dX7_takeInHand_49 : decode (zcc mX7_takeInHand) 49 = .ok (.bipush 64, 2) := by decide +kernel
theorem dX7_takeInHand_51 : decode (zcc mX7_takeInHand) 51 = .ok (.imul, 1) := by decide +kernel
theorem dX7_takeInHand_52 : decode (zcc mX7_takeInHand) 52 = .ok (.lload 5, 2) := by decide +kernel
theorem dX7_takeInHand_54 : decode (zcc mX7_takeInHand) 54 = .ok (.iload_n 3, 1) := by decide +kernel
theorem dX7_takeInHand_55 : decode (zcc mX7_takeInHand) 55 = .ok (.invokestatic 230, 3) := by decide +kernel
theorem dX7_takeInHand_58 : decode (zcc mX7_takeInHand) 58 = .ok (.iadd, 1) := by decide +kernel
theorem dX7_takeInHand_59 : decode (zcc mX7_takeInHand) 59 = .ok (.invokevirtual 234, 3) := by decide +kernel
theorem dX7_takeInHand_62 : decode (zcc mX7_takeInHand) 62 = .ok (.aload_n 0, 1) := by decide +kernel
theorem dX7_takeInHand_63 : decode (zcc mX7_takeInHand) 63 = .ok (.iconst 1, 1) := by decide +kernel
theorem dX7_takeInHand_64 : decode (zcc mX7_takeInHand) 64 = .ok (.putfield 178, 3) := by decide +kernel
theorem dX7_takeInHand_67 : decode (zcc mX7_takeInHand) 67 = .ok (.iconst 1, 1) := by decide +kernel
theorem dX7_takeInHand_68 : decode (zcc mX7_takeInHand) 68 = .ok (.ireturn, 1) := by decide +kernel
theorem dX7_takeInHand_69 : decode (zcc mX7_takeInHand) 69 = .ok (.iload_n 3, 1) := by decide +kernel
theorem dX7_takeInHand_70 : decode (zcc mX7_takeInHand) 70 = .ok (.iload 7, 2) := by decide +kernel
theorem dX7_takeInHand_72 : decode (zcc mX7_takeInHand) 72 = .ok (.isub, 1) := by decide +kernel
theorem dX7_takeInHand_73 : decode (zcc mX7_takeInHand) 73 = .ok (.istore_n 3, 1) := by decide +kernel
theorem dX7_takeInHand_74 : decode (zcc mX7_takeInHand) 74 = .ok (.iinc 4 1, 3) := by decide +kernel
theorem dX7_takeInHand_77 : decode (zcc mX7_takeInHand) 77 = .ok (.goto (-67), 3) := by decide +kernel
theorem dX7_takeInHand_80 : decode (zcc mX7_takeInHand) 80 = .ok (.iconst 0, 1) := by decide +kernel
theorem dX7_takeInHand_81 : decode (zcc mX7_takeInHand) 81 = .ok (.ireturn, 1) := by decide +kernel
theorem dX7_countingFormulas_0 : decode (zcc mX7_countingFormulas) 0 = .ok (.iconst 0, 1) := by decide +kernel
theorem dX7_countingFormulas_1 : decode (zcc mX7_countingFormulas) 1 = .ok (.istore_n 1, 1) := by decide +kernel
theorem dX7_countingFormulas_2 : decode (zcc mX7_countingFormulas) 2 = .ok (.iconst 0, 1) := by decide +kernel
theorem dX7_countingFormulas_3 : decode (zcc mX7_countingFormulas) 3 = .ok (.istore_n 2, 1) := by decide +kernel
theorem dX7_countingFormulas_4 : decode (zcc mX7_countingFormulas) 4 = .ok (.iload_n 2, 1) := by decide +kernel
theorem dX7_countingFormulas_5 : decode (zcc mX7_countingFormulas) 5 = .ok (.aload_n 0, 1) := by decide +kernel
theorem dX7_countingFormulas_6 : decode (zcc mX7_countingFormulas) 6 = .ok (.getfield 58, 3) := by decide +kernel
theorem dX7_countingFormulas_9 : decode (zcc mX7_countingFormulas) 9 = .ok (.if_icmp .ge 27, 3) := by decide +kernel
theorem dX7_countingFormulas_12 : decode (zcc mX7_countingFormulas) 12 = .ok (.aload_n 0, 1) := by decide +kernel
theorem dX7_countingFormulas_13 : decode (zcc mX7_countingFormulas) 13 = .ok (.getfield 42, 3) := by decide +kernel
theorem dX7_countingFormulas_16 : decode (zcc mX7_countingFormulas) 16 = .ok (.iload_n 2, 1) := by decide +kernel
theorem dX7_countingFormulas_17 : decode (zcc mX7_countingFormulas) 17 = .ok (.aaload, 1) := by decide +kernel
theorem dX7_countingFormulas_18 : decode (zcc mX7_countingFormulas) 18 = .ok (.getfield 157, 3) := by decide +kernel
theorem dX7_countingFormulas_21 : decode (zcc mX7_countingFormulas) 21 = .ok (.ifCond .ne 9, 3) := by decide +kernel
theorem dX7_countingFormulas_24 : decode (zcc mX7_countingFormulas) 24 = .ok (.iload_n 1, 1) := by decide +kernel
theorem dX7_countingFormulas_25 : decode (zcc mX7_countingFormulas) 25 = .ok (.iconst 1, 1) := by decide +kernel
theorem dX7_countingFormulas_26 : decode (zcc mX7_countingFormulas) 26 = .ok (.iload_n 2, 1) := by decide +kernel
theorem dX7_countingFormulas_27 : decode (zcc mX7_countingFormulas) 27 = .ok (.ishl, 1) := by decide +kernel
theorem dX7_countingFormulas_28 : decode (zcc mX7_countingFormulas) 28 = .ok (.ior, 1) := by decide +kernel
theorem dX7_countingFormulas_29 : decode (zcc mX7_countingFormulas) 29 = .ok (.istore_n 1, 1) := by decide +kernel
end
section
theorem dX7_countingFormulas_30 : decode (zcc mX7_countingFormulas) 30 = .ok (.iinc 2 1, 3) := by decide +kernel
theorem dX7_countingFormulas_33 : decode (zcc mX7_countingFormulas) 33 = .ok (.goto (-29), 3) := by decide +kernel
theorem dX7_countingFormulas_36 : decode (zcc mX7_countingFormulas) 36 = .ok (.iload_n 1, 1) := by decide +kernel
theorem dX7_countingFormulas_37 : decode (zcc mX7_countingFormulas) 37 = .ok (.ireturn, 1) := by decide +kernel
theorem dX7_waysIn_0 : decode (zcc mX7_waysIn) 0 = .ok (.aload_n 0, 1) := by decide +kernel
theorem dX7_waysIn_1 : decode (zcc mX7_waysIn) 1 = .ok (.getfield 12, 3) := by decide +kernel
theorem dX7_waysIn_4 : decode (zcc mX7_waysIn) 4 = .ok (.getfield 226, 3) := by decide +kernel
theorem dX7_waysIn_7 : decode (zcc mX7_waysIn) 7 = .ok (.iload_n 1, 1) := by decide +kernel
theorem dX7_waysIn_8 : decode (zcc mX7_waysIn) 8 = .ok (.bipush 64, 2) := by decide +kernel
theorem dX7_waysIn_10 : decode (zcc mX7_waysIn) 10 = .ok (.imul, 1) := by decide +kernel
theorem dX7_waysIn_11 : decode (zcc mX7_waysIn) 11 = .ok (.isub, 1) := by decide +kernel
theorem dX7_waysIn_12 : decode (zcc mX7_waysIn) 12 = .ok (.istore_n 2, 1) := by decide +kernel
theorem dX7_waysIn_13 : decode (zcc mX7_waysIn) 13 = .ok (.iload_n 2, 1) := by decide +kernel
theorem dX7_waysIn_14 : decode (zcc mX7_waysIn) 14 = .ok (.ifCond .gt 5, 3) := by decide +kernel
theorem dX7_waysIn_17 : decode (zcc mX7_waysIn) 17 = .ok (.lconst 0, 1) := by decide +kernel
theorem dX7_waysIn_18 : decode (zcc mX7_waysIn) 18 = .ok (.lreturn, 1) := by decide +kernel
theorem dX7_waysIn_19 : decode (zcc mX7_waysIn) 19 = .ok (.iload_n 2, 1) := by decide +kernel
theorem dX7_waysIn_20 : decode (zcc mX7_waysIn) 20 = .ok (.bipush 64, 2) := by decide +kernel
theorem dX7_waysIn_22 : decode (zcc mX7_waysIn) 22 = .ok (.if_icmp .lt 9, 3) := by decide +kernel
theorem dX7_waysIn_25 : decode (zcc mX7_waysIn) 25 = .ok (.ldc2_w 237, 3) := by decide +kernel
theorem dX7_waysIn_28 : decode (zcc mX7_waysIn) 28 = .ok (.goto 8, 3) := by decide +kernel
theorem dX7_waysIn_31 : decode (zcc mX7_waysIn) 31 = .ok (.lconst 1, 1) := by decide +kernel
theorem dX7_waysIn_32 : decode (zcc mX7_waysIn) 32 = .ok (.iload_n 2, 1) := by decide +kernel
theorem dX7_waysIn_33 : decode (zcc mX7_waysIn) 33 = .ok (.lshl, 1) := by decide +kernel
theorem dX7_waysIn_34 : decode (zcc mX7_waysIn) 34 = .ok (.lconst 1, 1) := by decide +kernel
theorem dX7_waysIn_35 : decode (zcc mX7_waysIn) 35 = .ok (.lsub, 1) := by decide +kernel
theorem dX7_waysIn_36 : decode (zcc mX7_waysIn) 36 = .ok (.lreturn, 1) := by decide +kernel
theorem dX7_modelsIn_0 : decode (zcc mX7_modelsIn) 0 = .ok (.aload_n 0, 1) := by decide +kernel
theorem dX7_modelsIn_1 : decode (zcc mX7_modelsIn) 1 = .ok (.iload_n 1, 1) := by decide +kernel
theorem dX7_modelsIn_2 : decode (zcc mX7_modelsIn) 2 = .ok (.invokevirtual 239, 3) := by decide +kernel
theorem dX7_modelsIn_5 : decode (zcc mX7_modelsIn) 5 = .ok (.lstore_n 3, 1) := by decide +kernel
theorem dX7_modelsIn_6 : decode (zcc mX7_modelsIn) 6 = .ok (.lconst 0, 1) := by decide +kernel
theorem dX7_modelsIn_7 : decode (zcc mX7_modelsIn) 7 = .ok (.lstore 5, 2) := by decide +kernel
theorem dX7_modelsIn_9 : decode (zcc mX7_modelsIn) 9 = .ok (.iconst 0, 1) := by decide +kernel
theorem dX7_modelsIn_10 : decode (zcc mX7_modelsIn) 10 = .ok (.istore 7, 2) := by decide +kernel
theorem dX7_modelsIn_12 : decode (zcc mX7_modelsIn) 12 = .ok (.iload 7, 2) := by decide +kernel
theorem dX7_modelsIn_14 : decode (zcc mX7_modelsIn) 14 = .ok (.aload_n 0, 1) := by decide +kernel
theorem dX7_modelsIn_15 : decode (zcc mX7_modelsIn) 15 = .ok (.getfield 58, 3) := by decide +kernel
theorem dX7_modelsIn_18 : decode (zcc mX7_modelsIn) 18 = .ok (.if_icmp .ge 58, 3) := by decide +kernel
theorem dX7_modelsIn_21 : decode (zcc mX7_modelsIn) 21 = .ok (.lload_n 3, 1) := by decide +kernel
theorem dX7_modelsIn_22 : decode (zcc mX7_modelsIn) 22 = .ok (.lconst 0, 1) := by decide +kernel
theorem dX7_modelsIn_23 : decode (zcc mX7_modelsIn) 23 = .ok (.lcmp, 1) := by decide +kernel
theorem dX7_modelsIn_24 : decode (zcc mX7_modelsIn) 24 = .ok (.ifCond .eq 52, 3) := by decide +kernel
theorem dX7_modelsIn_27 : decode (zcc mX7_modelsIn) 27 = .ok (.iload_n 2, 1) := by decide +kernel
theorem dX7_modelsIn_28 : decode (zcc mX7_modelsIn) 28 = .ok (.iload 7, 2) := by decide +kernel
theorem dX7_modelsIn_30 : decode (zcc mX7_modelsIn) 30 = .ok (.invokestatic 204, 3) := by decide +kernel
theorem dX7_modelsIn_33 : decode (zcc mX7_modelsIn) 33 = .ok (.ifCond .eq 37, 3) := by decide +kernel
theorem dX7_modelsIn_36 : decode (zcc mX7_modelsIn) 36 = .ok (.lload_n 3, 1) := by decide +kernel
theorem dX7_modelsIn_37 : decode (zcc mX7_modelsIn) 37 = .ok (.aload_n 0, 1) := by decide +kernel
theorem dX7_modelsIn_38 : decode (zcc mX7_modelsIn) 38 = .ok (.getfield 42, 3) := by decide +kernel
theorem dX7_modelsIn_41 : decode (zcc mX7_modelsIn) 41 = .ok (.iload 7, 2) := by decide +kernel
theorem dX7_modelsIn_43 : decode (zcc mX7_modelsIn) 43 = .ok (.aaload, 1) := by decide +kernel
theorem dX7_modelsIn_44 : decode (zcc mX7_modelsIn) 44 = .ok (.iload_n 1, 1) := by decide +kernel
theorem dX7_modelsIn_45 : decode (zcc mX7_modelsIn) 45 = .ok (.invokevirtual 243, 3) := by decide +kernel
theorem dX7_modelsIn_48 : decode (zcc mX7_modelsIn) 48 = .ok (.ldc2_w 237, 3) := by decide +kernel
theorem dX7_modelsIn_51 : decode (zcc mX7_modelsIn) 51 = .ok (.lxor, 1) := by decide +kernel
theorem dX7_modelsIn_52 : decode (zcc mX7_modelsIn) 52 = .ok (.land, 1) := by decide +kernel
theorem dX7_modelsIn_53 : decode (zcc mX7_modelsIn) 53 = .ok (.lstore_n 3, 1) := by decide +kernel
theorem dX7_modelsIn_54 : decode (zcc mX7_modelsIn) 54 = .ok (.lload 5, 2) := by decide +kernel
theorem dX7_modelsIn_56 : decode (zcc mX7_modelsIn) 56 = .ok (.aload_n 0, 1) := by decide +kernel
theorem dX7_modelsIn_57 : decode (zcc mX7_modelsIn) 57 = .ok (.getfield 42, 3) := by decide +kernel
theorem dX7_modelsIn_60 : decode (zcc mX7_modelsIn) 60 = .ok (.iload 7, 2) := by decide +kernel
theorem dX7_modelsIn_62 : decode (zcc mX7_modelsIn) 62 = .ok (.aaload, 1) := by decide +kernel
theorem dX7_modelsIn_63 : decode (zcc mX7_modelsIn) 63 = .ok (.iload_n 1, 1) := by decide +kernel
theorem dX7_modelsIn_64 : decode (zcc mX7_modelsIn) 64 = .ok (.invokevirtual 246, 3) := by decide +kernel
theorem dX7_modelsIn_67 : decode (zcc mX7_modelsIn) 67 = .ok (.lor, 1) := by decide +kernel
theorem dX7_modelsIn_68 : decode (zcc mX7_modelsIn) 68 = .ok (.lstore 5, 2) := by decide +kernel
theorem dX7_modelsIn_70 : decode (zcc mX7_modelsIn) 70 = .ok (.iinc 7 1, 3) := by decide +kernel
theorem dX7_modelsIn_73 : decode (zcc mX7_modelsIn) 73 = .ok (.goto (-61), 3) := by decide +kernel
theorem dX7_modelsIn_76 : decode (zcc mX7_modelsIn) 76 = .ok (.lload 5, 2) := by decide +kernel
theorem dX7_modelsIn_78 : decode (zcc mX7_modelsIn) 78 = .ok (.lload_n 3, 1) := by decide +kernel
theorem dX7_modelsIn_79 : decode (zcc mX7_modelsIn) 79 = .ok (.land, 1) := by decide +kernel
theorem dX7_modelsIn_80 : decode (zcc mX7_modelsIn) 80 = .ok (.lstore 5, 2) := by decide +kernel
theorem dX7_modelsIn_82 : decode (zcc mX7_modelsIn) 82 = .ok (.iconst 0, 1) := by decide +kernel
theorem dX7_modelsIn_83 : decode (zcc mX7_modelsIn) 83 = .ok (.istore 7, 2) := by decide +kernel
theorem dX7_modelsIn_85 : decode (zcc mX7_modelsIn) 85 = .ok (.iload 7, 2) := by decide +kernel
theorem dX7_modelsIn_87 : decode (zcc mX7_modelsIn) 87 = .ok (.bipush 64, 2) := by decide +kernel
theorem dX7_modelsIn_89 : decode (zcc mX7_modelsIn) 89 = .ok (.if_icmp .ge 57, 3) := by decide +kernel
theorem dX7_modelsIn_92 : decode (zcc mX7_modelsIn) 92 = .ok (.lload 5, 2) := by decide +kernel
theorem dX7_modelsIn_94 : decode (zcc mX7_modelsIn) 94 = .ok (.iload 7, 2) := by decide +kernel
theorem dX7_modelsIn_96 : decode (zcc mX7_modelsIn) 96 = .ok (.lushr, 1) := by decide +kernel
theorem dX7_modelsIn_97 : decode (zcc mX7_modelsIn) 97 = .ok (.lconst 0, 1) := by decide +kernel
theorem dX7_modelsIn_98 : decode (zcc mX7_modelsIn) 98 = .ok (.lcmp, 1) := by decide +kernel
theorem dX7_modelsIn_99 : decode (zcc mX7_modelsIn) 99 = .ok (.ifCond .eq 47, 3) := by decide +kernel
theorem dX7_modelsIn_102 : decode (zcc mX7_modelsIn) 102 = .ok (.lload 5, 2) := by decide +kernel
theorem dX7_modelsIn_104 : decode (zcc mX7_modelsIn) 104 = .ok (.iload 7, 2) := by decide +kernel
theorem dX7_modelsIn_106 : decode (zcc mX7_modelsIn) 106 = .ok (.lushr, 1) := by decide +kernel
theorem dX7_modelsIn_107 : decode (zcc mX7_modelsIn) 107 = .ok (.lconst 1, 1) := by decide +kernel
theorem dX7_modelsIn_108 : decode (zcc mX7_modelsIn) 108 = .ok (.land, 1) := by decide +kernel
theorem dX7_modelsIn_109 : decode (zcc mX7_modelsIn) 109 = .ok (.lconst 0, 1) := by decide +kernel
theorem dX7_modelsIn_110 : decode (zcc mX7_modelsIn) 110 = .ok (.lcmp, 1) := by decide +kernel
theorem dX7_modelsIn_111 : decode (zcc mX7_modelsIn) 111 = .ok (.ifCond .eq 29, 3) := by decide +kernel
theorem dX7_modelsIn_114 : decode (zcc mX7_modelsIn) 114 = .ok (.aload_n 0, 1) := by decide +kernel
theorem dX7_modelsIn_115 : decode (zcc mX7_modelsIn) 115 = .ok (.iload_n 1, 1) := by decide +kernel
theorem dX7_modelsIn_116 : decode (zcc mX7_modelsIn) 116 = .ok (.bipush 64, 2) := by decide +kernel
theorem dX7_modelsIn_118 : decode (zcc mX7_modelsIn) 118 = .ok (.imul, 1) := by decide +kernel
theorem dX7_modelsIn_119 : decode (zcc mX7_modelsIn) 119 = .ok (.iload 7, 2) := by decide +kernel
theorem dX7_modelsIn_121 : decode (zcc mX7_modelsIn) 121 = .ok (.iadd, 1) := by decide +kernel
theorem dX7_modelsIn_122 : decode (zcc mX7_modelsIn) 122 = .ok (.iload_n 2, 1) := by decide +kernel
theorem dX7_modelsIn_123 : decode (zcc mX7_modelsIn) 123 = .ok (.invokevirtual 249, 3) := by decide +kernel
theorem dX7_modelsIn_126 : decode (zcc mX7_modelsIn) 126 = .ok (.ifCond .ne 14, 3) := by decide +kernel
theorem dX7_modelsIn_129 : decode (zcc mX7_modelsIn) 129 = .ok (.lload_n 3, 1) := by decide +kernel
theorem dX7_modelsIn_130 : decode (zcc mX7_modelsIn) 130 = .ok (.lconst 1, 1) := by decide +kernel
theorem dX7_modelsIn_131 : decode (zcc mX7_modelsIn) 131 = .ok (.iload 7, 2) := by decide +kernel
theorem dX7_modelsIn_133 : decode (zcc mX7_modelsIn) 133 = .ok (.lshl, 1) := by decide +kernel
theorem dX7_modelsIn_134 : decode (zcc mX7_modelsIn) 134 = .ok (.ldc2_w 237, 3) := by decide +kernel
theorem dX7_modelsIn_137 : decode (zcc mX7_modelsIn) 137 = .ok (.lxor, 1) := by decide +kernel
theorem dX7_modelsIn_138 : decode (zcc mX7_modelsIn) 138 = .ok (.land, 1) := by decide +kernel
theorem dX7_modelsIn_139 : decode (zcc mX7_modelsIn) 139 = .ok (.lstore_n 3, 1) := by decide +kernel
theorem dX7_modelsIn_140 : decode (zcc mX7_modelsIn) 140 = .ok (.iinc 7 1, 3) := by decide +kernel
theorem dX7_modelsIn_143 : decode (zcc mX7_modelsIn) 143 = .ok (.goto (-58), 3) := by decide +kernel
theorem dX7_modelsIn_146 : decode (zcc mX7_modelsIn) 146 = .ok (.lload_n 3, 1) := by decide +kernel
theorem dX7_modelsIn_147 : decode (zcc mX7_modelsIn) 147 = .ok (.lreturn, 1) := by decide +kernel
theorem dX7_isModel_0 : decode (zcc mX7_isModel) 0 = .ok (.iconst 0, 1) := by decide +kernel
theorem dX7_isModel_1 : decode (zcc mX7_isModel) 1 = .ok (.istore_n 3, 1) := by decide +kernel
theorem dX7_isModel_2 : decode (zcc mX7_isModel) 2 = .ok (.iload_n 3, 1) := by decide +kernel
theorem dX7_isModel_3 : decode (zcc mX7_isModel) 3 = .ok (.aload_n 0, 1) := by decide +kernel
theorem dX7_isModel_4 : decode (zcc mX7_isModel) 4 = .ok (.getfield 58, 3) := by decide +kernel
theorem dX7_isModel_7 : decode (zcc mX7_isModel) 7 = .ok (.if_icmp .ge 77, 3) := by decide +kernel
theorem dX7_isModel_10 : decode (zcc mX7_isModel) 10 = .ok (.aload_n 0, 1) := by decide +kernel
theorem dX7_isModel_11 : decode (zcc mX7_isModel) 11 = .ok (.getfield 42, 3) := by decide +kernel
theorem dX7_isModel_14 : decode (zcc mX7_isModel) 14 = .ok (.iload_n 3, 1) := by decide +kernel
theorem dX7_isModel_15 : decode (zcc mX7_isModel) 15 = .ok (.aaload, 1) := by decide +kernel
theorem dX7_isModel_16 : decode (zcc mX7_isModel) 16 = .ok (.astore 4, 2) := by decide +kernel
theorem dX7_isModel_18 : decode (zcc mX7_isModel) 18 = .ok (.iload_n 2, 1) := by decide +kernel
theorem dX7_isModel_19 : decode (zcc mX7_isModel) 19 = .ok (.iload_n 3, 1) := by decide +kernel
theorem dX7_isModel_20 : decode (zcc mX7_isModel) 20 = .ok (.invokestatic 204, 3) := by decide +kernel
theorem dX7_isModel_23 : decode (zcc mX7_isModel) 23 = .ok (.ifCond .eq 55, 3) := by decide +kernel
theorem dX7_isModel_26 : decode (zcc mX7_isModel) 26 = .ok (.aload 4, 2) := by decide +kernel
theorem dX7_isModel_28 : decode (zcc mX7_isModel) 28 = .ok (.iload_n 1, 1) := by decide +kernel
theorem dX7_isModel_29 : decode (zcc mX7_isModel) 29 = .ok (.invokevirtual 252, 3) := by decide +kernel
theorem dX7_isModel_32 : decode (zcc mX7_isModel) 32 = .ok (.ifCond .ne 30, 3) := by decide +kernel
theorem dX7_isModel_35 : decode (zcc mX7_isModel) 35 = .ok (.aload_n 0, 1) := by decide +kernel
theorem dX7_isModel_36 : decode (zcc mX7_isModel) 36 = .ok (.getfield 21, 3) := by decide +kernel
theorem dX7_isModel_39 : decode (zcc mX7_isModel) 39 = .ok (.iload_n 1, 1) := by decide +kernel
theorem dX7_isModel_40 : decode (zcc mX7_isModel) 40 = .ok (.invokevirtual 234, 3) := by decide +kernel
theorem dX7_isModel_43 : decode (zcc mX7_isModel) 43 = .ok (.aload 4, 2) := by decide +kernel
theorem dX7_isModel_45 : decode (zcc mX7_isModel) 45 = .ok (.iload_n 1, 1) := by decide +kernel
theorem dX7_isModel_46 : decode (zcc mX7_isModel) 46 = .ok (.aload_n 0, 1) := by decide +kernel
theorem dX7_isModel_47 : decode (zcc mX7_isModel) 47 = .ok (.getfield 51, 3) := by decide +kernel
theorem dX7_isModel_50 : decode (zcc mX7_isModel) 50 = .ok (.aload 4, 2) := by decide +kernel
theorem dX7_isModel_52 : decode (zcc mX7_isModel) 52 = .ok (.aload_n 0, 1) := by decide +kernel
theorem dX7_isModel_53 : decode (zcc mX7_isModel) 53 = .ok (.getfield 21, 3) := by decide +kernel
theorem dX7_isModel_56 : decode (zcc mX7_isModel) 56 = .ok (.invokevirtual 187, 3) := by decide +kernel
theorem dX7_isModel_59 : decode (zcc mX7_isModel) 59 = .ok (.invokevirtual 255, 3) := by decide +kernel
theorem dX7_isModel_62 : decode (zcc mX7_isModel) 62 = .ok (.aload 4, 2) := by decide +kernel
theorem dX7_isModel_64 : decode (zcc mX7_isModel) 64 = .ok (.iload_n 1, 1) := by decide +kernel
theorem dX7_isModel_65 : decode (zcc mX7_isModel) 65 = .ok (.invokevirtual 258, 3) := by decide +kernel
theorem dX7_isModel_68 : decode (zcc mX7_isModel) 68 = .ok (.aload 4, 2) := by decide +kernel
theorem dX7_isModel_70 : decode (zcc mX7_isModel) 70 = .ok (.getfield 153, 3) := by decide +kernel
theorem dX7_isModel_73 : decode (zcc mX7_isModel) 73 = .ok (.if_icmp .ne 5, 3) := by decide +kernel
theorem dX7_isModel_76 : decode (zcc mX7_isModel) 76 = .ok (.iconst 0, 1) := by decide +kernel
theorem dX7_isModel_77 : decode (zcc mX7_isModel) 77 = .ok (.ireturn, 1) := by decide +kernel
theorem dX7_isModel_78 : decode (zcc mX7_isModel) 78 = .ok (.iinc 3 1, 3) := by decide +kernel
theorem dX7_isModel_81 : decode (zcc mX7_isModel) 81 = .ok (.goto (-79), 3) := by decide +kernel
theorem dX7_isModel_84 : decode (zcc mX7_isModel) 84 = .ok (.iconst 1, 1) := by decide +kernel
theorem dX7_isModel_85 : decode (zcc mX7_isModel) 85 = .ok (.ireturn, 1) := by decide +kernel
theorem dX7_hasModel_0 : decode (zcc mX7_hasModel) 0 = .ok (.iconst 0, 1) := by decide +kernel
theorem dX7_hasModel_1 : decode (zcc mX7_hasModel) 1 = .ok (.istore_n 2, 1) := by decide +kernel
theorem dX7_hasModel_2 : decode (zcc mX7_hasModel) 2 = .ok (.iload_n 2, 1) := by decide +kernel
theorem dX7_hasModel_3 : decode (zcc mX7_hasModel) 3 = .ok (.bipush 125, 2) := by decide +kernel
theorem dX7_hasModel_5 : decode (zcc mX7_hasModel) 5 = .ok (.if_icmp .ge 22, 3) := by decide +kernel
theorem dX7_hasModel_8 : decode (zcc mX7_hasModel) 8 = .ok (.aload_n 0, 1) := by decide +kernel
theorem dX7_hasModel_9 : decode (zcc mX7_hasModel) 9 = .ok (.iload_n 2, 1) := by decide +kernel
theorem dX7_hasModel_10 : decode (zcc mX7_hasModel) 10 = .ok (.iload_n 1, 1) := by decide +kernel
theorem dX7_hasModel_11 : decode (zcc mX7_hasModel) 11 = .ok (.invokevirtual 168, 3) := by decide +kernel
theorem dX7_hasModel_14 : decode (zcc mX7_hasModel) 14 = .ok (.lconst 0, 1) := by decide +kernel
theorem dX7_hasModel_15 : decode (zcc mX7_hasModel) 15 = .ok (.lcmp, 1) := by decide +kernel
theorem dX7_hasModel_16 : decode (zcc mX7_hasModel) 16 = .ok (.ifCond .eq 5, 3) := by decide +kernel
theorem dX7_hasModel_19 : decode (zcc mX7_hasModel) 19 = .ok (.iconst 1, 1) := by decide +kernel
theorem dX7_hasModel_20 : decode (zcc mX7_hasModel) 20 = .ok (.ireturn, 1) := by decide +kernel
theorem dX7_hasModel_21 : decode (zcc mX7_hasModel) 21 = .ok (.iinc 2 1, 3) := by decide +kernel
theorem dX7_hasModel_24 : decode (zcc mX7_hasModel) 24 = .ok (.goto (-22), 3) := by decide +kernel
theorem dX7_hasModel_27 : decode (zcc mX7_hasModel) 27 = .ok (.iconst 0, 1) := by decide +kernel
theorem dX7_hasModel_28 : decode (zcc mX7_hasModel) 28 = .ok (.ireturn, 1) := by decide +kernel
theorem dX7_placeOfBit_0 : decode (zcc mX7_placeOfBit) 0 = .ok (.lload_n 0, 1) := by decide +kernel
theorem dX7_placeOfBit_1 : decode (zcc mX7_placeOfBit) 1 = .ok (.lstore_n 3, 1) := by decide +kernel
theorem dX7_placeOfBit_2 : decode (zcc mX7_placeOfBit) 2 = .ok (.iconst 0, 1) := by decide +kernel
theorem dX7_placeOfBit_3 : decode (zcc mX7_placeOfBit) 3 = .ok (.istore 5, 2) := by decide +kernel
theorem dX7_placeOfBit_5 : decode (zcc mX7_placeOfBit) 5 = .ok (.iload 5, 2) := by decide +kernel
theorem dX7_placeOfBit_7 : decode (zcc mX7_placeOfBit) 7 = .ok (.iload_n 2, 1) := by decide +kernel
theorem dX7_placeOfBit_8 : decode (zcc mX7_placeOfBit) 8 = .ok (.if_icmp .ge 15, 3) := by decide +kernel
theorem dX7_placeOfBit_11 : decode (zcc mX7_placeOfBit) 11 = .ok (.lload_n 3, 1) := by decide +kernel
theorem dX7_placeOfBit_12 : decode (zcc mX7_placeOfBit) 12 = .ok (.lload_n 3, 1) := by decide +kernel
theorem dX7_placeOfBit_13 : decode (zcc mX7_placeOfBit) 13 = .ok (.lconst 1, 1) := by decide +kernel
theorem dX7_placeOfBit_14 : decode (zcc mX7_placeOfBit) 14 = .ok (.lsub, 1) := by decide +kernel
theorem dX7_placeOfBit_15 : decode (zcc mX7_placeOfBit) 15 = .ok (.land, 1) := by decide +kernel
theorem dX7_placeOfBit_16 : decode (zcc mX7_placeOfBit) 16 = .ok (.lstore_n 3, 1) := by decide +kernel
theorem dX7_placeOfBit_17 : decode (zcc mX7_placeOfBit) 17 = .ok (.iinc 5 1, 3) := by decide +kernel
theorem dX7_placeOfBit_20 : decode (zcc mX7_placeOfBit) 20 = .ok (.goto (-15), 3) := by decide +kernel
theorem dX7_placeOfBit_23 : decode (zcc mX7_placeOfBit) 23 = .ok (.lload_n 3, 1) := by decide +kernel
theorem dX7_placeOfBit_24 : decode (zcc mX7_placeOfBit) 24 = .ok (.lload_n 3, 1) := by decide +kernel
theorem dX7_placeOfBit_25 : decode (zcc mX7_placeOfBit) 25 = .ok (.lneg, 1) := by decide +kernel
theorem dX7_placeOfBit_26 : decode (zcc mX7_placeOfBit) 26 = .ok (.land, 1) := by decide +kernel
theorem dX7_placeOfBit_27 : decode (zcc mX7_placeOfBit) 27 = .ok (.lstore 5, 2) := by decide +kernel
theorem dX7_placeOfBit_29 : decode (zcc mX7_placeOfBit) 29 = .ok (.lload 5, 2) := by decide +kernel
theorem dX7_placeOfBit_31 : decode (zcc mX7_placeOfBit) 31 = .ok (.lconst 1, 1) := by decide +kernel
theorem dX7_placeOfBit_32 : decode (zcc mX7_placeOfBit) 32 = .ok (.lsub, 1) := by decide +kernel
theorem dX7_placeOfBit_33 : decode (zcc mX7_placeOfBit) 33 = .ok (.invokestatic 172, 3) := by decide +kernel
theorem dX7_placeOfBit_36 : decode (zcc mX7_placeOfBit) 36 = .ok (.ireturn, 1) := by decide +kernel
theorem dX7_areLengthsFit_0 : decode (zcc mX7_areLengthsFit) 0 = .ok (.iconst 0, 1) := by decide +kernel
theorem dX7_areLengthsFit_1 : decode (zcc mX7_areLengthsFit) 1 = .ok (.istore_n 1, 1) := by decide +kernel
theorem dX7_areLengthsFit_2 : decode (zcc mX7_areLengthsFit) 2 = .ok (.iload_n 1, 1) := by decide +kernel
theorem dX7_areLengthsFit_3 : decode (zcc mX7_areLengthsFit) 3 = .ok (.aload_n 0, 1) := by decide +kernel
theorem dX7_areLengthsFit_4 : decode (zcc mX7_areLengthsFit) 4 = .ok (.getfield 58, 3) := by decide +kernel
theorem dX7_areLengthsFit_7 : decode (zcc mX7_areLengthsFit) 7 = .ok (.if_icmp .ge 33, 3) := by decide +kernel
theorem dX7_areLengthsFit_10 : decode (zcc mX7_areLengthsFit) 10 = .ok (.aload_n 0, 1) := by decide +kernel
theorem dX7_areLengthsFit_11 : decode (zcc mX7_areLengthsFit) 11 = .ok (.getfield 42, 3) := by decide +kernel
theorem dX7_areLengthsFit_14 : decode (zcc mX7_areLengthsFit) 14 = .ok (.iload_n 1, 1) := by decide +kernel
theorem dX7_areLengthsFit_15 : decode (zcc mX7_areLengthsFit) 15 = .ok (.aaload, 1) := by decide +kernel
theorem dX7_areLengthsFit_16 : decode (zcc mX7_areLengthsFit) 16 = .ok (.astore_n 2, 1) := by decide +kernel
theorem dX7_areLengthsFit_17 : decode (zcc mX7_areLengthsFit) 17 = .ok (.aload_n 2, 1) := by decide +kernel
theorem dX7_areLengthsFit_18 : decode (zcc mX7_areLengthsFit) 18 = .ok (.getfield 157, 3) := by decide +kernel
theorem dX7_areLengthsFit_21 : decode (zcc mX7_areLengthsFit) 21 = .ok (.ifCond .ne 13, 3) := by decide +kernel
theorem dX7_areLengthsFit_24 : decode (zcc mX7_areLengthsFit) 24 = .ok (.aload_n 0, 1) := by decide +kernel
theorem dX7_areLengthsFit_25 : decode (zcc mX7_areLengthsFit) 25 = .ok (.aload_n 2, 1) := by decide +kernel
theorem dX7_areLengthsFit_26 : decode (zcc mX7_areLengthsFit) 26 = .ok (.invokevirtual 261, 3) := by decide +kernel
theorem dX7_areLengthsFit_29 : decode (zcc mX7_areLengthsFit) 29 = .ok (.ifCond .ne 5, 3) := by decide +kernel
theorem dX7_areLengthsFit_32 : decode (zcc mX7_areLengthsFit) 32 = .ok (.iconst 0, 1) := by decide +kernel
theorem dX7_areLengthsFit_33 : decode (zcc mX7_areLengthsFit) 33 = .ok (.ireturn, 1) := by decide +kernel
theorem dX7_areLengthsFit_34 : decode (zcc mX7_areLengthsFit) 34 = .ok (.iinc 1 1, 3) := by decide +kernel
theorem dX7_areLengthsFit_37 : decode (zcc mX7_areLengthsFit) 37 = .ok (.goto (-35), 3) := by decide +kernel
theorem dX7_areLengthsFit_40 : decode (zcc mX7_areLengthsFit) 40 = .ok (.iconst 1, 1) := by decide +kernel
theorem dX7_areLengthsFit_41 : decode (zcc mX7_areLengthsFit) 41 = .ok (.ireturn, 1) := by decide +kernel
theorem dX7_isLengthFit_0 : decode (zcc mX7_isLengthFit) 0 = .ok (.aload_n 1, 1) := by decide +kernel
theorem dX7_isLengthFit_1 : decode (zcc mX7_isLengthFit) 1 = .ok (.getfield 265, 3) := by decide +kernel
theorem dX7_isLengthFit_4 : decode (zcc mX7_isLengthFit) 4 = .ok (.iconst 1, 1) := by decide +kernel
theorem dX7_isLengthFit_5 : decode (zcc mX7_isLengthFit) 5 = .ok (.if_icmp .ne 31, 3) := by decide +kernel
theorem dX7_isLengthFit_8 : decode (zcc mX7_isLengthFit) 8 = .ok (.aload_n 0, 1) := by decide +kernel
theorem dX7_isLengthFit_9 : decode (zcc mX7_isLengthFit) 9 = .ok (.getfield 51, 3) := by decide +kernel
theorem dX7_isLengthFit_12 : decode (zcc mX7_isLengthFit) 12 = .ok (.aload_n 1, 1) := by decide +kernel
theorem dX7_isLengthFit_13 : decode (zcc mX7_isLengthFit) 13 = .ok (.aload_n 0, 1) := by decide +kernel
theorem dX7_isLengthFit_14 : decode (zcc mX7_isLengthFit) 14 = .ok (.getfield 21, 3) := by decide +kernel
theorem dX7_isLengthFit_17 : decode (zcc mX7_isLengthFit) 17 = .ok (.getfield 268, 3) := by decide +kernel
theorem dX7_isLengthFit_20 : decode (zcc mX7_isLengthFit) 20 = .ok (.invokevirtual 272, 3) := by decide +kernel
theorem dX7_isLengthFit_23 : decode (zcc mX7_isLengthFit) 23 = .ok (.aload_n 1, 1) := by decide +kernel
theorem dX7_isLengthFit_24 : decode (zcc mX7_isLengthFit) 24 = .ok (.getfield 153, 3) := by decide +kernel
theorem dX7_isLengthFit_27 : decode (zcc mX7_isLengthFit) 27 = .ok (.if_icmp .eq 7, 3) := by decide +kernel
theorem dX7_isLengthFit_30 : decode (zcc mX7_isLengthFit) 30 = .ok (.iconst 1, 1) := by decide +kernel
theorem dX7_isLengthFit_31 : decode (zcc mX7_isLengthFit) 31 = .ok (.goto 4, 3) := by decide +kernel
theorem dX7_isLengthFit_34 : decode (zcc mX7_isLengthFit) 34 = .ok (.iconst 0, 1) := by decide +kernel
theorem dX7_isLengthFit_35 : decode (zcc mX7_isLengthFit) 35 = .ok (.ireturn, 1) := by decide +kernel
theorem dX7_isLengthFit_36 : decode (zcc mX7_isLengthFit) 36 = .ok (.aload_n 1, 1) := by decide +kernel
theorem dX7_isLengthFit_37 : decode (zcc mX7_isLengthFit) 37 = .ok (.getfield 265, 3) := by decide +kernel
theorem dX7_isLengthFit_40 : decode (zcc mX7_isLengthFit) 40 = .ok (.ifCond .ne 28, 3) := by decide +kernel
theorem dX7_isLengthFit_43 : decode (zcc mX7_isLengthFit) 43 = .ok (.aload_n 1, 1) := by decide +kernel
theorem dX7_isLengthFit_44 : decode (zcc mX7_isLengthFit) 44 = .ok (.getfield 153, 3) := by decide +kernel
theorem dX7_isLengthFit_47 : decode (zcc mX7_isLengthFit) 47 = .ok (.ifCond .ne 21, 3) := by decide +kernel
theorem dX7_isLengthFit_50 : decode (zcc mX7_isLengthFit) 50 = .ok (.aload_n 0, 1) := by decide +kernel
theorem dX7_isLengthFit_51 : decode (zcc mX7_isLengthFit) 51 = .ok (.getfield 51, 3) := by decide +kernel
theorem dX7_isLengthFit_54 : decode (zcc mX7_isLengthFit) 54 = .ok (.aload_n 1, 1) := by decide +kernel
theorem dX7_isLengthFit_55 : decode (zcc mX7_isLengthFit) 55 = .ok (.aload_n 0, 1) := by decide +kernel
theorem dX7_isLengthFit_56 : decode (zcc mX7_isLengthFit) 56 = .ok (.getfield 21, 3) := by decide +kernel
theorem dX7_isLengthFit_59 : decode (zcc mX7_isLengthFit) 59 = .ok (.getfield 268, 3) := by decide +kernel
theorem dX7_isLengthFit_62 : decode (zcc mX7_isLengthFit) 62 = .ok (.invokevirtual 276, 3) := by decide +kernel
theorem dX7_isLengthFit_65 : decode (zcc mX7_isLengthFit) 65 = .ok (.ifCond .eq 7, 3) := by decide +kernel
theorem dX7_isLengthFit_68 : decode (zcc mX7_isLengthFit) 68 = .ok (.iconst 1, 1) := by decide +kernel
theorem dX7_isLengthFit_69 : decode (zcc mX7_isLengthFit) 69 = .ok (.goto 4, 3) := by decide +kernel
theorem dX7_isLengthFit_72 : decode (zcc mX7_isLengthFit) 72 = .ok (.iconst 0, 1) := by decide +kernel
theorem dX7_isLengthFit_73 : decode (zcc mX7_isLengthFit) 73 = .ok (.ireturn, 1) := by decide +kernel
theorem dX8_init_0 : decode (zcc mX8_init) 0 = .ok (.aload_n 0, 1) := by decide +kernel
theorem dX8_init_1 : decode (zcc mX8_init) 1 = .ok (.invokespecial 1, 3) := by decide +kernel
theorem dX8_init_4 : decode (zcc mX8_init) 4 = .ok (.aload_n 0, 1) := by decide +kernel
theorem dX8_init_5 : decode (zcc mX8_init) 5 = .ok (.iconst 2, 1) := by decide +kernel
theorem dX8_init_6 : decode (zcc mX8_init) 6 = .ok (.putfield 7, 3) := by decide +kernel
theorem dX8_init_9 : decode (zcc mX8_init) 9 = .ok (.aload_n 0, 1) := by decide +kernel
theorem dX8_init_10 : decode (zcc mX8_init) 10 = .ok (.iconst 4, 1) := by decide +kernel
theorem dX8_init_11 : decode (zcc mX8_init) 11 = .ok (.newarray .int, 2) := by decide +kernel
theorem dX8_init_13 : decode (zcc mX8_init) 13 = .ok (.putfield 13, 3) := by decide +kernel
theorem dX8_init_16 : decode (zcc mX8_init) 16 = .ok (.aload_n 0, 1) := by decide +kernel
theorem dX8_init_17 : decode (zcc mX8_init) 17 = .ok (.iconst 1, 1) := by decide +kernel
theorem dX8_init_18 : decode (zcc mX8_init) 18 = .ok (.putfield 17, 3) := by decide +kernel
theorem dX8_init_21 : decode (zcc mX8_init) 21 = .ok (.aload_n 0, 1) := by decide +kernel
theorem dX8_init_22 : decode (zcc mX8_init) 22 = .ok (.bipush 12, 2) := by decide +kernel
theorem dX8_init_24 : decode (zcc mX8_init) 24 = .ok (.newarray .int, 2) := by decide +kernel
theorem dX8_init_26 : decode (zcc mX8_init) 26 = .ok (.putfield 20, 3) := by decide +kernel
theorem dX8_init_29 : decode (zcc mX8_init) 29 = .ok (.aload_n 0, 1) := by decide +kernel
theorem dX8_init_30 : decode (zcc mX8_init) 30 = .ok (.bipush 72, 2) := by decide +kernel
theorem dX8_init_32 : decode (zcc mX8_init) 32 = .ok (.newarray .int, 2) := by decide +kernel
theorem dX8_init_34 : decode (zcc mX8_init) 34 = .ok (.putfield 23, 3) := by decide +kernel
theorem dX8_init_37 : decode (zcc mX8_init) 37 = .ok (.aload_n 0, 1) := by decide +kernel
theorem dX8_init_38 : decode (zcc mX8_init) 38 = .ok (.iconst 3, 1) := by decide +kernel
theorem dX8_init_39 : decode (zcc mX8_init) 39 = .ok (.newarray .int, 2) := by decide +kernel
theorem dX8_init_41 : decode (zcc mX8_init) 41 = .ok (.putfield 26, 3) := by decide +kernel
theorem dX8_init_44 : decode (zcc mX8_init) 44 = .ok (.aload_n 0, 1) := by decide +kernel
theorem dX8_init_45 : decode (zcc mX8_init) 45 = .ok (.bipush 54, 2) := by decide +kernel
theorem dX8_init_47 : decode (zcc mX8_init) 47 = .ok (.newarray .int, 2) := by decide +kernel
theorem dX8_init_49 : decode (zcc mX8_init) 49 = .ok (.putfield 29, 3) := by decide +kernel
theorem dX8_init_52 : decode (zcc mX8_init) 52 = .ok (.aload_n 0, 1) := by decide +kernel
theorem dX8_init_53 : decode (zcc mX8_init) 53 = .ok (.bipush 18, 2) := by decide +kernel
theorem dX8_init_55 : decode (zcc mX8_init) 55 = .ok (.newarray .boolean, 2) := by decide +kernel
theorem dX8_init_57 : decode (zcc mX8_init) 57 = .ok (.putfield 32, 3) := by decide +kernel
theorem dX8_init_60 : decode (zcc mX8_init) 60 = .ok (.aload_n 0, 1) := by decide +kernel
theorem dX8_init_61 : decode (zcc mX8_init) 61 = .ok (.bipush 10, 2) := by decide +kernel
theorem dX8_init_63 : decode (zcc mX8_init) 63 = .ok (.newarray .int, 2) := by decide +kernel
theorem dX8_init_65 : decode (zcc mX8_init) 65 = .ok (.putfield 36, 3) := by decide +kernel
theorem dX8_init_68 : decode (zcc mX8_init) 68 = .ok (.aload_n 0, 1) := by decide +kernel
theorem dX8_init_69 : decode (zcc mX8_init) 69 = .ok (.bipush 10, 2) := by decide +kernel
theorem dX8_init_71 : decode (zcc mX8_init) 71 = .ok (.newarray .int, 2) := by decide +kernel
theorem dX8_init_73 : decode (zcc mX8_init) 73 = .ok (.putfield 39, 3) := by decide +kernel
theorem dX8_init_76 : decode (zcc mX8_init) 76 = .ok (.aload_n 0, 1) := by decide +kernel
theorem dX8_init_77 : decode (zcc mX8_init) 77 = .ok (.bipush 10, 2) := by decide +kernel
theorem dX8_init_79 : decode (zcc mX8_init) 79 = .ok (.newarray .int, 2) := by decide +kernel
theorem dX8_init_81 : decode (zcc mX8_init) 81 = .ok (.putfield 42, 3) := by decide +kernel
theorem dX8_init_84 : decode (zcc mX8_init) 84 = .ok (.aload_n 0, 1) := by decide +kernel
theorem dX8_init_85 : decode (zcc mX8_init) 85 = .ok (.bipush 10, 2) := by decide +kernel
theorem dX8_init_87 : decode (zcc mX8_init) 87 = .ok (.newarray .int, 2) := by decide +kernel
theorem dX8_init_89 : decode (zcc mX8_init) 89 = .ok (.putfield 45, 3) := by decide +kernel
theorem dX8_init_92 : decode (zcc mX8_init) 92 = .ok (.aload_n 0, 1) := by decide +kernel
theorem dX8_init_93 : decode (zcc mX8_init) 93 = .ok (.bipush 10, 2) := by decide +kernel
theorem dX8_init_95 : decode (zcc mX8_init) 95 = .ok (.newarray .int, 2) := by decide +kernel
theorem dX8_init_97 : decode (zcc mX8_init) 97 = .ok (.putfield 48, 3) := by decide +kernel
theorem dX8_init_100 : decode (zcc mX8_init) 100 = .ok (.aload_n 0, 1) := by decide +kernel
theorem dX8_init_101 : decode (zcc mX8_init) 101 = .ok (.bipush 10, 2) := by decide +kernel
theorem dX8_init_103 : decode (zcc mX8_init) 103 = .ok (.newarray .boolean, 2) := by decide +kernel
theorem dX8_init_105 : decode (zcc mX8_init) 105 = .ok (.putfield 51, 3) := by decide +kernel
theorem dX8_init_108 : decode (zcc mX8_init) 108 = .ok (.aload_n 0, 1) := by decide +kernel
theorem dX8_init_109 : decode (zcc mX8_init) 109 = .ok (.bipush 10, 2) := by decide +kernel
theorem dX8_init_111 : decode (zcc mX8_init) 111 = .ok (.newarray .boolean, 2) := by decide +kernel
theorem dX8_init_113 : decode (zcc mX8_init) 113 = .ok (.putfield 54, 3) := by decide +kernel
theorem dX8_init_116 : decode (zcc mX8_init) 116 = .ok (.aload_n 0, 1) := by decide +kernel
theorem dX8_init_117 : decode (zcc mX8_init) 117 = .ok (.iconst 4, 1) := by decide +kernel
theorem dX8_init_118 : decode (zcc mX8_init) 118 = .ok (.newarray .int, 2) := by decide +kernel
theorem dX8_init_120 : decode (zcc mX8_init) 120 = .ok (.putfield 57, 3) := by decide +kernel
theorem dX8_init_123 : decode (zcc mX8_init) 123 = .ok (.aload_n 0, 1) := by decide +kernel
theorem dX8_init_124 : decode (zcc mX8_init) 124 = .ok (.bipush 20, 2) := by decide +kernel
theorem dX8_init_126 : decode (zcc mX8_init) 126 = .ok (.newarray .int, 2) := by decide +kernel
theorem dX8_init_128 : decode (zcc mX8_init) 128 = .ok (.putfield 60, 3) := by decide +kernel
theorem dX8_init_131 : decode (zcc mX8_init) 131 = .ok (.aload_n 0, 1) := by decide +kernel
theorem dX8_init_132 : decode (zcc mX8_init) 132 = .ok (.bipush 10, 2) := by decide +kernel
theorem dX8_init_134 : decode (zcc mX8_init) 134 = .ok (.newarray .boolean, 2) := by decide +kernel
theorem dX8_init_136 : decode (zcc mX8_init) 136 = .ok (.putfield 63, 3) := by decide +kernel
theorem dX8_init_139 : decode (zcc mX8_init) 139 = .ok (.aload_n 0, 1) := by decide +kernel
theorem dX8_init_140 : decode (zcc mX8_init) 140 = .ok (.iconst 4, 1) := by decide +kernel
theorem dX8_init_141 : decode (zcc mX8_init) 141 = .ok (.newarray .int, 2) := by decide +kernel
theorem dX8_init_143 : decode (zcc mX8_init) 143 = .ok (.putfield 66, 3) := by decide +kernel
theorem dX8_init_146 : decode (zcc mX8_init) 146 = .ok (.aload_n 0, 1) := by decide +kernel
theorem dX8_init_147 : decode (zcc mX8_init) 147 = .ok (.bipush 20, 2) := by decide +kernel
theorem dX8_init_149 : decode (zcc mX8_init) 149 = .ok (.newarray .int, 2) := by decide +kernel
theorem dX8_init_151 : decode (zcc mX8_init) 151 = .ok (.putfield 69, 3) := by decide +kernel
theorem dX8_init_154 : decode (zcc mX8_init) 154 = .ok (.aload_n 0, 1) := by decide +kernel
theorem dX8_init_155 : decode (zcc mX8_init) 155 = .ok (.sipush 128, 3) := by decide +kernel
theorem dX8_init_158 : decode (zcc mX8_init) 158 = .ok (.newarray .int, 2) := by decide +kernel
theorem dX8_init_160 : decode (zcc mX8_init) 160 = .ok (.putfield 72, 3) := by decide +kernel
theorem dX8_init_163 : decode (zcc mX8_init) 163 = .ok (.aload_n 0, 1) := by decide +kernel
theorem dX8_init_164 : decode (zcc mX8_init) 164 = .ok (.iconst 4, 1) := by decide +kernel
theorem dX8_init_165 : decode (zcc mX8_init) 165 = .ok (.newarray .int, 2) := by decide +kernel
theorem dX8_init_167 : decode (zcc mX8_init) 167 = .ok (.putfield 75, 3) := by decide +kernel
theorem dX8_init_170 : decode (zcc mX8_init) 170 = .ok (.aload_n 0, 1) := by decide +kernel
theorem dX8_init_171 : decode (zcc mX8_init) 171 = .ok (.bipush 64, 2) := by decide +kernel
theorem dX8_init_173 : decode (zcc mX8_init) 173 = .ok (.newarray .int, 2) := by decide +kernel
theorem dX8_init_175 : decode (zcc mX8_init) 175 = .ok (.putfield 78, 3) := by decide +kernel
theorem dX8_init_178 : decode (zcc mX8_init) 178 = .ok (.aload_n 0, 1) := by decide +kernel
theorem dX8_init_179 : decode (zcc mX8_init) 179 = .ok (.bipush 10, 2) := by decide +kernel
theorem dX8_init_181 : decode (zcc mX8_init) 181 = .ok (.newarray .boolean, 2) := by decide +kernel
theorem dX8_init_183 : decode (zcc mX8_init) 183 = .ok (.putfield 81, 3) := by decide +kernel
theorem dX8_init_186 : decode (zcc mX8_init) 186 = .ok (.aload_n 0, 1) := by decide +kernel
theorem dX8_init_187 : decode (zcc mX8_init) 187 = .ok (.bipush 36, 2) := by decide +kernel
theorem dX8_init_189 : decode (zcc mX8_init) 189 = .ok (.newarray .int, 2) := by decide +kernel
theorem dX8_init_191 : decode (zcc mX8_init) 191 = .ok (.putfield 84, 3) := by decide +kernel
theorem dX8_init_194 : decode (zcc mX8_init) 194 = .ok (.return_, 1) := by decide +kernel
theorem dX8_in_0 : decode (zcc mX8_in) 0 = .ok (.iload_n 0, 1) := by decide +kernel
theorem dX8_in_1 : decode (zcc mX8_in) 1 = .ok (.iload_n 1, 1) := by decide +kernel
theorem dX8_in_2 : decode (zcc mX8_in) 2 = .ok (.if_icmp .lt 12, 3) := by decide +kernel
theorem dX8_in_5 : decode (zcc mX8_in) 5 = .ok (.iload_n 0, 1) := by decide +kernel
theorem dX8_in_6 : decode (zcc mX8_in) 6 = .ok (.iload_n 2, 1) := by decide +kernel
theorem dX8_in_7 : decode (zcc mX8_in) 7 = .ok (.if_icmp .gt 7, 3) := by decide +kernel
theorem dX8_in_10 : decode (zcc mX8_in) 10 = .ok (.iconst 1, 1) := by decide +kernel
theorem dX8_in_11 : decode (zcc mX8_in) 11 = .ok (.goto 4, 3) := by decide +kernel
theorem dX8_in_14 : decode (zcc mX8_in) 14 = .ok (.iconst 0, 1) := by decide +kernel
theorem dX8_in_15 : decode (zcc mX8_in) 15 = .ok (.ireturn, 1) := by decide +kernel
theorem dX8_changed_0 : decode (zcc mX8_changed) 0 = .ok (.aload_n 0, 1) := by decide +kernel
theorem dX8_changed_1 : decode (zcc mX8_changed) 1 = .ok (.iconst 0, 1) := by decide +kernel
theorem dX8_changed_2 : decode (zcc mX8_changed) 2 = .ok (.putfield 87, 3) := by decide +kernel
theorem dX8_changed_5 : decode (zcc mX8_changed) 5 = .ok (.aload_n 0, 1) := by decide +kernel
theorem dX8_changed_6 : decode (zcc mX8_changed) 6 = .ok (.iconst 0, 1) := by decide +kernel
theorem dX8_changed_7 : decode (zcc mX8_changed) 7 = .ok (.putfield 91, 3) := by decide +kernel
theorem dX8_changed_10 : decode (zcc mX8_changed) 10 = .ok (.return_, 1) := by decide +kernel
theorem dX8_clear_0 : decode (zcc mX8_clear) 0 = .ok (.iload_n 1, 1) := by decide +kernel
theorem dX8_clear_1 : decode (zcc mX8_clear) 1 = .ok (.iconst 2, 1) := by decide +kernel
theorem dX8_clear_2 : decode (zcc mX8_clear) 2 = .ok (.iconst 3, 1) := by decide +kernel
theorem dX8_clear_3 : decode (zcc mX8_clear) 3 = .ok (.invokestatic 94, 3) := by decide +kernel
theorem dX8_clear_6 : decode (zcc mX8_clear) 6 = .ok (.ifCond .ne 6, 3) := by decide +kernel
theorem dX8_clear_9 : decode (zcc mX8_clear) 9 = .ok (.bipush (-3), 2) := by decide +kernel
theorem dX8_clear_11 : decode (zcc mX8_clear) 11 = .ok (.ireturn, 1) := by decide +kernel
theorem dX8_clear_12 : decode (zcc mX8_clear) 12 = .ok (.aload_n 0, 1) := by decide +kernel
theorem dX8_clear_13 : decode (zcc mX8_clear) 13 = .ok (.getfield 98, 3) := by decide +kernel
theorem dX8_clear_16 : decode (zcc mX8_clear) 16 = .ok (.istore_n 2, 1) := by decide +kernel
theorem dX8_clear_17 : decode (zcc mX8_clear) 17 = .ok (.aload_n 0, 1) := by decide +kernel
theorem dX8_clear_18 : decode (zcc mX8_clear) 18 = .ok (.iload_n 1, 1) := by decide +kernel
theorem dX8_clear_19 : decode (zcc mX8_clear) 19 = .ok (.putfield 7, 3) := by decide +kernel
theorem dX8_clear_22 : decode (zcc mX8_clear) 22 = .ok (.aload_n 0, 1) := by decide +kernel
theorem dX8_clear_23 : decode (zcc mX8_clear) 23 = .ok (.iconst 0, 1) := by decide +kernel
theorem dX8_clear_24 : decode (zcc mX8_clear) 24 = .ok (.putfield 101, 3) := by decide +kernel
theorem dX8_clear_27 : decode (zcc mX8_clear) 27 = .ok (.aload_n 0, 1) := by decide +kernel
theorem dX8_clear_28 : decode (zcc mX8_clear) 28 = .ok (.iconst 1, 1) := by decide +kernel
theorem dX8_clear_29 : decode (zcc mX8_clear) 29 = .ok (.putfield 17, 3) := by decide +kernel
theorem dX8_clear_32 : decode (zcc mX8_clear) 32 = .ok (.aload_n 0, 1) := by decide +kernel
theorem dX8_clear_33 : decode (zcc mX8_clear) 33 = .ok (.iconst 0, 1) := by decide +kernel
theorem dX8_clear_34 : decode (zcc mX8_clear) 34 = .ok (.putfield 104, 3) := by decide +kernel
theorem dX8_clear_37 : decode (zcc mX8_clear) 37 = .ok (.aload_n 0, 1) := by decide +kernel
theorem dX8_clear_38 : decode (zcc mX8_clear) 38 = .ok (.iconst 0, 1) := by decide +kernel
theorem dX8_clear_39 : decode (zcc mX8_clear) 39 = .ok (.putfield 107, 3) := by decide +kernel
theorem dX8_clear_42 : decode (zcc mX8_clear) 42 = .ok (.aload_n 0, 1) := by decide +kernel
theorem dX8_clear_43 : decode (zcc mX8_clear) 43 = .ok (.iconst 0, 1) := by decide +kernel
theorem dX8_clear_44 : decode (zcc mX8_clear) 44 = .ok (.putfield 98, 3) := by decide +kernel
theorem dX8_clear_47 : decode (zcc mX8_clear) 47 = .ok (.aload_n 0, 1) := by decide +kernel
theorem dX8_clear_48 : decode (zcc mX8_clear) 48 = .ok (.invokevirtual 110, 3) := by decide +kernel
theorem dX8_clear_51 : decode (zcc mX8_clear) 51 = .ok (.iload_n 2, 1) := by decide +kernel
theorem dX8_clear_52 : decode (zcc mX8_clear) 52 = .ok (.ireturn, 1) := by decide +kernel
theorem dX8_text_0 : decode (zcc mX8_text) 0 = .ok (.iload_n 1, 1) := by decide +kernel
theorem dX8_text_1 : decode (zcc mX8_text) 1 = .ok (.iconst 0, 1) := by decide +kernel
theorem dX8_text_2 : decode (zcc mX8_text) 2 = .ok (.iconst 5, 1) := by decide +kernel
theorem dX8_text_3 : decode (zcc mX8_text) 3 = .ok (.invokestatic 94, 3) := by decide +kernel
theorem dX8_text_6 : decode (zcc mX8_text) 6 = .ok (.ifCond .ne 6, 3) := by decide +kernel
theorem dX8_text_9 : decode (zcc mX8_text) 9 = .ok (.bipush (-3), 2) := by decide +kernel
theorem dX8_text_11 : decode (zcc mX8_text) 11 = .ok (.ireturn, 1) := by decide +kernel
theorem dX8_text_12 : decode (zcc mX8_text) 12 = .ok (.iconst 0, 1) := by decide +kernel
theorem dX8_text_13 : decode (zcc mX8_text) 13 = .ok (.istore_n 2, 1) := by decide +kernel
theorem dX8_text_14 : decode (zcc mX8_text) 14 = .ok (.iconst 1, 1) := by decide +kernel
theorem dX8_text_15 : decode (zcc mX8_text) 15 = .ok (.istore_n 3, 1) := by decide +kernel
theorem dX8_text_16 : decode (zcc mX8_text) 16 = .ok (.iconst 0, 1) := by decide +kernel
theorem dX8_text_17 : decode (zcc mX8_text) 17 = .ok (.istore 4, 2) := by decide +kernel
theorem dX8_text_19 : decode (zcc mX8_text) 19 = .ok (.iload 4, 2) := by decide +kernel
theorem dX8_text_21 : decode (zcc mX8_text) 21 = .ok (.iload_n 1, 1) := by decide +kernel
theorem dX8_text_22 : decode (zcc mX8_text) 22 = .ok (.if_icmp .gt 20, 3) := by decide +kernel
theorem dX8_text_25 : decode (zcc mX8_text) 25 = .ok (.iload_n 2, 1) := by decide +kernel
theorem dX8_text_26 : decode (zcc mX8_text) 26 = .ok (.iload_n 3, 1) := by decide +kernel
theorem dX8_text_27 : decode (zcc mX8_text) 27 = .ok (.iadd, 1) := by decide +kernel
theorem dX8_text_28 : decode (zcc mX8_text) 28 = .ok (.istore_n 2, 1) := by decide +kernel
theorem dX8_text_29 : decode (zcc mX8_text) 29 = .ok (.iload_n 3, 1) := by decide +kernel
theorem dX8_text_30 : decode (zcc mX8_text) 30 = .ok (.aload_n 0, 1) := by decide +kernel
theorem dX8_text_31 : decode (zcc mX8_text) 31 = .ok (.getfield 7, 3) := by decide +kernel
theorem dX8_text_34 : decode (zcc mX8_text) 34 = .ok (.imul, 1) := by decide +kernel
theorem dX8_text_35 : decode (zcc mX8_text) 35 = .ok (.istore_n 3, 1) := by decide +kernel
theorem dX8_text_36 : decode (zcc mX8_text) 36 = .ok (.iinc 4 1, 3) := by decide +kernel
theorem dX8_text_39 : decode (zcc mX8_text) 39 = .ok (.goto (-20), 3) := by decide +kernel
theorem dX8_text_42 : decode (zcc mX8_text) 42 = .ok (.aload_n 0, 1) := by decide +kernel
theorem dX8_text_43 : decode (zcc mX8_text) 43 = .ok (.getfield 101, 3) := by decide +kernel
theorem dX8_text_46 : decode (zcc mX8_text) 46 = .ok (.iconst 4, 1) := by decide +kernel
theorem dX8_text_47 : decode (zcc mX8_text) 47 = .ok (.if_icmp .eq 15, 3) := by decide +kernel
theorem dX8_text_50 : decode (zcc mX8_text) 50 = .ok (.aload_n 0, 1) := by decide +kernel
theorem dX8_text_51 : decode (zcc mX8_text) 51 = .ok (.getfield 17, 3) := by decide +kernel
theorem dX8_text_54 : decode (zcc mX8_text) 54 = .ok (.iload_n 2, 1) := by decide +kernel
theorem dX8_text_55 : decode (zcc mX8_text) 55 = .ok (.imul, 1) := by decide +kernel
theorem dX8_text_56 : decode (zcc mX8_text) 56 = .ok (.sipush 8000, 3) := by decide +kernel
theorem dX8_text_59 : decode (zcc mX8_text) 59 = .ok (.if_icmp .le 6, 3) := by decide +kernel
theorem dX8_text_62 : decode (zcc mX8_text) 62 = .ok (.bipush (-5), 2) := by decide +kernel
theorem dX8_text_64 : decode (zcc mX8_text) 64 = .ok (.ireturn, 1) := by decide +kernel
theorem dX8_text_65 : decode (zcc mX8_text) 65 = .ok (.aload_n 0, 1) := by decide +kernel
end
section
theorem dX8_text_66 : decode (zcc mX8_text) 66 = .ok (.getfield 13, 3) := by decide +kernel
theorem dX8_text_69 : decode (zcc mX8_text) 69 = .ok (.aload_n 0, 1) := by decide +kernel
theorem dX8_text_70 : decode (zcc mX8_text) 70 = .ok (.getfield 101, 3) := by decide +kernel
theorem dX8_text_73 : decode (zcc mX8_text) 73 = .ok (.iload_n 1, 1) := by decide +kernel
theorem dX8_text_74 : decode (zcc mX8_text) 74 = .ok (.iastore, 1) := by decide +kernel
theorem dX8_text_75 : decode (zcc mX8_text) 75 = .ok (.aload_n 0, 1) := by decide +kernel
theorem dX8_text_76 : decode (zcc mX8_text) 76 = .ok (.dup, 1) := by decide +kernel
theorem dX8_text_77 : decode (zcc mX8_text) 77 = .ok (.getfield 17, 3) := by decide +kernel
theorem dX8_text_80 : decode (zcc mX8_text) 80 = .ok (.iload_n 2, 1) := by decide +kernel
theorem dX8_text_81 : decode (zcc mX8_text) 81 = .ok (.imul, 1) := by decide +kernel
theorem dX8_text_82 : decode (zcc mX8_text) 82 = .ok (.putfield 17, 3) := by decide +kernel
theorem dX8_text_85 : decode (zcc mX8_text) 85 = .ok (.aload_n 0, 1) := by decide +kernel
theorem dX8_text_86 : decode (zcc mX8_text) 86 = .ok (.dup, 1) := by decide +kernel
theorem dX8_text_87 : decode (zcc mX8_text) 87 = .ok (.getfield 101, 3) := by decide +kernel
theorem dX8_text_90 : decode (zcc mX8_text) 90 = .ok (.iconst 1, 1) := by decide +kernel
theorem dX8_text_91 : decode (zcc mX8_text) 91 = .ok (.iadd, 1) := by decide +kernel
theorem dX8_text_92 : decode (zcc mX8_text) 92 = .ok (.putfield 101, 3) := by decide +kernel
theorem dX8_text_95 : decode (zcc mX8_text) 95 = .ok (.aload_n 0, 1) := by decide +kernel
theorem dX8_text_96 : decode (zcc mX8_text) 96 = .ok (.invokevirtual 110, 3) := by decide +kernel
theorem dX8_text_99 : decode (zcc mX8_text) 99 = .ok (.aload_n 0, 1) := by decide +kernel
theorem dX8_text_100 : decode (zcc mX8_text) 100 = .ok (.getfield 101, 3) := by decide +kernel
theorem dX8_text_103 : decode (zcc mX8_text) 103 = .ok (.iconst 1, 1) := by decide +kernel
theorem dX8_text_104 : decode (zcc mX8_text) 104 = .ok (.isub, 1) := by decide +kernel
theorem dX8_text_105 : decode (zcc mX8_text) 105 = .ok (.ireturn, 1) := by decide +kernel
theorem dX8_term_0 : decode (zcc mX8_term) 0 = .ok (.aload_n 0, 1) := by decide +kernel
theorem dX8_term_1 : decode (zcc mX8_term) 1 = .ok (.getfield 104, 3) := by decide +kernel
theorem dX8_term_4 : decode (zcc mX8_term) 4 = .ok (.bipush 12, 2) := by decide +kernel
theorem dX8_term_6 : decode (zcc mX8_term) 6 = .ok (.if_icmp .ne 6, 3) := by decide +kernel
theorem dX8_term_9 : decode (zcc mX8_term) 9 = .ok (.bipush (-5), 2) := by decide +kernel
theorem dX8_term_11 : decode (zcc mX8_term) 11 = .ok (.ireturn, 1) := by decide +kernel
theorem dX8_term_12 : decode (zcc mX8_term) 12 = .ok (.aload_n 0, 1) := by decide +kernel
theorem dX8_term_13 : decode (zcc mX8_term) 13 = .ok (.getfield 20, 3) := by decide +kernel
theorem dX8_term_16 : decode (zcc mX8_term) 16 = .ok (.aload_n 0, 1) := by decide +kernel
theorem dX8_term_17 : decode (zcc mX8_term) 17 = .ok (.getfield 104, 3) := by decide +kernel
theorem dX8_term_20 : decode (zcc mX8_term) 20 = .ok (.iconst 0, 1) := by decide +kernel
theorem dX8_term_21 : decode (zcc mX8_term) 21 = .ok (.iastore, 1) := by decide +kernel
theorem dX8_term_22 : decode (zcc mX8_term) 22 = .ok (.aload_n 0, 1) := by decide +kernel
theorem dX8_term_23 : decode (zcc mX8_term) 23 = .ok (.dup, 1) := by decide +kernel
theorem dX8_term_24 : decode (zcc mX8_term) 24 = .ok (.getfield 104, 3) := by decide +kernel
theorem dX8_term_27 : decode (zcc mX8_term) 27 = .ok (.iconst 1, 1) := by decide +kernel
theorem dX8_term_28 : decode (zcc mX8_term) 28 = .ok (.iadd, 1) := by decide +kernel
theorem dX8_term_29 : decode (zcc mX8_term) 29 = .ok (.putfield 104, 3) := by decide +kernel
theorem dX8_term_32 : decode (zcc mX8_term) 32 = .ok (.aload_n 0, 1) := by decide +kernel
theorem dX8_term_33 : decode (zcc mX8_term) 33 = .ok (.invokevirtual 110, 3) := by decide +kernel
theorem dX8_term_36 : decode (zcc mX8_term) 36 = .ok (.aload_n 0, 1) := by decide +kernel
theorem dX8_term_37 : decode (zcc mX8_term) 37 = .ok (.getfield 104, 3) := by decide +kernel
theorem dX8_term_40 : decode (zcc mX8_term) 40 = .ok (.iconst 1, 1) := by decide +kernel
theorem dX8_term_41 : decode (zcc mX8_term) 41 = .ok (.isub, 1) := by decide +kernel
theorem dX8_term_42 : decode (zcc mX8_term) 42 = .ok (.ireturn, 1) := by decide +kernel
theorem dX8_part_0 : decode (zcc mX8_part) 0 = .ok (.iload_n 1, 1) := by decide +kernel
theorem dX8_part_1 : decode (zcc mX8_part) 1 = .ok (.iconst 0, 1) := by decide +kernel
theorem dX8_part_2 : decode (zcc mX8_part) 2 = .ok (.aload_n 0, 1) := by decide +kernel
theorem dX8_part_3 : decode (zcc mX8_part) 3 = .ok (.getfield 104, 3) := by decide +kernel
theorem dX8_part_6 : decode (zcc mX8_part) 6 = .ok (.iconst 1, 1) := by decide +kernel
theorem dX8_part_7 : decode (zcc mX8_part) 7 = .ok (.isub, 1) := by decide +kernel
theorem dX8_part_8 : decode (zcc mX8_part) 8 = .ok (.invokestatic 94, 3) := by decide +kernel
theorem dX8_part_11 : decode (zcc mX8_part) 11 = .ok (.ifCond .ne 6, 3) := by decide +kernel
theorem dX8_part_14 : decode (zcc mX8_part) 14 = .ok (.bipush (-2), 2) := by decide +kernel
theorem dX8_part_16 : decode (zcc mX8_part) 16 = .ok (.ireturn, 1) := by decide +kernel
theorem dX8_part_17 : decode (zcc mX8_part) 17 = .ok (.iload_n 2, 1) := by decide +kernel
theorem dX8_part_18 : decode (zcc mX8_part) 18 = .ok (.iconst 0, 1) := by decide +kernel
theorem dX8_part_19 : decode (zcc mX8_part) 19 = .ok (.aload_n 0, 1) := by decide +kernel
theorem dX8_part_20 : decode (zcc mX8_part) 20 = .ok (.getfield 7, 3) := by decide +kernel
theorem dX8_part_23 : decode (zcc mX8_part) 23 = .ok (.iconst 1, 1) := by decide +kernel
theorem dX8_part_24 : decode (zcc mX8_part) 24 = .ok (.isub, 1) := by decide +kernel
theorem dX8_part_25 : decode (zcc mX8_part) 25 = .ok (.invokestatic 94, 3) := by decide +kernel
theorem dX8_part_28 : decode (zcc mX8_part) 28 = .ok (.ifCond .ne 22, 3) := by decide +kernel
theorem dX8_part_31 : decode (zcc mX8_part) 31 = .ok (.iload_n 2, 1) := by decide +kernel
theorem dX8_part_32 : decode (zcc mX8_part) 32 = .ok (.bipush 8, 2) := by decide +kernel
theorem dX8_part_34 : decode (zcc mX8_part) 34 = .ok (.bipush 7, 2) := by decide +kernel
theorem dX8_part_36 : decode (zcc mX8_part) 36 = .ok (.aload_n 0, 1) := by decide +kernel
theorem dX8_part_37 : decode (zcc mX8_part) 37 = .ok (.getfield 101, 3) := by decide +kernel
theorem dX8_part_40 : decode (zcc mX8_part) 40 = .ok (.iadd, 1) := by decide +kernel
theorem dX8_part_41 : decode (zcc mX8_part) 41 = .ok (.invokestatic 94, 3) := by decide +kernel
theorem dX8_part_44 : decode (zcc mX8_part) 44 = .ok (.ifCond .ne 6, 3) := by decide +kernel
theorem dX8_part_47 : decode (zcc mX8_part) 47 = .ok (.bipush (-3), 2) := by decide +kernel
theorem dX8_part_49 : decode (zcc mX8_part) 49 = .ok (.ireturn, 1) := by decide +kernel
theorem dX8_part_50 : decode (zcc mX8_part) 50 = .ok (.aload_n 0, 1) := by decide +kernel
theorem dX8_part_51 : decode (zcc mX8_part) 51 = .ok (.getfield 20, 3) := by decide +kernel
theorem dX8_part_54 : decode (zcc mX8_part) 54 = .ok (.iload_n 1, 1) := by decide +kernel
theorem dX8_part_55 : decode (zcc mX8_part) 55 = .ok (.iaload, 1) := by decide +kernel
theorem dX8_part_56 : decode (zcc mX8_part) 56 = .ok (.bipush 6, 2) := by decide +kernel
theorem dX8_part_58 : decode (zcc mX8_part) 58 = .ok (.if_icmp .ne 6, 3) := by decide +kernel
theorem dX8_part_61 : decode (zcc mX8_part) 61 = .ok (.bipush (-5), 2) := by decide +kernel
theorem dX8_part_63 : decode (zcc mX8_part) 63 = .ok (.ireturn, 1) := by decide +kernel
theorem dX8_part_64 : decode (zcc mX8_part) 64 = .ok (.aload_n 0, 1) := by decide +kernel
theorem dX8_part_65 : decode (zcc mX8_part) 65 = .ok (.getfield 23, 3) := by decide +kernel
theorem dX8_part_68 : decode (zcc mX8_part) 68 = .ok (.bipush 6, 2) := by decide +kernel
theorem dX8_part_70 : decode (zcc mX8_part) 70 = .ok (.iload_n 1, 1) := by decide +kernel
theorem dX8_part_71 : decode (zcc mX8_part) 71 = .ok (.imul, 1) := by decide +kernel
theorem dX8_part_72 : decode (zcc mX8_part) 72 = .ok (.aload_n 0, 1) := by decide +kernel
theorem dX8_part_73 : decode (zcc mX8_part) 73 = .ok (.getfield 20, 3) := by decide +kernel
theorem dX8_part_76 : decode (zcc mX8_part) 76 = .ok (.iload_n 1, 1) := by decide +kernel
theorem dX8_part_77 : decode (zcc mX8_part) 77 = .ok (.iaload, 1) := by decide +kernel
theorem dX8_part_78 : decode (zcc mX8_part) 78 = .ok (.iadd, 1) := by decide +kernel
theorem dX8_part_79 : decode (zcc mX8_part) 79 = .ok (.iload_n 2, 1) := by decide +kernel
theorem dX8_part_80 : decode (zcc mX8_part) 80 = .ok (.iastore, 1) := by decide +kernel
theorem dX8_part_81 : decode (zcc mX8_part) 81 = .ok (.aload_n 0, 1) := by decide +kernel
theorem dX8_part_82 : decode (zcc mX8_part) 82 = .ok (.getfield 20, 3) := by decide +kernel
theorem dX8_part_85 : decode (zcc mX8_part) 85 = .ok (.iload_n 1, 1) := by decide +kernel
theorem dX8_part_86 : decode (zcc mX8_part) 86 = .ok (.dup2, 1) := by decide +kernel
theorem dX8_part_87 : decode (zcc mX8_part) 87 = .ok (.iaload, 1) := by decide +kernel
theorem dX8_part_88 : decode (zcc mX8_part) 88 = .ok (.iconst 1, 1) := by decide +kernel
theorem dX8_part_89 : decode (zcc mX8_part) 89 = .ok (.iadd, 1) := by decide +kernel
theorem dX8_part_90 : decode (zcc mX8_part) 90 = .ok (.iastore, 1) := by decide +kernel
theorem dX8_part_91 : decode (zcc mX8_part) 91 = .ok (.aload_n 0, 1) := by decide +kernel
theorem dX8_part_92 : decode (zcc mX8_part) 92 = .ok (.invokevirtual 110, 3) := by decide +kernel
theorem dX8_part_95 : decode (zcc mX8_part) 95 = .ok (.aload_n 0, 1) := by decide +kernel
theorem dX8_part_96 : decode (zcc mX8_part) 96 = .ok (.getfield 20, 3) := by decide +kernel
theorem dX8_part_99 : decode (zcc mX8_part) 99 = .ok (.iload_n 1, 1) := by decide +kernel
theorem dX8_part_100 : decode (zcc mX8_part) 100 = .ok (.iaload, 1) := by decide +kernel
theorem dX8_part_101 : decode (zcc mX8_part) 101 = .ok (.ireturn, 1) := by decide +kernel
theorem dX8_machine_0 : decode (zcc mX8_machine) 0 = .ok (.iload_n 1, 1) := by decide +kernel
theorem dX8_machine_1 : decode (zcc mX8_machine) 1 = .ok (.iconst 1, 1) := by decide +kernel
theorem dX8_machine_2 : decode (zcc mX8_machine) 2 = .ok (.bipush 6, 2) := by decide +kernel
theorem dX8_machine_4 : decode (zcc mX8_machine) 4 = .ok (.invokestatic 94, 3) := by decide +kernel
theorem dX8_machine_7 : decode (zcc mX8_machine) 7 = .ok (.ifCond .ne 6, 3) := by decide +kernel
theorem dX8_machine_10 : decode (zcc mX8_machine) 10 = .ok (.bipush (-3), 2) := by decide +kernel
theorem dX8_machine_12 : decode (zcc mX8_machine) 12 = .ok (.ireturn, 1) := by decide +kernel
theorem dX8_machine_13 : decode (zcc mX8_machine) 13 = .ok (.aload_n 0, 1) := by decide +kernel
theorem dX8_machine_14 : decode (zcc mX8_machine) 14 = .ok (.getfield 107, 3) := by decide +kernel
theorem dX8_machine_17 : decode (zcc mX8_machine) 17 = .ok (.iconst 3, 1) := by decide +kernel
theorem dX8_machine_18 : decode (zcc mX8_machine) 18 = .ok (.if_icmp .ne 6, 3) := by decide +kernel
theorem dX8_machine_21 : decode (zcc mX8_machine) 21 = .ok (.bipush (-5), 2) := by decide +kernel
theorem dX8_machine_23 : decode (zcc mX8_machine) 23 = .ok (.ireturn, 1) := by decide +kernel
theorem dX8_machine_24 : decode (zcc mX8_machine) 24 = .ok (.aload_n 0, 1) := by decide +kernel
theorem dX8_machine_25 : decode (zcc mX8_machine) 25 = .ok (.getfield 26, 3) := by decide +kernel
theorem dX8_machine_28 : decode (zcc mX8_machine) 28 = .ok (.aload_n 0, 1) := by decide +kernel
theorem dX8_machine_29 : decode (zcc mX8_machine) 29 = .ok (.getfield 107, 3) := by decide +kernel
theorem dX8_machine_32 : decode (zcc mX8_machine) 32 = .ok (.iload_n 1, 1) := by decide +kernel
theorem dX8_machine_33 : decode (zcc mX8_machine) 33 = .ok (.iastore, 1) := by decide +kernel
theorem dX8_machine_34 : decode (zcc mX8_machine) 34 = .ok (.iconst 0, 1) := by decide +kernel
theorem dX8_machine_35 : decode (zcc mX8_machine) 35 = .ok (.istore_n 2, 1) := by decide +kernel
theorem dX8_machine_36 : decode (zcc mX8_machine) 36 = .ok (.iload_n 2, 1) := by decide +kernel
theorem dX8_machine_37 : decode (zcc mX8_machine) 37 = .ok (.bipush 18, 2) := by decide +kernel
theorem dX8_machine_39 : decode (zcc mX8_machine) 39 = .ok (.if_icmp .ge 24, 3) := by decide +kernel
theorem dX8_machine_42 : decode (zcc mX8_machine) 42 = .ok (.aload_n 0, 1) := by decide +kernel
theorem dX8_machine_43 : decode (zcc mX8_machine) 43 = .ok (.getfield 29, 3) := by decide +kernel
theorem dX8_machine_46 : decode (zcc mX8_machine) 46 = .ok (.bipush 18, 2) := by decide +kernel
theorem dX8_machine_48 : decode (zcc mX8_machine) 48 = .ok (.aload_n 0, 1) := by decide +kernel
theorem dX8_machine_49 : decode (zcc mX8_machine) 49 = .ok (.getfield 107, 3) := by decide +kernel
theorem dX8_machine_52 : decode (zcc mX8_machine) 52 = .ok (.imul, 1) := by decide +kernel
theorem dX8_machine_53 : decode (zcc mX8_machine) 53 = .ok (.iload_n 2, 1) := by decide +kernel
theorem dX8_machine_54 : decode (zcc mX8_machine) 54 = .ok (.iadd, 1) := by decide +kernel
theorem dX8_machine_55 : decode (zcc mX8_machine) 55 = .ok (.iconst 0, 1) := by decide +kernel
theorem dX8_machine_56 : decode (zcc mX8_machine) 56 = .ok (.iastore, 1) := by decide +kernel
theorem dX8_machine_57 : decode (zcc mX8_machine) 57 = .ok (.iinc 2 1, 3) := by decide +kernel
theorem dX8_machine_60 : decode (zcc mX8_machine) 60 = .ok (.goto (-24), 3) := by decide +kernel
theorem dX8_machine_63 : decode (zcc mX8_machine) 63 = .ok (.iconst 0, 1) := by decide +kernel
theorem dX8_machine_64 : decode (zcc mX8_machine) 64 = .ok (.istore_n 2, 1) := by decide +kernel
theorem dX8_machine_65 : decode (zcc mX8_machine) 65 = .ok (.iload_n 2, 1) := by decide +kernel
theorem dX8_machine_66 : decode (zcc mX8_machine) 66 = .ok (.bipush 6, 2) := by decide +kernel
theorem dX8_machine_68 : decode (zcc mX8_machine) 68 = .ok (.if_icmp .ge 24, 3) := by decide +kernel
theorem dX8_machine_71 : decode (zcc mX8_machine) 71 = .ok (.aload_n 0, 1) := by decide +kernel
theorem dX8_machine_72 : decode (zcc mX8_machine) 72 = .ok (.getfield 32, 3) := by decide +kernel
theorem dX8_machine_75 : decode (zcc mX8_machine) 75 = .ok (.bipush 6, 2) := by decide +kernel
theorem dX8_machine_77 : decode (zcc mX8_machine) 77 = .ok (.aload_n 0, 1) := by decide +kernel
theorem dX8_machine_78 : decode (zcc mX8_machine) 78 = .ok (.getfield 107, 3) := by decide +kernel
theorem dX8_machine_81 : decode (zcc mX8_machine) 81 = .ok (.imul, 1) := by decide +kernel
theorem dX8_machine_82 : decode (zcc mX8_machine) 82 = .ok (.iload_n 2, 1) := by decide +kernel
theorem dX8_machine_83 : decode (zcc mX8_machine) 83 = .ok (.iadd, 1) := by decide +kernel
theorem dX8_machine_84 : decode (zcc mX8_machine) 84 = .ok (.iconst 0, 1) := by decide +kernel
theorem dX8_machine_85 : decode (zcc mX8_machine) 85 = .ok (.bastore, 1) := by decide +kernel
theorem dX8_machine_86 : decode (zcc mX8_machine) 86 = .ok (.iinc 2 1, 3) := by decide +kernel
theorem dX8_machine_89 : decode (zcc mX8_machine) 89 = .ok (.goto (-24), 3) := by decide +kernel
theorem dX8_machine_92 : decode (zcc mX8_machine) 92 = .ok (.aload_n 0, 1) := by decide +kernel
theorem dX8_machine_93 : decode (zcc mX8_machine) 93 = .ok (.dup, 1) := by decide +kernel
theorem dX8_machine_94 : decode (zcc mX8_machine) 94 = .ok (.getfield 107, 3) := by decide +kernel
theorem dX8_machine_97 : decode (zcc mX8_machine) 97 = .ok (.iconst 1, 1) := by decide +kernel
theorem dX8_machine_98 : decode (zcc mX8_machine) 98 = .ok (.iadd, 1) := by decide +kernel
theorem dX8_machine_99 : decode (zcc mX8_machine) 99 = .ok (.putfield 107, 3) := by decide +kernel
theorem dX8_machine_102 : decode (zcc mX8_machine) 102 = .ok (.aload_n 0, 1) := by decide +kernel
theorem dX8_machine_103 : decode (zcc mX8_machine) 103 = .ok (.invokevirtual 110, 3) := by decide +kernel
theorem dX8_machine_106 : decode (zcc mX8_machine) 106 = .ok (.aload_n 0, 1) := by decide +kernel
theorem dX8_machine_107 : decode (zcc mX8_machine) 107 = .ok (.getfield 107, 3) := by decide +kernel
theorem dX8_machine_110 : decode (zcc mX8_machine) 110 = .ok (.iconst 1, 1) := by decide +kernel
theorem dX8_machine_111 : decode (zcc mX8_machine) 111 = .ok (.isub, 1) := by decide +kernel
theorem dX8_machine_112 : decode (zcc mX8_machine) 112 = .ok (.ireturn, 1) := by decide +kernel
theorem dX8_step_0 : decode (zcc mX8_step) 0 = .ok (.iload_n 1, 1) := by decide +kernel
theorem dX8_step_1 : decode (zcc mX8_step) 1 = .ok (.iconst 0, 1) := by decide +kernel
theorem dX8_step_2 : decode (zcc mX8_step) 2 = .ok (.aload_n 0, 1) := by decide +kernel
theorem dX8_step_3 : decode (zcc mX8_step) 3 = .ok (.getfield 107, 3) := by decide +kernel
theorem dX8_step_6 : decode (zcc mX8_step) 6 = .ok (.iconst 1, 1) := by decide +kernel
theorem dX8_step_7 : decode (zcc mX8_step) 7 = .ok (.isub, 1) := by decide +kernel
theorem dX8_step_8 : decode (zcc mX8_step) 8 = .ok (.invokestatic 94, 3) := by decide +kernel
theorem dX8_step_11 : decode (zcc mX8_step) 11 = .ok (.ifCond .ne 6, 3) := by decide +kernel
theorem dX8_step_14 : decode (zcc mX8_step) 14 = .ok (.bipush (-2), 2) := by decide +kernel
theorem dX8_step_16 : decode (zcc mX8_step) 16 = .ok (.ireturn, 1) := by decide +kernel
theorem dX8_step_17 : decode (zcc mX8_step) 17 = .ok (.iload_n 2, 1) := by decide +kernel
theorem dX8_step_18 : decode (zcc mX8_step) 18 = .ok (.iconst 0, 1) := by decide +kernel
theorem dX8_step_19 : decode (zcc mX8_step) 19 = .ok (.aload_n 0, 1) := by decide +kernel
theorem dX8_step_20 : decode (zcc mX8_step) 20 = .ok (.getfield 26, 3) := by decide +kernel
theorem dX8_step_23 : decode (zcc mX8_step) 23 = .ok (.iload_n 1, 1) := by decide +kernel
theorem dX8_step_24 : decode (zcc mX8_step) 24 = .ok (.iaload, 1) := by decide +kernel
theorem dX8_step_25 : decode (zcc mX8_step) 25 = .ok (.iconst 1, 1) := by decide +kernel
theorem dX8_step_26 : decode (zcc mX8_step) 26 = .ok (.isub, 1) := by decide +kernel
theorem dX8_step_27 : decode (zcc mX8_step) 27 = .ok (.invokestatic 94, 3) := by decide +kernel
theorem dX8_step_30 : decode (zcc mX8_step) 30 = .ok (.ifCond .eq 34, 3) := by decide +kernel
theorem dX8_step_33 : decode (zcc mX8_step) 33 = .ok (.iload_n 3, 1) := by decide +kernel
theorem dX8_step_34 : decode (zcc mX8_step) 34 = .ok (.iconst 0, 1) := by decide +kernel
theorem dX8_step_35 : decode (zcc mX8_step) 35 = .ok (.aload_n 0, 1) := by decide +kernel
theorem dX8_step_36 : decode (zcc mX8_step) 36 = .ok (.getfield 7, 3) := by decide +kernel
theorem dX8_step_39 : decode (zcc mX8_step) 39 = .ok (.iconst 1, 1) := by decide +kernel
theorem dX8_step_40 : decode (zcc mX8_step) 40 = .ok (.isub, 1) := by decide +kernel
theorem dX8_step_41 : decode (zcc mX8_step) 41 = .ok (.invokestatic 94, 3) := by decide +kernel
theorem dX8_step_44 : decode (zcc mX8_step) 44 = .ok (.ifCond .eq 20, 3) := by decide +kernel
theorem dX8_step_47 : decode (zcc mX8_step) 47 = .ok (.iload 4, 2) := by decide +kernel
theorem dX8_step_49 : decode (zcc mX8_step) 49 = .ok (.iconst 0, 1) := by decide +kernel
theorem dX8_step_50 : decode (zcc mX8_step) 50 = .ok (.aload_n 0, 1) := by decide +kernel
theorem dX8_step_51 : decode (zcc mX8_step) 51 = .ok (.getfield 26, 3) := by decide +kernel
theorem dX8_step_54 : decode (zcc mX8_step) 54 = .ok (.iload_n 1, 1) := by decide +kernel
theorem dX8_step_55 : decode (zcc mX8_step) 55 = .ok (.iaload, 1) := by decide +kernel
theorem dX8_step_56 : decode (zcc mX8_step) 56 = .ok (.iconst 1, 1) := by decide +kernel
theorem dX8_step_57 : decode (zcc mX8_step) 57 = .ok (.isub, 1) := by decide +kernel
theorem dX8_step_58 : decode (zcc mX8_step) 58 = .ok (.invokestatic 94, 3) := by decide +kernel
theorem dX8_step_61 : decode (zcc mX8_step) 61 = .ok (.ifCond .ne 6, 3) := by decide +kernel
theorem dX8_step_64 : decode (zcc mX8_step) 64 = .ok (.bipush (-3), 2) := by decide +kernel
theorem dX8_step_66 : decode (zcc mX8_step) 66 = .ok (.ireturn, 1) := by decide +kernel
theorem dX8_step_67 : decode (zcc mX8_step) 67 = .ok (.bipush 18, 2) := by decide +kernel
theorem dX8_step_69 : decode (zcc mX8_step) 69 = .ok (.iload_n 1, 1) := by decide +kernel
theorem dX8_step_70 : decode (zcc mX8_step) 70 = .ok (.imul, 1) := by decide +kernel
theorem dX8_step_71 : decode (zcc mX8_step) 71 = .ok (.iconst 3, 1) := by decide +kernel
theorem dX8_step_72 : decode (zcc mX8_step) 72 = .ok (.iload_n 2, 1) := by decide +kernel
theorem dX8_step_73 : decode (zcc mX8_step) 73 = .ok (.imul, 1) := by decide +kernel
theorem dX8_step_74 : decode (zcc mX8_step) 74 = .ok (.iadd, 1) := by decide +kernel
theorem dX8_step_75 : decode (zcc mX8_step) 75 = .ok (.iload_n 3, 1) := by decide +kernel
theorem dX8_step_76 : decode (zcc mX8_step) 76 = .ok (.iadd, 1) := by decide +kernel
theorem dX8_step_77 : decode (zcc mX8_step) 77 = .ok (.istore 5, 2) := by decide +kernel
theorem dX8_step_79 : decode (zcc mX8_step) 79 = .ok (.aload_n 0, 1) := by decide +kernel
theorem dX8_step_80 : decode (zcc mX8_step) 80 = .ok (.getfield 29, 3) := by decide +kernel
theorem dX8_step_83 : decode (zcc mX8_step) 83 = .ok (.iload 5, 2) := by decide +kernel
theorem dX8_step_85 : decode (zcc mX8_step) 85 = .ok (.iaload, 1) := by decide +kernel
theorem dX8_step_86 : decode (zcc mX8_step) 86 = .ok (.istore 6, 2) := by decide +kernel
theorem dX8_step_88 : decode (zcc mX8_step) 88 = .ok (.aload_n 0, 1) := by decide +kernel
theorem dX8_step_89 : decode (zcc mX8_step) 89 = .ok (.getfield 29, 3) := by decide +kernel
theorem dX8_step_92 : decode (zcc mX8_step) 92 = .ok (.iload 5, 2) := by decide +kernel
theorem dX8_step_94 : decode (zcc mX8_step) 94 = .ok (.iload 4, 2) := by decide +kernel
theorem dX8_step_96 : decode (zcc mX8_step) 96 = .ok (.iastore, 1) := by decide +kernel
theorem dX8_step_97 : decode (zcc mX8_step) 97 = .ok (.aload_n 0, 1) := by decide +kernel
theorem dX8_step_98 : decode (zcc mX8_step) 98 = .ok (.invokevirtual 110, 3) := by decide +kernel
theorem dX8_step_101 : decode (zcc mX8_step) 101 = .ok (.iload 6, 2) := by decide +kernel
theorem dX8_step_103 : decode (zcc mX8_step) 103 = .ok (.ireturn, 1) := by decide +kernel
theorem dX8_good_0 : decode (zcc mX8_good) 0 = .ok (.iload_n 1, 1) := by decide +kernel
theorem dX8_good_1 : decode (zcc mX8_good) 1 = .ok (.iconst 0, 1) := by decide +kernel
theorem dX8_good_2 : decode (zcc mX8_good) 2 = .ok (.aload_n 0, 1) := by decide +kernel
theorem dX8_good_3 : decode (zcc mX8_good) 3 = .ok (.getfield 107, 3) := by decide +kernel
theorem dX8_good_6 : decode (zcc mX8_good) 6 = .ok (.iconst 1, 1) := by decide +kernel
theorem dX8_good_7 : decode (zcc mX8_good) 7 = .ok (.isub, 1) := by decide +kernel
theorem dX8_good_8 : decode (zcc mX8_good) 8 = .ok (.invokestatic 94, 3) := by decide +kernel
theorem dX8_good_11 : decode (zcc mX8_good) 11 = .ok (.ifCond .ne 6, 3) := by decide +kernel
theorem dX8_good_14 : decode (zcc mX8_good) 14 = .ok (.bipush (-2), 2) := by decide +kernel
theorem dX8_good_16 : decode (zcc mX8_good) 16 = .ok (.ireturn, 1) := by decide +kernel
theorem dX8_good_17 : decode (zcc mX8_good) 17 = .ok (.iload_n 2, 1) := by decide +kernel
theorem dX8_good_18 : decode (zcc mX8_good) 18 = .ok (.iconst 0, 1) := by decide +kernel
theorem dX8_good_19 : decode (zcc mX8_good) 19 = .ok (.aload_n 0, 1) := by decide +kernel
theorem dX8_good_20 : decode (zcc mX8_good) 20 = .ok (.getfield 26, 3) := by decide +kernel
theorem dX8_good_23 : decode (zcc mX8_good) 23 = .ok (.iload_n 1, 1) := by decide +kernel
theorem dX8_good_24 : decode (zcc mX8_good) 24 = .ok (.iaload, 1) := by decide +kernel
theorem dX8_good_25 : decode (zcc mX8_good) 25 = .ok (.iconst 1, 1) := by decide +kernel
theorem dX8_good_26 : decode (zcc mX8_good) 26 = .ok (.isub, 1) := by decide +kernel
theorem dX8_good_27 : decode (zcc mX8_good) 27 = .ok (.invokestatic 94, 3) := by decide +kernel
theorem dX8_good_30 : decode (zcc mX8_good) 30 = .ok (.ifCond .ne 6, 3) := by decide +kernel
theorem dX8_good_33 : decode (zcc mX8_good) 33 = .ok (.bipush (-3), 2) := by decide +kernel
theorem dX8_good_35 : decode (zcc mX8_good) 35 = .ok (.ireturn, 1) := by decide +kernel
theorem dX8_good_36 : decode (zcc mX8_good) 36 = .ok (.aload_n 0, 1) := by decide +kernel
theorem dX8_good_37 : decode (zcc mX8_good) 37 = .ok (.getfield 32, 3) := by decide +kernel
theorem dX8_good_40 : decode (zcc mX8_good) 40 = .ok (.bipush 6, 2) := by decide +kernel
theorem dX8_good_42 : decode (zcc mX8_good) 42 = .ok (.iload_n 1, 1) := by decide +kernel
theorem dX8_good_43 : decode (zcc mX8_good) 43 = .ok (.imul, 1) := by decide +kernel
theorem dX8_good_44 : decode (zcc mX8_good) 44 = .ok (.iload_n 2, 1) := by decide +kernel
theorem dX8_good_45 : decode (zcc mX8_good) 45 = .ok (.iadd, 1) := by decide +kernel
theorem dX8_good_46 : decode (zcc mX8_good) 46 = .ok (.baload, 1) := by decide +kernel
theorem dX8_good_47 : decode (zcc mX8_good) 47 = .ok (.istore 4, 2) := by decide +kernel
theorem dX8_good_49 : decode (zcc mX8_good) 49 = .ok (.aload_n 0, 1) := by decide +kernel
theorem dX8_good_50 : decode (zcc mX8_good) 50 = .ok (.getfield 32, 3) := by decide +kernel
theorem dX8_good_53 : decode (zcc mX8_good) 53 = .ok (.bipush 6, 2) := by decide +kernel
theorem dX8_good_55 : decode (zcc mX8_good) 55 = .ok (.iload_n 1, 1) := by decide +kernel
theorem dX8_good_56 : decode (zcc mX8_good) 56 = .ok (.imul, 1) := by decide +kernel
theorem dX8_good_57 : decode (zcc mX8_good) 57 = .ok (.iload_n 2, 1) := by decide +kernel
theorem dX8_good_58 : decode (zcc mX8_good) 58 = .ok (.iadd, 1) := by decide +kernel
theorem dX8_good_59 : decode (zcc mX8_good) 59 = .ok (.iload_n 3, 1) := by decide +kernel
theorem dX8_good_60 : decode (zcc mX8_good) 60 = .ok (.bastore, 1) := by decide +kernel
theorem dX8_good_61 : decode (zcc mX8_good) 61 = .ok (.aload_n 0, 1) := by decide +kernel
theorem dX8_good_62 : decode (zcc mX8_good) 62 = .ok (.invokevirtual 110, 3) := by decide +kernel
theorem dX8_good_65 : decode (zcc mX8_good) 65 = .ok (.iload 4, 2) := by decide +kernel
theorem dX8_good_67 : decode (zcc mX8_good) 67 = .ok (.ifCond .eq 7, 3) := by decide +kernel
theorem dX8_good_70 : decode (zcc mX8_good) 70 = .ok (.iconst 1, 1) := by decide +kernel
theorem dX8_good_71 : decode (zcc mX8_good) 71 = .ok (.goto 4, 3) := by decide +kernel
theorem dX8_good_74 : decode (zcc mX8_good) 74 = .ok (.iconst 0, 1) := by decide +kernel
theorem dX8_good_75 : decode (zcc mX8_good) 75 = .ok (.ireturn, 1) := by decide +kernel
theorem dX8_isTerm_0 : decode (zcc mX8_isTerm) 0 = .ok (.iload_n 1, 1) := by decide +kernel
theorem dX8_isTerm_1 : decode (zcc mX8_isTerm) 1 = .ok (.iconst 0, 1) := by decide +kernel
theorem dX8_isTerm_2 : decode (zcc mX8_isTerm) 2 = .ok (.aload_n 0, 1) := by decide +kernel
theorem dX8_isTerm_3 : decode (zcc mX8_isTerm) 3 = .ok (.getfield 104, 3) := by decide +kernel
theorem dX8_isTerm_6 : decode (zcc mX8_isTerm) 6 = .ok (.iconst 1, 1) := by decide +kernel
theorem dX8_isTerm_7 : decode (zcc mX8_isTerm) 7 = .ok (.isub, 1) := by decide +kernel
theorem dX8_isTerm_8 : decode (zcc mX8_isTerm) 8 = .ok (.invokestatic 94, 3) := by decide +kernel
theorem dX8_isTerm_11 : decode (zcc mX8_isTerm) 11 = .ok (.ireturn, 1) := by decide +kernel
theorem dX8_formula_0 : decode (zcc mX8_formula) 0 = .ok (.iload_n 1, 1) := by decide +kernel
theorem dX8_formula_1 : decode (zcc mX8_formula) 1 = .ok (.iconst 0, 1) := by decide +kernel
theorem dX8_formula_2 : decode (zcc mX8_formula) 2 = .ok (.bipush 6, 2) := by decide +kernel
theorem dX8_formula_4 : decode (zcc mX8_formula) 4 = .ok (.invokestatic 94, 3) := by decide +kernel
theorem dX8_formula_7 : decode (zcc mX8_formula) 7 = .ok (.ifCond .ne 6, 3) := by decide +kernel
theorem dX8_formula_10 : decode (zcc mX8_formula) 10 = .ok (.bipush (-3), 2) := by decide +kernel
theorem dX8_formula_12 : decode (zcc mX8_formula) 12 = .ok (.ireturn, 1) := by decide +kernel
theorem dX8_formula_13 : decode (zcc mX8_formula) 13 = .ok (.aload_n 0, 1) := by decide +kernel
theorem dX8_formula_14 : decode (zcc mX8_formula) 14 = .ok (.iload_n 2, 1) := by decide +kernel
theorem dX8_formula_15 : decode (zcc mX8_formula) 15 = .ok (.invokevirtual 113, 3) := by decide +kernel
theorem dX8_formula_18 : decode (zcc mX8_formula) 18 = .ok (.istore 6, 2) := by decide +kernel
theorem dX8_formula_20 : decode (zcc mX8_formula) 20 = .ok (.iload_n 1, 1) := by decide +kernel
theorem dX8_formula_21 : decode (zcc mX8_formula) 21 = .ok (.iconst 1, 1) := by decide +kernel
theorem dX8_formula_22 : decode (zcc mX8_formula) 22 = .ok (.if_icmp .ne 31, 3) := by decide +kernel
theorem dX8_formula_25 : decode (zcc mX8_formula) 25 = .ok (.iload 6, 2) := by decide +kernel
theorem dX8_formula_27 : decode (zcc mX8_formula) 27 = .ok (.ifCond .eq 20, 3) := by decide +kernel
theorem dX8_formula_30 : decode (zcc mX8_formula) 30 = .ok (.iload_n 3, 1) := by decide +kernel
theorem dX8_formula_31 : decode (zcc mX8_formula) 31 = .ok (.iconst (-1), 1) := by decide +kernel
theorem dX8_formula_32 : decode (zcc mX8_formula) 32 = .ok (.if_icmp .eq 11, 3) := by decide +kernel
theorem dX8_formula_35 : decode (zcc mX8_formula) 35 = .ok (.aload_n 0, 1) := by decide +kernel
theorem dX8_formula_36 : decode (zcc mX8_formula) 36 = .ok (.iload_n 3, 1) := by decide +kernel
theorem dX8_formula_37 : decode (zcc mX8_formula) 37 = .ok (.invokevirtual 113, 3) := by decide +kernel
theorem dX8_formula_40 : decode (zcc mX8_formula) 40 = .ok (.ifCond .eq 7, 3) := by decide +kernel
theorem dX8_formula_43 : decode (zcc mX8_formula) 43 = .ok (.iconst 1, 1) := by decide +kernel
theorem dX8_formula_44 : decode (zcc mX8_formula) 44 = .ok (.goto 4, 3) := by decide +kernel
theorem dX8_formula_47 : decode (zcc mX8_formula) 47 = .ok (.iconst 0, 1) := by decide +kernel
theorem dX8_formula_48 : decode (zcc mX8_formula) 48 = .ok (.istore 6, 2) := by decide +kernel
theorem dX8_formula_50 : decode (zcc mX8_formula) 50 = .ok (.goto 62, 3) := by decide +kernel
theorem dX8_formula_53 : decode (zcc mX8_formula) 53 = .ok (.iload_n 1, 1) := by decide +kernel
theorem dX8_formula_54 : decode (zcc mX8_formula) 54 = .ok (.iconst 2, 1) := by decide +kernel
theorem dX8_formula_55 : decode (zcc mX8_formula) 55 = .ok (.if_icmp .ne 32, 3) := by decide +kernel
theorem dX8_formula_58 : decode (zcc mX8_formula) 58 = .ok (.iload 6, 2) := by decide +kernel
theorem dX8_formula_60 : decode (zcc mX8_formula) 60 = .ok (.ifCond .eq 21, 3) := by decide +kernel
theorem dX8_formula_63 : decode (zcc mX8_formula) 63 = .ok (.iload_n 3, 1) := by decide +kernel
theorem dX8_formula_64 : decode (zcc mX8_formula) 64 = .ok (.iconst 0, 1) := by decide +kernel
theorem dX8_formula_65 : decode (zcc mX8_formula) 65 = .ok (.aload_n 0, 1) := by decide +kernel
theorem dX8_formula_66 : decode (zcc mX8_formula) 66 = .ok (.getfield 107, 3) := by decide +kernel
theorem dX8_formula_69 : decode (zcc mX8_formula) 69 = .ok (.iconst 1, 1) := by decide +kernel
theorem dX8_formula_70 : decode (zcc mX8_formula) 70 = .ok (.isub, 1) := by decide +kernel
theorem dX8_formula_71 : decode (zcc mX8_formula) 71 = .ok (.invokestatic 94, 3) := by decide +kernel
theorem dX8_formula_74 : decode (zcc mX8_formula) 74 = .ok (.ifCond .eq 7, 3) := by decide +kernel
theorem dX8_formula_77 : decode (zcc mX8_formula) 77 = .ok (.iconst 1, 1) := by decide +kernel
theorem dX8_formula_78 : decode (zcc mX8_formula) 78 = .ok (.goto 4, 3) := by decide +kernel
theorem dX8_formula_81 : decode (zcc mX8_formula) 81 = .ok (.iconst 0, 1) := by decide +kernel
theorem dX8_formula_82 : decode (zcc mX8_formula) 82 = .ok (.istore 6, 2) := by decide +kernel
theorem dX8_formula_84 : decode (zcc mX8_formula) 84 = .ok (.goto 28, 3) := by decide +kernel
theorem dX8_formula_87 : decode (zcc mX8_formula) 87 = .ok (.iload_n 1, 1) := by decide +kernel
theorem dX8_formula_88 : decode (zcc mX8_formula) 88 = .ok (.iconst 5, 1) := by decide +kernel
theorem dX8_formula_89 : decode (zcc mX8_formula) 89 = .ok (.if_icmp .eq 23, 3) := by decide +kernel
theorem dX8_formula_92 : decode (zcc mX8_formula) 92 = .ok (.iload 6, 2) := by decide +kernel
theorem dX8_formula_94 : decode (zcc mX8_formula) 94 = .ok (.ifCond .eq 15, 3) := by decide +kernel
theorem dX8_formula_97 : decode (zcc mX8_formula) 97 = .ok (.aload_n 0, 1) := by decide +kernel
theorem dX8_formula_98 : decode (zcc mX8_formula) 98 = .ok (.iload_n 3, 1) := by decide +kernel
theorem dX8_formula_99 : decode (zcc mX8_formula) 99 = .ok (.invokevirtual 113, 3) := by decide +kernel
theorem dX8_formula_102 : decode (zcc mX8_formula) 102 = .ok (.ifCond .eq 7, 3) := by decide +kernel
theorem dX8_formula_105 : decode (zcc mX8_formula) 105 = .ok (.iconst 1, 1) := by decide +kernel
theorem dX8_formula_106 : decode (zcc mX8_formula) 106 = .ok (.goto 4, 3) := by decide +kernel
theorem dX8_formula_109 : decode (zcc mX8_formula) 109 = .ok (.iconst 0, 1) := by decide +kernel
theorem dX8_formula_110 : decode (zcc mX8_formula) 110 = .ok (.istore 6, 2) := by decide +kernel
theorem dX8_formula_112 : decode (zcc mX8_formula) 112 = .ok (.iload_n 1, 1) := by decide +kernel
theorem dX8_formula_113 : decode (zcc mX8_formula) 113 = .ok (.bipush 6, 2) := by decide +kernel
theorem dX8_formula_115 : decode (zcc mX8_formula) 115 = .ok (.if_icmp .ne 33, 3) := by decide +kernel
theorem dX8_formula_118 : decode (zcc mX8_formula) 118 = .ok (.iload 6, 2) := by decide +kernel
theorem dX8_formula_120 : decode (zcc mX8_formula) 120 = .ok (.ifCond .eq 25, 3) := by decide +kernel
theorem dX8_formula_123 : decode (zcc mX8_formula) 123 = .ok (.aload_n 0, 1) := by decide +kernel
theorem dX8_formula_124 : decode (zcc mX8_formula) 124 = .ok (.iload 4, 2) := by decide +kernel
theorem dX8_formula_126 : decode (zcc mX8_formula) 126 = .ok (.invokevirtual 113, 3) := by decide +kernel
theorem dX8_formula_129 : decode (zcc mX8_formula) 129 = .ok (.ifCond .eq 16, 3) := by decide +kernel
theorem dX8_formula_132 : decode (zcc mX8_formula) 132 = .ok (.aload_n 0, 1) := by decide +kernel
theorem dX8_formula_133 : decode (zcc mX8_formula) 133 = .ok (.iload 5, 2) := by decide +kernel
theorem dX8_formula_135 : decode (zcc mX8_formula) 135 = .ok (.invokevirtual 113, 3) := by decide +kernel
theorem dX8_formula_138 : decode (zcc mX8_formula) 138 = .ok (.ifCond .eq 7, 3) := by decide +kernel
theorem dX8_formula_141 : decode (zcc mX8_formula) 141 = .ok (.iconst 1, 1) := by decide +kernel
theorem dX8_formula_142 : decode (zcc mX8_formula) 142 = .ok (.goto 4, 3) := by decide +kernel
theorem dX8_formula_145 : decode (zcc mX8_formula) 145 = .ok (.iconst 0, 1) := by decide +kernel
theorem dX8_formula_146 : decode (zcc mX8_formula) 146 = .ok (.istore 6, 2) := by decide +kernel
theorem dX8_formula_148 : decode (zcc mX8_formula) 148 = .ok (.iload 6, 2) := by decide +kernel
theorem dX8_formula_150 : decode (zcc mX8_formula) 150 = .ok (.ifCond .ne 6, 3) := by decide +kernel
theorem dX8_formula_153 : decode (zcc mX8_formula) 153 = .ok (.bipush (-2), 2) := by decide +kernel
theorem dX8_formula_155 : decode (zcc mX8_formula) 155 = .ok (.ireturn, 1) := by decide +kernel
theorem dX8_formula_156 : decode (zcc mX8_formula) 156 = .ok (.iload_n 1, 1) := by decide +kernel
theorem dX8_formula_157 : decode (zcc mX8_formula) 157 = .ok (.iconst 1, 1) := by decide +kernel
theorem dX8_formula_158 : decode (zcc mX8_formula) 158 = .ok (.if_icmp .ne 15, 3) := by decide +kernel
theorem dX8_formula_161 : decode (zcc mX8_formula) 161 = .ok (.iload 4, 2) := by decide +kernel
theorem dX8_formula_163 : decode (zcc mX8_formula) 163 = .ok (.bipush (-40), 2) := by decide +kernel
theorem dX8_formula_165 : decode (zcc mX8_formula) 165 = .ok (.bipush 40, 2) := by decide +kernel
theorem dX8_formula_167 : decode (zcc mX8_formula) 167 = .ok (.invokestatic 94, 3) := by decide +kernel
theorem dX8_formula_170 : decode (zcc mX8_formula) 170 = .ok (.ifCond .eq 30, 3) := by decide +kernel
theorem dX8_formula_173 : decode (zcc mX8_formula) 173 = .ok (.iload_n 1, 1) := by decide +kernel
theorem dX8_formula_174 : decode (zcc mX8_formula) 174 = .ok (.iconst 5, 1) := by decide +kernel
theorem dX8_formula_175 : decode (zcc mX8_formula) 175 = .ok (.if_icmp .ne 28, 3) := by decide +kernel
theorem dX8_formula_178 : decode (zcc mX8_formula) 178 = .ok (.iload_n 3, 1) := by decide +kernel
theorem dX8_formula_179 : decode (zcc mX8_formula) 179 = .ok (.iconst 2, 1) := by decide +kernel
theorem dX8_formula_180 : decode (zcc mX8_formula) 180 = .ok (.bipush 16, 2) := by decide +kernel
theorem dX8_formula_182 : decode (zcc mX8_formula) 182 = .ok (.invokestatic 94, 3) := by decide +kernel
theorem dX8_formula_185 : decode (zcc mX8_formula) 185 = .ok (.ifCond .eq 15, 3) := by decide +kernel
theorem dX8_formula_188 : decode (zcc mX8_formula) 188 = .ok (.iload 4, 2) := by decide +kernel
theorem dX8_formula_190 : decode (zcc mX8_formula) 190 = .ok (.iconst 0, 1) := by decide +kernel
theorem dX8_formula_191 : decode (zcc mX8_formula) 191 = .ok (.iload_n 3, 1) := by decide +kernel
theorem dX8_formula_192 : decode (zcc mX8_formula) 192 = .ok (.iconst 1, 1) := by decide +kernel
theorem dX8_formula_193 : decode (zcc mX8_formula) 193 = .ok (.isub, 1) := by decide +kernel
theorem dX8_formula_194 : decode (zcc mX8_formula) 194 = .ok (.invokestatic 94, 3) := by decide +kernel
theorem dX8_formula_197 : decode (zcc mX8_formula) 197 = .ok (.ifCond .ne 6, 3) := by decide +kernel
theorem dX8_formula_200 : decode (zcc mX8_formula) 200 = .ok (.bipush (-3), 2) := by decide +kernel
theorem dX8_formula_202 : decode (zcc mX8_formula) 202 = .ok (.ireturn, 1) := by decide +kernel
theorem dX8_formula_203 : decode (zcc mX8_formula) 203 = .ok (.aload_n 0, 1) := by decide +kernel
theorem dX8_formula_204 : decode (zcc mX8_formula) 204 = .ok (.getfield 98, 3) := by decide +kernel
theorem dX8_formula_207 : decode (zcc mX8_formula) 207 = .ok (.bipush 10, 2) := by decide +kernel
theorem dX8_formula_209 : decode (zcc mX8_formula) 209 = .ok (.if_icmp .ne 6, 3) := by decide +kernel
theorem dX8_formula_212 : decode (zcc mX8_formula) 212 = .ok (.bipush (-5), 2) := by decide +kernel
theorem dX8_formula_214 : decode (zcc mX8_formula) 214 = .ok (.ireturn, 1) := by decide +kernel
theorem dX8_formula_215 : decode (zcc mX8_formula) 215 = .ok (.aload_n 0, 1) := by decide +kernel
theorem dX8_formula_216 : decode (zcc mX8_formula) 216 = .ok (.getfield 98, 3) := by decide +kernel
theorem dX8_formula_219 : decode (zcc mX8_formula) 219 = .ok (.istore 7, 2) := by decide +kernel
theorem dX8_formula_221 : decode (zcc mX8_formula) 221 = .ok (.aload_n 0, 1) := by decide +kernel
theorem dX8_formula_222 : decode (zcc mX8_formula) 222 = .ok (.getfield 36, 3) := by decide +kernel
theorem dX8_formula_225 : decode (zcc mX8_formula) 225 = .ok (.iload 7, 2) := by decide +kernel
theorem dX8_formula_227 : decode (zcc mX8_formula) 227 = .ok (.iload_n 1, 1) := by decide +kernel
theorem dX8_formula_228 : decode (zcc mX8_formula) 228 = .ok (.iastore, 1) := by decide +kernel
theorem dX8_formula_229 : decode (zcc mX8_formula) 229 = .ok (.aload_n 0, 1) := by decide +kernel
theorem dX8_formula_230 : decode (zcc mX8_formula) 230 = .ok (.getfield 39, 3) := by decide +kernel
theorem dX8_formula_233 : decode (zcc mX8_formula) 233 = .ok (.iload 7, 2) := by decide +kernel
theorem dX8_formula_235 : decode (zcc mX8_formula) 235 = .ok (.iload_n 2, 1) := by decide +kernel
theorem dX8_formula_236 : decode (zcc mX8_formula) 236 = .ok (.iastore, 1) := by decide +kernel
theorem dX8_formula_237 : decode (zcc mX8_formula) 237 = .ok (.aload_n 0, 1) := by decide +kernel
theorem dX8_formula_238 : decode (zcc mX8_formula) 238 = .ok (.getfield 42, 3) := by decide +kernel
theorem dX8_formula_241 : decode (zcc mX8_formula) 241 = .ok (.iload 7, 2) := by decide +kernel
theorem dX8_formula_243 : decode (zcc mX8_formula) 243 = .ok (.iload_n 3, 1) := by decide +kernel
theorem dX8_formula_244 : decode (zcc mX8_formula) 244 = .ok (.iastore, 1) := by decide +kernel
theorem dX8_formula_245 : decode (zcc mX8_formula) 245 = .ok (.aload_n 0, 1) := by decide +kernel
theorem dX8_formula_246 : decode (zcc mX8_formula) 246 = .ok (.getfield 45, 3) := by decide +kernel
theorem dX8_formula_249 : decode (zcc mX8_formula) 249 = .ok (.iload 7, 2) := by decide +kernel
theorem dX8_formula_251 : decode (zcc mX8_formula) 251 = .ok (.iload 4, 2) := by decide +kernel
theorem dX8_formula_253 : decode (zcc mX8_formula) 253 = .ok (.iastore, 1) := by decide +kernel
theorem dX8_formula_254 : decode (zcc mX8_formula) 254 = .ok (.aload_n 0, 1) := by decide +kernel
theorem dX8_formula_255 : decode (zcc mX8_formula) 255 = .ok (.getfield 48, 3) := by decide +kernel
theorem dX8_formula_258 : decode (zcc mX8_formula) 258 = .ok (.iload 7, 2) := by decide +kernel
theorem dX8_formula_260 : decode (zcc mX8_formula) 260 = .ok (.iload 5, 2) := by decide +kernel
theorem dX8_formula_262 : decode (zcc mX8_formula) 262 = .ok (.iastore, 1) := by decide +kernel
theorem dX8_formula_263 : decode (zcc mX8_formula) 263 = .ok (.aload_n 0, 1) := by decide +kernel
theorem dX8_formula_264 : decode (zcc mX8_formula) 264 = .ok (.getfield 51, 3) := by decide +kernel
theorem dX8_formula_267 : decode (zcc mX8_formula) 267 = .ok (.iload 7, 2) := by decide +kernel
theorem dX8_formula_269 : decode (zcc mX8_formula) 269 = .ok (.iconst 0, 1) := by decide +kernel
theorem dX8_formula_270 : decode (zcc mX8_formula) 270 = .ok (.bastore, 1) := by decide +kernel
theorem dX8_formula_271 : decode (zcc mX8_formula) 271 = .ok (.aload_n 0, 1) := by decide +kernel
theorem dX8_formula_272 : decode (zcc mX8_formula) 272 = .ok (.getfield 54, 3) := by decide +kernel
theorem dX8_formula_275 : decode (zcc mX8_formula) 275 = .ok (.iload 7, 2) := by decide +kernel
theorem dX8_formula_277 : decode (zcc mX8_formula) 277 = .ok (.iconst 0, 1) := by decide +kernel
theorem dX8_formula_278 : decode (zcc mX8_formula) 278 = .ok (.bastore, 1) := by decide +kernel
theorem dX8_formula_279 : decode (zcc mX8_formula) 279 = .ok (.aload_n 0, 1) := by decide +kernel
theorem dX8_formula_280 : decode (zcc mX8_formula) 280 = .ok (.dup, 1) := by decide +kernel
theorem dX8_formula_281 : decode (zcc mX8_formula) 281 = .ok (.getfield 98, 3) := by decide +kernel
end
section
theorem dX8_formula_284 : decode (zcc mX8_formula) 284 = .ok (.iconst 1, 1) := by decide +kernel
theorem dX8_formula_285 : decode (zcc mX8_formula) 285 = .ok (.iadd, 1) := by decide +kernel
theorem dX8_formula_286 : decode (zcc mX8_formula) 286 = .ok (.putfield 98, 3) := by decide +kernel
theorem dX8_formula_289 : decode (zcc mX8_formula) 289 = .ok (.aload_n 0, 1) := by decide +kernel
theorem dX8_formula_290 : decode (zcc mX8_formula) 290 = .ok (.invokevirtual 110, 3) := by decide +kernel
theorem dX8_formula_293 : decode (zcc mX8_formula) 293 = .ok (.iload 7, 2) := by decide +kernel
theorem dX8_formula_295 : decode (zcc mX8_formula) 295 = .ok (.ireturn, 1) := by decide +kernel
theorem dX8_deny_0 : decode (zcc mX8_deny) 0 = .ok (.iload_n 1, 1) := by decide +kernel
theorem dX8_deny_1 : decode (zcc mX8_deny) 1 = .ok (.iconst 0, 1) := by decide +kernel
theorem dX8_deny_2 : decode (zcc mX8_deny) 2 = .ok (.aload_n 0, 1) := by decide +kernel
theorem dX8_deny_3 : decode (zcc mX8_deny) 3 = .ok (.getfield 98, 3) := by decide +kernel
theorem dX8_deny_6 : decode (zcc mX8_deny) 6 = .ok (.iconst 1, 1) := by decide +kernel
theorem dX8_deny_7 : decode (zcc mX8_deny) 7 = .ok (.isub, 1) := by decide +kernel
theorem dX8_deny_8 : decode (zcc mX8_deny) 8 = .ok (.invokestatic 94, 3) := by decide +kernel
theorem dX8_deny_11 : decode (zcc mX8_deny) 11 = .ok (.ifCond .ne 6, 3) := by decide +kernel
theorem dX8_deny_14 : decode (zcc mX8_deny) 14 = .ok (.bipush (-2), 2) := by decide +kernel
theorem dX8_deny_16 : decode (zcc mX8_deny) 16 = .ok (.ireturn, 1) := by decide +kernel
theorem dX8_deny_17 : decode (zcc mX8_deny) 17 = .ok (.aload_n 0, 1) := by decide +kernel
theorem dX8_deny_18 : decode (zcc mX8_deny) 18 = .ok (.getfield 51, 3) := by decide +kernel
theorem dX8_deny_21 : decode (zcc mX8_deny) 21 = .ok (.iload_n 1, 1) := by decide +kernel
theorem dX8_deny_22 : decode (zcc mX8_deny) 22 = .ok (.baload, 1) := by decide +kernel
theorem dX8_deny_23 : decode (zcc mX8_deny) 23 = .ok (.istore_n 3, 1) := by decide +kernel
theorem dX8_deny_24 : decode (zcc mX8_deny) 24 = .ok (.aload_n 0, 1) := by decide +kernel
theorem dX8_deny_25 : decode (zcc mX8_deny) 25 = .ok (.getfield 51, 3) := by decide +kernel
theorem dX8_deny_28 : decode (zcc mX8_deny) 28 = .ok (.iload_n 1, 1) := by decide +kernel
theorem dX8_deny_29 : decode (zcc mX8_deny) 29 = .ok (.iload_n 2, 1) := by decide +kernel
theorem dX8_deny_30 : decode (zcc mX8_deny) 30 = .ok (.bastore, 1) := by decide +kernel
theorem dX8_deny_31 : decode (zcc mX8_deny) 31 = .ok (.aload_n 0, 1) := by decide +kernel
theorem dX8_deny_32 : decode (zcc mX8_deny) 32 = .ok (.invokevirtual 110, 3) := by decide +kernel
theorem dX8_deny_35 : decode (zcc mX8_deny) 35 = .ok (.iload_n 3, 1) := by decide +kernel
theorem dX8_deny_36 : decode (zcc mX8_deny) 36 = .ok (.ifCond .eq 7, 3) := by decide +kernel
theorem dX8_deny_39 : decode (zcc mX8_deny) 39 = .ok (.iconst 1, 1) := by decide +kernel
theorem dX8_deny_40 : decode (zcc mX8_deny) 40 = .ok (.goto 4, 3) := by decide +kernel
theorem dX8_deny_43 : decode (zcc mX8_deny) 43 = .ok (.iconst 0, 1) := by decide +kernel
theorem dX8_deny_44 : decode (zcc mX8_deny) 44 = .ok (.ireturn, 1) := by decide +kernel
theorem dX8_leave_0 : decode (zcc mX8_leave) 0 = .ok (.iload_n 1, 1) := by decide +kernel
theorem dX8_leave_1 : decode (zcc mX8_leave) 1 = .ok (.iconst 0, 1) := by decide +kernel
theorem dX8_leave_2 : decode (zcc mX8_leave) 2 = .ok (.aload_n 0, 1) := by decide +kernel
theorem dX8_leave_3 : decode (zcc mX8_leave) 3 = .ok (.getfield 98, 3) := by decide +kernel
theorem dX8_leave_6 : decode (zcc mX8_leave) 6 = .ok (.iconst 1, 1) := by decide +kernel
theorem dX8_leave_7 : decode (zcc mX8_leave) 7 = .ok (.isub, 1) := by decide +kernel
theorem dX8_leave_8 : decode (zcc mX8_leave) 8 = .ok (.invokestatic 94, 3) := by decide +kernel
theorem dX8_leave_11 : decode (zcc mX8_leave) 11 = .ok (.ifCond .ne 6, 3) := by decide +kernel
theorem dX8_leave_14 : decode (zcc mX8_leave) 14 = .ok (.bipush (-2), 2) := by decide +kernel
theorem dX8_leave_16 : decode (zcc mX8_leave) 16 = .ok (.ireturn, 1) := by decide +kernel
theorem dX8_leave_17 : decode (zcc mX8_leave) 17 = .ok (.aload_n 0, 1) := by decide +kernel
theorem dX8_leave_18 : decode (zcc mX8_leave) 18 = .ok (.getfield 54, 3) := by decide +kernel
theorem dX8_leave_21 : decode (zcc mX8_leave) 21 = .ok (.iload_n 1, 1) := by decide +kernel
theorem dX8_leave_22 : decode (zcc mX8_leave) 22 = .ok (.baload, 1) := by decide +kernel
theorem dX8_leave_23 : decode (zcc mX8_leave) 23 = .ok (.istore_n 3, 1) := by decide +kernel
theorem dX8_leave_24 : decode (zcc mX8_leave) 24 = .ok (.aload_n 0, 1) := by decide +kernel
theorem dX8_leave_25 : decode (zcc mX8_leave) 25 = .ok (.getfield 54, 3) := by decide +kernel
theorem dX8_leave_28 : decode (zcc mX8_leave) 28 = .ok (.iload_n 1, 1) := by decide +kernel
theorem dX8_leave_29 : decode (zcc mX8_leave) 29 = .ok (.iload_n 2, 1) := by decide +kernel
theorem dX8_leave_30 : decode (zcc mX8_leave) 30 = .ok (.bastore, 1) := by decide +kernel
theorem dX8_leave_31 : decode (zcc mX8_leave) 31 = .ok (.aload_n 0, 1) := by decide +kernel
theorem dX8_leave_32 : decode (zcc mX8_leave) 32 = .ok (.invokevirtual 110, 3) := by decide +kernel
theorem dX8_leave_35 : decode (zcc mX8_leave) 35 = .ok (.iload_n 3, 1) := by decide +kernel
theorem dX8_leave_36 : decode (zcc mX8_leave) 36 = .ok (.ifCond .eq 7, 3) := by decide +kernel
theorem dX8_leave_39 : decode (zcc mX8_leave) 39 = .ok (.iconst 1, 1) := by decide +kernel
theorem dX8_leave_40 : decode (zcc mX8_leave) 40 = .ok (.goto 4, 3) := by decide +kernel
theorem dX8_leave_43 : decode (zcc mX8_leave) 43 = .ok (.iconst 0, 1) := by decide +kernel
theorem dX8_leave_44 : decode (zcc mX8_leave) 44 = .ok (.ireturn, 1) := by decide +kernel
theorem dX8_spell_0 : decode (zcc mX8_spell) 0 = .ok (.iconst 0, 1) := by decide +kernel
theorem dX8_spell_1 : decode (zcc mX8_spell) 1 = .ok (.istore_n 3, 1) := by decide +kernel
theorem dX8_spell_2 : decode (zcc mX8_spell) 2 = .ok (.iconst 0, 1) := by decide +kernel
theorem dX8_spell_3 : decode (zcc mX8_spell) 3 = .ok (.istore 4, 2) := by decide +kernel
theorem dX8_spell_5 : decode (zcc mX8_spell) 5 = .ok (.iload 4, 2) := by decide +kernel
theorem dX8_spell_7 : decode (zcc mX8_spell) 7 = .ok (.aload_n 0, 1) := by decide +kernel
theorem dX8_spell_8 : decode (zcc mX8_spell) 8 = .ok (.getfield 20, 3) := by decide +kernel
theorem dX8_spell_11 : decode (zcc mX8_spell) 11 = .ok (.iload_n 2, 1) := by decide +kernel
theorem dX8_spell_12 : decode (zcc mX8_spell) 12 = .ok (.iaload, 1) := by decide +kernel
theorem dX8_spell_13 : decode (zcc mX8_spell) 13 = .ok (.if_icmp .ge 102, 3) := by decide +kernel
theorem dX8_spell_16 : decode (zcc mX8_spell) 16 = .ok (.aload_n 0, 1) := by decide +kernel
theorem dX8_spell_17 : decode (zcc mX8_spell) 17 = .ok (.getfield 23, 3) := by decide +kernel
theorem dX8_spell_20 : decode (zcc mX8_spell) 20 = .ok (.bipush 6, 2) := by decide +kernel
theorem dX8_spell_22 : decode (zcc mX8_spell) 22 = .ok (.iload_n 2, 1) := by decide +kernel
theorem dX8_spell_23 : decode (zcc mX8_spell) 23 = .ok (.imul, 1) := by decide +kernel
theorem dX8_spell_24 : decode (zcc mX8_spell) 24 = .ok (.iload 4, 2) := by decide +kernel
theorem dX8_spell_26 : decode (zcc mX8_spell) 26 = .ok (.iadd, 1) := by decide +kernel
theorem dX8_spell_27 : decode (zcc mX8_spell) 27 = .ok (.iaload, 1) := by decide +kernel
theorem dX8_spell_28 : decode (zcc mX8_spell) 28 = .ok (.istore 5, 2) := by decide +kernel
theorem dX8_spell_30 : decode (zcc mX8_spell) 30 = .ok (.iload 5, 2) := by decide +kernel
theorem dX8_spell_32 : decode (zcc mX8_spell) 32 = .ok (.bipush 8, 2) := by decide +kernel
theorem dX8_spell_34 : decode (zcc mX8_spell) 34 = .ok (.if_icmp .ge 22, 3) := by decide +kernel
theorem dX8_spell_37 : decode (zcc mX8_spell) 37 = .ok (.aload_n 0, 1) := by decide +kernel
theorem dX8_spell_38 : decode (zcc mX8_spell) 38 = .ok (.getfield 72, 3) := by decide +kernel
theorem dX8_spell_41 : decode (zcc mX8_spell) 41 = .ok (.bipush 32, 2) := by decide +kernel
theorem dX8_spell_43 : decode (zcc mX8_spell) 43 = .ok (.iload_n 1, 1) := by decide +kernel
theorem dX8_spell_44 : decode (zcc mX8_spell) 44 = .ok (.imul, 1) := by decide +kernel
theorem dX8_spell_45 : decode (zcc mX8_spell) 45 = .ok (.iload_n 3, 1) := by decide +kernel
theorem dX8_spell_46 : decode (zcc mX8_spell) 46 = .ok (.iadd, 1) := by decide +kernel
theorem dX8_spell_47 : decode (zcc mX8_spell) 47 = .ok (.iload 5, 2) := by decide +kernel
theorem dX8_spell_49 : decode (zcc mX8_spell) 49 = .ok (.iastore, 1) := by decide +kernel
theorem dX8_spell_50 : decode (zcc mX8_spell) 50 = .ok (.iinc 3 1, 3) := by decide +kernel
theorem dX8_spell_53 : decode (zcc mX8_spell) 53 = .ok (.goto 56, 3) := by decide +kernel
theorem dX8_spell_56 : decode (zcc mX8_spell) 56 = .ok (.iconst 0, 1) := by decide +kernel
theorem dX8_spell_57 : decode (zcc mX8_spell) 57 = .ok (.istore 6, 2) := by decide +kernel
theorem dX8_spell_59 : decode (zcc mX8_spell) 59 = .ok (.iload 6, 2) := by decide +kernel
theorem dX8_spell_61 : decode (zcc mX8_spell) 61 = .ok (.aload_n 0, 1) := by decide +kernel
theorem dX8_spell_62 : decode (zcc mX8_spell) 62 = .ok (.getfield 66, 3) := by decide +kernel
theorem dX8_spell_65 : decode (zcc mX8_spell) 65 = .ok (.iload 5, 2) := by decide +kernel
theorem dX8_spell_67 : decode (zcc mX8_spell) 67 = .ok (.bipush 8, 2) := by decide +kernel
theorem dX8_spell_69 : decode (zcc mX8_spell) 69 = .ok (.isub, 1) := by decide +kernel
theorem dX8_spell_70 : decode (zcc mX8_spell) 70 = .ok (.iaload, 1) := by decide +kernel
theorem dX8_spell_71 : decode (zcc mX8_spell) 71 = .ok (.if_icmp .ge 38, 3) := by decide +kernel
theorem dX8_spell_74 : decode (zcc mX8_spell) 74 = .ok (.aload_n 0, 1) := by decide +kernel
theorem dX8_spell_75 : decode (zcc mX8_spell) 75 = .ok (.getfield 72, 3) := by decide +kernel
theorem dX8_spell_78 : decode (zcc mX8_spell) 78 = .ok (.bipush 32, 2) := by decide +kernel
theorem dX8_spell_80 : decode (zcc mX8_spell) 80 = .ok (.iload_n 1, 1) := by decide +kernel
theorem dX8_spell_81 : decode (zcc mX8_spell) 81 = .ok (.imul, 1) := by decide +kernel
theorem dX8_spell_82 : decode (zcc mX8_spell) 82 = .ok (.iload_n 3, 1) := by decide +kernel
theorem dX8_spell_83 : decode (zcc mX8_spell) 83 = .ok (.iadd, 1) := by decide +kernel
theorem dX8_spell_84 : decode (zcc mX8_spell) 84 = .ok (.aload_n 0, 1) := by decide +kernel
theorem dX8_spell_85 : decode (zcc mX8_spell) 85 = .ok (.getfield 69, 3) := by decide +kernel
theorem dX8_spell_88 : decode (zcc mX8_spell) 88 = .ok (.iconst 5, 1) := by decide +kernel
theorem dX8_spell_89 : decode (zcc mX8_spell) 89 = .ok (.iload 5, 2) := by decide +kernel
theorem dX8_spell_91 : decode (zcc mX8_spell) 91 = .ok (.bipush 8, 2) := by decide +kernel
theorem dX8_spell_93 : decode (zcc mX8_spell) 93 = .ok (.isub, 1) := by decide +kernel
theorem dX8_spell_94 : decode (zcc mX8_spell) 94 = .ok (.imul, 1) := by decide +kernel
theorem dX8_spell_95 : decode (zcc mX8_spell) 95 = .ok (.iload 6, 2) := by decide +kernel
theorem dX8_spell_97 : decode (zcc mX8_spell) 97 = .ok (.iadd, 1) := by decide +kernel
theorem dX8_spell_98 : decode (zcc mX8_spell) 98 = .ok (.iaload, 1) := by decide +kernel
theorem dX8_spell_99 : decode (zcc mX8_spell) 99 = .ok (.iastore, 1) := by decide +kernel
theorem dX8_spell_100 : decode (zcc mX8_spell) 100 = .ok (.iinc 3 1, 3) := by decide +kernel
theorem dX8_spell_103 : decode (zcc mX8_spell) 103 = .ok (.iinc 6 1, 3) := by decide +kernel
theorem dX8_spell_106 : decode (zcc mX8_spell) 106 = .ok (.goto (-47), 3) := by decide +kernel
theorem dX8_spell_109 : decode (zcc mX8_spell) 109 = .ok (.iinc 4 1, 3) := by decide +kernel
theorem dX8_spell_112 : decode (zcc mX8_spell) 112 = .ok (.goto (-107), 3) := by decide +kernel
theorem dX8_spell_115 : decode (zcc mX8_spell) 115 = .ok (.aload_n 0, 1) := by decide +kernel
theorem dX8_spell_116 : decode (zcc mX8_spell) 116 = .ok (.getfield 75, 3) := by decide +kernel
theorem dX8_spell_119 : decode (zcc mX8_spell) 119 = .ok (.iload_n 1, 1) := by decide +kernel
theorem dX8_spell_120 : decode (zcc mX8_spell) 120 = .ok (.iload_n 3, 1) := by decide +kernel
theorem dX8_spell_121 : decode (zcc mX8_spell) 121 = .ok (.iastore, 1) := by decide +kernel
theorem dX8_spell_122 : decode (zcc mX8_spell) 122 = .ok (.return_, 1) := by decide +kernel
theorem dX8_found_0 : decode (zcc mX8_found) 0 = .ok (.iconst 0, 1) := by decide +kernel
theorem dX8_found_1 : decode (zcc mX8_found) 1 = .ok (.istore_n 3, 1) := by decide +kernel
theorem dX8_found_2 : decode (zcc mX8_found) 2 = .ok (.iload_n 3, 1) := by decide +kernel
theorem dX8_found_3 : decode (zcc mX8_found) 3 = .ok (.aload_n 0, 1) := by decide +kernel
theorem dX8_found_4 : decode (zcc mX8_found) 4 = .ok (.getfield 75, 3) := by decide +kernel
theorem dX8_found_7 : decode (zcc mX8_found) 7 = .ok (.iload_n 2, 1) := by decide +kernel
theorem dX8_found_8 : decode (zcc mX8_found) 8 = .ok (.iaload, 1) := by decide +kernel
theorem dX8_found_9 : decode (zcc mX8_found) 9 = .ok (.iadd, 1) := by decide +kernel
theorem dX8_found_10 : decode (zcc mX8_found) 10 = .ok (.aload_n 0, 1) := by decide +kernel
theorem dX8_found_11 : decode (zcc mX8_found) 11 = .ok (.getfield 75, 3) := by decide +kernel
theorem dX8_found_14 : decode (zcc mX8_found) 14 = .ok (.iload_n 1, 1) := by decide +kernel
theorem dX8_found_15 : decode (zcc mX8_found) 15 = .ok (.iaload, 1) := by decide +kernel
theorem dX8_found_16 : decode (zcc mX8_found) 16 = .ok (.if_icmp .gt 80, 3) := by decide +kernel
theorem dX8_found_19 : decode (zcc mX8_found) 19 = .ok (.iconst 1, 1) := by decide +kernel
theorem dX8_found_20 : decode (zcc mX8_found) 20 = .ok (.istore 4, 2) := by decide +kernel
theorem dX8_found_22 : decode (zcc mX8_found) 22 = .ok (.iconst 0, 1) := by decide +kernel
theorem dX8_found_23 : decode (zcc mX8_found) 23 = .ok (.istore 5, 2) := by decide +kernel
theorem dX8_found_25 : decode (zcc mX8_found) 25 = .ok (.iload 5, 2) := by decide +kernel
theorem dX8_found_27 : decode (zcc mX8_found) 27 = .ok (.aload_n 0, 1) := by decide +kernel
theorem dX8_found_28 : decode (zcc mX8_found) 28 = .ok (.getfield 75, 3) := by decide +kernel
theorem dX8_found_31 : decode (zcc mX8_found) 31 = .ok (.iload_n 2, 1) := by decide +kernel
theorem dX8_found_32 : decode (zcc mX8_found) 32 = .ok (.iaload, 1) := by decide +kernel
theorem dX8_found_33 : decode (zcc mX8_found) 33 = .ok (.if_icmp .ge 50, 3) := by decide +kernel
theorem dX8_found_36 : decode (zcc mX8_found) 36 = .ok (.iload 4, 2) := by decide +kernel
theorem dX8_found_38 : decode (zcc mX8_found) 38 = .ok (.ifCond .eq 45, 3) := by decide +kernel
theorem dX8_found_41 : decode (zcc mX8_found) 41 = .ok (.aload_n 0, 1) := by decide +kernel
theorem dX8_found_42 : decode (zcc mX8_found) 42 = .ok (.getfield 72, 3) := by decide +kernel
theorem dX8_found_45 : decode (zcc mX8_found) 45 = .ok (.bipush 32, 2) := by decide +kernel
theorem dX8_found_47 : decode (zcc mX8_found) 47 = .ok (.iload_n 1, 1) := by decide +kernel
theorem dX8_found_48 : decode (zcc mX8_found) 48 = .ok (.imul, 1) := by decide +kernel
theorem dX8_found_49 : decode (zcc mX8_found) 49 = .ok (.iload_n 3, 1) := by decide +kernel
theorem dX8_found_50 : decode (zcc mX8_found) 50 = .ok (.iadd, 1) := by decide +kernel
theorem dX8_found_51 : decode (zcc mX8_found) 51 = .ok (.iload 5, 2) := by decide +kernel
theorem dX8_found_53 : decode (zcc mX8_found) 53 = .ok (.iadd, 1) := by decide +kernel
theorem dX8_found_54 : decode (zcc mX8_found) 54 = .ok (.iaload, 1) := by decide +kernel
theorem dX8_found_55 : decode (zcc mX8_found) 55 = .ok (.aload_n 0, 1) := by decide +kernel
theorem dX8_found_56 : decode (zcc mX8_found) 56 = .ok (.getfield 72, 3) := by decide +kernel
theorem dX8_found_59 : decode (zcc mX8_found) 59 = .ok (.bipush 32, 2) := by decide +kernel
theorem dX8_found_61 : decode (zcc mX8_found) 61 = .ok (.iload_n 2, 1) := by decide +kernel
theorem dX8_found_62 : decode (zcc mX8_found) 62 = .ok (.imul, 1) := by decide +kernel
theorem dX8_found_63 : decode (zcc mX8_found) 63 = .ok (.iload 5, 2) := by decide +kernel
theorem dX8_found_65 : decode (zcc mX8_found) 65 = .ok (.iadd, 1) := by decide +kernel
theorem dX8_found_66 : decode (zcc mX8_found) 66 = .ok (.iaload, 1) := by decide +kernel
theorem dX8_found_67 : decode (zcc mX8_found) 67 = .ok (.if_icmp .ne 7, 3) := by decide +kernel
theorem dX8_found_70 : decode (zcc mX8_found) 70 = .ok (.iconst 1, 1) := by decide +kernel
theorem dX8_found_71 : decode (zcc mX8_found) 71 = .ok (.goto 4, 3) := by decide +kernel
theorem dX8_found_74 : decode (zcc mX8_found) 74 = .ok (.iconst 0, 1) := by decide +kernel
theorem dX8_found_75 : decode (zcc mX8_found) 75 = .ok (.istore 4, 2) := by decide +kernel
theorem dX8_found_77 : decode (zcc mX8_found) 77 = .ok (.iinc 5 1, 3) := by decide +kernel
theorem dX8_found_80 : decode (zcc mX8_found) 80 = .ok (.goto (-55), 3) := by decide +kernel
theorem dX8_found_83 : decode (zcc mX8_found) 83 = .ok (.iload 4, 2) := by decide +kernel
theorem dX8_found_85 : decode (zcc mX8_found) 85 = .ok (.ifCond .eq 5, 3) := by decide +kernel
theorem dX8_found_88 : decode (zcc mX8_found) 88 = .ok (.iload_n 3, 1) := by decide +kernel
theorem dX8_found_89 : decode (zcc mX8_found) 89 = .ok (.ireturn, 1) := by decide +kernel
theorem dX8_found_90 : decode (zcc mX8_found) 90 = .ok (.iinc 3 1, 3) := by decide +kernel
theorem dX8_found_93 : decode (zcc mX8_found) 93 = .ok (.goto (-91), 3) := by decide +kernel
theorem dX8_found_96 : decode (zcc mX8_found) 96 = .ok (.iconst (-1), 1) := by decide +kernel
theorem dX8_found_97 : decode (zcc mX8_found) 97 = .ok (.ireturn, 1) := by decide +kernel
theorem dX8_isTaken_0 : decode (zcc mX8_isTaken) 0 = .ok (.iconst 0, 1) := by decide +kernel
theorem dX8_isTaken_1 : decode (zcc mX8_isTaken) 1 = .ok (.istore_n 3, 1) := by decide +kernel
theorem dX8_isTaken_2 : decode (zcc mX8_isTaken) 2 = .ok (.iconst 0, 1) := by decide +kernel
theorem dX8_isTaken_3 : decode (zcc mX8_isTaken) 3 = .ok (.istore 4, 2) := by decide +kernel
theorem dX8_isTaken_5 : decode (zcc mX8_isTaken) 5 = .ok (.iload 4, 2) := by decide +kernel
theorem dX8_isTaken_7 : decode (zcc mX8_isTaken) 7 = .ok (.aload_n 0, 1) := by decide +kernel
theorem dX8_isTaken_8 : decode (zcc mX8_isTaken) 8 = .ok (.getfield 75, 3) := by decide +kernel
theorem dX8_isTaken_11 : decode (zcc mX8_isTaken) 11 = .ok (.iload_n 2, 1) := by decide +kernel
theorem dX8_isTaken_12 : decode (zcc mX8_isTaken) 12 = .ok (.iaload, 1) := by decide +kernel
theorem dX8_isTaken_13 : decode (zcc mX8_isTaken) 13 = .ok (.if_icmp .ge 36, 3) := by decide +kernel
theorem dX8_isTaken_16 : decode (zcc mX8_isTaken) 16 = .ok (.aload_n 0, 1) := by decide +kernel
theorem dX8_isTaken_17 : decode (zcc mX8_isTaken) 17 = .ok (.getfield 29, 3) := by decide +kernel
theorem dX8_isTaken_20 : decode (zcc mX8_isTaken) 20 = .ok (.bipush 18, 2) := by decide +kernel
theorem dX8_isTaken_22 : decode (zcc mX8_isTaken) 22 = .ok (.iload_n 1, 1) := by decide +kernel
theorem dX8_isTaken_23 : decode (zcc mX8_isTaken) 23 = .ok (.imul, 1) := by decide +kernel
theorem dX8_isTaken_24 : decode (zcc mX8_isTaken) 24 = .ok (.iconst 3, 1) := by decide +kernel
theorem dX8_isTaken_25 : decode (zcc mX8_isTaken) 25 = .ok (.iload_n 3, 1) := by decide +kernel
theorem dX8_isTaken_26 : decode (zcc mX8_isTaken) 26 = .ok (.imul, 1) := by decide +kernel
theorem dX8_isTaken_27 : decode (zcc mX8_isTaken) 27 = .ok (.iadd, 1) := by decide +kernel
theorem dX8_isTaken_28 : decode (zcc mX8_isTaken) 28 = .ok (.aload_n 0, 1) := by decide +kernel
theorem dX8_isTaken_29 : decode (zcc mX8_isTaken) 29 = .ok (.getfield 72, 3) := by decide +kernel
theorem dX8_isTaken_32 : decode (zcc mX8_isTaken) 32 = .ok (.bipush 32, 2) := by decide +kernel
theorem dX8_isTaken_34 : decode (zcc mX8_isTaken) 34 = .ok (.iload_n 2, 1) := by decide +kernel
theorem dX8_isTaken_35 : decode (zcc mX8_isTaken) 35 = .ok (.imul, 1) := by decide +kernel
theorem dX8_isTaken_36 : decode (zcc mX8_isTaken) 36 = .ok (.iload 4, 2) := by decide +kernel
theorem dX8_isTaken_38 : decode (zcc mX8_isTaken) 38 = .ok (.iadd, 1) := by decide +kernel
theorem dX8_isTaken_39 : decode (zcc mX8_isTaken) 39 = .ok (.iaload, 1) := by decide +kernel
theorem dX8_isTaken_40 : decode (zcc mX8_isTaken) 40 = .ok (.iadd, 1) := by decide +kernel
theorem dX8_isTaken_41 : decode (zcc mX8_isTaken) 41 = .ok (.iaload, 1) := by decide +kernel
theorem dX8_isTaken_42 : decode (zcc mX8_isTaken) 42 = .ok (.istore_n 3, 1) := by decide +kernel
theorem dX8_isTaken_43 : decode (zcc mX8_isTaken) 43 = .ok (.iinc 4 1, 3) := by decide +kernel
theorem dX8_isTaken_46 : decode (zcc mX8_isTaken) 46 = .ok (.goto (-41), 3) := by decide +kernel
theorem dX8_isTaken_49 : decode (zcc mX8_isTaken) 49 = .ok (.aload_n 0, 1) := by decide +kernel
theorem dX8_isTaken_50 : decode (zcc mX8_isTaken) 50 = .ok (.getfield 32, 3) := by decide +kernel
theorem dX8_isTaken_53 : decode (zcc mX8_isTaken) 53 = .ok (.bipush 6, 2) := by decide +kernel
theorem dX8_isTaken_55 : decode (zcc mX8_isTaken) 55 = .ok (.iload_n 1, 1) := by decide +kernel
theorem dX8_isTaken_56 : decode (zcc mX8_isTaken) 56 = .ok (.imul, 1) := by decide +kernel
theorem dX8_isTaken_57 : decode (zcc mX8_isTaken) 57 = .ok (.iload_n 3, 1) := by decide +kernel
theorem dX8_isTaken_58 : decode (zcc mX8_isTaken) 58 = .ok (.iadd, 1) := by decide +kernel
theorem dX8_isTaken_59 : decode (zcc mX8_isTaken) 59 = .ok (.baload, 1) := by decide +kernel
theorem dX8_isTaken_60 : decode (zcc mX8_isTaken) 60 = .ok (.ireturn, 1) := by decide +kernel
theorem dX8_make_0 : decode (zcc mX8_make) 0 = .ok (.iload_n 2, 1) := by decide +kernel
theorem dX8_make_1 : decode (zcc mX8_make) 1 = .ok (.istore 4, 2) := by decide +kernel
theorem dX8_make_3 : decode (zcc mX8_make) 3 = .ok (.iload 4, 2) := by decide +kernel
theorem dX8_make_5 : decode (zcc mX8_make) 5 = .ok (.iload_n 3, 1) := by decide +kernel
theorem dX8_make_6 : decode (zcc mX8_make) 6 = .ok (.if_icmp .ge 40, 3) := by decide +kernel
theorem dX8_make_9 : decode (zcc mX8_make) 9 = .ok (.aload_n 0, 1) := by decide +kernel
theorem dX8_make_10 : decode (zcc mX8_make) 10 = .ok (.getfield 78, 3) := by decide +kernel
theorem dX8_make_13 : decode (zcc mX8_make) 13 = .ok (.aload_n 0, 1) := by decide +kernel
theorem dX8_make_14 : decode (zcc mX8_make) 14 = .ok (.getfield 117, 3) := by decide +kernel
theorem dX8_make_17 : decode (zcc mX8_make) 17 = .ok (.aload_n 0, 1) := by decide +kernel
theorem dX8_make_18 : decode (zcc mX8_make) 18 = .ok (.getfield 72, 3) := by decide +kernel
theorem dX8_make_21 : decode (zcc mX8_make) 21 = .ok (.bipush 32, 2) := by decide +kernel
theorem dX8_make_23 : decode (zcc mX8_make) 23 = .ok (.iload_n 1, 1) := by decide +kernel
theorem dX8_make_24 : decode (zcc mX8_make) 24 = .ok (.imul, 1) := by decide +kernel
theorem dX8_make_25 : decode (zcc mX8_make) 25 = .ok (.iload 4, 2) := by decide +kernel
theorem dX8_make_27 : decode (zcc mX8_make) 27 = .ok (.iadd, 1) := by decide +kernel
theorem dX8_make_28 : decode (zcc mX8_make) 28 = .ok (.iaload, 1) := by decide +kernel
theorem dX8_make_29 : decode (zcc mX8_make) 29 = .ok (.iastore, 1) := by decide +kernel
theorem dX8_make_30 : decode (zcc mX8_make) 30 = .ok (.aload_n 0, 1) := by decide +kernel
theorem dX8_make_31 : decode (zcc mX8_make) 31 = .ok (.dup, 1) := by decide +kernel
theorem dX8_make_32 : decode (zcc mX8_make) 32 = .ok (.getfield 117, 3) := by decide +kernel
theorem dX8_make_35 : decode (zcc mX8_make) 35 = .ok (.iconst 1, 1) := by decide +kernel
theorem dX8_make_36 : decode (zcc mX8_make) 36 = .ok (.iadd, 1) := by decide +kernel
theorem dX8_make_37 : decode (zcc mX8_make) 37 = .ok (.putfield 117, 3) := by decide +kernel
theorem dX8_make_40 : decode (zcc mX8_make) 40 = .ok (.iinc 4 1, 3) := by decide +kernel
theorem dX8_make_43 : decode (zcc mX8_make) 43 = .ok (.goto (-40), 3) := by decide +kernel
theorem dX8_make_46 : decode (zcc mX8_make) 46 = .ok (.return_, 1) := by decide +kernel
theorem dX8_isReplaced_0 : decode (zcc mX8_isReplaced) 0 = .ok (.aload_n 0, 1) := by decide +kernel
theorem dX8_isReplaced_1 : decode (zcc mX8_isReplaced) 1 = .ok (.iconst 1, 1) := by decide +kernel
theorem dX8_isReplaced_2 : decode (zcc mX8_isReplaced) 2 = .ok (.iconst 2, 1) := by decide +kernel
theorem dX8_isReplaced_3 : decode (zcc mX8_isReplaced) 3 = .ok (.invokevirtual 120, 3) := by decide +kernel
theorem dX8_isReplaced_6 : decode (zcc mX8_isReplaced) 6 = .ok (.istore_n 1, 1) := by decide +kernel
theorem dX8_isReplaced_7 : decode (zcc mX8_isReplaced) 7 = .ok (.aload_n 0, 1) := by decide +kernel
theorem dX8_isReplaced_8 : decode (zcc mX8_isReplaced) 8 = .ok (.iconst 0, 1) := by decide +kernel
theorem dX8_isReplaced_9 : decode (zcc mX8_isReplaced) 9 = .ok (.putfield 117, 3) := by decide +kernel
theorem dX8_isReplaced_12 : decode (zcc mX8_isReplaced) 12 = .ok (.iload_n 1, 1) := by decide +kernel
theorem dX8_isReplaced_13 : decode (zcc mX8_isReplaced) 13 = .ok (.iconst (-1), 1) := by decide +kernel
theorem dX8_isReplaced_14 : decode (zcc mX8_isReplaced) 14 = .ok (.if_icmp .ne 18, 3) := by decide +kernel
theorem dX8_isReplaced_17 : decode (zcc mX8_isReplaced) 17 = .ok (.aload_n 0, 1) := by decide +kernel
theorem dX8_isReplaced_18 : decode (zcc mX8_isReplaced) 18 = .ok (.iconst 1, 1) := by decide +kernel
theorem dX8_isReplaced_19 : decode (zcc mX8_isReplaced) 19 = .ok (.iconst 0, 1) := by decide +kernel
theorem dX8_isReplaced_20 : decode (zcc mX8_isReplaced) 20 = .ok (.aload_n 0, 1) := by decide +kernel
theorem dX8_isReplaced_21 : decode (zcc mX8_isReplaced) 21 = .ok (.getfield 75, 3) := by decide +kernel
theorem dX8_isReplaced_24 : decode (zcc mX8_isReplaced) 24 = .ok (.iconst 1, 1) := by decide +kernel
theorem dX8_isReplaced_25 : decode (zcc mX8_isReplaced) 25 = .ok (.iaload, 1) := by decide +kernel
theorem dX8_isReplaced_26 : decode (zcc mX8_isReplaced) 26 = .ok (.invokevirtual 124, 3) := by decide +kernel
theorem dX8_isReplaced_29 : decode (zcc mX8_isReplaced) 29 = .ok (.goto 41, 3) := by decide +kernel
theorem dX8_isReplaced_32 : decode (zcc mX8_isReplaced) 32 = .ok (.aload_n 0, 1) := by decide +kernel
theorem dX8_isReplaced_33 : decode (zcc mX8_isReplaced) 33 = .ok (.iconst 1, 1) := by decide +kernel
theorem dX8_isReplaced_34 : decode (zcc mX8_isReplaced) 34 = .ok (.iconst 0, 1) := by decide +kernel
theorem dX8_isReplaced_35 : decode (zcc mX8_isReplaced) 35 = .ok (.iload_n 1, 1) := by decide +kernel
theorem dX8_isReplaced_36 : decode (zcc mX8_isReplaced) 36 = .ok (.invokevirtual 124, 3) := by decide +kernel
theorem dX8_isReplaced_39 : decode (zcc mX8_isReplaced) 39 = .ok (.aload_n 0, 1) := by decide +kernel
theorem dX8_isReplaced_40 : decode (zcc mX8_isReplaced) 40 = .ok (.iconst 3, 1) := by decide +kernel
theorem dX8_isReplaced_41 : decode (zcc mX8_isReplaced) 41 = .ok (.iconst 0, 1) := by decide +kernel
theorem dX8_isReplaced_42 : decode (zcc mX8_isReplaced) 42 = .ok (.aload_n 0, 1) := by decide +kernel
theorem dX8_isReplaced_43 : decode (zcc mX8_isReplaced) 43 = .ok (.getfield 75, 3) := by decide +kernel
theorem dX8_isReplaced_46 : decode (zcc mX8_isReplaced) 46 = .ok (.iconst 3, 1) := by decide +kernel
theorem dX8_isReplaced_47 : decode (zcc mX8_isReplaced) 47 = .ok (.iaload, 1) := by decide +kernel
theorem dX8_isReplaced_48 : decode (zcc mX8_isReplaced) 48 = .ok (.invokevirtual 124, 3) := by decide +kernel
theorem dX8_isReplaced_51 : decode (zcc mX8_isReplaced) 51 = .ok (.aload_n 0, 1) := by decide +kernel
theorem dX8_isReplaced_52 : decode (zcc mX8_isReplaced) 52 = .ok (.iconst 1, 1) := by decide +kernel
theorem dX8_isReplaced_53 : decode (zcc mX8_isReplaced) 53 = .ok (.iload_n 1, 1) := by decide +kernel
theorem dX8_isReplaced_54 : decode (zcc mX8_isReplaced) 54 = .ok (.aload_n 0, 1) := by decide +kernel
theorem dX8_isReplaced_55 : decode (zcc mX8_isReplaced) 55 = .ok (.getfield 75, 3) := by decide +kernel
theorem dX8_isReplaced_58 : decode (zcc mX8_isReplaced) 58 = .ok (.iconst 2, 1) := by decide +kernel
theorem dX8_isReplaced_59 : decode (zcc mX8_isReplaced) 59 = .ok (.iaload, 1) := by decide +kernel
theorem dX8_isReplaced_60 : decode (zcc mX8_isReplaced) 60 = .ok (.iadd, 1) := by decide +kernel
theorem dX8_isReplaced_61 : decode (zcc mX8_isReplaced) 61 = .ok (.aload_n 0, 1) := by decide +kernel
theorem dX8_isReplaced_62 : decode (zcc mX8_isReplaced) 62 = .ok (.getfield 75, 3) := by decide +kernel
theorem dX8_isReplaced_65 : decode (zcc mX8_isReplaced) 65 = .ok (.iconst 1, 1) := by decide +kernel
theorem dX8_isReplaced_66 : decode (zcc mX8_isReplaced) 66 = .ok (.iaload, 1) := by decide +kernel
theorem dX8_isReplaced_67 : decode (zcc mX8_isReplaced) 67 = .ok (.invokevirtual 124, 3) := by decide +kernel
theorem dX8_isReplaced_70 : decode (zcc mX8_isReplaced) 70 = .ok (.aload_n 0, 1) := by decide +kernel
theorem dX8_isReplaced_71 : decode (zcc mX8_isReplaced) 71 = .ok (.getfield 117, 3) := by decide +kernel
theorem dX8_isReplaced_74 : decode (zcc mX8_isReplaced) 74 = .ok (.aload_n 0, 1) := by decide +kernel
theorem dX8_isReplaced_75 : decode (zcc mX8_isReplaced) 75 = .ok (.getfield 75, 3) := by decide +kernel
theorem dX8_isReplaced_78 : decode (zcc mX8_isReplaced) 78 = .ok (.iconst 0, 1) := by decide +kernel
theorem dX8_isReplaced_79 : decode (zcc mX8_isReplaced) 79 = .ok (.iaload, 1) := by decide +kernel
theorem dX8_isReplaced_80 : decode (zcc mX8_isReplaced) 80 = .ok (.if_icmp .ne 7, 3) := by decide +kernel
theorem dX8_isReplaced_83 : decode (zcc mX8_isReplaced) 83 = .ok (.iconst 1, 1) := by decide +kernel
theorem dX8_isReplaced_84 : decode (zcc mX8_isReplaced) 84 = .ok (.goto 4, 3) := by decide +kernel
theorem dX8_isReplaced_87 : decode (zcc mX8_isReplaced) 87 = .ok (.iconst 0, 1) := by decide +kernel
theorem dX8_isReplaced_88 : decode (zcc mX8_isReplaced) 88 = .ok (.istore_n 2, 1) := by decide +kernel
theorem dX8_isReplaced_89 : decode (zcc mX8_isReplaced) 89 = .ok (.iconst 0, 1) := by decide +kernel
theorem dX8_isReplaced_90 : decode (zcc mX8_isReplaced) 90 = .ok (.istore_n 3, 1) := by decide +kernel
theorem dX8_isReplaced_91 : decode (zcc mX8_isReplaced) 91 = .ok (.iload_n 3, 1) := by decide +kernel
theorem dX8_isReplaced_92 : decode (zcc mX8_isReplaced) 92 = .ok (.aload_n 0, 1) := by decide +kernel
theorem dX8_isReplaced_93 : decode (zcc mX8_isReplaced) 93 = .ok (.getfield 117, 3) := by decide +kernel
theorem dX8_isReplaced_96 : decode (zcc mX8_isReplaced) 96 = .ok (.if_icmp .ge 34, 3) := by decide +kernel
theorem dX8_isReplaced_99 : decode (zcc mX8_isReplaced) 99 = .ok (.iload_n 2, 1) := by decide +kernel
theorem dX8_isReplaced_100 : decode (zcc mX8_isReplaced) 100 = .ok (.ifCond .eq 30, 3) := by decide +kernel
theorem dX8_isReplaced_103 : decode (zcc mX8_isReplaced) 103 = .ok (.aload_n 0, 1) := by decide +kernel
theorem dX8_isReplaced_104 : decode (zcc mX8_isReplaced) 104 = .ok (.getfield 78, 3) := by decide +kernel
theorem dX8_isReplaced_107 : decode (zcc mX8_isReplaced) 107 = .ok (.iload_n 3, 1) := by decide +kernel
theorem dX8_isReplaced_108 : decode (zcc mX8_isReplaced) 108 = .ok (.iaload, 1) := by decide +kernel
theorem dX8_isReplaced_109 : decode (zcc mX8_isReplaced) 109 = .ok (.aload_n 0, 1) := by decide +kernel
theorem dX8_isReplaced_110 : decode (zcc mX8_isReplaced) 110 = .ok (.getfield 72, 3) := by decide +kernel
theorem dX8_isReplaced_113 : decode (zcc mX8_isReplaced) 113 = .ok (.iload_n 3, 1) := by decide +kernel
theorem dX8_isReplaced_114 : decode (zcc mX8_isReplaced) 114 = .ok (.iaload, 1) := by decide +kernel
theorem dX8_isReplaced_115 : decode (zcc mX8_isReplaced) 115 = .ok (.if_icmp .ne 7, 3) := by decide +kernel
theorem dX8_isReplaced_118 : decode (zcc mX8_isReplaced) 118 = .ok (.iconst 1, 1) := by decide +kernel
theorem dX8_isReplaced_119 : decode (zcc mX8_isReplaced) 119 = .ok (.goto 4, 3) := by decide +kernel
theorem dX8_isReplaced_122 : decode (zcc mX8_isReplaced) 122 = .ok (.iconst 0, 1) := by decide +kernel
theorem dX8_isReplaced_123 : decode (zcc mX8_isReplaced) 123 = .ok (.istore_n 2, 1) := by decide +kernel
theorem dX8_isReplaced_124 : decode (zcc mX8_isReplaced) 124 = .ok (.iinc 3 1, 3) := by decide +kernel
theorem dX8_isReplaced_127 : decode (zcc mX8_isReplaced) 127 = .ok (.goto (-36), 3) := by decide +kernel
theorem dX8_isReplaced_130 : decode (zcc mX8_isReplaced) 130 = .ok (.iload_n 2, 1) := by decide +kernel
theorem dX8_isReplaced_131 : decode (zcc mX8_isReplaced) 131 = .ok (.ireturn, 1) := by decide +kernel
theorem dX8_isSame_0 : decode (zcc mX8_isSame) 0 = .ok (.aload_n 0, 1) := by decide +kernel
theorem dX8_isSame_1 : decode (zcc mX8_isSame) 1 = .ok (.getfield 75, 3) := by decide +kernel
theorem dX8_isSame_4 : decode (zcc mX8_isSame) 4 = .ok (.iconst 0, 1) := by decide +kernel
theorem dX8_isSame_5 : decode (zcc mX8_isSame) 5 = .ok (.iaload, 1) := by decide +kernel
theorem dX8_isSame_6 : decode (zcc mX8_isSame) 6 = .ok (.aload_n 0, 1) := by decide +kernel
theorem dX8_isSame_7 : decode (zcc mX8_isSame) 7 = .ok (.getfield 75, 3) := by decide +kernel
theorem dX8_isSame_10 : decode (zcc mX8_isSame) 10 = .ok (.iconst 1, 1) := by decide +kernel
theorem dX8_isSame_11 : decode (zcc mX8_isSame) 11 = .ok (.iaload, 1) := by decide +kernel
theorem dX8_isSame_12 : decode (zcc mX8_isSame) 12 = .ok (.if_icmp .ne 7, 3) := by decide +kernel
theorem dX8_isSame_15 : decode (zcc mX8_isSame) 15 = .ok (.iconst 1, 1) := by decide +kernel
theorem dX8_isSame_16 : decode (zcc mX8_isSame) 16 = .ok (.goto 4, 3) := by decide +kernel
theorem dX8_isSame_19 : decode (zcc mX8_isSame) 19 = .ok (.iconst 0, 1) := by decide +kernel
theorem dX8_isSame_20 : decode (zcc mX8_isSame) 20 = .ok (.istore_n 1, 1) := by decide +kernel
theorem dX8_isSame_21 : decode (zcc mX8_isSame) 21 = .ok (.iconst 0, 1) := by decide +kernel
theorem dX8_isSame_22 : decode (zcc mX8_isSame) 22 = .ok (.istore_n 2, 1) := by decide +kernel
theorem dX8_isSame_23 : decode (zcc mX8_isSame) 23 = .ok (.iload_n 2, 1) := by decide +kernel
theorem dX8_isSame_24 : decode (zcc mX8_isSame) 24 = .ok (.aload_n 0, 1) := by decide +kernel
theorem dX8_isSame_25 : decode (zcc mX8_isSame) 25 = .ok (.getfield 75, 3) := by decide +kernel
theorem dX8_isSame_28 : decode (zcc mX8_isSame) 28 = .ok (.iconst 0, 1) := by decide +kernel
theorem dX8_isSame_29 : decode (zcc mX8_isSame) 29 = .ok (.iaload, 1) := by decide +kernel
theorem dX8_isSame_30 : decode (zcc mX8_isSame) 30 = .ok (.if_icmp .ge 37, 3) := by decide +kernel
theorem dX8_isSame_33 : decode (zcc mX8_isSame) 33 = .ok (.iload_n 1, 1) := by decide +kernel
theorem dX8_isSame_34 : decode (zcc mX8_isSame) 34 = .ok (.ifCond .eq 33, 3) := by decide +kernel
theorem dX8_isSame_37 : decode (zcc mX8_isSame) 37 = .ok (.aload_n 0, 1) := by decide +kernel
theorem dX8_isSame_38 : decode (zcc mX8_isSame) 38 = .ok (.getfield 72, 3) := by decide +kernel
theorem dX8_isSame_41 : decode (zcc mX8_isSame) 41 = .ok (.iload_n 2, 1) := by decide +kernel
theorem dX8_isSame_42 : decode (zcc mX8_isSame) 42 = .ok (.iaload, 1) := by decide +kernel
theorem dX8_isSame_43 : decode (zcc mX8_isSame) 43 = .ok (.aload_n 0, 1) := by decide +kernel
theorem dX8_isSame_44 : decode (zcc mX8_isSame) 44 = .ok (.getfield 72, 3) := by decide +kernel
theorem dX8_isSame_47 : decode (zcc mX8_isSame) 47 = .ok (.bipush 32, 2) := by decide +kernel
theorem dX8_isSame_49 : decode (zcc mX8_isSame) 49 = .ok (.iload_n 2, 1) := by decide +kernel
theorem dX8_isSame_50 : decode (zcc mX8_isSame) 50 = .ok (.iadd, 1) := by decide +kernel
theorem dX8_isSame_51 : decode (zcc mX8_isSame) 51 = .ok (.iaload, 1) := by decide +kernel
theorem dX8_isSame_52 : decode (zcc mX8_isSame) 52 = .ok (.if_icmp .ne 7, 3) := by decide +kernel
theorem dX8_isSame_55 : decode (zcc mX8_isSame) 55 = .ok (.iconst 1, 1) := by decide +kernel
theorem dX8_isSame_56 : decode (zcc mX8_isSame) 56 = .ok (.goto 4, 3) := by decide +kernel
theorem dX8_isSame_59 : decode (zcc mX8_isSame) 59 = .ok (.iconst 0, 1) := by decide +kernel
theorem dX8_isSame_60 : decode (zcc mX8_isSame) 60 = .ok (.istore_n 1, 1) := by decide +kernel
theorem dX8_isSame_61 : decode (zcc mX8_isSame) 61 = .ok (.iinc 2 1, 3) := by decide +kernel
theorem dX8_isSame_64 : decode (zcc mX8_isSame) 64 = .ok (.goto (-41), 3) := by decide +kernel
theorem dX8_isSame_67 : decode (zcc mX8_isSame) 67 = .ok (.iload_n 1, 1) := by decide +kernel
theorem dX8_isSame_68 : decode (zcc mX8_isSame) 68 = .ok (.ireturn, 1) := by decide +kernel
theorem dX8_isBefore_0 : decode (zcc mX8_isBefore) 0 = .ok (.iconst 0, 1) := by decide +kernel
theorem dX8_isBefore_1 : decode (zcc mX8_isBefore) 1 = .ok (.istore_n 1, 1) := by decide +kernel
theorem dX8_isBefore_2 : decode (zcc mX8_isBefore) 2 = .ok (.iload_n 1, 1) := by decide +kernel
theorem dX8_isBefore_3 : decode (zcc mX8_isBefore) 3 = .ok (.aload_n 0, 1) := by decide +kernel
theorem dX8_isBefore_4 : decode (zcc mX8_isBefore) 4 = .ok (.getfield 75, 3) := by decide +kernel
theorem dX8_isBefore_7 : decode (zcc mX8_isBefore) 7 = .ok (.iconst 0, 1) := by decide +kernel
theorem dX8_isBefore_8 : decode (zcc mX8_isBefore) 8 = .ok (.iaload, 1) := by decide +kernel
theorem dX8_isBefore_9 : decode (zcc mX8_isBefore) 9 = .ok (.if_icmp .ge 37, 3) := by decide +kernel
theorem dX8_isBefore_12 : decode (zcc mX8_isBefore) 12 = .ok (.iload_n 1, 1) := by decide +kernel
theorem dX8_isBefore_13 : decode (zcc mX8_isBefore) 13 = .ok (.aload_n 0, 1) := by decide +kernel
theorem dX8_isBefore_14 : decode (zcc mX8_isBefore) 14 = .ok (.getfield 75, 3) := by decide +kernel
theorem dX8_isBefore_17 : decode (zcc mX8_isBefore) 17 = .ok (.iconst 1, 1) := by decide +kernel
theorem dX8_isBefore_18 : decode (zcc mX8_isBefore) 18 = .ok (.iaload, 1) := by decide +kernel
theorem dX8_isBefore_19 : decode (zcc mX8_isBefore) 19 = .ok (.if_icmp .ge 27, 3) := by decide +kernel
theorem dX8_isBefore_22 : decode (zcc mX8_isBefore) 22 = .ok (.aload_n 0, 1) := by decide +kernel
theorem dX8_isBefore_23 : decode (zcc mX8_isBefore) 23 = .ok (.getfield 72, 3) := by decide +kernel
theorem dX8_isBefore_26 : decode (zcc mX8_isBefore) 26 = .ok (.iload_n 1, 1) := by decide +kernel
theorem dX8_isBefore_27 : decode (zcc mX8_isBefore) 27 = .ok (.iaload, 1) := by decide +kernel
theorem dX8_isBefore_28 : decode (zcc mX8_isBefore) 28 = .ok (.aload_n 0, 1) := by decide +kernel
theorem dX8_isBefore_29 : decode (zcc mX8_isBefore) 29 = .ok (.getfield 72, 3) := by decide +kernel
theorem dX8_isBefore_32 : decode (zcc mX8_isBefore) 32 = .ok (.bipush 32, 2) := by decide +kernel
theorem dX8_isBefore_34 : decode (zcc mX8_isBefore) 34 = .ok (.iload_n 1, 1) := by decide +kernel
theorem dX8_isBefore_35 : decode (zcc mX8_isBefore) 35 = .ok (.iadd, 1) := by decide +kernel
theorem dX8_isBefore_36 : decode (zcc mX8_isBefore) 36 = .ok (.iaload, 1) := by decide +kernel
theorem dX8_isBefore_37 : decode (zcc mX8_isBefore) 37 = .ok (.if_icmp .ne 9, 3) := by decide +kernel
theorem dX8_isBefore_40 : decode (zcc mX8_isBefore) 40 = .ok (.iinc 1 1, 3) := by decide +kernel
theorem dX8_isBefore_43 : decode (zcc mX8_isBefore) 43 = .ok (.goto (-41), 3) := by decide +kernel
theorem dX8_isBefore_46 : decode (zcc mX8_isBefore) 46 = .ok (.iload_n 1, 1) := by decide +kernel
theorem dX8_isBefore_47 : decode (zcc mX8_isBefore) 47 = .ok (.aload_n 0, 1) := by decide +kernel
theorem dX8_isBefore_48 : decode (zcc mX8_isBefore) 48 = .ok (.getfield 75, 3) := by decide +kernel
theorem dX8_isBefore_51 : decode (zcc mX8_isBefore) 51 = .ok (.iconst 1, 1) := by decide +kernel
theorem dX8_isBefore_52 : decode (zcc mX8_isBefore) 52 = .ok (.iaload, 1) := by decide +kernel
theorem dX8_isBefore_53 : decode (zcc mX8_isBefore) 53 = .ok (.if_icmp .ge 35, 3) := by decide +kernel
theorem dX8_isBefore_56 : decode (zcc mX8_isBefore) 56 = .ok (.iload_n 1, 1) := by decide +kernel
theorem dX8_isBefore_57 : decode (zcc mX8_isBefore) 57 = .ok (.aload_n 0, 1) := by decide +kernel
theorem dX8_isBefore_58 : decode (zcc mX8_isBefore) 58 = .ok (.getfield 75, 3) := by decide +kernel
theorem dX8_isBefore_61 : decode (zcc mX8_isBefore) 61 = .ok (.iconst 0, 1) := by decide +kernel
theorem dX8_isBefore_62 : decode (zcc mX8_isBefore) 62 = .ok (.iaload, 1) := by decide +kernel
theorem dX8_isBefore_63 : decode (zcc mX8_isBefore) 63 = .ok (.if_icmp .eq 21, 3) := by decide +kernel
theorem dX8_isBefore_66 : decode (zcc mX8_isBefore) 66 = .ok (.aload_n 0, 1) := by decide +kernel
theorem dX8_isBefore_67 : decode (zcc mX8_isBefore) 67 = .ok (.getfield 72, 3) := by decide +kernel
theorem dX8_isBefore_70 : decode (zcc mX8_isBefore) 70 = .ok (.iload_n 1, 1) := by decide +kernel
theorem dX8_isBefore_71 : decode (zcc mX8_isBefore) 71 = .ok (.iaload, 1) := by decide +kernel
theorem dX8_isBefore_72 : decode (zcc mX8_isBefore) 72 = .ok (.aload_n 0, 1) := by decide +kernel
theorem dX8_isBefore_73 : decode (zcc mX8_isBefore) 73 = .ok (.getfield 72, 3) := by decide +kernel
theorem dX8_isBefore_76 : decode (zcc mX8_isBefore) 76 = .ok (.bipush 32, 2) := by decide +kernel
theorem dX8_isBefore_78 : decode (zcc mX8_isBefore) 78 = .ok (.iload_n 1, 1) := by decide +kernel
theorem dX8_isBefore_79 : decode (zcc mX8_isBefore) 79 = .ok (.iadd, 1) := by decide +kernel
theorem dX8_isBefore_80 : decode (zcc mX8_isBefore) 80 = .ok (.iaload, 1) := by decide +kernel
theorem dX8_isBefore_81 : decode (zcc mX8_isBefore) 81 = .ok (.if_icmp .ge 7, 3) := by decide +kernel
theorem dX8_isBefore_84 : decode (zcc mX8_isBefore) 84 = .ok (.iconst 1, 1) := by decide +kernel
theorem dX8_isBefore_85 : decode (zcc mX8_isBefore) 85 = .ok (.goto 4, 3) := by decide +kernel
theorem dX8_isBefore_88 : decode (zcc mX8_isBefore) 88 = .ok (.iconst 0, 1) := by decide +kernel
theorem dX8_isBefore_89 : decode (zcc mX8_isBefore) 89 = .ok (.ireturn, 1) := by decide +kernel
theorem dX8_isSum_0 : decode (zcc mX8_isSum) 0 = .ok (.iconst 0, 1) := by decide +kernel
theorem dX8_isSum_1 : decode (zcc mX8_isSum) 1 = .ok (.istore_n 3, 1) := by decide +kernel
theorem dX8_isSum_2 : decode (zcc mX8_isSum) 2 = .ok (.iconst 0, 1) := by decide +kernel
theorem dX8_isSum_3 : decode (zcc mX8_isSum) 3 = .ok (.istore 4, 2) := by decide +kernel
theorem dX8_isSum_5 : decode (zcc mX8_isSum) 5 = .ok (.iload 4, 2) := by decide +kernel
theorem dX8_isSum_7 : decode (zcc mX8_isSum) 7 = .ok (.aload_n 0, 1) := by decide +kernel
theorem dX8_isSum_8 : decode (zcc mX8_isSum) 8 = .ok (.getfield 75, 3) := by decide +kernel
theorem dX8_isSum_11 : decode (zcc mX8_isSum) 11 = .ok (.iconst 0, 1) := by decide +kernel
theorem dX8_isSum_12 : decode (zcc mX8_isSum) 12 = .ok (.iaload, 1) := by decide +kernel
theorem dX8_isSum_13 : decode (zcc mX8_isSum) 13 = .ok (.if_icmp .ge 24, 3) := by decide +kernel
theorem dX8_isSum_16 : decode (zcc mX8_isSum) 16 = .ok (.bipush 31, 2) := by decide +kernel
end
section
theorem dX8_isSum_18 : decode (zcc mX8_isSum) 18 = .ok (.iload_n 3, 1) := by decide +kernel
theorem dX8_isSum_19 : decode (zcc mX8_isSum) 19 = .ok (.imul, 1) := by decide +kernel
theorem dX8_isSum_20 : decode (zcc mX8_isSum) 20 = .ok (.aload_n 0, 1) := by decide +kernel
theorem dX8_isSum_21 : decode (zcc mX8_isSum) 21 = .ok (.getfield 72, 3) := by decide +kernel
theorem dX8_isSum_24 : decode (zcc mX8_isSum) 24 = .ok (.iload 4, 2) := by decide +kernel
theorem dX8_isSum_26 : decode (zcc mX8_isSum) 26 = .ok (.iaload, 1) := by decide +kernel
theorem dX8_isSum_27 : decode (zcc mX8_isSum) 27 = .ok (.iadd, 1) := by decide +kernel
theorem dX8_isSum_28 : decode (zcc mX8_isSum) 28 = .ok (.iconst 1, 1) := by decide +kernel
theorem dX8_isSum_29 : decode (zcc mX8_isSum) 29 = .ok (.iadd, 1) := by decide +kernel
theorem dX8_isSum_30 : decode (zcc mX8_isSum) 30 = .ok (.istore_n 3, 1) := by decide +kernel
theorem dX8_isSum_31 : decode (zcc mX8_isSum) 31 = .ok (.iinc 4 1, 3) := by decide +kernel
theorem dX8_isSum_34 : decode (zcc mX8_isSum) 34 = .ok (.goto (-29), 3) := by decide +kernel
theorem dX8_isSum_37 : decode (zcc mX8_isSum) 37 = .ok (.iload_n 3, 1) := by decide +kernel
theorem dX8_isSum_38 : decode (zcc mX8_isSum) 38 = .ok (.i2l, 1) := by decide +kernel
theorem dX8_isSum_39 : decode (zcc mX8_isSum) 39 = .ok (.iload_n 2, 1) := by decide +kernel
theorem dX8_isSum_40 : decode (zcc mX8_isSum) 40 = .ok (.i2l, 1) := by decide +kernel
theorem dX8_isSum_41 : decode (zcc mX8_isSum) 41 = .ok (.lsub, 1) := by decide +kernel
theorem dX8_isSum_42 : decode (zcc mX8_isSum) 42 = .ok (.lstore 4, 2) := by decide +kernel
theorem dX8_isSum_44 : decode (zcc mX8_isSum) 44 = .ok (.lload 4, 2) := by decide +kernel
theorem dX8_isSum_46 : decode (zcc mX8_isSum) 46 = .ok (.iload_n 1, 1) := by decide +kernel
theorem dX8_isSum_47 : decode (zcc mX8_isSum) 47 = .ok (.i2l, 1) := by decide +kernel
theorem dX8_isSum_48 : decode (zcc mX8_isSum) 48 = .ok (.lrem, 1) := by decide +kernel
theorem dX8_isSum_49 : decode (zcc mX8_isSum) 49 = .ok (.lconst 0, 1) := by decide +kernel
theorem dX8_isSum_50 : decode (zcc mX8_isSum) 50 = .ok (.lcmp, 1) := by decide +kernel
theorem dX8_isSum_51 : decode (zcc mX8_isSum) 51 = .ok (.ifCond .ne 7, 3) := by decide +kernel
theorem dX8_isSum_54 : decode (zcc mX8_isSum) 54 = .ok (.iconst 1, 1) := by decide +kernel
theorem dX8_isSum_55 : decode (zcc mX8_isSum) 55 = .ok (.goto 4, 3) := by decide +kernel
theorem dX8_isSum_58 : decode (zcc mX8_isSum) 58 = .ok (.iconst 0, 1) := by decide +kernel
theorem dX8_isSum_59 : decode (zcc mX8_isSum) 59 = .ok (.ireturn, 1) := by decide +kernel
theorem dX8_is_0 : decode (zcc mX8_is) 0 = .ok (.aload_n 0, 1) := by decide +kernel
theorem dX8_is_1 : decode (zcc mX8_is) 1 = .ok (.iconst 0, 1) := by decide +kernel
theorem dX8_is_2 : decode (zcc mX8_is) 2 = .ok (.aload_n 0, 1) := by decide +kernel
theorem dX8_is_3 : decode (zcc mX8_is) 3 = .ok (.getfield 39, 3) := by decide +kernel
theorem dX8_is_6 : decode (zcc mX8_is) 6 = .ok (.iload_n 1, 1) := by decide +kernel
theorem dX8_is_7 : decode (zcc mX8_is) 7 = .ok (.iaload, 1) := by decide +kernel
theorem dX8_is_8 : decode (zcc mX8_is) 8 = .ok (.invokevirtual 128, 3) := by decide +kernel
theorem dX8_is_11 : decode (zcc mX8_is) 11 = .ok (.aload_n 0, 1) := by decide +kernel
theorem dX8_is_12 : decode (zcc mX8_is) 12 = .ok (.getfield 36, 3) := by decide +kernel
theorem dX8_is_15 : decode (zcc mX8_is) 15 = .ok (.iload_n 1, 1) := by decide +kernel
theorem dX8_is_16 : decode (zcc mX8_is) 16 = .ok (.iaload, 1) := by decide +kernel
theorem dX8_is_17 : decode (zcc mX8_is) 17 = .ok (.iconst 1, 1) := by decide +kernel
theorem dX8_is_18 : decode (zcc mX8_is) 18 = .ok (.if_icmp .ne 16, 3) := by decide +kernel
theorem dX8_is_21 : decode (zcc mX8_is) 21 = .ok (.aload_n 0, 1) := by decide +kernel
theorem dX8_is_22 : decode (zcc mX8_is) 22 = .ok (.getfield 42, 3) := by decide +kernel
theorem dX8_is_25 : decode (zcc mX8_is) 25 = .ok (.iload_n 1, 1) := by decide +kernel
theorem dX8_is_26 : decode (zcc mX8_is) 26 = .ok (.iaload, 1) := by decide +kernel
theorem dX8_is_27 : decode (zcc mX8_is) 27 = .ok (.iconst (-1), 1) := by decide +kernel
theorem dX8_is_28 : decode (zcc mX8_is) 28 = .ok (.if_icmp .eq 37, 3) := by decide +kernel
theorem dX8_is_31 : decode (zcc mX8_is) 31 = .ok (.goto 23, 3) := by decide +kernel
theorem dX8_is_34 : decode (zcc mX8_is) 34 = .ok (.aload_n 0, 1) := by decide +kernel
theorem dX8_is_35 : decode (zcc mX8_is) 35 = .ok (.getfield 36, 3) := by decide +kernel
theorem dX8_is_38 : decode (zcc mX8_is) 38 = .ok (.iload_n 1, 1) := by decide +kernel
theorem dX8_is_39 : decode (zcc mX8_is) 39 = .ok (.iaload, 1) := by decide +kernel
theorem dX8_is_40 : decode (zcc mX8_is) 40 = .ok (.iconst 2, 1) := by decide +kernel
theorem dX8_is_41 : decode (zcc mX8_is) 41 = .ok (.if_icmp .eq 24, 3) := by decide +kernel
theorem dX8_is_44 : decode (zcc mX8_is) 44 = .ok (.aload_n 0, 1) := by decide +kernel
theorem dX8_is_45 : decode (zcc mX8_is) 45 = .ok (.getfield 36, 3) := by decide +kernel
theorem dX8_is_48 : decode (zcc mX8_is) 48 = .ok (.iload_n 1, 1) := by decide +kernel
theorem dX8_is_49 : decode (zcc mX8_is) 49 = .ok (.iaload, 1) := by decide +kernel
theorem dX8_is_50 : decode (zcc mX8_is) 50 = .ok (.iconst 5, 1) := by decide +kernel
theorem dX8_is_51 : decode (zcc mX8_is) 51 = .ok (.if_icmp .eq 14, 3) := by decide +kernel
theorem dX8_is_54 : decode (zcc mX8_is) 54 = .ok (.aload_n 0, 1) := by decide +kernel
theorem dX8_is_55 : decode (zcc mX8_is) 55 = .ok (.iconst 1, 1) := by decide +kernel
theorem dX8_is_56 : decode (zcc mX8_is) 56 = .ok (.aload_n 0, 1) := by decide +kernel
theorem dX8_is_57 : decode (zcc mX8_is) 57 = .ok (.getfield 42, 3) := by decide +kernel
theorem dX8_is_60 : decode (zcc mX8_is) 60 = .ok (.iload_n 1, 1) := by decide +kernel
theorem dX8_is_61 : decode (zcc mX8_is) 61 = .ok (.iaload, 1) := by decide +kernel
theorem dX8_is_62 : decode (zcc mX8_is) 62 = .ok (.invokevirtual 128, 3) := by decide +kernel
theorem dX8_is_65 : decode (zcc mX8_is) 65 = .ok (.aload_n 0, 1) := by decide +kernel
theorem dX8_is_66 : decode (zcc mX8_is) 66 = .ok (.getfield 36, 3) := by decide +kernel
theorem dX8_is_69 : decode (zcc mX8_is) 69 = .ok (.iload_n 1, 1) := by decide +kernel
theorem dX8_is_70 : decode (zcc mX8_is) 70 = .ok (.iaload, 1) := by decide +kernel
theorem dX8_is_71 : decode (zcc mX8_is) 71 = .ok (.tableswitch 134 0 5 #[37, 42, 84, 96, 101, 117], 37) := by decide +kernel
theorem dX8_is_108 : decode (zcc mX8_is) 108 = .ok (.aload_n 0, 1) := by decide +kernel
theorem dX8_is_109 : decode (zcc mX8_is) 109 = .ok (.invokevirtual 132, 3) := by decide +kernel
theorem dX8_is_112 : decode (zcc mX8_is) 112 = .ok (.ireturn, 1) := by decide +kernel
theorem dX8_is_113 : decode (zcc mX8_is) 113 = .ok (.aload_n 0, 1) := by decide +kernel
theorem dX8_is_114 : decode (zcc mX8_is) 114 = .ok (.getfield 75, 3) := by decide +kernel
theorem dX8_is_117 : decode (zcc mX8_is) 117 = .ok (.iconst 0, 1) := by decide +kernel
theorem dX8_is_118 : decode (zcc mX8_is) 118 = .ok (.iaload, 1) := by decide +kernel
theorem dX8_is_119 : decode (zcc mX8_is) 119 = .ok (.aload_n 0, 1) := by decide +kernel
theorem dX8_is_120 : decode (zcc mX8_is) 120 = .ok (.getfield 42, 3) := by decide +kernel
theorem dX8_is_123 : decode (zcc mX8_is) 123 = .ok (.iload_n 1, 1) := by decide +kernel
theorem dX8_is_124 : decode (zcc mX8_is) 124 = .ok (.iaload, 1) := by decide +kernel
theorem dX8_is_125 : decode (zcc mX8_is) 125 = .ok (.iconst (-1), 1) := by decide +kernel
theorem dX8_is_126 : decode (zcc mX8_is) 126 = .ok (.if_icmp .ne 7, 3) := by decide +kernel
theorem dX8_is_129 : decode (zcc mX8_is) 129 = .ok (.iconst 0, 1) := by decide +kernel
theorem dX8_is_130 : decode (zcc mX8_is) 130 = .ok (.goto 9, 3) := by decide +kernel
theorem dX8_is_133 : decode (zcc mX8_is) 133 = .ok (.aload_n 0, 1) := by decide +kernel
theorem dX8_is_134 : decode (zcc mX8_is) 134 = .ok (.getfield 75, 3) := by decide +kernel
theorem dX8_is_137 : decode (zcc mX8_is) 137 = .ok (.iconst 1, 1) := by decide +kernel
theorem dX8_is_138 : decode (zcc mX8_is) 138 = .ok (.iaload, 1) := by decide +kernel
theorem dX8_is_139 : decode (zcc mX8_is) 139 = .ok (.aload_n 0, 1) := by decide +kernel
theorem dX8_is_140 : decode (zcc mX8_is) 140 = .ok (.getfield 45, 3) := by decide +kernel
theorem dX8_is_143 : decode (zcc mX8_is) 143 = .ok (.iload_n 1, 1) := by decide +kernel
theorem dX8_is_144 : decode (zcc mX8_is) 144 = .ok (.iaload, 1) := by decide +kernel
theorem dX8_is_145 : decode (zcc mX8_is) 145 = .ok (.iadd, 1) := by decide +kernel
theorem dX8_is_146 : decode (zcc mX8_is) 146 = .ok (.if_icmp .lt 7, 3) := by decide +kernel
theorem dX8_is_149 : decode (zcc mX8_is) 149 = .ok (.iconst 1, 1) := by decide +kernel
theorem dX8_is_150 : decode (zcc mX8_is) 150 = .ok (.goto 4, 3) := by decide +kernel
theorem dX8_is_153 : decode (zcc mX8_is) 153 = .ok (.iconst 0, 1) := by decide +kernel
theorem dX8_is_154 : decode (zcc mX8_is) 154 = .ok (.ireturn, 1) := by decide +kernel
theorem dX8_is_155 : decode (zcc mX8_is) 155 = .ok (.aload_n 0, 1) := by decide +kernel
theorem dX8_is_156 : decode (zcc mX8_is) 156 = .ok (.aload_n 0, 1) := by decide +kernel
theorem dX8_is_157 : decode (zcc mX8_is) 157 = .ok (.getfield 42, 3) := by decide +kernel
theorem dX8_is_160 : decode (zcc mX8_is) 160 = .ok (.iload_n 1, 1) := by decide +kernel
theorem dX8_is_161 : decode (zcc mX8_is) 161 = .ok (.iaload, 1) := by decide +kernel
theorem dX8_is_162 : decode (zcc mX8_is) 162 = .ok (.iconst 0, 1) := by decide +kernel
theorem dX8_is_163 : decode (zcc mX8_is) 163 = .ok (.invokevirtual 136, 3) := by decide +kernel
theorem dX8_is_166 : decode (zcc mX8_is) 166 = .ok (.ireturn, 1) := by decide +kernel
theorem dX8_is_167 : decode (zcc mX8_is) 167 = .ok (.aload_n 0, 1) := by decide +kernel
theorem dX8_is_168 : decode (zcc mX8_is) 168 = .ok (.invokevirtual 140, 3) := by decide +kernel
theorem dX8_is_171 : decode (zcc mX8_is) 171 = .ok (.ireturn, 1) := by decide +kernel
theorem dX8_is_172 : decode (zcc mX8_is) 172 = .ok (.aload_n 0, 1) := by decide +kernel
theorem dX8_is_173 : decode (zcc mX8_is) 173 = .ok (.iconst 0, 1) := by decide +kernel
theorem dX8_is_174 : decode (zcc mX8_is) 174 = .ok (.iconst 1, 1) := by decide +kernel
theorem dX8_is_175 : decode (zcc mX8_is) 175 = .ok (.invokevirtual 120, 3) := by decide +kernel
theorem dX8_is_178 : decode (zcc mX8_is) 178 = .ok (.iconst (-1), 1) := by decide +kernel
theorem dX8_is_179 : decode (zcc mX8_is) 179 = .ok (.if_icmp .eq 7, 3) := by decide +kernel
theorem dX8_is_182 : decode (zcc mX8_is) 182 = .ok (.iconst 1, 1) := by decide +kernel
theorem dX8_is_183 : decode (zcc mX8_is) 183 = .ok (.goto 4, 3) := by decide +kernel
theorem dX8_is_186 : decode (zcc mX8_is) 186 = .ok (.iconst 0, 1) := by decide +kernel
theorem dX8_is_187 : decode (zcc mX8_is) 187 = .ok (.ireturn, 1) := by decide +kernel
theorem dX8_is_188 : decode (zcc mX8_is) 188 = .ok (.aload_n 0, 1) := by decide +kernel
theorem dX8_is_189 : decode (zcc mX8_is) 189 = .ok (.aload_n 0, 1) := by decide +kernel
theorem dX8_is_190 : decode (zcc mX8_is) 190 = .ok (.getfield 42, 3) := by decide +kernel
theorem dX8_is_193 : decode (zcc mX8_is) 193 = .ok (.iload_n 1, 1) := by decide +kernel
theorem dX8_is_194 : decode (zcc mX8_is) 194 = .ok (.iaload, 1) := by decide +kernel
theorem dX8_is_195 : decode (zcc mX8_is) 195 = .ok (.aload_n 0, 1) := by decide +kernel
theorem dX8_is_196 : decode (zcc mX8_is) 196 = .ok (.getfield 45, 3) := by decide +kernel
theorem dX8_is_199 : decode (zcc mX8_is) 199 = .ok (.iload_n 1, 1) := by decide +kernel
theorem dX8_is_200 : decode (zcc mX8_is) 200 = .ok (.iaload, 1) := by decide +kernel
theorem dX8_is_201 : decode (zcc mX8_is) 201 = .ok (.invokevirtual 143, 3) := by decide +kernel
theorem dX8_is_204 : decode (zcc mX8_is) 204 = .ok (.ireturn, 1) := by decide +kernel
theorem dX8_is_205 : decode (zcc mX8_is) 205 = .ok (.aload_n 0, 1) := by decide +kernel
theorem dX8_is_206 : decode (zcc mX8_is) 206 = .ok (.iconst 2, 1) := by decide +kernel
theorem dX8_is_207 : decode (zcc mX8_is) 207 = .ok (.aload_n 0, 1) := by decide +kernel
theorem dX8_is_208 : decode (zcc mX8_is) 208 = .ok (.getfield 45, 3) := by decide +kernel
theorem dX8_is_211 : decode (zcc mX8_is) 211 = .ok (.iload_n 1, 1) := by decide +kernel
theorem dX8_is_212 : decode (zcc mX8_is) 212 = .ok (.iaload, 1) := by decide +kernel
theorem dX8_is_213 : decode (zcc mX8_is) 213 = .ok (.invokevirtual 128, 3) := by decide +kernel
theorem dX8_is_216 : decode (zcc mX8_is) 216 = .ok (.aload_n 0, 1) := by decide +kernel
theorem dX8_is_217 : decode (zcc mX8_is) 217 = .ok (.iconst 3, 1) := by decide +kernel
theorem dX8_is_218 : decode (zcc mX8_is) 218 = .ok (.aload_n 0, 1) := by decide +kernel
theorem dX8_is_219 : decode (zcc mX8_is) 219 = .ok (.getfield 48, 3) := by decide +kernel
theorem dX8_is_222 : decode (zcc mX8_is) 222 = .ok (.iload_n 1, 1) := by decide +kernel
theorem dX8_is_223 : decode (zcc mX8_is) 223 = .ok (.iaload, 1) := by decide +kernel
theorem dX8_is_224 : decode (zcc mX8_is) 224 = .ok (.invokevirtual 128, 3) := by decide +kernel
theorem dX8_is_227 : decode (zcc mX8_is) 227 = .ok (.aload_n 0, 1) := by decide +kernel
theorem dX8_is_228 : decode (zcc mX8_is) 228 = .ok (.invokevirtual 146, 3) := by decide +kernel
theorem dX8_is_231 : decode (zcc mX8_is) 231 = .ok (.ireturn, 1) := by decide +kernel
theorem dX8_first_0 : decode (zcc mX8_first) 0 = .ok (.iconst 0, 1) := by decide +kernel
theorem dX8_first_1 : decode (zcc mX8_first) 1 = .ok (.istore_n 1, 1) := by decide +kernel
theorem dX8_first_2 : decode (zcc mX8_first) 2 = .ok (.iload_n 1, 1) := by decide +kernel
theorem dX8_first_3 : decode (zcc mX8_first) 3 = .ok (.iconst 4, 1) := by decide +kernel
theorem dX8_first_4 : decode (zcc mX8_first) 4 = .ok (.if_icmp .ge 16, 3) := by decide +kernel
theorem dX8_first_7 : decode (zcc mX8_first) 7 = .ok (.aload_n 0, 1) := by decide +kernel
theorem dX8_first_8 : decode (zcc mX8_first) 8 = .ok (.getfield 66, 3) := by decide +kernel
theorem dX8_first_11 : decode (zcc mX8_first) 11 = .ok (.iload_n 1, 1) := by decide +kernel
theorem dX8_first_12 : decode (zcc mX8_first) 12 = .ok (.iconst 0, 1) := by decide +kernel
theorem dX8_first_13 : decode (zcc mX8_first) 13 = .ok (.iastore, 1) := by decide +kernel
theorem dX8_first_14 : decode (zcc mX8_first) 14 = .ok (.iinc 1 1, 3) := by decide +kernel
theorem dX8_first_17 : decode (zcc mX8_first) 17 = .ok (.goto (-15), 3) := by decide +kernel
theorem dX8_first_20 : decode (zcc mX8_first) 20 = .ok (.iconst 0, 1) := by decide +kernel
theorem dX8_first_21 : decode (zcc mX8_first) 21 = .ok (.istore_n 1, 1) := by decide +kernel
theorem dX8_first_22 : decode (zcc mX8_first) 22 = .ok (.iload_n 1, 1) := by decide +kernel
theorem dX8_first_23 : decode (zcc mX8_first) 23 = .ok (.bipush 20, 2) := by decide +kernel
theorem dX8_first_25 : decode (zcc mX8_first) 25 = .ok (.if_icmp .ge 16, 3) := by decide +kernel
theorem dX8_first_28 : decode (zcc mX8_first) 28 = .ok (.aload_n 0, 1) := by decide +kernel
theorem dX8_first_29 : decode (zcc mX8_first) 29 = .ok (.getfield 69, 3) := by decide +kernel
theorem dX8_first_32 : decode (zcc mX8_first) 32 = .ok (.iload_n 1, 1) := by decide +kernel
theorem dX8_first_33 : decode (zcc mX8_first) 33 = .ok (.iconst 0, 1) := by decide +kernel
theorem dX8_first_34 : decode (zcc mX8_first) 34 = .ok (.iastore, 1) := by decide +kernel
theorem dX8_first_35 : decode (zcc mX8_first) 35 = .ok (.iinc 1 1, 3) := by decide +kernel
theorem dX8_first_38 : decode (zcc mX8_first) 38 = .ok (.goto (-16), 3) := by decide +kernel
theorem dX8_first_41 : decode (zcc mX8_first) 41 = .ok (.return_, 1) := by decide +kernel
theorem dX8_nextLetters_0 : decode (zcc mX8_nextLetters) 0 = .ok (.aload_n 0, 1) := by decide +kernel
theorem dX8_nextLetters_1 : decode (zcc mX8_nextLetters) 1 = .ok (.getfield 101, 3) := by decide +kernel
theorem dX8_nextLetters_4 : decode (zcc mX8_nextLetters) 4 = .ok (.iconst 1, 1) := by decide +kernel
theorem dX8_nextLetters_5 : decode (zcc mX8_nextLetters) 5 = .ok (.isub, 1) := by decide +kernel
theorem dX8_nextLetters_6 : decode (zcc mX8_nextLetters) 6 = .ok (.istore_n 1, 1) := by decide +kernel
theorem dX8_nextLetters_7 : decode (zcc mX8_nextLetters) 7 = .ok (.iload_n 1, 1) := by decide +kernel
theorem dX8_nextLetters_8 : decode (zcc mX8_nextLetters) 8 = .ok (.ifCond .lt 74, 3) := by decide +kernel
theorem dX8_nextLetters_11 : decode (zcc mX8_nextLetters) 11 = .ok (.aload_n 0, 1) := by decide +kernel
theorem dX8_nextLetters_12 : decode (zcc mX8_nextLetters) 12 = .ok (.getfield 66, 3) := by decide +kernel
theorem dX8_nextLetters_15 : decode (zcc mX8_nextLetters) 15 = .ok (.iload_n 1, 1) := by decide +kernel
theorem dX8_nextLetters_16 : decode (zcc mX8_nextLetters) 16 = .ok (.iaload, 1) := by decide +kernel
theorem dX8_nextLetters_17 : decode (zcc mX8_nextLetters) 17 = .ok (.iconst 1, 1) := by decide +kernel
theorem dX8_nextLetters_18 : decode (zcc mX8_nextLetters) 18 = .ok (.isub, 1) := by decide +kernel
theorem dX8_nextLetters_19 : decode (zcc mX8_nextLetters) 19 = .ok (.istore_n 2, 1) := by decide +kernel
theorem dX8_nextLetters_20 : decode (zcc mX8_nextLetters) 20 = .ok (.iload_n 2, 1) := by decide +kernel
theorem dX8_nextLetters_21 : decode (zcc mX8_nextLetters) 21 = .ok (.ifCond .lt 55, 3) := by decide +kernel
theorem dX8_nextLetters_24 : decode (zcc mX8_nextLetters) 24 = .ok (.aload_n 0, 1) := by decide +kernel
theorem dX8_nextLetters_25 : decode (zcc mX8_nextLetters) 25 = .ok (.getfield 69, 3) := by decide +kernel
theorem dX8_nextLetters_28 : decode (zcc mX8_nextLetters) 28 = .ok (.iconst 5, 1) := by decide +kernel
theorem dX8_nextLetters_29 : decode (zcc mX8_nextLetters) 29 = .ok (.iload_n 1, 1) := by decide +kernel
theorem dX8_nextLetters_30 : decode (zcc mX8_nextLetters) 30 = .ok (.imul, 1) := by decide +kernel
theorem dX8_nextLetters_31 : decode (zcc mX8_nextLetters) 31 = .ok (.iload_n 2, 1) := by decide +kernel
theorem dX8_nextLetters_32 : decode (zcc mX8_nextLetters) 32 = .ok (.iadd, 1) := by decide +kernel
theorem dX8_nextLetters_33 : decode (zcc mX8_nextLetters) 33 = .ok (.iaload, 1) := by decide +kernel
theorem dX8_nextLetters_34 : decode (zcc mX8_nextLetters) 34 = .ok (.iconst 1, 1) := by decide +kernel
theorem dX8_nextLetters_35 : decode (zcc mX8_nextLetters) 35 = .ok (.iadd, 1) := by decide +kernel
theorem dX8_nextLetters_36 : decode (zcc mX8_nextLetters) 36 = .ok (.aload_n 0, 1) := by decide +kernel
theorem dX8_nextLetters_37 : decode (zcc mX8_nextLetters) 37 = .ok (.getfield 7, 3) := by decide +kernel
theorem dX8_nextLetters_40 : decode (zcc mX8_nextLetters) 40 = .ok (.if_icmp .ge 19, 3) := by decide +kernel
theorem dX8_nextLetters_43 : decode (zcc mX8_nextLetters) 43 = .ok (.aload_n 0, 1) := by decide +kernel
theorem dX8_nextLetters_44 : decode (zcc mX8_nextLetters) 44 = .ok (.getfield 69, 3) := by decide +kernel
theorem dX8_nextLetters_47 : decode (zcc mX8_nextLetters) 47 = .ok (.iconst 5, 1) := by decide +kernel
theorem dX8_nextLetters_48 : decode (zcc mX8_nextLetters) 48 = .ok (.iload_n 1, 1) := by decide +kernel
theorem dX8_nextLetters_49 : decode (zcc mX8_nextLetters) 49 = .ok (.imul, 1) := by decide +kernel
theorem dX8_nextLetters_50 : decode (zcc mX8_nextLetters) 50 = .ok (.iload_n 2, 1) := by decide +kernel
theorem dX8_nextLetters_51 : decode (zcc mX8_nextLetters) 51 = .ok (.iadd, 1) := by decide +kernel
theorem dX8_nextLetters_52 : decode (zcc mX8_nextLetters) 52 = .ok (.dup2, 1) := by decide +kernel
theorem dX8_nextLetters_53 : decode (zcc mX8_nextLetters) 53 = .ok (.iaload, 1) := by decide +kernel
theorem dX8_nextLetters_54 : decode (zcc mX8_nextLetters) 54 = .ok (.iconst 1, 1) := by decide +kernel
theorem dX8_nextLetters_55 : decode (zcc mX8_nextLetters) 55 = .ok (.iadd, 1) := by decide +kernel
theorem dX8_nextLetters_56 : decode (zcc mX8_nextLetters) 56 = .ok (.iastore, 1) := by decide +kernel
theorem dX8_nextLetters_57 : decode (zcc mX8_nextLetters) 57 = .ok (.iconst 1, 1) := by decide +kernel
theorem dX8_nextLetters_58 : decode (zcc mX8_nextLetters) 58 = .ok (.ireturn, 1) := by decide +kernel
theorem dX8_nextLetters_59 : decode (zcc mX8_nextLetters) 59 = .ok (.aload_n 0, 1) := by decide +kernel
theorem dX8_nextLetters_60 : decode (zcc mX8_nextLetters) 60 = .ok (.getfield 69, 3) := by decide +kernel
theorem dX8_nextLetters_63 : decode (zcc mX8_nextLetters) 63 = .ok (.iconst 5, 1) := by decide +kernel
theorem dX8_nextLetters_64 : decode (zcc mX8_nextLetters) 64 = .ok (.iload_n 1, 1) := by decide +kernel
theorem dX8_nextLetters_65 : decode (zcc mX8_nextLetters) 65 = .ok (.imul, 1) := by decide +kernel
theorem dX8_nextLetters_66 : decode (zcc mX8_nextLetters) 66 = .ok (.iload_n 2, 1) := by decide +kernel
theorem dX8_nextLetters_67 : decode (zcc mX8_nextLetters) 67 = .ok (.iadd, 1) := by decide +kernel
theorem dX8_nextLetters_68 : decode (zcc mX8_nextLetters) 68 = .ok (.iconst 0, 1) := by decide +kernel
theorem dX8_nextLetters_69 : decode (zcc mX8_nextLetters) 69 = .ok (.iastore, 1) := by decide +kernel
theorem dX8_nextLetters_70 : decode (zcc mX8_nextLetters) 70 = .ok (.iinc 2 (-1), 3) := by decide +kernel
theorem dX8_nextLetters_73 : decode (zcc mX8_nextLetters) 73 = .ok (.goto (-53), 3) := by decide +kernel
theorem dX8_nextLetters_76 : decode (zcc mX8_nextLetters) 76 = .ok (.iinc 1 (-1), 3) := by decide +kernel
theorem dX8_nextLetters_79 : decode (zcc mX8_nextLetters) 79 = .ok (.goto (-72), 3) := by decide +kernel
theorem dX8_nextLetters_82 : decode (zcc mX8_nextLetters) 82 = .ok (.iconst 0, 1) := by decide +kernel
theorem dX8_nextLetters_83 : decode (zcc mX8_nextLetters) 83 = .ok (.ireturn, 1) := by decide +kernel
theorem dX8_nextLengths_0 : decode (zcc mX8_nextLengths) 0 = .ok (.aload_n 0, 1) := by decide +kernel
theorem dX8_nextLengths_1 : decode (zcc mX8_nextLengths) 1 = .ok (.getfield 101, 3) := by decide +kernel
theorem dX8_nextLengths_4 : decode (zcc mX8_nextLengths) 4 = .ok (.iconst 1, 1) := by decide +kernel
theorem dX8_nextLengths_5 : decode (zcc mX8_nextLengths) 5 = .ok (.isub, 1) := by decide +kernel
theorem dX8_nextLengths_6 : decode (zcc mX8_nextLengths) 6 = .ok (.istore_n 1, 1) := by decide +kernel
theorem dX8_nextLengths_7 : decode (zcc mX8_nextLengths) 7 = .ok (.iload_n 1, 1) := by decide +kernel
theorem dX8_nextLengths_8 : decode (zcc mX8_nextLengths) 8 = .ok (.ifCond .lt 43, 3) := by decide +kernel
theorem dX8_nextLengths_11 : decode (zcc mX8_nextLengths) 11 = .ok (.aload_n 0, 1) := by decide +kernel
theorem dX8_nextLengths_12 : decode (zcc mX8_nextLengths) 12 = .ok (.getfield 66, 3) := by decide +kernel
theorem dX8_nextLengths_15 : decode (zcc mX8_nextLengths) 15 = .ok (.iload_n 1, 1) := by decide +kernel
theorem dX8_nextLengths_16 : decode (zcc mX8_nextLengths) 16 = .ok (.iaload, 1) := by decide +kernel
theorem dX8_nextLengths_17 : decode (zcc mX8_nextLengths) 17 = .ok (.aload_n 0, 1) := by decide +kernel
theorem dX8_nextLengths_18 : decode (zcc mX8_nextLengths) 18 = .ok (.getfield 13, 3) := by decide +kernel
theorem dX8_nextLengths_21 : decode (zcc mX8_nextLengths) 21 = .ok (.iload_n 1, 1) := by decide +kernel
theorem dX8_nextLengths_22 : decode (zcc mX8_nextLengths) 22 = .ok (.iaload, 1) := by decide +kernel
theorem dX8_nextLengths_23 : decode (zcc mX8_nextLengths) 23 = .ok (.if_icmp .ge 15, 3) := by decide +kernel
theorem dX8_nextLengths_26 : decode (zcc mX8_nextLengths) 26 = .ok (.aload_n 0, 1) := by decide +kernel
theorem dX8_nextLengths_27 : decode (zcc mX8_nextLengths) 27 = .ok (.getfield 66, 3) := by decide +kernel
theorem dX8_nextLengths_30 : decode (zcc mX8_nextLengths) 30 = .ok (.iload_n 1, 1) := by decide +kernel
theorem dX8_nextLengths_31 : decode (zcc mX8_nextLengths) 31 = .ok (.dup2, 1) := by decide +kernel
theorem dX8_nextLengths_32 : decode (zcc mX8_nextLengths) 32 = .ok (.iaload, 1) := by decide +kernel
theorem dX8_nextLengths_33 : decode (zcc mX8_nextLengths) 33 = .ok (.iconst 1, 1) := by decide +kernel
theorem dX8_nextLengths_34 : decode (zcc mX8_nextLengths) 34 = .ok (.iadd, 1) := by decide +kernel
theorem dX8_nextLengths_35 : decode (zcc mX8_nextLengths) 35 = .ok (.iastore, 1) := by decide +kernel
theorem dX8_nextLengths_36 : decode (zcc mX8_nextLengths) 36 = .ok (.iconst 1, 1) := by decide +kernel
theorem dX8_nextLengths_37 : decode (zcc mX8_nextLengths) 37 = .ok (.ireturn, 1) := by decide +kernel
theorem dX8_nextLengths_38 : decode (zcc mX8_nextLengths) 38 = .ok (.aload_n 0, 1) := by decide +kernel
theorem dX8_nextLengths_39 : decode (zcc mX8_nextLengths) 39 = .ok (.getfield 66, 3) := by decide +kernel
theorem dX8_nextLengths_42 : decode (zcc mX8_nextLengths) 42 = .ok (.iload_n 1, 1) := by decide +kernel
theorem dX8_nextLengths_43 : decode (zcc mX8_nextLengths) 43 = .ok (.iconst 0, 1) := by decide +kernel
theorem dX8_nextLengths_44 : decode (zcc mX8_nextLengths) 44 = .ok (.iastore, 1) := by decide +kernel
theorem dX8_nextLengths_45 : decode (zcc mX8_nextLengths) 45 = .ok (.iinc 1 (-1), 3) := by decide +kernel
theorem dX8_nextLengths_48 : decode (zcc mX8_nextLengths) 48 = .ok (.goto (-41), 3) := by decide +kernel
theorem dX8_nextLengths_51 : decode (zcc mX8_nextLengths) 51 = .ok (.iconst 0, 1) := by decide +kernel
theorem dX8_nextLengths_52 : decode (zcc mX8_nextLengths) 52 = .ok (.ireturn, 1) := by decide +kernel
theorem dX8_next_0 : decode (zcc mX8_next) 0 = .ok (.aload_n 0, 1) := by decide +kernel
theorem dX8_next_1 : decode (zcc mX8_next) 1 = .ok (.invokevirtual 149, 3) := by decide +kernel
theorem dX8_next_4 : decode (zcc mX8_next) 4 = .ok (.ifCond .ne 10, 3) := by decide +kernel
theorem dX8_next_7 : decode (zcc mX8_next) 7 = .ok (.aload_n 0, 1) := by decide +kernel
theorem dX8_next_8 : decode (zcc mX8_next) 8 = .ok (.invokevirtual 152, 3) := by decide +kernel
theorem dX8_next_11 : decode (zcc mX8_next) 11 = .ok (.ifCond .eq 7, 3) := by decide +kernel
theorem dX8_next_14 : decode (zcc mX8_next) 14 = .ok (.iconst 1, 1) := by decide +kernel
theorem dX8_next_15 : decode (zcc mX8_next) 15 = .ok (.goto 4, 3) := by decide +kernel
theorem dX8_next_18 : decode (zcc mX8_next) 18 = .ok (.iconst 0, 1) := by decide +kernel
theorem dX8_next_19 : decode (zcc mX8_next) 19 = .ok (.ireturn, 1) := by decide +kernel
theorem dX8_isModel_0 : decode (zcc mX8_isModel) 0 = .ok (.iconst 0, 1) := by decide +kernel
theorem dX8_isModel_1 : decode (zcc mX8_isModel) 1 = .ok (.istore_n 1, 1) := by decide +kernel
theorem dX8_isModel_2 : decode (zcc mX8_isModel) 2 = .ok (.iload_n 1, 1) := by decide +kernel
theorem dX8_isModel_3 : decode (zcc mX8_isModel) 3 = .ok (.aload_n 0, 1) := by decide +kernel
theorem dX8_isModel_4 : decode (zcc mX8_isModel) 4 = .ok (.getfield 98, 3) := by decide +kernel
theorem dX8_isModel_7 : decode (zcc mX8_isModel) 7 = .ok (.if_icmp .ge 43, 3) := by decide +kernel
theorem dX8_isModel_10 : decode (zcc mX8_isModel) 10 = .ok (.aload_n 0, 1) := by decide +kernel
theorem dX8_isModel_11 : decode (zcc mX8_isModel) 11 = .ok (.getfield 54, 3) := by decide +kernel
theorem dX8_isModel_14 : decode (zcc mX8_isModel) 14 = .ok (.iload_n 1, 1) := by decide +kernel
theorem dX8_isModel_15 : decode (zcc mX8_isModel) 15 = .ok (.baload, 1) := by decide +kernel
theorem dX8_isModel_16 : decode (zcc mX8_isModel) 16 = .ok (.ifCond .ne 28, 3) := by decide +kernel
theorem dX8_isModel_19 : decode (zcc mX8_isModel) 19 = .ok (.aload_n 0, 1) := by decide +kernel
theorem dX8_isModel_20 : decode (zcc mX8_isModel) 20 = .ok (.getfield 81, 3) := by decide +kernel
theorem dX8_isModel_23 : decode (zcc mX8_isModel) 23 = .ok (.iload_n 1, 1) := by decide +kernel
theorem dX8_isModel_24 : decode (zcc mX8_isModel) 24 = .ok (.baload, 1) := by decide +kernel
theorem dX8_isModel_25 : decode (zcc mX8_isModel) 25 = .ok (.ifCond .ne 19, 3) := by decide +kernel
theorem dX8_isModel_28 : decode (zcc mX8_isModel) 28 = .ok (.aload_n 0, 1) := by decide +kernel
theorem dX8_isModel_29 : decode (zcc mX8_isModel) 29 = .ok (.iload_n 1, 1) := by decide +kernel
theorem dX8_isModel_30 : decode (zcc mX8_isModel) 30 = .ok (.invokevirtual 155, 3) := by decide +kernel
theorem dX8_isModel_33 : decode (zcc mX8_isModel) 33 = .ok (.aload_n 0, 1) := by decide +kernel
theorem dX8_isModel_34 : decode (zcc mX8_isModel) 34 = .ok (.getfield 51, 3) := by decide +kernel
theorem dX8_isModel_37 : decode (zcc mX8_isModel) 37 = .ok (.iload_n 1, 1) := by decide +kernel
theorem dX8_isModel_38 : decode (zcc mX8_isModel) 38 = .ok (.baload, 1) := by decide +kernel
theorem dX8_isModel_39 : decode (zcc mX8_isModel) 39 = .ok (.if_icmp .ne 5, 3) := by decide +kernel
theorem dX8_isModel_42 : decode (zcc mX8_isModel) 42 = .ok (.iconst 0, 1) := by decide +kernel
theorem dX8_isModel_43 : decode (zcc mX8_isModel) 43 = .ok (.ireturn, 1) := by decide +kernel
theorem dX8_isModel_44 : decode (zcc mX8_isModel) 44 = .ok (.iinc 1 1, 3) := by decide +kernel
theorem dX8_isModel_47 : decode (zcc mX8_isModel) 47 = .ok (.goto (-45), 3) := by decide +kernel
theorem dX8_isModel_50 : decode (zcc mX8_isModel) 50 = .ok (.iconst 1, 1) := by decide +kernel
theorem dX8_isModel_51 : decode (zcc mX8_isModel) 51 = .ok (.ireturn, 1) := by decide +kernel
theorem dX8_search_0 : decode (zcc mX8_search) 0 = .ok (.iconst 0, 1) := by decide +kernel
theorem dX8_search_1 : decode (zcc mX8_search) 1 = .ok (.istore_n 2, 1) := by decide +kernel
theorem dX8_search_2 : decode (zcc mX8_search) 2 = .ok (.aload_n 0, 1) := by decide +kernel
theorem dX8_search_3 : decode (zcc mX8_search) 3 = .ok (.invokevirtual 158, 3) := by decide +kernel
theorem dX8_search_6 : decode (zcc mX8_search) 6 = .ok (.iconst 1, 1) := by decide +kernel
theorem dX8_search_7 : decode (zcc mX8_search) 7 = .ok (.istore_n 3, 1) := by decide +kernel
theorem dX8_search_8 : decode (zcc mX8_search) 8 = .ok (.iload_n 3, 1) := by decide +kernel
theorem dX8_search_9 : decode (zcc mX8_search) 9 = .ok (.ifCond .eq 30, 3) := by decide +kernel
theorem dX8_search_12 : decode (zcc mX8_search) 12 = .ok (.aload_n 0, 1) := by decide +kernel
theorem dX8_search_13 : decode (zcc mX8_search) 13 = .ok (.invokevirtual 161, 3) := by decide +kernel
theorem dX8_search_16 : decode (zcc mX8_search) 16 = .ok (.ifCond .eq 15, 3) := by decide +kernel
theorem dX8_search_19 : decode (zcc mX8_search) 19 = .ok (.iload_n 2, 1) := by decide +kernel
theorem dX8_search_20 : decode (zcc mX8_search) 20 = .ok (.iload_n 1, 1) := by decide +kernel
theorem dX8_search_21 : decode (zcc mX8_search) 21 = .ok (.if_icmp .ne 7, 3) := by decide +kernel
theorem dX8_search_24 : decode (zcc mX8_search) 24 = .ok (.iload_n 2, 1) := by decide +kernel
theorem dX8_search_25 : decode (zcc mX8_search) 25 = .ok (.iconst 1, 1) := by decide +kernel
theorem dX8_search_26 : decode (zcc mX8_search) 26 = .ok (.iadd, 1) := by decide +kernel
theorem dX8_search_27 : decode (zcc mX8_search) 27 = .ok (.ireturn, 1) := by decide +kernel
theorem dX8_search_28 : decode (zcc mX8_search) 28 = .ok (.iinc 2 1, 3) := by decide +kernel
theorem dX8_search_31 : decode (zcc mX8_search) 31 = .ok (.aload_n 0, 1) := by decide +kernel
theorem dX8_search_32 : decode (zcc mX8_search) 32 = .ok (.invokevirtual 164, 3) := by decide +kernel
theorem dX8_search_35 : decode (zcc mX8_search) 35 = .ok (.istore_n 3, 1) := by decide +kernel
theorem dX8_search_36 : decode (zcc mX8_search) 36 = .ok (.goto (-28), 3) := by decide +kernel
theorem dX8_search_39 : decode (zcc mX8_search) 39 = .ok (.iload_n 2, 1) := by decide +kernel
theorem dX8_search_40 : decode (zcc mX8_search) 40 = .ok (.ireturn, 1) := by decide +kernel
theorem dX8_stayAll_0 : decode (zcc mX8_stayAll) 0 = .ok (.iconst 0, 1) := by decide +kernel
theorem dX8_stayAll_1 : decode (zcc mX8_stayAll) 1 = .ok (.istore_n 1, 1) := by decide +kernel
theorem dX8_stayAll_2 : decode (zcc mX8_stayAll) 2 = .ok (.iload_n 1, 1) := by decide +kernel
theorem dX8_stayAll_3 : decode (zcc mX8_stayAll) 3 = .ok (.bipush 10, 2) := by decide +kernel
theorem dX8_stayAll_5 : decode (zcc mX8_stayAll) 5 = .ok (.if_icmp .ge 16, 3) := by decide +kernel
theorem dX8_stayAll_8 : decode (zcc mX8_stayAll) 8 = .ok (.aload_n 0, 1) := by decide +kernel
theorem dX8_stayAll_9 : decode (zcc mX8_stayAll) 9 = .ok (.getfield 81, 3) := by decide +kernel
theorem dX8_stayAll_12 : decode (zcc mX8_stayAll) 12 = .ok (.iload_n 1, 1) := by decide +kernel
theorem dX8_stayAll_13 : decode (zcc mX8_stayAll) 13 = .ok (.iconst 0, 1) := by decide +kernel
theorem dX8_stayAll_14 : decode (zcc mX8_stayAll) 14 = .ok (.bastore, 1) := by decide +kernel
theorem dX8_stayAll_15 : decode (zcc mX8_stayAll) 15 = .ok (.iinc 1 1, 3) := by decide +kernel
theorem dX8_stayAll_18 : decode (zcc mX8_stayAll) 18 = .ok (.goto (-16), 3) := by decide +kernel
theorem dX8_stayAll_21 : decode (zcc mX8_stayAll) 21 = .ok (.return_, 1) := by decide +kernel
theorem dX8_take_0 : decode (zcc mX8_take) 0 = .ok (.aload_n 0, 1) := by decide +kernel
theorem dX8_take_1 : decode (zcc mX8_take) 1 = .ok (.invokevirtual 167, 3) := by decide +kernel
theorem dX8_take_4 : decode (zcc mX8_take) 4 = .ok (.iload_n 1, 1) := by decide +kernel
theorem dX8_take_5 : decode (zcc mX8_take) 5 = .ok (.ifCond .lt 12, 3) := by decide +kernel
theorem dX8_take_8 : decode (zcc mX8_take) 8 = .ok (.aload_n 0, 1) := by decide +kernel
theorem dX8_take_9 : decode (zcc mX8_take) 9 = .ok (.iload_n 1, 1) := by decide +kernel
theorem dX8_take_10 : decode (zcc mX8_take) 10 = .ok (.invokevirtual 170, 3) := by decide +kernel
theorem dX8_take_13 : decode (zcc mX8_take) 13 = .ok (.iload_n 1, 1) := by decide +kernel
theorem dX8_take_14 : decode (zcc mX8_take) 14 = .ok (.if_icmp .gt 5, 3) := by decide +kernel
theorem dX8_take_17 : decode (zcc mX8_take) 17 = .ok (.iconst 0, 1) := by decide +kernel
theorem dX8_take_18 : decode (zcc mX8_take) 18 = .ok (.ireturn, 1) := by decide +kernel
theorem dX8_take_19 : decode (zcc mX8_take) 19 = .ok (.aload_n 0, 1) := by decide +kernel
theorem dX8_take_20 : decode (zcc mX8_take) 20 = .ok (.iconst 1, 1) := by decide +kernel
theorem dX8_take_21 : decode (zcc mX8_take) 21 = .ok (.putfield 87, 3) := by decide +kernel
theorem dX8_take_24 : decode (zcc mX8_take) 24 = .ok (.iconst 0, 1) := by decide +kernel
theorem dX8_take_25 : decode (zcc mX8_take) 25 = .ok (.istore_n 2, 1) := by decide +kernel
theorem dX8_take_26 : decode (zcc mX8_take) 26 = .ok (.iload_n 2, 1) := by decide +kernel
theorem dX8_take_27 : decode (zcc mX8_take) 27 = .ok (.iconst 4, 1) := by decide +kernel
theorem dX8_take_28 : decode (zcc mX8_take) 28 = .ok (.if_icmp .ge 21, 3) := by decide +kernel
theorem dX8_take_31 : decode (zcc mX8_take) 31 = .ok (.aload_n 0, 1) := by decide +kernel
theorem dX8_take_32 : decode (zcc mX8_take) 32 = .ok (.getfield 57, 3) := by decide +kernel
theorem dX8_take_35 : decode (zcc mX8_take) 35 = .ok (.iload_n 2, 1) := by decide +kernel
theorem dX8_take_36 : decode (zcc mX8_take) 36 = .ok (.aload_n 0, 1) := by decide +kernel
theorem dX8_take_37 : decode (zcc mX8_take) 37 = .ok (.getfield 66, 3) := by decide +kernel
theorem dX8_take_40 : decode (zcc mX8_take) 40 = .ok (.iload_n 2, 1) := by decide +kernel
theorem dX8_take_41 : decode (zcc mX8_take) 41 = .ok (.iaload, 1) := by decide +kernel
theorem dX8_take_42 : decode (zcc mX8_take) 42 = .ok (.iastore, 1) := by decide +kernel
theorem dX8_take_43 : decode (zcc mX8_take) 43 = .ok (.iinc 2 1, 3) := by decide +kernel
theorem dX8_take_46 : decode (zcc mX8_take) 46 = .ok (.goto (-20), 3) := by decide +kernel
theorem dX8_take_49 : decode (zcc mX8_take) 49 = .ok (.iconst 0, 1) := by decide +kernel
theorem dX8_take_50 : decode (zcc mX8_take) 50 = .ok (.istore_n 2, 1) := by decide +kernel
theorem dX8_take_51 : decode (zcc mX8_take) 51 = .ok (.iload_n 2, 1) := by decide +kernel
theorem dX8_take_52 : decode (zcc mX8_take) 52 = .ok (.bipush 20, 2) := by decide +kernel
theorem dX8_take_54 : decode (zcc mX8_take) 54 = .ok (.if_icmp .ge 21, 3) := by decide +kernel
theorem dX8_take_57 : decode (zcc mX8_take) 57 = .ok (.aload_n 0, 1) := by decide +kernel
theorem dX8_take_58 : decode (zcc mX8_take) 58 = .ok (.getfield 60, 3) := by decide +kernel
theorem dX8_take_61 : decode (zcc mX8_take) 61 = .ok (.iload_n 2, 1) := by decide +kernel
theorem dX8_take_62 : decode (zcc mX8_take) 62 = .ok (.aload_n 0, 1) := by decide +kernel
theorem dX8_take_63 : decode (zcc mX8_take) 63 = .ok (.getfield 69, 3) := by decide +kernel
theorem dX8_take_66 : decode (zcc mX8_take) 66 = .ok (.iload_n 2, 1) := by decide +kernel
theorem dX8_take_67 : decode (zcc mX8_take) 67 = .ok (.iaload, 1) := by decide +kernel
theorem dX8_take_68 : decode (zcc mX8_take) 68 = .ok (.iastore, 1) := by decide +kernel
theorem dX8_take_69 : decode (zcc mX8_take) 69 = .ok (.iinc 2 1, 3) := by decide +kernel
theorem dX8_take_72 : decode (zcc mX8_take) 72 = .ok (.goto (-21), 3) := by decide +kernel
theorem dX8_take_75 : decode (zcc mX8_take) 75 = .ok (.iconst 1, 1) := by decide +kernel
theorem dX8_take_76 : decode (zcc mX8_take) 76 = .ok (.ireturn, 1) := by decide +kernel
theorem dX8_solve_0 : decode (zcc mX8_solve) 0 = .ok (.aload_n 0, 1) := by decide +kernel
theorem dX8_solve_1 : decode (zcc mX8_solve) 1 = .ok (.iconst 0, 1) := by decide +kernel
theorem dX8_solve_2 : decode (zcc mX8_solve) 2 = .ok (.invokevirtual 174, 3) := by decide +kernel
theorem dX8_solve_5 : decode (zcc mX8_solve) 5 = .ok (.ifCond .eq 7, 3) := by decide +kernel
theorem dX8_solve_8 : decode (zcc mX8_solve) 8 = .ok (.iconst 1, 1) := by decide +kernel
theorem dX8_solve_9 : decode (zcc mX8_solve) 9 = .ok (.goto 4, 3) := by decide +kernel
theorem dX8_solve_12 : decode (zcc mX8_solve) 12 = .ok (.iconst 0, 1) := by decide +kernel
theorem dX8_solve_13 : decode (zcc mX8_solve) 13 = .ok (.ireturn, 1) := by decide +kernel
theorem dX8_model_0 : decode (zcc mX8_model) 0 = .ok (.aload_n 0, 1) := by decide +kernel
theorem dX8_model_1 : decode (zcc mX8_model) 1 = .ok (.iload_n 1, 1) := by decide +kernel
theorem dX8_model_2 : decode (zcc mX8_model) 2 = .ok (.invokevirtual 174, 3) := by decide +kernel
theorem dX8_model_5 : decode (zcc mX8_model) 5 = .ok (.ifCond .eq 7, 3) := by decide +kernel
theorem dX8_model_8 : decode (zcc mX8_model) 8 = .ok (.iconst 1, 1) := by decide +kernel
theorem dX8_model_9 : decode (zcc mX8_model) 9 = .ok (.goto 4, 3) := by decide +kernel
theorem dX8_model_12 : decode (zcc mX8_model) 12 = .ok (.iconst 0, 1) := by decide +kernel
theorem dX8_model_13 : decode (zcc mX8_model) 13 = .ok (.ireturn, 1) := by decide +kernel
theorem dX8_models_0 : decode (zcc mX8_models) 0 = .ok (.aload_n 0, 1) := by decide +kernel
theorem dX8_models_1 : decode (zcc mX8_models) 1 = .ok (.invokevirtual 167, 3) := by decide +kernel
theorem dX8_models_4 : decode (zcc mX8_models) 4 = .ok (.aload_n 0, 1) := by decide +kernel
theorem dX8_models_5 : decode (zcc mX8_models) 5 = .ok (.iconst (-1), 1) := by decide +kernel
theorem dX8_models_6 : decode (zcc mX8_models) 6 = .ok (.invokevirtual 170, 3) := by decide +kernel
theorem dX8_models_9 : decode (zcc mX8_models) 9 = .ok (.ireturn, 1) := by decide +kernel
theorem dX8_length_0 : decode (zcc mX8_length) 0 = .ok (.iload_n 1, 1) := by decide +kernel
theorem dX8_length_1 : decode (zcc mX8_length) 1 = .ok (.iconst 0, 1) := by decide +kernel
theorem dX8_length_2 : decode (zcc mX8_length) 2 = .ok (.aload_n 0, 1) := by decide +kernel
theorem dX8_length_3 : decode (zcc mX8_length) 3 = .ok (.getfield 101, 3) := by decide +kernel
theorem dX8_length_6 : decode (zcc mX8_length) 6 = .ok (.iconst 1, 1) := by decide +kernel
theorem dX8_length_7 : decode (zcc mX8_length) 7 = .ok (.isub, 1) := by decide +kernel
theorem dX8_length_8 : decode (zcc mX8_length) 8 = .ok (.invokestatic 94, 3) := by decide +kernel
theorem dX8_length_11 : decode (zcc mX8_length) 11 = .ok (.ifCond .ne 8, 3) := by decide +kernel
theorem dX8_length_14 : decode (zcc mX8_length) 14 = .ok (.bipush (-2), 2) := by decide +kernel
theorem dX8_length_16 : decode (zcc mX8_length) 16 = .ok (.goto 21, 3) := by decide +kernel
theorem dX8_length_19 : decode (zcc mX8_length) 19 = .ok (.aload_n 0, 1) := by decide +kernel
theorem dX8_length_20 : decode (zcc mX8_length) 20 = .ok (.getfield 87, 3) := by decide +kernel
theorem dX8_length_23 : decode (zcc mX8_length) 23 = .ok (.ifCond .ne 8, 3) := by decide +kernel
theorem dX8_length_26 : decode (zcc mX8_length) 26 = .ok (.bipush (-4), 2) := by decide +kernel
theorem dX8_length_28 : decode (zcc mX8_length) 28 = .ok (.goto 9, 3) := by decide +kernel
theorem dX8_length_31 : decode (zcc mX8_length) 31 = .ok (.aload_n 0, 1) := by decide +kernel
theorem dX8_length_32 : decode (zcc mX8_length) 32 = .ok (.getfield 57, 3) := by decide +kernel
theorem dX8_length_35 : decode (zcc mX8_length) 35 = .ok (.iload_n 1, 1) := by decide +kernel
theorem dX8_length_36 : decode (zcc mX8_length) 36 = .ok (.iaload, 1) := by decide +kernel
theorem dX8_length_37 : decode (zcc mX8_length) 37 = .ok (.ireturn, 1) := by decide +kernel
theorem dX8_letter_0 : decode (zcc mX8_letter) 0 = .ok (.iload_n 1, 1) := by decide +kernel
theorem dX8_letter_1 : decode (zcc mX8_letter) 1 = .ok (.iconst 0, 1) := by decide +kernel
theorem dX8_letter_2 : decode (zcc mX8_letter) 2 = .ok (.aload_n 0, 1) := by decide +kernel
theorem dX8_letter_3 : decode (zcc mX8_letter) 3 = .ok (.getfield 101, 3) := by decide +kernel
theorem dX8_letter_6 : decode (zcc mX8_letter) 6 = .ok (.iconst 1, 1) := by decide +kernel
theorem dX8_letter_7 : decode (zcc mX8_letter) 7 = .ok (.isub, 1) := by decide +kernel
theorem dX8_letter_8 : decode (zcc mX8_letter) 8 = .ok (.invokestatic 94, 3) := by decide +kernel
theorem dX8_letter_11 : decode (zcc mX8_letter) 11 = .ok (.ifCond .ne 8, 3) := by decide +kernel
theorem dX8_letter_14 : decode (zcc mX8_letter) 14 = .ok (.bipush (-2), 2) := by decide +kernel
theorem dX8_letter_16 : decode (zcc mX8_letter) 16 = .ok (.goto 45, 3) := by decide +kernel
theorem dX8_letter_19 : decode (zcc mX8_letter) 19 = .ok (.aload_n 0, 1) := by decide +kernel
theorem dX8_letter_20 : decode (zcc mX8_letter) 20 = .ok (.getfield 87, 3) := by decide +kernel
theorem dX8_letter_23 : decode (zcc mX8_letter) 23 = .ok (.ifCond .ne 8, 3) := by decide +kernel
theorem dX8_letter_26 : decode (zcc mX8_letter) 26 = .ok (.bipush (-4), 2) := by decide +kernel
theorem dX8_letter_28 : decode (zcc mX8_letter) 28 = .ok (.goto 33, 3) := by decide +kernel
end
section
theorem dX8_letter_31 : decode (zcc mX8_letter) 31 = .ok (.iload_n 2, 1) := by decide +kernel
theorem dX8_letter_32 : decode (zcc mX8_letter) 32 = .ok (.iconst 0, 1) := by decide +kernel
theorem dX8_letter_33 : decode (zcc mX8_letter) 33 = .ok (.aload_n 0, 1) := by decide +kernel
theorem dX8_letter_34 : decode (zcc mX8_letter) 34 = .ok (.getfield 57, 3) := by decide +kernel
theorem dX8_letter_37 : decode (zcc mX8_letter) 37 = .ok (.iload_n 1, 1) := by decide +kernel
theorem dX8_letter_38 : decode (zcc mX8_letter) 38 = .ok (.iaload, 1) := by decide +kernel
theorem dX8_letter_39 : decode (zcc mX8_letter) 39 = .ok (.iconst 1, 1) := by decide +kernel
theorem dX8_letter_40 : decode (zcc mX8_letter) 40 = .ok (.isub, 1) := by decide +kernel
theorem dX8_letter_41 : decode (zcc mX8_letter) 41 = .ok (.invokestatic 94, 3) := by decide +kernel
theorem dX8_letter_44 : decode (zcc mX8_letter) 44 = .ok (.ifCond .eq 16, 3) := by decide +kernel
theorem dX8_letter_47 : decode (zcc mX8_letter) 47 = .ok (.aload_n 0, 1) := by decide +kernel
theorem dX8_letter_48 : decode (zcc mX8_letter) 48 = .ok (.getfield 60, 3) := by decide +kernel
theorem dX8_letter_51 : decode (zcc mX8_letter) 51 = .ok (.iconst 5, 1) := by decide +kernel
theorem dX8_letter_52 : decode (zcc mX8_letter) 52 = .ok (.iload_n 1, 1) := by decide +kernel
theorem dX8_letter_53 : decode (zcc mX8_letter) 53 = .ok (.imul, 1) := by decide +kernel
theorem dX8_letter_54 : decode (zcc mX8_letter) 54 = .ok (.iload_n 2, 1) := by decide +kernel
theorem dX8_letter_55 : decode (zcc mX8_letter) 55 = .ok (.iadd, 1) := by decide +kernel
theorem dX8_letter_56 : decode (zcc mX8_letter) 56 = .ok (.iaload, 1) := by decide +kernel
theorem dX8_letter_57 : decode (zcc mX8_letter) 57 = .ok (.goto 4, 3) := by decide +kernel
theorem dX8_letter_60 : decode (zcc mX8_letter) 60 = .ok (.iconst (-1), 1) := by decide +kernel
theorem dX8_letter_61 : decode (zcc mX8_letter) 61 = .ok (.ireturn, 1) := by decide +kernel
theorem dX8_holds_0 : decode (zcc mX8_holds) 0 = .ok (.iload_n 1, 1) := by decide +kernel
theorem dX8_holds_1 : decode (zcc mX8_holds) 1 = .ok (.iconst 0, 1) := by decide +kernel
theorem dX8_holds_2 : decode (zcc mX8_holds) 2 = .ok (.aload_n 0, 1) := by decide +kernel
theorem dX8_holds_3 : decode (zcc mX8_holds) 3 = .ok (.getfield 98, 3) := by decide +kernel
theorem dX8_holds_6 : decode (zcc mX8_holds) 6 = .ok (.iconst 1, 1) := by decide +kernel
theorem dX8_holds_7 : decode (zcc mX8_holds) 7 = .ok (.isub, 1) := by decide +kernel
theorem dX8_holds_8 : decode (zcc mX8_holds) 8 = .ok (.invokestatic 94, 3) := by decide +kernel
theorem dX8_holds_11 : decode (zcc mX8_holds) 11 = .ok (.ifCond .ne 6, 3) := by decide +kernel
theorem dX8_holds_14 : decode (zcc mX8_holds) 14 = .ok (.bipush (-2), 2) := by decide +kernel
theorem dX8_holds_16 : decode (zcc mX8_holds) 16 = .ok (.ireturn, 1) := by decide +kernel
theorem dX8_holds_17 : decode (zcc mX8_holds) 17 = .ok (.aload_n 0, 1) := by decide +kernel
theorem dX8_holds_18 : decode (zcc mX8_holds) 18 = .ok (.getfield 87, 3) := by decide +kernel
theorem dX8_holds_21 : decode (zcc mX8_holds) 21 = .ok (.ifCond .ne 6, 3) := by decide +kernel
theorem dX8_holds_24 : decode (zcc mX8_holds) 24 = .ok (.bipush (-4), 2) := by decide +kernel
theorem dX8_holds_26 : decode (zcc mX8_holds) 26 = .ok (.ireturn, 1) := by decide +kernel
theorem dX8_holds_27 : decode (zcc mX8_holds) 27 = .ok (.iconst 0, 1) := by decide +kernel
theorem dX8_holds_28 : decode (zcc mX8_holds) 28 = .ok (.istore_n 2, 1) := by decide +kernel
theorem dX8_holds_29 : decode (zcc mX8_holds) 29 = .ok (.iload_n 2, 1) := by decide +kernel
theorem dX8_holds_30 : decode (zcc mX8_holds) 30 = .ok (.iconst 4, 1) := by decide +kernel
theorem dX8_holds_31 : decode (zcc mX8_holds) 31 = .ok (.if_icmp .ge 21, 3) := by decide +kernel
theorem dX8_holds_34 : decode (zcc mX8_holds) 34 = .ok (.aload_n 0, 1) := by decide +kernel
theorem dX8_holds_35 : decode (zcc mX8_holds) 35 = .ok (.getfield 66, 3) := by decide +kernel
theorem dX8_holds_38 : decode (zcc mX8_holds) 38 = .ok (.iload_n 2, 1) := by decide +kernel
theorem dX8_holds_39 : decode (zcc mX8_holds) 39 = .ok (.aload_n 0, 1) := by decide +kernel
theorem dX8_holds_40 : decode (zcc mX8_holds) 40 = .ok (.getfield 57, 3) := by decide +kernel
theorem dX8_holds_43 : decode (zcc mX8_holds) 43 = .ok (.iload_n 2, 1) := by decide +kernel
theorem dX8_holds_44 : decode (zcc mX8_holds) 44 = .ok (.iaload, 1) := by decide +kernel
theorem dX8_holds_45 : decode (zcc mX8_holds) 45 = .ok (.iastore, 1) := by decide +kernel
theorem dX8_holds_46 : decode (zcc mX8_holds) 46 = .ok (.iinc 2 1, 3) := by decide +kernel
theorem dX8_holds_49 : decode (zcc mX8_holds) 49 = .ok (.goto (-20), 3) := by decide +kernel
theorem dX8_holds_52 : decode (zcc mX8_holds) 52 = .ok (.iconst 0, 1) := by decide +kernel
theorem dX8_holds_53 : decode (zcc mX8_holds) 53 = .ok (.istore_n 2, 1) := by decide +kernel
theorem dX8_holds_54 : decode (zcc mX8_holds) 54 = .ok (.iload_n 2, 1) := by decide +kernel
theorem dX8_holds_55 : decode (zcc mX8_holds) 55 = .ok (.bipush 20, 2) := by decide +kernel
theorem dX8_holds_57 : decode (zcc mX8_holds) 57 = .ok (.if_icmp .ge 21, 3) := by decide +kernel
theorem dX8_holds_60 : decode (zcc mX8_holds) 60 = .ok (.aload_n 0, 1) := by decide +kernel
theorem dX8_holds_61 : decode (zcc mX8_holds) 61 = .ok (.getfield 69, 3) := by decide +kernel
theorem dX8_holds_64 : decode (zcc mX8_holds) 64 = .ok (.iload_n 2, 1) := by decide +kernel
theorem dX8_holds_65 : decode (zcc mX8_holds) 65 = .ok (.aload_n 0, 1) := by decide +kernel
theorem dX8_holds_66 : decode (zcc mX8_holds) 66 = .ok (.getfield 60, 3) := by decide +kernel
theorem dX8_holds_69 : decode (zcc mX8_holds) 69 = .ok (.iload_n 2, 1) := by decide +kernel
theorem dX8_holds_70 : decode (zcc mX8_holds) 70 = .ok (.iaload, 1) := by decide +kernel
theorem dX8_holds_71 : decode (zcc mX8_holds) 71 = .ok (.iastore, 1) := by decide +kernel
theorem dX8_holds_72 : decode (zcc mX8_holds) 72 = .ok (.iinc 2 1, 3) := by decide +kernel
theorem dX8_holds_75 : decode (zcc mX8_holds) 75 = .ok (.goto (-21), 3) := by decide +kernel
theorem dX8_holds_78 : decode (zcc mX8_holds) 78 = .ok (.aload_n 0, 1) := by decide +kernel
theorem dX8_holds_79 : decode (zcc mX8_holds) 79 = .ok (.iload_n 1, 1) := by decide +kernel
theorem dX8_holds_80 : decode (zcc mX8_holds) 80 = .ok (.invokevirtual 155, 3) := by decide +kernel
theorem dX8_holds_83 : decode (zcc mX8_holds) 83 = .ok (.ifCond .eq 7, 3) := by decide +kernel
theorem dX8_holds_86 : decode (zcc mX8_holds) 86 = .ok (.iconst 1, 1) := by decide +kernel
theorem dX8_holds_87 : decode (zcc mX8_holds) 87 = .ok (.goto 4, 3) := by decide +kernel
theorem dX8_holds_90 : decode (zcc mX8_holds) 90 = .ok (.iconst 0, 1) := by decide +kernel
theorem dX8_holds_91 : decode (zcc mX8_holds) 91 = .ok (.ireturn, 1) := by decide +kernel
theorem dX8_core_0 : decode (zcc mX8_core) 0 = .ok (.aload_n 0, 1) := by decide +kernel
theorem dX8_core_1 : decode (zcc mX8_core) 1 = .ok (.invokevirtual 167, 3) := by decide +kernel
theorem dX8_core_4 : decode (zcc mX8_core) 4 = .ok (.aload_n 0, 1) := by decide +kernel
theorem dX8_core_5 : decode (zcc mX8_core) 5 = .ok (.iconst 0, 1) := by decide +kernel
theorem dX8_core_6 : decode (zcc mX8_core) 6 = .ok (.invokevirtual 170, 3) := by decide +kernel
theorem dX8_core_9 : decode (zcc mX8_core) 9 = .ok (.ifCond .le 6, 3) := by decide +kernel
theorem dX8_core_12 : decode (zcc mX8_core) 12 = .ok (.bipush (-4), 2) := by decide +kernel
theorem dX8_core_14 : decode (zcc mX8_core) 14 = .ok (.ireturn, 1) := by decide +kernel
theorem dX8_core_15 : decode (zcc mX8_core) 15 = .ok (.iconst 0, 1) := by decide +kernel
theorem dX8_core_16 : decode (zcc mX8_core) 16 = .ok (.istore_n 1, 1) := by decide +kernel
theorem dX8_core_17 : decode (zcc mX8_core) 17 = .ok (.aload_n 0, 1) := by decide +kernel
theorem dX8_core_18 : decode (zcc mX8_core) 18 = .ok (.getfield 98, 3) := by decide +kernel
theorem dX8_core_21 : decode (zcc mX8_core) 21 = .ok (.iconst 1, 1) := by decide +kernel
theorem dX8_core_22 : decode (zcc mX8_core) 22 = .ok (.isub, 1) := by decide +kernel
theorem dX8_core_23 : decode (zcc mX8_core) 23 = .ok (.istore_n 2, 1) := by decide +kernel
theorem dX8_core_24 : decode (zcc mX8_core) 24 = .ok (.iload_n 2, 1) := by decide +kernel
theorem dX8_core_25 : decode (zcc mX8_core) 25 = .ok (.ifCond .lt 43, 3) := by decide +kernel
theorem dX8_core_28 : decode (zcc mX8_core) 28 = .ok (.aload_n 0, 1) := by decide +kernel
theorem dX8_core_29 : decode (zcc mX8_core) 29 = .ok (.getfield 54, 3) := by decide +kernel
theorem dX8_core_32 : decode (zcc mX8_core) 32 = .ok (.iload_n 2, 1) := by decide +kernel
theorem dX8_core_33 : decode (zcc mX8_core) 33 = .ok (.baload, 1) := by decide +kernel
theorem dX8_core_34 : decode (zcc mX8_core) 34 = .ok (.ifCond .ne 28, 3) := by decide +kernel
theorem dX8_core_37 : decode (zcc mX8_core) 37 = .ok (.aload_n 0, 1) := by decide +kernel
theorem dX8_core_38 : decode (zcc mX8_core) 38 = .ok (.getfield 81, 3) := by decide +kernel
theorem dX8_core_41 : decode (zcc mX8_core) 41 = .ok (.iload_n 2, 1) := by decide +kernel
theorem dX8_core_42 : decode (zcc mX8_core) 42 = .ok (.iconst 1, 1) := by decide +kernel
theorem dX8_core_43 : decode (zcc mX8_core) 43 = .ok (.bastore, 1) := by decide +kernel
theorem dX8_core_44 : decode (zcc mX8_core) 44 = .ok (.aload_n 0, 1) := by decide +kernel
theorem dX8_core_45 : decode (zcc mX8_core) 45 = .ok (.iconst 0, 1) := by decide +kernel
theorem dX8_core_46 : decode (zcc mX8_core) 46 = .ok (.invokevirtual 170, 3) := by decide +kernel
theorem dX8_core_49 : decode (zcc mX8_core) 49 = .ok (.ifCond .le 13, 3) := by decide +kernel
theorem dX8_core_52 : decode (zcc mX8_core) 52 = .ok (.aload_n 0, 1) := by decide +kernel
theorem dX8_core_53 : decode (zcc mX8_core) 53 = .ok (.getfield 81, 3) := by decide +kernel
theorem dX8_core_56 : decode (zcc mX8_core) 56 = .ok (.iload_n 2, 1) := by decide +kernel
theorem dX8_core_57 : decode (zcc mX8_core) 57 = .ok (.iconst 0, 1) := by decide +kernel
theorem dX8_core_58 : decode (zcc mX8_core) 58 = .ok (.bastore, 1) := by decide +kernel
theorem dX8_core_59 : decode (zcc mX8_core) 59 = .ok (.iinc 1 1, 3) := by decide +kernel
theorem dX8_core_62 : decode (zcc mX8_core) 62 = .ok (.iinc 2 (-1), 3) := by decide +kernel
theorem dX8_core_65 : decode (zcc mX8_core) 65 = .ok (.goto (-41), 3) := by decide +kernel
theorem dX8_core_68 : decode (zcc mX8_core) 68 = .ok (.iconst 0, 1) := by decide +kernel
theorem dX8_core_69 : decode (zcc mX8_core) 69 = .ok (.istore_n 2, 1) := by decide +kernel
theorem dX8_core_70 : decode (zcc mX8_core) 70 = .ok (.iload_n 2, 1) := by decide +kernel
theorem dX8_core_71 : decode (zcc mX8_core) 71 = .ok (.aload_n 0, 1) := by decide +kernel
theorem dX8_core_72 : decode (zcc mX8_core) 72 = .ok (.getfield 98, 3) := by decide +kernel
theorem dX8_core_75 : decode (zcc mX8_core) 75 = .ok (.if_icmp .ge 38, 3) := by decide +kernel
theorem dX8_core_78 : decode (zcc mX8_core) 78 = .ok (.aload_n 0, 1) := by decide +kernel
theorem dX8_core_79 : decode (zcc mX8_core) 79 = .ok (.getfield 63, 3) := by decide +kernel
theorem dX8_core_82 : decode (zcc mX8_core) 82 = .ok (.iload_n 2, 1) := by decide +kernel
theorem dX8_core_83 : decode (zcc mX8_core) 83 = .ok (.aload_n 0, 1) := by decide +kernel
theorem dX8_core_84 : decode (zcc mX8_core) 84 = .ok (.getfield 54, 3) := by decide +kernel
theorem dX8_core_87 : decode (zcc mX8_core) 87 = .ok (.iload_n 2, 1) := by decide +kernel
theorem dX8_core_88 : decode (zcc mX8_core) 88 = .ok (.baload, 1) := by decide +kernel
theorem dX8_core_89 : decode (zcc mX8_core) 89 = .ok (.ifCond .ne 16, 3) := by decide +kernel
theorem dX8_core_92 : decode (zcc mX8_core) 92 = .ok (.aload_n 0, 1) := by decide +kernel
theorem dX8_core_93 : decode (zcc mX8_core) 93 = .ok (.getfield 81, 3) := by decide +kernel
theorem dX8_core_96 : decode (zcc mX8_core) 96 = .ok (.iload_n 2, 1) := by decide +kernel
theorem dX8_core_97 : decode (zcc mX8_core) 97 = .ok (.baload, 1) := by decide +kernel
theorem dX8_core_98 : decode (zcc mX8_core) 98 = .ok (.ifCond .ne 7, 3) := by decide +kernel
theorem dX8_core_101 : decode (zcc mX8_core) 101 = .ok (.iconst 1, 1) := by decide +kernel
theorem dX8_core_102 : decode (zcc mX8_core) 102 = .ok (.goto 4, 3) := by decide +kernel
theorem dX8_core_105 : decode (zcc mX8_core) 105 = .ok (.iconst 0, 1) := by decide +kernel
theorem dX8_core_106 : decode (zcc mX8_core) 106 = .ok (.bastore, 1) := by decide +kernel
theorem dX8_core_107 : decode (zcc mX8_core) 107 = .ok (.iinc 2 1, 3) := by decide +kernel
theorem dX8_core_110 : decode (zcc mX8_core) 110 = .ok (.goto (-40), 3) := by decide +kernel
theorem dX8_core_113 : decode (zcc mX8_core) 113 = .ok (.aload_n 0, 1) := by decide +kernel
theorem dX8_core_114 : decode (zcc mX8_core) 114 = .ok (.invokevirtual 167, 3) := by decide +kernel
theorem dX8_core_117 : decode (zcc mX8_core) 117 = .ok (.aload_n 0, 1) := by decide +kernel
theorem dX8_core_118 : decode (zcc mX8_core) 118 = .ok (.iconst 1, 1) := by decide +kernel
theorem dX8_core_119 : decode (zcc mX8_core) 119 = .ok (.putfield 91, 3) := by decide +kernel
theorem dX8_core_122 : decode (zcc mX8_core) 122 = .ok (.iload_n 1, 1) := by decide +kernel
theorem dX8_core_123 : decode (zcc mX8_core) 123 = .ok (.ireturn, 1) := by decide +kernel
theorem dX8_inCore_0 : decode (zcc mX8_inCore) 0 = .ok (.iload_n 1, 1) := by decide +kernel
theorem dX8_inCore_1 : decode (zcc mX8_inCore) 1 = .ok (.iconst 0, 1) := by decide +kernel
theorem dX8_inCore_2 : decode (zcc mX8_inCore) 2 = .ok (.aload_n 0, 1) := by decide +kernel
theorem dX8_inCore_3 : decode (zcc mX8_inCore) 3 = .ok (.getfield 98, 3) := by decide +kernel
theorem dX8_inCore_6 : decode (zcc mX8_inCore) 6 = .ok (.iconst 1, 1) := by decide +kernel
theorem dX8_inCore_7 : decode (zcc mX8_inCore) 7 = .ok (.isub, 1) := by decide +kernel
theorem dX8_inCore_8 : decode (zcc mX8_inCore) 8 = .ok (.invokestatic 94, 3) := by decide +kernel
theorem dX8_inCore_11 : decode (zcc mX8_inCore) 11 = .ok (.ifCond .ne 8, 3) := by decide +kernel
theorem dX8_inCore_14 : decode (zcc mX8_inCore) 14 = .ok (.bipush (-2), 2) := by decide +kernel
theorem dX8_inCore_16 : decode (zcc mX8_inCore) 16 = .ok (.goto 29, 3) := by decide +kernel
theorem dX8_inCore_19 : decode (zcc mX8_inCore) 19 = .ok (.aload_n 0, 1) := by decide +kernel
theorem dX8_inCore_20 : decode (zcc mX8_inCore) 20 = .ok (.getfield 91, 3) := by decide +kernel
theorem dX8_inCore_23 : decode (zcc mX8_inCore) 23 = .ok (.ifCond .ne 8, 3) := by decide +kernel
theorem dX8_inCore_26 : decode (zcc mX8_inCore) 26 = .ok (.bipush (-4), 2) := by decide +kernel
theorem dX8_inCore_28 : decode (zcc mX8_inCore) 28 = .ok (.goto 17, 3) := by decide +kernel
theorem dX8_inCore_31 : decode (zcc mX8_inCore) 31 = .ok (.aload_n 0, 1) := by decide +kernel
theorem dX8_inCore_32 : decode (zcc mX8_inCore) 32 = .ok (.getfield 63, 3) := by decide +kernel
theorem dX8_inCore_35 : decode (zcc mX8_inCore) 35 = .ok (.iload_n 1, 1) := by decide +kernel
theorem dX8_inCore_36 : decode (zcc mX8_inCore) 36 = .ok (.baload, 1) := by decide +kernel
theorem dX8_inCore_37 : decode (zcc mX8_inCore) 37 = .ok (.ifCond .eq 7, 3) := by decide +kernel
theorem dX8_inCore_40 : decode (zcc mX8_inCore) 40 = .ok (.iconst 1, 1) := by decide +kernel
theorem dX8_inCore_41 : decode (zcc mX8_inCore) 41 = .ok (.goto 4, 3) := by decide +kernel
theorem dX8_inCore_44 : decode (zcc mX8_inCore) 44 = .ok (.iconst 0, 1) := by decide +kernel
theorem dX8_inCore_45 : decode (zcc mX8_inCore) 45 = .ok (.ireturn, 1) := by decide +kernel
theorem dX8_lengthOf_0 : decode (zcc mX8_lengthOf) 0 = .ok (.iconst 0, 1) := by decide +kernel
theorem dX8_lengthOf_1 : decode (zcc mX8_lengthOf) 1 = .ok (.istore_n 2, 1) := by decide +kernel
theorem dX8_lengthOf_2 : decode (zcc mX8_lengthOf) 2 = .ok (.iconst 0, 1) := by decide +kernel
theorem dX8_lengthOf_3 : decode (zcc mX8_lengthOf) 3 = .ok (.istore_n 3, 1) := by decide +kernel
theorem dX8_lengthOf_4 : decode (zcc mX8_lengthOf) 4 = .ok (.iload_n 3, 1) := by decide +kernel
theorem dX8_lengthOf_5 : decode (zcc mX8_lengthOf) 5 = .ok (.aload_n 0, 1) := by decide +kernel
theorem dX8_lengthOf_6 : decode (zcc mX8_lengthOf) 6 = .ok (.getfield 20, 3) := by decide +kernel
theorem dX8_lengthOf_9 : decode (zcc mX8_lengthOf) 9 = .ok (.iload_n 1, 1) := by decide +kernel
theorem dX8_lengthOf_10 : decode (zcc mX8_lengthOf) 10 = .ok (.iaload, 1) := by decide +kernel
theorem dX8_lengthOf_11 : decode (zcc mX8_lengthOf) 11 = .ok (.if_icmp .ge 46, 3) := by decide +kernel
theorem dX8_lengthOf_14 : decode (zcc mX8_lengthOf) 14 = .ok (.aload_n 0, 1) := by decide +kernel
theorem dX8_lengthOf_15 : decode (zcc mX8_lengthOf) 15 = .ok (.getfield 23, 3) := by decide +kernel
theorem dX8_lengthOf_18 : decode (zcc mX8_lengthOf) 18 = .ok (.bipush 6, 2) := by decide +kernel
theorem dX8_lengthOf_20 : decode (zcc mX8_lengthOf) 20 = .ok (.iload_n 1, 1) := by decide +kernel
theorem dX8_lengthOf_21 : decode (zcc mX8_lengthOf) 21 = .ok (.imul, 1) := by decide +kernel
theorem dX8_lengthOf_22 : decode (zcc mX8_lengthOf) 22 = .ok (.iload_n 3, 1) := by decide +kernel
theorem dX8_lengthOf_23 : decode (zcc mX8_lengthOf) 23 = .ok (.iadd, 1) := by decide +kernel
theorem dX8_lengthOf_24 : decode (zcc mX8_lengthOf) 24 = .ok (.iaload, 1) := by decide +kernel
theorem dX8_lengthOf_25 : decode (zcc mX8_lengthOf) 25 = .ok (.istore 4, 2) := by decide +kernel
theorem dX8_lengthOf_27 : decode (zcc mX8_lengthOf) 27 = .ok (.iload_n 2, 1) := by decide +kernel
theorem dX8_lengthOf_28 : decode (zcc mX8_lengthOf) 28 = .ok (.iload 4, 2) := by decide +kernel
theorem dX8_lengthOf_30 : decode (zcc mX8_lengthOf) 30 = .ok (.bipush 8, 2) := by decide +kernel
theorem dX8_lengthOf_32 : decode (zcc mX8_lengthOf) 32 = .ok (.if_icmp .ge 7, 3) := by decide +kernel
theorem dX8_lengthOf_35 : decode (zcc mX8_lengthOf) 35 = .ok (.iconst 1, 1) := by decide +kernel
theorem dX8_lengthOf_36 : decode (zcc mX8_lengthOf) 36 = .ok (.goto 13, 3) := by decide +kernel
theorem dX8_lengthOf_39 : decode (zcc mX8_lengthOf) 39 = .ok (.aload_n 0, 1) := by decide +kernel
theorem dX8_lengthOf_40 : decode (zcc mX8_lengthOf) 40 = .ok (.getfield 66, 3) := by decide +kernel
theorem dX8_lengthOf_43 : decode (zcc mX8_lengthOf) 43 = .ok (.iload 4, 2) := by decide +kernel
theorem dX8_lengthOf_45 : decode (zcc mX8_lengthOf) 45 = .ok (.bipush 8, 2) := by decide +kernel
theorem dX8_lengthOf_47 : decode (zcc mX8_lengthOf) 47 = .ok (.isub, 1) := by decide +kernel
theorem dX8_lengthOf_48 : decode (zcc mX8_lengthOf) 48 = .ok (.iaload, 1) := by decide +kernel
theorem dX8_lengthOf_49 : decode (zcc mX8_lengthOf) 49 = .ok (.iadd, 1) := by decide +kernel
theorem dX8_lengthOf_50 : decode (zcc mX8_lengthOf) 50 = .ok (.istore_n 2, 1) := by decide +kernel
theorem dX8_lengthOf_51 : decode (zcc mX8_lengthOf) 51 = .ok (.iinc 3 1, 3) := by decide +kernel
theorem dX8_lengthOf_54 : decode (zcc mX8_lengthOf) 54 = .ok (.goto (-50), 3) := by decide +kernel
theorem dX8_lengthOf_57 : decode (zcc mX8_lengthOf) 57 = .ok (.iload_n 2, 1) := by decide +kernel
theorem dX8_lengthOf_58 : decode (zcc mX8_lengthOf) 58 = .ok (.ireturn, 1) := by decide +kernel
theorem dX8_spans_0 : decode (zcc mX8_spans) 0 = .ok (.iconst 0, 1) := by decide +kernel
theorem dX8_spans_1 : decode (zcc mX8_spans) 1 = .ok (.istore_n 1, 1) := by decide +kernel
theorem dX8_spans_2 : decode (zcc mX8_spans) 2 = .ok (.aload_n 0, 1) := by decide +kernel
theorem dX8_spans_3 : decode (zcc mX8_spans) 3 = .ok (.invokevirtual 158, 3) := by decide +kernel
theorem dX8_spans_6 : decode (zcc mX8_spans) 6 = .ok (.iconst 1, 1) := by decide +kernel
theorem dX8_spans_7 : decode (zcc mX8_spans) 7 = .ok (.istore_n 2, 1) := by decide +kernel
theorem dX8_spans_8 : decode (zcc mX8_spans) 8 = .ok (.iload_n 2, 1) := by decide +kernel
theorem dX8_spans_9 : decode (zcc mX8_spans) 9 = .ok (.ifCond .eq 205, 3) := by decide +kernel
theorem dX8_spans_12 : decode (zcc mX8_spans) 12 = .ok (.iconst 1, 1) := by decide +kernel
theorem dX8_spans_13 : decode (zcc mX8_spans) 13 = .ok (.istore_n 3, 1) := by decide +kernel
theorem dX8_spans_14 : decode (zcc mX8_spans) 14 = .ok (.iconst 0, 1) := by decide +kernel
theorem dX8_spans_15 : decode (zcc mX8_spans) 15 = .ok (.istore 4, 2) := by decide +kernel
theorem dX8_spans_17 : decode (zcc mX8_spans) 17 = .ok (.iload 4, 2) := by decide +kernel
theorem dX8_spans_19 : decode (zcc mX8_spans) 19 = .ok (.aload_n 0, 1) := by decide +kernel
theorem dX8_spans_20 : decode (zcc mX8_spans) 20 = .ok (.getfield 98, 3) := by decide +kernel
theorem dX8_spans_23 : decode (zcc mX8_spans) 23 = .ok (.if_icmp .ge 171, 3) := by decide +kernel
theorem dX8_spans_26 : decode (zcc mX8_spans) 26 = .ok (.iload_n 3, 1) := by decide +kernel
theorem dX8_spans_27 : decode (zcc mX8_spans) 27 = .ok (.ifCond .eq 167, 3) := by decide +kernel
theorem dX8_spans_30 : decode (zcc mX8_spans) 30 = .ok (.aload_n 0, 1) := by decide +kernel
theorem dX8_spans_31 : decode (zcc mX8_spans) 31 = .ok (.getfield 54, 3) := by decide +kernel
theorem dX8_spans_34 : decode (zcc mX8_spans) 34 = .ok (.iload 4, 2) := by decide +kernel
theorem dX8_spans_36 : decode (zcc mX8_spans) 36 = .ok (.baload, 1) := by decide +kernel
theorem dX8_spans_37 : decode (zcc mX8_spans) 37 = .ok (.ifCond .ne 90, 3) := by decide +kernel
theorem dX8_spans_40 : decode (zcc mX8_spans) 40 = .ok (.aload_n 0, 1) := by decide +kernel
theorem dX8_spans_41 : decode (zcc mX8_spans) 41 = .ok (.getfield 36, 3) := by decide +kernel
theorem dX8_spans_44 : decode (zcc mX8_spans) 44 = .ok (.iload 4, 2) := by decide +kernel
theorem dX8_spans_46 : decode (zcc mX8_spans) 46 = .ok (.iaload, 1) := by decide +kernel
theorem dX8_spans_47 : decode (zcc mX8_spans) 47 = .ok (.iconst 1, 1) := by decide +kernel
theorem dX8_spans_48 : decode (zcc mX8_spans) 48 = .ok (.if_icmp .ne 79, 3) := by decide +kernel
theorem dX8_spans_51 : decode (zcc mX8_spans) 51 = .ok (.aload_n 0, 1) := by decide +kernel
theorem dX8_spans_52 : decode (zcc mX8_spans) 52 = .ok (.aload_n 0, 1) := by decide +kernel
theorem dX8_spans_53 : decode (zcc mX8_spans) 53 = .ok (.getfield 39, 3) := by decide +kernel
theorem dX8_spans_56 : decode (zcc mX8_spans) 56 = .ok (.iload 4, 2) := by decide +kernel
theorem dX8_spans_58 : decode (zcc mX8_spans) 58 = .ok (.iaload, 1) := by decide +kernel
theorem dX8_spans_59 : decode (zcc mX8_spans) 59 = .ok (.invokevirtual 177, 3) := by decide +kernel
theorem dX8_spans_62 : decode (zcc mX8_spans) 62 = .ok (.aload_n 0, 1) := by decide +kernel
theorem dX8_spans_63 : decode (zcc mX8_spans) 63 = .ok (.getfield 42, 3) := by decide +kernel
theorem dX8_spans_66 : decode (zcc mX8_spans) 66 = .ok (.iload 4, 2) := by decide +kernel
theorem dX8_spans_68 : decode (zcc mX8_spans) 68 = .ok (.iaload, 1) := by decide +kernel
theorem dX8_spans_69 : decode (zcc mX8_spans) 69 = .ok (.iconst (-1), 1) := by decide +kernel
theorem dX8_spans_70 : decode (zcc mX8_spans) 70 = .ok (.if_icmp .ne 7, 3) := by decide +kernel
theorem dX8_spans_73 : decode (zcc mX8_spans) 73 = .ok (.iconst 0, 1) := by decide +kernel
theorem dX8_spans_74 : decode (zcc mX8_spans) 74 = .ok (.goto 14, 3) := by decide +kernel
theorem dX8_spans_77 : decode (zcc mX8_spans) 77 = .ok (.aload_n 0, 1) := by decide +kernel
theorem dX8_spans_78 : decode (zcc mX8_spans) 78 = .ok (.aload_n 0, 1) := by decide +kernel
theorem dX8_spans_79 : decode (zcc mX8_spans) 79 = .ok (.getfield 42, 3) := by decide +kernel
theorem dX8_spans_82 : decode (zcc mX8_spans) 82 = .ok (.iload 4, 2) := by decide +kernel
theorem dX8_spans_84 : decode (zcc mX8_spans) 84 = .ok (.iaload, 1) := by decide +kernel
theorem dX8_spans_85 : decode (zcc mX8_spans) 85 = .ok (.invokevirtual 177, 3) := by decide +kernel
theorem dX8_spans_88 : decode (zcc mX8_spans) 88 = .ok (.aload_n 0, 1) := by decide +kernel
theorem dX8_spans_89 : decode (zcc mX8_spans) 89 = .ok (.getfield 45, 3) := by decide +kernel
theorem dX8_spans_92 : decode (zcc mX8_spans) 92 = .ok (.iload 4, 2) := by decide +kernel
theorem dX8_spans_94 : decode (zcc mX8_spans) 94 = .ok (.iaload, 1) := by decide +kernel
theorem dX8_spans_95 : decode (zcc mX8_spans) 95 = .ok (.iadd, 1) := by decide +kernel
theorem dX8_spans_96 : decode (zcc mX8_spans) 96 = .ok (.if_icmp .lt 7, 3) := by decide +kernel
theorem dX8_spans_99 : decode (zcc mX8_spans) 99 = .ok (.iconst 1, 1) := by decide +kernel
theorem dX8_spans_100 : decode (zcc mX8_spans) 100 = .ok (.goto 4, 3) := by decide +kernel
theorem dX8_spans_103 : decode (zcc mX8_spans) 103 = .ok (.iconst 0, 1) := by decide +kernel
theorem dX8_spans_104 : decode (zcc mX8_spans) 104 = .ok (.istore 5, 2) := by decide +kernel
theorem dX8_spans_106 : decode (zcc mX8_spans) 106 = .ok (.iload 5, 2) := by decide +kernel
theorem dX8_spans_108 : decode (zcc mX8_spans) 108 = .ok (.aload_n 0, 1) := by decide +kernel
theorem dX8_spans_109 : decode (zcc mX8_spans) 109 = .ok (.getfield 51, 3) := by decide +kernel
theorem dX8_spans_112 : decode (zcc mX8_spans) 112 = .ok (.iload 4, 2) := by decide +kernel
theorem dX8_spans_114 : decode (zcc mX8_spans) 114 = .ok (.baload, 1) := by decide +kernel
theorem dX8_spans_115 : decode (zcc mX8_spans) 115 = .ok (.if_icmp .eq 7, 3) := by decide +kernel
theorem dX8_spans_118 : decode (zcc mX8_spans) 118 = .ok (.iconst 1, 1) := by decide +kernel
theorem dX8_spans_119 : decode (zcc mX8_spans) 119 = .ok (.goto 4, 3) := by decide +kernel
theorem dX8_spans_122 : decode (zcc mX8_spans) 122 = .ok (.iconst 0, 1) := by decide +kernel
theorem dX8_spans_123 : decode (zcc mX8_spans) 123 = .ok (.istore_n 3, 1) := by decide +kernel
theorem dX8_spans_124 : decode (zcc mX8_spans) 124 = .ok (.goto 64, 3) := by decide +kernel
theorem dX8_spans_127 : decode (zcc mX8_spans) 127 = .ok (.aload_n 0, 1) := by decide +kernel
theorem dX8_spans_128 : decode (zcc mX8_spans) 128 = .ok (.getfield 54, 3) := by decide +kernel
theorem dX8_spans_131 : decode (zcc mX8_spans) 131 = .ok (.iload 4, 2) := by decide +kernel
theorem dX8_spans_133 : decode (zcc mX8_spans) 133 = .ok (.baload, 1) := by decide +kernel
theorem dX8_spans_134 : decode (zcc mX8_spans) 134 = .ok (.ifCond .ne 54, 3) := by decide +kernel
theorem dX8_spans_137 : decode (zcc mX8_spans) 137 = .ok (.aload_n 0, 1) := by decide +kernel
theorem dX8_spans_138 : decode (zcc mX8_spans) 138 = .ok (.getfield 36, 3) := by decide +kernel
theorem dX8_spans_141 : decode (zcc mX8_spans) 141 = .ok (.iload 4, 2) := by decide +kernel
theorem dX8_spans_143 : decode (zcc mX8_spans) 143 = .ok (.iaload, 1) := by decide +kernel
theorem dX8_spans_144 : decode (zcc mX8_spans) 144 = .ok (.ifCond .ne 44, 3) := by decide +kernel
theorem dX8_spans_147 : decode (zcc mX8_spans) 147 = .ok (.aload_n 0, 1) := by decide +kernel
theorem dX8_spans_148 : decode (zcc mX8_spans) 148 = .ok (.getfield 51, 3) := by decide +kernel
theorem dX8_spans_151 : decode (zcc mX8_spans) 151 = .ok (.iload 4, 2) := by decide +kernel
theorem dX8_spans_153 : decode (zcc mX8_spans) 153 = .ok (.baload, 1) := by decide +kernel
theorem dX8_spans_154 : decode (zcc mX8_spans) 154 = .ok (.ifCond .ne 34, 3) := by decide +kernel
theorem dX8_spans_157 : decode (zcc mX8_spans) 157 = .ok (.aload_n 0, 1) := by decide +kernel
theorem dX8_spans_158 : decode (zcc mX8_spans) 158 = .ok (.aload_n 0, 1) := by decide +kernel
theorem dX8_spans_159 : decode (zcc mX8_spans) 159 = .ok (.getfield 39, 3) := by decide +kernel
theorem dX8_spans_162 : decode (zcc mX8_spans) 162 = .ok (.iload 4, 2) := by decide +kernel
theorem dX8_spans_164 : decode (zcc mX8_spans) 164 = .ok (.iaload, 1) := by decide +kernel
theorem dX8_spans_165 : decode (zcc mX8_spans) 165 = .ok (.invokevirtual 177, 3) := by decide +kernel
theorem dX8_spans_168 : decode (zcc mX8_spans) 168 = .ok (.aload_n 0, 1) := by decide +kernel
theorem dX8_spans_169 : decode (zcc mX8_spans) 169 = .ok (.aload_n 0, 1) := by decide +kernel
theorem dX8_spans_170 : decode (zcc mX8_spans) 170 = .ok (.getfield 42, 3) := by decide +kernel
theorem dX8_spans_173 : decode (zcc mX8_spans) 173 = .ok (.iload 4, 2) := by decide +kernel
theorem dX8_spans_175 : decode (zcc mX8_spans) 175 = .ok (.iaload, 1) := by decide +kernel
theorem dX8_spans_176 : decode (zcc mX8_spans) 176 = .ok (.invokevirtual 177, 3) := by decide +kernel
theorem dX8_spans_179 : decode (zcc mX8_spans) 179 = .ok (.if_icmp .ne 7, 3) := by decide +kernel
theorem dX8_spans_182 : decode (zcc mX8_spans) 182 = .ok (.iconst 1, 1) := by decide +kernel
theorem dX8_spans_183 : decode (zcc mX8_spans) 183 = .ok (.goto 4, 3) := by decide +kernel
theorem dX8_spans_186 : decode (zcc mX8_spans) 186 = .ok (.iconst 0, 1) := by decide +kernel
theorem dX8_spans_187 : decode (zcc mX8_spans) 187 = .ok (.istore_n 3, 1) := by decide +kernel
theorem dX8_spans_188 : decode (zcc mX8_spans) 188 = .ok (.iinc 4 1, 3) := by decide +kernel
theorem dX8_spans_191 : decode (zcc mX8_spans) 191 = .ok (.goto (-174), 3) := by decide +kernel
theorem dX8_spans_194 : decode (zcc mX8_spans) 194 = .ok (.iload_n 1, 1) := by decide +kernel
theorem dX8_spans_195 : decode (zcc mX8_spans) 195 = .ok (.iload_n 3, 1) := by decide +kernel
theorem dX8_spans_196 : decode (zcc mX8_spans) 196 = .ok (.ifCond .eq 7, 3) := by decide +kernel
theorem dX8_spans_199 : decode (zcc mX8_spans) 199 = .ok (.iconst 1, 1) := by decide +kernel
theorem dX8_spans_200 : decode (zcc mX8_spans) 200 = .ok (.goto 4, 3) := by decide +kernel
theorem dX8_spans_203 : decode (zcc mX8_spans) 203 = .ok (.iconst 0, 1) := by decide +kernel
theorem dX8_spans_204 : decode (zcc mX8_spans) 204 = .ok (.iadd, 1) := by decide +kernel
theorem dX8_spans_205 : decode (zcc mX8_spans) 205 = .ok (.istore_n 1, 1) := by decide +kernel
theorem dX8_spans_206 : decode (zcc mX8_spans) 206 = .ok (.aload_n 0, 1) := by decide +kernel
theorem dX8_spans_207 : decode (zcc mX8_spans) 207 = .ok (.invokevirtual 152, 3) := by decide +kernel
theorem dX8_spans_210 : decode (zcc mX8_spans) 210 = .ok (.istore_n 2, 1) := by decide +kernel
theorem dX8_spans_211 : decode (zcc mX8_spans) 211 = .ok (.goto (-203), 3) := by decide +kernel
theorem dX8_spans_214 : decode (zcc mX8_spans) 214 = .ok (.iload_n 1, 1) := by decide +kernel
theorem dX8_spans_215 : decode (zcc mX8_spans) 215 = .ok (.ireturn, 1) := by decide +kernel
theorem dX8_meet_0 : decode (zcc mX8_meet) 0 = .ok (.iload_n 1, 1) := by decide +kernel
theorem dX8_meet_1 : decode (zcc mX8_meet) 1 = .ok (.iconst 0, 1) := by decide +kernel
theorem dX8_meet_2 : decode (zcc mX8_meet) 2 = .ok (.aload_n 0, 1) := by decide +kernel
theorem dX8_meet_3 : decode (zcc mX8_meet) 3 = .ok (.getfield 107, 3) := by decide +kernel
theorem dX8_meet_6 : decode (zcc mX8_meet) 6 = .ok (.iconst 1, 1) := by decide +kernel
theorem dX8_meet_7 : decode (zcc mX8_meet) 7 = .ok (.isub, 1) := by decide +kernel
theorem dX8_meet_8 : decode (zcc mX8_meet) 8 = .ok (.invokestatic 94, 3) := by decide +kernel
theorem dX8_meet_11 : decode (zcc mX8_meet) 11 = .ok (.ifCond .eq 17, 3) := by decide +kernel
theorem dX8_meet_14 : decode (zcc mX8_meet) 14 = .ok (.iload_n 2, 1) := by decide +kernel
theorem dX8_meet_15 : decode (zcc mX8_meet) 15 = .ok (.iconst 0, 1) := by decide +kernel
theorem dX8_meet_16 : decode (zcc mX8_meet) 16 = .ok (.aload_n 0, 1) := by decide +kernel
theorem dX8_meet_17 : decode (zcc mX8_meet) 17 = .ok (.getfield 107, 3) := by decide +kernel
theorem dX8_meet_20 : decode (zcc mX8_meet) 20 = .ok (.iconst 1, 1) := by decide +kernel
theorem dX8_meet_21 : decode (zcc mX8_meet) 21 = .ok (.isub, 1) := by decide +kernel
theorem dX8_meet_22 : decode (zcc mX8_meet) 22 = .ok (.invokestatic 94, 3) := by decide +kernel
theorem dX8_meet_25 : decode (zcc mX8_meet) 25 = .ok (.ifCond .ne 6, 3) := by decide +kernel
theorem dX8_meet_28 : decode (zcc mX8_meet) 28 = .ok (.bipush (-2), 2) := by decide +kernel
theorem dX8_meet_30 : decode (zcc mX8_meet) 30 = .ok (.ireturn, 1) := by decide +kernel
theorem dX8_meet_31 : decode (zcc mX8_meet) 31 = .ok (.iconst 0, 1) := by decide +kernel
theorem dX8_meet_32 : decode (zcc mX8_meet) 32 = .ok (.istore_n 3, 1) := by decide +kernel
theorem dX8_meet_33 : decode (zcc mX8_meet) 33 = .ok (.iload_n 3, 1) := by decide +kernel
theorem dX8_meet_34 : decode (zcc mX8_meet) 34 = .ok (.bipush 36, 2) := by decide +kernel
theorem dX8_meet_36 : decode (zcc mX8_meet) 36 = .ok (.if_icmp .ge 16, 3) := by decide +kernel
theorem dX8_meet_39 : decode (zcc mX8_meet) 39 = .ok (.aload_n 0, 1) := by decide +kernel
theorem dX8_meet_40 : decode (zcc mX8_meet) 40 = .ok (.getfield 84, 3) := by decide +kernel
theorem dX8_meet_43 : decode (zcc mX8_meet) 43 = .ok (.iload_n 3, 1) := by decide +kernel
theorem dX8_meet_44 : decode (zcc mX8_meet) 44 = .ok (.iconst (-1), 1) := by decide +kernel
theorem dX8_meet_45 : decode (zcc mX8_meet) 45 = .ok (.iastore, 1) := by decide +kernel
theorem dX8_meet_46 : decode (zcc mX8_meet) 46 = .ok (.iinc 3 1, 3) := by decide +kernel
theorem dX8_meet_49 : decode (zcc mX8_meet) 49 = .ok (.goto (-16), 3) := by decide +kernel
theorem dX8_meet_52 : decode (zcc mX8_meet) 52 = .ok (.aload_n 0, 1) := by decide +kernel
theorem dX8_meet_53 : decode (zcc mX8_meet) 53 = .ok (.getfield 84, 3) := by decide +kernel
theorem dX8_meet_56 : decode (zcc mX8_meet) 56 = .ok (.iconst 0, 1) := by decide +kernel
theorem dX8_meet_57 : decode (zcc mX8_meet) 57 = .ok (.iconst 0, 1) := by decide +kernel
theorem dX8_meet_58 : decode (zcc mX8_meet) 58 = .ok (.iastore, 1) := by decide +kernel
theorem dX8_meet_59 : decode (zcc mX8_meet) 59 = .ok (.iconst 0, 1) := by decide +kernel
theorem dX8_meet_60 : decode (zcc mX8_meet) 60 = .ok (.istore_n 3, 1) := by decide +kernel
theorem dX8_meet_61 : decode (zcc mX8_meet) 61 = .ok (.iload_n 3, 1) := by decide +kernel
theorem dX8_meet_62 : decode (zcc mX8_meet) 62 = .ok (.bipush 36, 2) := by decide +kernel
theorem dX8_meet_64 : decode (zcc mX8_meet) 64 = .ok (.if_icmp .ge 169, 3) := by decide +kernel
theorem dX8_meet_67 : decode (zcc mX8_meet) 67 = .ok (.iconst 0, 1) := by decide +kernel
theorem dX8_meet_68 : decode (zcc mX8_meet) 68 = .ok (.istore 4, 2) := by decide +kernel
theorem dX8_meet_70 : decode (zcc mX8_meet) 70 = .ok (.iload 4, 2) := by decide +kernel
theorem dX8_meet_72 : decode (zcc mX8_meet) 72 = .ok (.bipush 36, 2) := by decide +kernel
theorem dX8_meet_74 : decode (zcc mX8_meet) 74 = .ok (.if_icmp .ge 153, 3) := by decide +kernel
theorem dX8_meet_77 : decode (zcc mX8_meet) 77 = .ok (.aload_n 0, 1) := by decide +kernel
theorem dX8_meet_78 : decode (zcc mX8_meet) 78 = .ok (.getfield 84, 3) := by decide +kernel
theorem dX8_meet_81 : decode (zcc mX8_meet) 81 = .ok (.iload 4, 2) := by decide +kernel
theorem dX8_meet_83 : decode (zcc mX8_meet) 83 = .ok (.iaload, 1) := by decide +kernel
theorem dX8_meet_84 : decode (zcc mX8_meet) 84 = .ok (.iload_n 3, 1) := by decide +kernel
theorem dX8_meet_85 : decode (zcc mX8_meet) 85 = .ok (.if_icmp .ne 136, 3) := by decide +kernel
theorem dX8_meet_88 : decode (zcc mX8_meet) 88 = .ok (.aload_n 0, 1) := by decide +kernel
theorem dX8_meet_89 : decode (zcc mX8_meet) 89 = .ok (.getfield 32, 3) := by decide +kernel
theorem dX8_meet_92 : decode (zcc mX8_meet) 92 = .ok (.bipush 6, 2) := by decide +kernel
theorem dX8_meet_94 : decode (zcc mX8_meet) 94 = .ok (.iload_n 1, 1) := by decide +kernel
theorem dX8_meet_95 : decode (zcc mX8_meet) 95 = .ok (.imul, 1) := by decide +kernel
theorem dX8_meet_96 : decode (zcc mX8_meet) 96 = .ok (.iload 4, 2) := by decide +kernel
theorem dX8_meet_98 : decode (zcc mX8_meet) 98 = .ok (.bipush 6, 2) := by decide +kernel
theorem dX8_meet_100 : decode (zcc mX8_meet) 100 = .ok (.idiv, 1) := by decide +kernel
theorem dX8_meet_101 : decode (zcc mX8_meet) 101 = .ok (.iadd, 1) := by decide +kernel
theorem dX8_meet_102 : decode (zcc mX8_meet) 102 = .ok (.baload, 1) := by decide +kernel
theorem dX8_meet_103 : decode (zcc mX8_meet) 103 = .ok (.ifCond .eq 23, 3) := by decide +kernel
theorem dX8_meet_106 : decode (zcc mX8_meet) 106 = .ok (.aload_n 0, 1) := by decide +kernel
theorem dX8_meet_107 : decode (zcc mX8_meet) 107 = .ok (.getfield 32, 3) := by decide +kernel
theorem dX8_meet_110 : decode (zcc mX8_meet) 110 = .ok (.bipush 6, 2) := by decide +kernel
theorem dX8_meet_112 : decode (zcc mX8_meet) 112 = .ok (.iload_n 2, 1) := by decide +kernel
theorem dX8_meet_113 : decode (zcc mX8_meet) 113 = .ok (.imul, 1) := by decide +kernel
theorem dX8_meet_114 : decode (zcc mX8_meet) 114 = .ok (.iload 4, 2) := by decide +kernel
theorem dX8_meet_116 : decode (zcc mX8_meet) 116 = .ok (.bipush 6, 2) := by decide +kernel
theorem dX8_meet_118 : decode (zcc mX8_meet) 118 = .ok (.irem, 1) := by decide +kernel
theorem dX8_meet_119 : decode (zcc mX8_meet) 119 = .ok (.iadd, 1) := by decide +kernel
theorem dX8_meet_120 : decode (zcc mX8_meet) 120 = .ok (.baload, 1) := by decide +kernel
theorem dX8_meet_121 : decode (zcc mX8_meet) 121 = .ok (.ifCond .eq 5, 3) := by decide +kernel
theorem dX8_meet_124 : decode (zcc mX8_meet) 124 = .ok (.iload_n 3, 1) := by decide +kernel
theorem dX8_meet_125 : decode (zcc mX8_meet) 125 = .ok (.ireturn, 1) := by decide +kernel
theorem dX8_meet_126 : decode (zcc mX8_meet) 126 = .ok (.iconst 0, 1) := by decide +kernel
theorem dX8_meet_127 : decode (zcc mX8_meet) 127 = .ok (.istore 5, 2) := by decide +kernel
theorem dX8_meet_129 : decode (zcc mX8_meet) 129 = .ok (.iload 5, 2) := by decide +kernel
theorem dX8_meet_131 : decode (zcc mX8_meet) 131 = .ok (.aload_n 0, 1) := by decide +kernel
theorem dX8_meet_132 : decode (zcc mX8_meet) 132 = .ok (.getfield 7, 3) := by decide +kernel
theorem dX8_meet_135 : decode (zcc mX8_meet) 135 = .ok (.if_icmp .ge 86, 3) := by decide +kernel
theorem dX8_meet_138 : decode (zcc mX8_meet) 138 = .ok (.bipush 6, 2) := by decide +kernel
theorem dX8_meet_140 : decode (zcc mX8_meet) 140 = .ok (.aload_n 0, 1) := by decide +kernel
theorem dX8_meet_141 : decode (zcc mX8_meet) 141 = .ok (.getfield 29, 3) := by decide +kernel
theorem dX8_meet_144 : decode (zcc mX8_meet) 144 = .ok (.bipush 18, 2) := by decide +kernel
theorem dX8_meet_146 : decode (zcc mX8_meet) 146 = .ok (.iload_n 1, 1) := by decide +kernel
theorem dX8_meet_147 : decode (zcc mX8_meet) 147 = .ok (.imul, 1) := by decide +kernel
theorem dX8_meet_148 : decode (zcc mX8_meet) 148 = .ok (.iconst 3, 1) := by decide +kernel
theorem dX8_meet_149 : decode (zcc mX8_meet) 149 = .ok (.iload 4, 2) := by decide +kernel
theorem dX8_meet_151 : decode (zcc mX8_meet) 151 = .ok (.bipush 6, 2) := by decide +kernel
theorem dX8_meet_153 : decode (zcc mX8_meet) 153 = .ok (.idiv, 1) := by decide +kernel
theorem dX8_meet_154 : decode (zcc mX8_meet) 154 = .ok (.imul, 1) := by decide +kernel
theorem dX8_meet_155 : decode (zcc mX8_meet) 155 = .ok (.iadd, 1) := by decide +kernel
theorem dX8_meet_156 : decode (zcc mX8_meet) 156 = .ok (.iload 5, 2) := by decide +kernel
theorem dX8_meet_158 : decode (zcc mX8_meet) 158 = .ok (.iadd, 1) := by decide +kernel
theorem dX8_meet_159 : decode (zcc mX8_meet) 159 = .ok (.iaload, 1) := by decide +kernel
theorem dX8_meet_160 : decode (zcc mX8_meet) 160 = .ok (.imul, 1) := by decide +kernel
theorem dX8_meet_161 : decode (zcc mX8_meet) 161 = .ok (.aload_n 0, 1) := by decide +kernel
theorem dX8_meet_162 : decode (zcc mX8_meet) 162 = .ok (.getfield 29, 3) := by decide +kernel
theorem dX8_meet_165 : decode (zcc mX8_meet) 165 = .ok (.bipush 18, 2) := by decide +kernel
theorem dX8_meet_167 : decode (zcc mX8_meet) 167 = .ok (.iload_n 2, 1) := by decide +kernel
theorem dX8_meet_168 : decode (zcc mX8_meet) 168 = .ok (.imul, 1) := by decide +kernel
theorem dX8_meet_169 : decode (zcc mX8_meet) 169 = .ok (.iconst 3, 1) := by decide +kernel
theorem dX8_meet_170 : decode (zcc mX8_meet) 170 = .ok (.iload 4, 2) := by decide +kernel
theorem dX8_meet_172 : decode (zcc mX8_meet) 172 = .ok (.bipush 6, 2) := by decide +kernel
theorem dX8_meet_174 : decode (zcc mX8_meet) 174 = .ok (.irem, 1) := by decide +kernel
theorem dX8_meet_175 : decode (zcc mX8_meet) 175 = .ok (.imul, 1) := by decide +kernel
theorem dX8_meet_176 : decode (zcc mX8_meet) 176 = .ok (.iadd, 1) := by decide +kernel
theorem dX8_meet_177 : decode (zcc mX8_meet) 177 = .ok (.iload 5, 2) := by decide +kernel
theorem dX8_meet_179 : decode (zcc mX8_meet) 179 = .ok (.iadd, 1) := by decide +kernel
theorem dX8_meet_180 : decode (zcc mX8_meet) 180 = .ok (.iaload, 1) := by decide +kernel
theorem dX8_meet_181 : decode (zcc mX8_meet) 181 = .ok (.iadd, 1) := by decide +kernel
theorem dX8_meet_182 : decode (zcc mX8_meet) 182 = .ok (.istore 6, 2) := by decide +kernel
theorem dX8_meet_184 : decode (zcc mX8_meet) 184 = .ok (.aload_n 0, 1) := by decide +kernel
theorem dX8_meet_185 : decode (zcc mX8_meet) 185 = .ok (.getfield 84, 3) := by decide +kernel
theorem dX8_meet_188 : decode (zcc mX8_meet) 188 = .ok (.iload 6, 2) := by decide +kernel
theorem dX8_meet_190 : decode (zcc mX8_meet) 190 = .ok (.aload_n 0, 1) := by decide +kernel
theorem dX8_meet_191 : decode (zcc mX8_meet) 191 = .ok (.getfield 84, 3) := by decide +kernel
theorem dX8_meet_194 : decode (zcc mX8_meet) 194 = .ok (.iload 6, 2) := by decide +kernel
theorem dX8_meet_196 : decode (zcc mX8_meet) 196 = .ok (.iaload, 1) := by decide +kernel
theorem dX8_meet_197 : decode (zcc mX8_meet) 197 = .ok (.iconst (-1), 1) := by decide +kernel
theorem dX8_meet_198 : decode (zcc mX8_meet) 198 = .ok (.if_icmp .ne 9, 3) := by decide +kernel
theorem dX8_meet_201 : decode (zcc mX8_meet) 201 = .ok (.iload_n 3, 1) := by decide +kernel
theorem dX8_meet_202 : decode (zcc mX8_meet) 202 = .ok (.iconst 1, 1) := by decide +kernel
theorem dX8_meet_203 : decode (zcc mX8_meet) 203 = .ok (.iadd, 1) := by decide +kernel
theorem dX8_meet_204 : decode (zcc mX8_meet) 204 = .ok (.goto 10, 3) := by decide +kernel
end
section
theorem dX8_meet_207 : decode (zcc mX8_meet) 207 = .ok (.aload_n 0, 1) := by decide +kernel
theorem dX8_meet_208 : decode (zcc mX8_meet) 208 = .ok (.getfield 84, 3) := by decide +kernel
theorem dX8_meet_211 : decode (zcc mX8_meet) 211 = .ok (.iload 6, 2) := by decide +kernel
theorem dX8_meet_213 : decode (zcc mX8_meet) 213 = .ok (.iaload, 1) := by decide +kernel
theorem dX8_meet_214 : decode (zcc mX8_meet) 214 = .ok (.iastore, 1) := by decide +kernel
theorem dX8_meet_215 : decode (zcc mX8_meet) 215 = .ok (.iinc 5 1, 3) := by decide +kernel
theorem dX8_meet_218 : decode (zcc mX8_meet) 218 = .ok (.goto (-89), 3) := by decide +kernel
theorem dX8_meet_221 : decode (zcc mX8_meet) 221 = .ok (.iinc 4 1, 3) := by decide +kernel
theorem dX8_meet_224 : decode (zcc mX8_meet) 224 = .ok (.goto (-154), 3) := by decide +kernel
theorem dX8_meet_227 : decode (zcc mX8_meet) 227 = .ok (.iinc 3 1, 3) := by decide +kernel
theorem dX8_meet_230 : decode (zcc mX8_meet) 230 = .ok (.goto (-169), 3) := by decide +kernel
theorem dX8_meet_233 : decode (zcc mX8_meet) 233 = .ok (.iconst (-1), 1) := by decide +kernel
theorem dX8_meet_234 : decode (zcc mX8_meet) 234 = .ok (.ireturn, 1) := by decide +kernel
theorem dX8_told_0 : decode (zcc mX8_told) 0 = .ok (.iload_n 1, 1) := by decide +kernel
theorem dX8_told_1 : decode (zcc mX8_told) 1 = .ok (.tableswitch 86 0 6 #[43, 48, 53, 58, 63, 68, 73], 43) := by decide +kernel
theorem dX8_told_44 : decode (zcc mX8_told) 44 = .ok (.aload_n 0, 1) := by decide +kernel
theorem dX8_told_45 : decode (zcc mX8_told) 45 = .ok (.getfield 7, 3) := by decide +kernel
theorem dX8_told_48 : decode (zcc mX8_told) 48 = .ok (.ireturn, 1) := by decide +kernel
theorem dX8_told_49 : decode (zcc mX8_told) 49 = .ok (.aload_n 0, 1) := by decide +kernel
theorem dX8_told_50 : decode (zcc mX8_told) 50 = .ok (.getfield 101, 3) := by decide +kernel
theorem dX8_told_53 : decode (zcc mX8_told) 53 = .ok (.ireturn, 1) := by decide +kernel
theorem dX8_told_54 : decode (zcc mX8_told) 54 = .ok (.aload_n 0, 1) := by decide +kernel
theorem dX8_told_55 : decode (zcc mX8_told) 55 = .ok (.getfield 104, 3) := by decide +kernel
theorem dX8_told_58 : decode (zcc mX8_told) 58 = .ok (.ireturn, 1) := by decide +kernel
theorem dX8_told_59 : decode (zcc mX8_told) 59 = .ok (.aload_n 0, 1) := by decide +kernel
theorem dX8_told_60 : decode (zcc mX8_told) 60 = .ok (.getfield 107, 3) := by decide +kernel
theorem dX8_told_63 : decode (zcc mX8_told) 63 = .ok (.ireturn, 1) := by decide +kernel
theorem dX8_told_64 : decode (zcc mX8_told) 64 = .ok (.aload_n 0, 1) := by decide +kernel
theorem dX8_told_65 : decode (zcc mX8_told) 65 = .ok (.getfield 98, 3) := by decide +kernel
theorem dX8_told_68 : decode (zcc mX8_told) 68 = .ok (.ireturn, 1) := by decide +kernel
theorem dX8_told_69 : decode (zcc mX8_told) 69 = .ok (.aload_n 0, 1) := by decide +kernel
theorem dX8_told_70 : decode (zcc mX8_told) 70 = .ok (.getfield 17, 3) := by decide +kernel
theorem dX8_told_73 : decode (zcc mX8_told) 73 = .ok (.ireturn, 1) := by decide +kernel
theorem dX8_told_74 : decode (zcc mX8_told) 74 = .ok (.aload_n 0, 1) := by decide +kernel
theorem dX8_told_75 : decode (zcc mX8_told) 75 = .ok (.getfield 87, 3) := by decide +kernel
theorem dX8_told_78 : decode (zcc mX8_told) 78 = .ok (.ifCond .eq 7, 3) := by decide +kernel
theorem dX8_told_81 : decode (zcc mX8_told) 81 = .ok (.iconst 1, 1) := by decide +kernel
theorem dX8_told_82 : decode (zcc mX8_told) 82 = .ok (.goto 4, 3) := by decide +kernel
theorem dX8_told_85 : decode (zcc mX8_told) 85 = .ok (.iconst 0, 1) := by decide +kernel
theorem dX8_told_86 : decode (zcc mX8_told) 86 = .ok (.ireturn, 1) := by decide +kernel
theorem dX8_told_87 : decode (zcc mX8_told) 87 = .ok (.bipush (-3), 2) := by decide +kernel
theorem dX8_told_89 : decode (zcc mX8_told) 89 = .ok (.ireturn, 1) := by decide +kernel
theorem dJ6_bitCount_0f7a4_0 : decode (zcc mJ6_bitCount_0f7a4) 0 = .ok (.iload_n 0, 1) := by decide +kernel
theorem dJ6_bitCount_0f7a4_1 : decode (zcc mJ6_bitCount_0f7a4) 1 = .ok (.iload_n 0, 1) := by decide +kernel
theorem dJ6_bitCount_0f7a4_2 : decode (zcc mJ6_bitCount_0f7a4) 2 = .ok (.iconst 1, 1) := by decide +kernel
theorem dJ6_bitCount_0f7a4_3 : decode (zcc mJ6_bitCount_0f7a4) 3 = .ok (.iushr, 1) := by decide +kernel
theorem dJ6_bitCount_0f7a4_4 : decode (zcc mJ6_bitCount_0f7a4) 4 = .ok (.ldc_w 265, 3) := by decide +kernel
theorem dJ6_bitCount_0f7a4_7 : decode (zcc mJ6_bitCount_0f7a4) 7 = .ok (.iand, 1) := by decide +kernel
theorem dJ6_bitCount_0f7a4_8 : decode (zcc mJ6_bitCount_0f7a4) 8 = .ok (.isub, 1) := by decide +kernel
theorem dJ6_bitCount_0f7a4_9 : decode (zcc mJ6_bitCount_0f7a4) 9 = .ok (.istore_n 0, 1) := by decide +kernel
theorem dJ6_bitCount_0f7a4_10 : decode (zcc mJ6_bitCount_0f7a4) 10 = .ok (.iload_n 0, 1) := by decide +kernel
theorem dJ6_bitCount_0f7a4_11 : decode (zcc mJ6_bitCount_0f7a4) 11 = .ok (.ldc_w 266, 3) := by decide +kernel
theorem dJ6_bitCount_0f7a4_14 : decode (zcc mJ6_bitCount_0f7a4) 14 = .ok (.iand, 1) := by decide +kernel
theorem dJ6_bitCount_0f7a4_15 : decode (zcc mJ6_bitCount_0f7a4) 15 = .ok (.iload_n 0, 1) := by decide +kernel
theorem dJ6_bitCount_0f7a4_16 : decode (zcc mJ6_bitCount_0f7a4) 16 = .ok (.iconst 2, 1) := by decide +kernel
theorem dJ6_bitCount_0f7a4_17 : decode (zcc mJ6_bitCount_0f7a4) 17 = .ok (.iushr, 1) := by decide +kernel
theorem dJ6_bitCount_0f7a4_18 : decode (zcc mJ6_bitCount_0f7a4) 18 = .ok (.ldc_w 266, 3) := by decide +kernel
theorem dJ6_bitCount_0f7a4_21 : decode (zcc mJ6_bitCount_0f7a4) 21 = .ok (.iand, 1) := by decide +kernel
theorem dJ6_bitCount_0f7a4_22 : decode (zcc mJ6_bitCount_0f7a4) 22 = .ok (.iadd, 1) := by decide +kernel
theorem dJ6_bitCount_0f7a4_23 : decode (zcc mJ6_bitCount_0f7a4) 23 = .ok (.istore_n 0, 1) := by decide +kernel
theorem dJ6_bitCount_0f7a4_24 : decode (zcc mJ6_bitCount_0f7a4) 24 = .ok (.iload_n 0, 1) := by decide +kernel
theorem dJ6_bitCount_0f7a4_25 : decode (zcc mJ6_bitCount_0f7a4) 25 = .ok (.iload_n 0, 1) := by decide +kernel
theorem dJ6_bitCount_0f7a4_26 : decode (zcc mJ6_bitCount_0f7a4) 26 = .ok (.iconst 4, 1) := by decide +kernel
theorem dJ6_bitCount_0f7a4_27 : decode (zcc mJ6_bitCount_0f7a4) 27 = .ok (.iushr, 1) := by decide +kernel
theorem dJ6_bitCount_0f7a4_28 : decode (zcc mJ6_bitCount_0f7a4) 28 = .ok (.iadd, 1) := by decide +kernel
theorem dJ6_bitCount_0f7a4_29 : decode (zcc mJ6_bitCount_0f7a4) 29 = .ok (.ldc_w 267, 3) := by decide +kernel
theorem dJ6_bitCount_0f7a4_32 : decode (zcc mJ6_bitCount_0f7a4) 32 = .ok (.iand, 1) := by decide +kernel
theorem dJ6_bitCount_0f7a4_33 : decode (zcc mJ6_bitCount_0f7a4) 33 = .ok (.istore_n 0, 1) := by decide +kernel
theorem dJ6_bitCount_0f7a4_34 : decode (zcc mJ6_bitCount_0f7a4) 34 = .ok (.iload_n 0, 1) := by decide +kernel
theorem dJ6_bitCount_0f7a4_35 : decode (zcc mJ6_bitCount_0f7a4) 35 = .ok (.iload_n 0, 1) := by decide +kernel
theorem dJ6_bitCount_0f7a4_36 : decode (zcc mJ6_bitCount_0f7a4) 36 = .ok (.bipush 8, 2) := by decide +kernel
theorem dJ6_bitCount_0f7a4_38 : decode (zcc mJ6_bitCount_0f7a4) 38 = .ok (.iushr, 1) := by decide +kernel
theorem dJ6_bitCount_0f7a4_39 : decode (zcc mJ6_bitCount_0f7a4) 39 = .ok (.iadd, 1) := by decide +kernel
theorem dJ6_bitCount_0f7a4_40 : decode (zcc mJ6_bitCount_0f7a4) 40 = .ok (.istore_n 0, 1) := by decide +kernel
theorem dJ6_bitCount_0f7a4_41 : decode (zcc mJ6_bitCount_0f7a4) 41 = .ok (.iload_n 0, 1) := by decide +kernel
theorem dJ6_bitCount_0f7a4_42 : decode (zcc mJ6_bitCount_0f7a4) 42 = .ok (.iload_n 0, 1) := by decide +kernel
theorem dJ6_bitCount_0f7a4_43 : decode (zcc mJ6_bitCount_0f7a4) 43 = .ok (.bipush 16, 2) := by decide +kernel
theorem dJ6_bitCount_0f7a4_45 : decode (zcc mJ6_bitCount_0f7a4) 45 = .ok (.iushr, 1) := by decide +kernel
theorem dJ6_bitCount_0f7a4_46 : decode (zcc mJ6_bitCount_0f7a4) 46 = .ok (.iadd, 1) := by decide +kernel
theorem dJ6_bitCount_0f7a4_47 : decode (zcc mJ6_bitCount_0f7a4) 47 = .ok (.istore_n 0, 1) := by decide +kernel
theorem dJ6_bitCount_0f7a4_48 : decode (zcc mJ6_bitCount_0f7a4) 48 = .ok (.iload_n 0, 1) := by decide +kernel
theorem dJ6_bitCount_0f7a4_49 : decode (zcc mJ6_bitCount_0f7a4) 49 = .ok (.bipush 63, 2) := by decide +kernel
theorem dJ6_bitCount_0f7a4_51 : decode (zcc mJ6_bitCount_0f7a4) 51 = .ok (.iand, 1) := by decide +kernel
theorem dJ6_bitCount_0f7a4_52 : decode (zcc mJ6_bitCount_0f7a4) 52 = .ok (.ireturn, 1) := by decide +kernel
theorem dJ13_bitCount_95d88_0 : decode (zcc mJ13_bitCount_95d88) 0 = .ok (.lload_n 0, 1) := by decide +kernel
theorem dJ13_bitCount_95d88_1 : decode (zcc mJ13_bitCount_95d88) 1 = .ok (.lload_n 0, 1) := by decide +kernel
theorem dJ13_bitCount_95d88_2 : decode (zcc mJ13_bitCount_95d88) 2 = .ok (.iconst 1, 1) := by decide +kernel
theorem dJ13_bitCount_95d88_3 : decode (zcc mJ13_bitCount_95d88) 3 = .ok (.lushr, 1) := by decide +kernel
theorem dJ13_bitCount_95d88_4 : decode (zcc mJ13_bitCount_95d88) 4 = .ok (.ldc2_w 314, 3) := by decide +kernel
theorem dJ13_bitCount_95d88_7 : decode (zcc mJ13_bitCount_95d88) 7 = .ok (.land, 1) := by decide +kernel
theorem dJ13_bitCount_95d88_8 : decode (zcc mJ13_bitCount_95d88) 8 = .ok (.lsub, 1) := by decide +kernel
theorem dJ13_bitCount_95d88_9 : decode (zcc mJ13_bitCount_95d88) 9 = .ok (.lstore_n 0, 1) := by decide +kernel
theorem dJ13_bitCount_95d88_10 : decode (zcc mJ13_bitCount_95d88) 10 = .ok (.lload_n 0, 1) := by decide +kernel
theorem dJ13_bitCount_95d88_11 : decode (zcc mJ13_bitCount_95d88) 11 = .ok (.ldc2_w 316, 3) := by decide +kernel
theorem dJ13_bitCount_95d88_14 : decode (zcc mJ13_bitCount_95d88) 14 = .ok (.land, 1) := by decide +kernel
theorem dJ13_bitCount_95d88_15 : decode (zcc mJ13_bitCount_95d88) 15 = .ok (.lload_n 0, 1) := by decide +kernel
theorem dJ13_bitCount_95d88_16 : decode (zcc mJ13_bitCount_95d88) 16 = .ok (.iconst 2, 1) := by decide +kernel
theorem dJ13_bitCount_95d88_17 : decode (zcc mJ13_bitCount_95d88) 17 = .ok (.lushr, 1) := by decide +kernel
theorem dJ13_bitCount_95d88_18 : decode (zcc mJ13_bitCount_95d88) 18 = .ok (.ldc2_w 316, 3) := by decide +kernel
theorem dJ13_bitCount_95d88_21 : decode (zcc mJ13_bitCount_95d88) 21 = .ok (.land, 1) := by decide +kernel
theorem dJ13_bitCount_95d88_22 : decode (zcc mJ13_bitCount_95d88) 22 = .ok (.ladd, 1) := by decide +kernel
theorem dJ13_bitCount_95d88_23 : decode (zcc mJ13_bitCount_95d88) 23 = .ok (.lstore_n 0, 1) := by decide +kernel
theorem dJ13_bitCount_95d88_24 : decode (zcc mJ13_bitCount_95d88) 24 = .ok (.lload_n 0, 1) := by decide +kernel
theorem dJ13_bitCount_95d88_25 : decode (zcc mJ13_bitCount_95d88) 25 = .ok (.lload_n 0, 1) := by decide +kernel
theorem dJ13_bitCount_95d88_26 : decode (zcc mJ13_bitCount_95d88) 26 = .ok (.iconst 4, 1) := by decide +kernel
theorem dJ13_bitCount_95d88_27 : decode (zcc mJ13_bitCount_95d88) 27 = .ok (.lushr, 1) := by decide +kernel
theorem dJ13_bitCount_95d88_28 : decode (zcc mJ13_bitCount_95d88) 28 = .ok (.ladd, 1) := by decide +kernel
theorem dJ13_bitCount_95d88_29 : decode (zcc mJ13_bitCount_95d88) 29 = .ok (.ldc2_w 318, 3) := by decide +kernel
theorem dJ13_bitCount_95d88_32 : decode (zcc mJ13_bitCount_95d88) 32 = .ok (.land, 1) := by decide +kernel
theorem dJ13_bitCount_95d88_33 : decode (zcc mJ13_bitCount_95d88) 33 = .ok (.lstore_n 0, 1) := by decide +kernel
theorem dJ13_bitCount_95d88_34 : decode (zcc mJ13_bitCount_95d88) 34 = .ok (.lload_n 0, 1) := by decide +kernel
theorem dJ13_bitCount_95d88_35 : decode (zcc mJ13_bitCount_95d88) 35 = .ok (.lload_n 0, 1) := by decide +kernel
theorem dJ13_bitCount_95d88_36 : decode (zcc mJ13_bitCount_95d88) 36 = .ok (.bipush 8, 2) := by decide +kernel
theorem dJ13_bitCount_95d88_38 : decode (zcc mJ13_bitCount_95d88) 38 = .ok (.lushr, 1) := by decide +kernel
theorem dJ13_bitCount_95d88_39 : decode (zcc mJ13_bitCount_95d88) 39 = .ok (.ladd, 1) := by decide +kernel
theorem dJ13_bitCount_95d88_40 : decode (zcc mJ13_bitCount_95d88) 40 = .ok (.lstore_n 0, 1) := by decide +kernel
theorem dJ13_bitCount_95d88_41 : decode (zcc mJ13_bitCount_95d88) 41 = .ok (.lload_n 0, 1) := by decide +kernel
theorem dJ13_bitCount_95d88_42 : decode (zcc mJ13_bitCount_95d88) 42 = .ok (.lload_n 0, 1) := by decide +kernel
theorem dJ13_bitCount_95d88_43 : decode (zcc mJ13_bitCount_95d88) 43 = .ok (.bipush 16, 2) := by decide +kernel
theorem dJ13_bitCount_95d88_45 : decode (zcc mJ13_bitCount_95d88) 45 = .ok (.lushr, 1) := by decide +kernel
theorem dJ13_bitCount_95d88_46 : decode (zcc mJ13_bitCount_95d88) 46 = .ok (.ladd, 1) := by decide +kernel
theorem dJ13_bitCount_95d88_47 : decode (zcc mJ13_bitCount_95d88) 47 = .ok (.lstore_n 0, 1) := by decide +kernel
theorem dJ13_bitCount_95d88_48 : decode (zcc mJ13_bitCount_95d88) 48 = .ok (.lload_n 0, 1) := by decide +kernel
theorem dJ13_bitCount_95d88_49 : decode (zcc mJ13_bitCount_95d88) 49 = .ok (.lload_n 0, 1) := by decide +kernel
theorem dJ13_bitCount_95d88_50 : decode (zcc mJ13_bitCount_95d88) 50 = .ok (.bipush 32, 2) := by decide +kernel
theorem dJ13_bitCount_95d88_52 : decode (zcc mJ13_bitCount_95d88) 52 = .ok (.lushr, 1) := by decide +kernel
theorem dJ13_bitCount_95d88_53 : decode (zcc mJ13_bitCount_95d88) 53 = .ok (.ladd, 1) := by decide +kernel
theorem dJ13_bitCount_95d88_54 : decode (zcc mJ13_bitCount_95d88) 54 = .ok (.lstore_n 0, 1) := by decide +kernel
theorem dJ13_bitCount_95d88_55 : decode (zcc mJ13_bitCount_95d88) 55 = .ok (.lload_n 0, 1) := by decide +kernel
theorem dJ13_bitCount_95d88_56 : decode (zcc mJ13_bitCount_95d88) 56 = .ok (.l2i, 1) := by decide +kernel
theorem dJ13_bitCount_95d88_57 : decode (zcc mJ13_bitCount_95d88) 57 = .ok (.bipush 127, 2) := by decide +kernel
theorem dJ13_bitCount_95d88_59 : decode (zcc mJ13_bitCount_95d88) 59 = .ok (.iand, 1) := by decide +kernel
theorem dJ13_bitCount_95d88_60 : decode (zcc mJ13_bitCount_95d88) 60 = .ok (.ireturn, 1) := by decide +kernel
theorem dJ9_floorMod_7cf53_0 : decode (zcc mJ9_floorMod_7cf53) 0 = .ok (.iload_n 0, 1) := by decide +kernel
theorem dJ9_floorMod_7cf53_1 : decode (zcc mJ9_floorMod_7cf53) 1 = .ok (.iload_n 1, 1) := by decide +kernel
theorem dJ9_floorMod_7cf53_2 : decode (zcc mJ9_floorMod_7cf53) 2 = .ok (.irem, 1) := by decide +kernel
theorem dJ9_floorMod_7cf53_3 : decode (zcc mJ9_floorMod_7cf53) 3 = .ok (.istore_n 2, 1) := by decide +kernel
theorem dJ9_floorMod_7cf53_4 : decode (zcc mJ9_floorMod_7cf53) 4 = .ok (.iload_n 0, 1) := by decide +kernel
theorem dJ9_floorMod_7cf53_5 : decode (zcc mJ9_floorMod_7cf53) 5 = .ok (.iload_n 1, 1) := by decide +kernel
theorem dJ9_floorMod_7cf53_6 : decode (zcc mJ9_floorMod_7cf53) 6 = .ok (.ixor, 1) := by decide +kernel
theorem dJ9_floorMod_7cf53_7 : decode (zcc mJ9_floorMod_7cf53) 7 = .ok (.ifCond .ge 11, 3) := by decide +kernel
theorem dJ9_floorMod_7cf53_10 : decode (zcc mJ9_floorMod_7cf53) 10 = .ok (.iload_n 2, 1) := by decide +kernel
theorem dJ9_floorMod_7cf53_11 : decode (zcc mJ9_floorMod_7cf53) 11 = .ok (.ifCond .eq 7, 3) := by decide +kernel
theorem dJ9_floorMod_7cf53_14 : decode (zcc mJ9_floorMod_7cf53) 14 = .ok (.iload_n 2, 1) := by decide +kernel
theorem dJ9_floorMod_7cf53_15 : decode (zcc mJ9_floorMod_7cf53) 15 = .ok (.iload_n 1, 1) := by decide +kernel
theorem dJ9_floorMod_7cf53_16 : decode (zcc mJ9_floorMod_7cf53) 16 = .ok (.iadd, 1) := by decide +kernel
theorem dJ9_floorMod_7cf53_17 : decode (zcc mJ9_floorMod_7cf53) 17 = .ok (.ireturn, 1) := by decide +kernel
theorem dJ9_floorMod_7cf53_18 : decode (zcc mJ9_floorMod_7cf53) 18 = .ok (.iload_n 2, 1) := by decide +kernel
theorem dJ9_floorMod_7cf53_19 : decode (zcc mJ9_floorMod_7cf53) 19 = .ok (.ireturn, 1) := by decide +kernel
theorem dJ7_fill_d0a16_0 : decode (zcc mJ7_fill_d0a16) 0 = .ok (.iconst 0, 1) := by decide +kernel
theorem dJ7_fill_d0a16_1 : decode (zcc mJ7_fill_d0a16) 1 = .ok (.istore_n 3, 1) := by decide +kernel
theorem dJ7_fill_d0a16_2 : decode (zcc mJ7_fill_d0a16) 2 = .ok (.aload_n 0, 1) := by decide +kernel
theorem dJ7_fill_d0a16_3 : decode (zcc mJ7_fill_d0a16) 3 = .ok (.arraylength, 1) := by decide +kernel
theorem dJ7_fill_d0a16_4 : decode (zcc mJ7_fill_d0a16) 4 = .ok (.istore 4, 2) := by decide +kernel
theorem dJ7_fill_d0a16_6 : decode (zcc mJ7_fill_d0a16) 6 = .ok (.iload_n 3, 1) := by decide +kernel
theorem dJ7_fill_d0a16_7 : decode (zcc mJ7_fill_d0a16) 7 = .ok (.iload 4, 2) := by decide +kernel
theorem dJ7_fill_d0a16_9 : decode (zcc mJ7_fill_d0a16) 9 = .ok (.if_icmp .ge 13, 3) := by decide +kernel
theorem dJ7_fill_d0a16_12 : decode (zcc mJ7_fill_d0a16) 12 = .ok (.aload_n 0, 1) := by decide +kernel
theorem dJ7_fill_d0a16_13 : decode (zcc mJ7_fill_d0a16) 13 = .ok (.iload_n 3, 1) := by decide +kernel
theorem dJ7_fill_d0a16_14 : decode (zcc mJ7_fill_d0a16) 14 = .ok (.lload_n 1, 1) := by decide +kernel
theorem dJ7_fill_d0a16_15 : decode (zcc mJ7_fill_d0a16) 15 = .ok (.lastore, 1) := by decide +kernel
theorem dJ7_fill_d0a16_16 : decode (zcc mJ7_fill_d0a16) 16 = .ok (.iinc 3 1, 3) := by decide +kernel
theorem dJ7_fill_d0a16_19 : decode (zcc mJ7_fill_d0a16) 19 = .ok (.goto (-13), 3) := by decide +kernel
theorem dJ7_fill_d0a16_22 : decode (zcc mJ7_fill_d0a16) 22 = .ok (.return_, 1) := by decide +kernel
theorem dJ7_fill_53178_0 : decode (zcc mJ7_fill_53178) 0 = .ok (.iconst 0, 1) := by decide +kernel
theorem dJ7_fill_53178_1 : decode (zcc mJ7_fill_53178) 1 = .ok (.istore_n 2, 1) := by decide +kernel
theorem dJ7_fill_53178_2 : decode (zcc mJ7_fill_53178) 2 = .ok (.aload_n 0, 1) := by decide +kernel
theorem dJ7_fill_53178_3 : decode (zcc mJ7_fill_53178) 3 = .ok (.arraylength, 1) := by decide +kernel
theorem dJ7_fill_53178_4 : decode (zcc mJ7_fill_53178) 4 = .ok (.istore_n 3, 1) := by decide +kernel
theorem dJ7_fill_53178_5 : decode (zcc mJ7_fill_53178) 5 = .ok (.iload_n 2, 1) := by decide +kernel
theorem dJ7_fill_53178_6 : decode (zcc mJ7_fill_53178) 6 = .ok (.iload_n 3, 1) := by decide +kernel
theorem dJ7_fill_53178_7 : decode (zcc mJ7_fill_53178) 7 = .ok (.if_icmp .ge 13, 3) := by decide +kernel
theorem dJ7_fill_53178_10 : decode (zcc mJ7_fill_53178) 10 = .ok (.aload_n 0, 1) := by decide +kernel
theorem dJ7_fill_53178_11 : decode (zcc mJ7_fill_53178) 11 = .ok (.iload_n 2, 1) := by decide +kernel
theorem dJ7_fill_53178_12 : decode (zcc mJ7_fill_53178) 12 = .ok (.iload_n 1, 1) := by decide +kernel
theorem dJ7_fill_53178_13 : decode (zcc mJ7_fill_53178) 13 = .ok (.iastore, 1) := by decide +kernel
theorem dJ7_fill_53178_14 : decode (zcc mJ7_fill_53178) 14 = .ok (.iinc 2 1, 3) := by decide +kernel
theorem dJ7_fill_53178_17 : decode (zcc mJ7_fill_53178) 17 = .ok (.goto (-12), 3) := by decide +kernel
theorem dJ7_fill_53178_20 : decode (zcc mJ7_fill_53178) 20 = .ok (.return_, 1) := by decide +kernel
theorem dL_law_0 : decode (zcc mL_law) 0 = .ok (.new 7, 3) := by decide +kernel
theorem dL_law_3 : decode (zcc mL_law) 3 = .ok (.dup, 1) := by decide +kernel
theorem dL_law_4 : decode (zcc mL_law) 4 = .ok (.invokespecial 9, 3) := by decide +kernel
theorem dL_law_7 : decode (zcc mL_law) 7 = .ok (.astore_n 1, 1) := by decide +kernel
theorem dL_law_8 : decode (zcc mL_law) 8 = .ok (.new 10, 3) := by decide +kernel
theorem dL_law_11 : decode (zcc mL_law) 11 = .ok (.dup, 1) := by decide +kernel
theorem dL_law_12 : decode (zcc mL_law) 12 = .ok (.invokespecial 12, 3) := by decide +kernel
theorem dL_law_15 : decode (zcc mL_law) 15 = .ok (.astore_n 2, 1) := by decide +kernel
theorem dL_law_16 : decode (zcc mL_law) 16 = .ok (.iconst 0, 1) := by decide +kernel
theorem dL_law_17 : decode (zcc mL_law) 17 = .ok (.istore_n 3, 1) := by decide +kernel
theorem dL_law_18 : decode (zcc mL_law) 18 = .ok (.iload_n 3, 1) := by decide +kernel
theorem dL_law_19 : decode (zcc mL_law) 19 = .ok (.aload_n 0, 1) := by decide +kernel
theorem dL_law_20 : decode (zcc mL_law) 20 = .ok (.arraylength, 1) := by decide +kernel
theorem dL_law_21 : decode (zcc mL_law) 21 = .ok (.bipush 6, 2) := by decide +kernel
theorem dL_law_23 : decode (zcc mL_law) 23 = .ok (.isub, 1) := by decide +kernel
theorem dL_law_24 : decode (zcc mL_law) 24 = .ok (.if_icmp .gt 735, 3) := by decide +kernel
theorem dL_law_27 : decode (zcc mL_law) 27 = .ok (.aload_n 0, 1) := by decide +kernel
theorem dL_law_28 : decode (zcc mL_law) 28 = .ok (.iload_n 3, 1) := by decide +kernel
theorem dL_law_29 : decode (zcc mL_law) 29 = .ok (.iaload, 1) := by decide +kernel
theorem dL_law_30 : decode (zcc mL_law) 30 = .ok (.bipush 31, 2) := by decide +kernel
theorem dL_law_32 : decode (zcc mL_law) 32 = .ok (.iand, 1) := by decide +kernel
theorem dL_law_33 : decode (zcc mL_law) 33 = .ok (.tableswitch 720 0 20 #[99, 122, 145, 158, 191, 214, 267, 326, 389, 438, 487, 500, 523, 536, 559, 592, 615, 628, 651, 664, 697], 99) := by decide +kernel
theorem dL_law_132 : decode (zcc mL_law) 132 = .ok (.aload_n 1, 1) := by decide +kernel
theorem dL_law_133 : decode (zcc mL_law) 133 = .ok (.aload_n 0, 1) := by decide +kernel
theorem dL_law_134 : decode (zcc mL_law) 134 = .ok (.iload_n 3, 1) := by decide +kernel
theorem dL_law_135 : decode (zcc mL_law) 135 = .ok (.iconst 1, 1) := by decide +kernel
theorem dL_law_136 : decode (zcc mL_law) 136 = .ok (.iadd, 1) := by decide +kernel
theorem dL_law_137 : decode (zcc mL_law) 137 = .ok (.iaload, 1) := by decide +kernel
theorem dL_law_138 : decode (zcc mL_law) 138 = .ok (.invokevirtual 13, 3) := by decide +kernel
theorem dL_law_141 : decode (zcc mL_law) 141 = .ok (.aload_n 2, 1) := by decide +kernel
theorem dL_law_142 : decode (zcc mL_law) 142 = .ok (.aload_n 0, 1) := by decide +kernel
theorem dL_law_143 : decode (zcc mL_law) 143 = .ok (.iload_n 3, 1) := by decide +kernel
theorem dL_law_144 : decode (zcc mL_law) 144 = .ok (.iconst 1, 1) := by decide +kernel
theorem dL_law_145 : decode (zcc mL_law) 145 = .ok (.iadd, 1) := by decide +kernel
theorem dL_law_146 : decode (zcc mL_law) 146 = .ok (.iaload, 1) := by decide +kernel
theorem dL_law_147 : decode (zcc mL_law) 147 = .ok (.invokevirtual 17, 3) := by decide +kernel
theorem dL_law_150 : decode (zcc mL_law) 150 = .ok (.if_icmp .eq 603, 3) := by decide +kernel
theorem dL_law_153 : decode (zcc mL_law) 153 = .ok (.iconst 0, 1) := by decide +kernel
theorem dL_law_154 : decode (zcc mL_law) 154 = .ok (.ireturn, 1) := by decide +kernel
theorem dL_law_155 : decode (zcc mL_law) 155 = .ok (.aload_n 1, 1) := by decide +kernel
theorem dL_law_156 : decode (zcc mL_law) 156 = .ok (.aload_n 0, 1) := by decide +kernel
theorem dL_law_157 : decode (zcc mL_law) 157 = .ok (.iload_n 3, 1) := by decide +kernel
theorem dL_law_158 : decode (zcc mL_law) 158 = .ok (.iconst 1, 1) := by decide +kernel
theorem dL_law_159 : decode (zcc mL_law) 159 = .ok (.iadd, 1) := by decide +kernel
theorem dL_law_160 : decode (zcc mL_law) 160 = .ok (.iaload, 1) := by decide +kernel
theorem dL_law_161 : decode (zcc mL_law) 161 = .ok (.invokevirtual 18, 3) := by decide +kernel
theorem dL_law_164 : decode (zcc mL_law) 164 = .ok (.aload_n 2, 1) := by decide +kernel
theorem dL_law_165 : decode (zcc mL_law) 165 = .ok (.aload_n 0, 1) := by decide +kernel
theorem dL_law_166 : decode (zcc mL_law) 166 = .ok (.iload_n 3, 1) := by decide +kernel
theorem dL_law_167 : decode (zcc mL_law) 167 = .ok (.iconst 1, 1) := by decide +kernel
theorem dL_law_168 : decode (zcc mL_law) 168 = .ok (.iadd, 1) := by decide +kernel
theorem dL_law_169 : decode (zcc mL_law) 169 = .ok (.iaload, 1) := by decide +kernel
theorem dL_law_170 : decode (zcc mL_law) 170 = .ok (.invokevirtual 21, 3) := by decide +kernel
theorem dL_law_173 : decode (zcc mL_law) 173 = .ok (.if_icmp .eq 580, 3) := by decide +kernel
theorem dL_law_176 : decode (zcc mL_law) 176 = .ok (.iconst 0, 1) := by decide +kernel
theorem dL_law_177 : decode (zcc mL_law) 177 = .ok (.ireturn, 1) := by decide +kernel
theorem dL_law_178 : decode (zcc mL_law) 178 = .ok (.aload_n 1, 1) := by decide +kernel
theorem dL_law_179 : decode (zcc mL_law) 179 = .ok (.invokevirtual 22, 3) := by decide +kernel
theorem dL_law_182 : decode (zcc mL_law) 182 = .ok (.aload_n 2, 1) := by decide +kernel
theorem dL_law_183 : decode (zcc mL_law) 183 = .ok (.invokevirtual 26, 3) := by decide +kernel
theorem dL_law_186 : decode (zcc mL_law) 186 = .ok (.if_icmp .eq 567, 3) := by decide +kernel
theorem dL_law_189 : decode (zcc mL_law) 189 = .ok (.iconst 0, 1) := by decide +kernel
theorem dL_law_190 : decode (zcc mL_law) 190 = .ok (.ireturn, 1) := by decide +kernel
theorem dL_law_191 : decode (zcc mL_law) 191 = .ok (.aload_n 1, 1) := by decide +kernel
theorem dL_law_192 : decode (zcc mL_law) 192 = .ok (.aload_n 0, 1) := by decide +kernel
theorem dL_law_193 : decode (zcc mL_law) 193 = .ok (.iload_n 3, 1) := by decide +kernel
theorem dL_law_194 : decode (zcc mL_law) 194 = .ok (.iconst 1, 1) := by decide +kernel
theorem dL_law_195 : decode (zcc mL_law) 195 = .ok (.iadd, 1) := by decide +kernel
theorem dL_law_196 : decode (zcc mL_law) 196 = .ok (.iaload, 1) := by decide +kernel
theorem dL_law_197 : decode (zcc mL_law) 197 = .ok (.aload_n 0, 1) := by decide +kernel
theorem dL_law_198 : decode (zcc mL_law) 198 = .ok (.iload_n 3, 1) := by decide +kernel
theorem dL_law_199 : decode (zcc mL_law) 199 = .ok (.iconst 2, 1) := by decide +kernel
theorem dL_law_200 : decode (zcc mL_law) 200 = .ok (.iadd, 1) := by decide +kernel
theorem dL_law_201 : decode (zcc mL_law) 201 = .ok (.iaload, 1) := by decide +kernel
theorem dL_law_202 : decode (zcc mL_law) 202 = .ok (.invokevirtual 27, 3) := by decide +kernel
theorem dL_law_205 : decode (zcc mL_law) 205 = .ok (.aload_n 2, 1) := by decide +kernel
theorem dL_law_206 : decode (zcc mL_law) 206 = .ok (.aload_n 0, 1) := by decide +kernel
theorem dL_law_207 : decode (zcc mL_law) 207 = .ok (.iload_n 3, 1) := by decide +kernel
theorem dL_law_208 : decode (zcc mL_law) 208 = .ok (.iconst 1, 1) := by decide +kernel
theorem dL_law_209 : decode (zcc mL_law) 209 = .ok (.iadd, 1) := by decide +kernel
theorem dL_law_210 : decode (zcc mL_law) 210 = .ok (.iaload, 1) := by decide +kernel
theorem dL_law_211 : decode (zcc mL_law) 211 = .ok (.aload_n 0, 1) := by decide +kernel
theorem dL_law_212 : decode (zcc mL_law) 212 = .ok (.iload_n 3, 1) := by decide +kernel
theorem dL_law_213 : decode (zcc mL_law) 213 = .ok (.iconst 2, 1) := by decide +kernel
theorem dL_law_214 : decode (zcc mL_law) 214 = .ok (.iadd, 1) := by decide +kernel
theorem dL_law_215 : decode (zcc mL_law) 215 = .ok (.iaload, 1) := by decide +kernel
theorem dL_law_216 : decode (zcc mL_law) 216 = .ok (.invokevirtual 31, 3) := by decide +kernel
theorem dL_law_219 : decode (zcc mL_law) 219 = .ok (.if_icmp .eq 534, 3) := by decide +kernel
theorem dL_law_222 : decode (zcc mL_law) 222 = .ok (.iconst 0, 1) := by decide +kernel
theorem dL_law_223 : decode (zcc mL_law) 223 = .ok (.ireturn, 1) := by decide +kernel
theorem dL_law_224 : decode (zcc mL_law) 224 = .ok (.aload_n 1, 1) := by decide +kernel
theorem dL_law_225 : decode (zcc mL_law) 225 = .ok (.aload_n 0, 1) := by decide +kernel
theorem dL_law_226 : decode (zcc mL_law) 226 = .ok (.iload_n 3, 1) := by decide +kernel
theorem dL_law_227 : decode (zcc mL_law) 227 = .ok (.iconst 1, 1) := by decide +kernel
theorem dL_law_228 : decode (zcc mL_law) 228 = .ok (.iadd, 1) := by decide +kernel
theorem dL_law_229 : decode (zcc mL_law) 229 = .ok (.iaload, 1) := by decide +kernel
theorem dL_law_230 : decode (zcc mL_law) 230 = .ok (.invokevirtual 32, 3) := by decide +kernel
theorem dL_law_233 : decode (zcc mL_law) 233 = .ok (.aload_n 2, 1) := by decide +kernel
theorem dL_law_234 : decode (zcc mL_law) 234 = .ok (.aload_n 0, 1) := by decide +kernel
theorem dL_law_235 : decode (zcc mL_law) 235 = .ok (.iload_n 3, 1) := by decide +kernel
theorem dL_law_236 : decode (zcc mL_law) 236 = .ok (.iconst 1, 1) := by decide +kernel
theorem dL_law_237 : decode (zcc mL_law) 237 = .ok (.iadd, 1) := by decide +kernel
theorem dL_law_238 : decode (zcc mL_law) 238 = .ok (.iaload, 1) := by decide +kernel
theorem dL_law_239 : decode (zcc mL_law) 239 = .ok (.invokevirtual 35, 3) := by decide +kernel
theorem dL_law_242 : decode (zcc mL_law) 242 = .ok (.if_icmp .eq 511, 3) := by decide +kernel
theorem dL_law_245 : decode (zcc mL_law) 245 = .ok (.iconst 0, 1) := by decide +kernel
theorem dL_law_246 : decode (zcc mL_law) 246 = .ok (.ireturn, 1) := by decide +kernel
theorem dL_law_247 : decode (zcc mL_law) 247 = .ok (.aload_n 1, 1) := by decide +kernel
theorem dL_law_248 : decode (zcc mL_law) 248 = .ok (.aload_n 0, 1) := by decide +kernel
theorem dL_law_249 : decode (zcc mL_law) 249 = .ok (.iload_n 3, 1) := by decide +kernel
theorem dL_law_250 : decode (zcc mL_law) 250 = .ok (.iconst 1, 1) := by decide +kernel
theorem dL_law_251 : decode (zcc mL_law) 251 = .ok (.iadd, 1) := by decide +kernel
theorem dL_law_252 : decode (zcc mL_law) 252 = .ok (.iaload, 1) := by decide +kernel
theorem dL_law_253 : decode (zcc mL_law) 253 = .ok (.aload_n 0, 1) := by decide +kernel
theorem dL_law_254 : decode (zcc mL_law) 254 = .ok (.iload_n 3, 1) := by decide +kernel
theorem dL_law_255 : decode (zcc mL_law) 255 = .ok (.iconst 2, 1) := by decide +kernel
theorem dL_law_256 : decode (zcc mL_law) 256 = .ok (.iadd, 1) := by decide +kernel
theorem dL_law_257 : decode (zcc mL_law) 257 = .ok (.iaload, 1) := by decide +kernel
theorem dL_law_258 : decode (zcc mL_law) 258 = .ok (.aload_n 0, 1) := by decide +kernel
theorem dL_law_259 : decode (zcc mL_law) 259 = .ok (.iload_n 3, 1) := by decide +kernel
theorem dL_law_260 : decode (zcc mL_law) 260 = .ok (.iconst 3, 1) := by decide +kernel
theorem dL_law_261 : decode (zcc mL_law) 261 = .ok (.iadd, 1) := by decide +kernel
theorem dL_law_262 : decode (zcc mL_law) 262 = .ok (.iaload, 1) := by decide +kernel
theorem dL_law_263 : decode (zcc mL_law) 263 = .ok (.aload_n 0, 1) := by decide +kernel
theorem dL_law_264 : decode (zcc mL_law) 264 = .ok (.iload_n 3, 1) := by decide +kernel
theorem dL_law_265 : decode (zcc mL_law) 265 = .ok (.iconst 4, 1) := by decide +kernel
theorem dL_law_266 : decode (zcc mL_law) 266 = .ok (.iadd, 1) := by decide +kernel
theorem dL_law_267 : decode (zcc mL_law) 267 = .ok (.iaload, 1) := by decide +kernel
theorem dL_law_268 : decode (zcc mL_law) 268 = .ok (.invokevirtual 36, 3) := by decide +kernel
theorem dL_law_271 : decode (zcc mL_law) 271 = .ok (.aload_n 2, 1) := by decide +kernel
theorem dL_law_272 : decode (zcc mL_law) 272 = .ok (.aload_n 0, 1) := by decide +kernel
theorem dL_law_273 : decode (zcc mL_law) 273 = .ok (.iload_n 3, 1) := by decide +kernel
theorem dL_law_274 : decode (zcc mL_law) 274 = .ok (.iconst 1, 1) := by decide +kernel
theorem dL_law_275 : decode (zcc mL_law) 275 = .ok (.iadd, 1) := by decide +kernel
theorem dL_law_276 : decode (zcc mL_law) 276 = .ok (.iaload, 1) := by decide +kernel
theorem dL_law_277 : decode (zcc mL_law) 277 = .ok (.aload_n 0, 1) := by decide +kernel
theorem dL_law_278 : decode (zcc mL_law) 278 = .ok (.iload_n 3, 1) := by decide +kernel
theorem dL_law_279 : decode (zcc mL_law) 279 = .ok (.iconst 2, 1) := by decide +kernel
theorem dL_law_280 : decode (zcc mL_law) 280 = .ok (.iadd, 1) := by decide +kernel
theorem dL_law_281 : decode (zcc mL_law) 281 = .ok (.iaload, 1) := by decide +kernel
theorem dL_law_282 : decode (zcc mL_law) 282 = .ok (.aload_n 0, 1) := by decide +kernel
theorem dL_law_283 : decode (zcc mL_law) 283 = .ok (.iload_n 3, 1) := by decide +kernel
theorem dL_law_284 : decode (zcc mL_law) 284 = .ok (.iconst 3, 1) := by decide +kernel
theorem dL_law_285 : decode (zcc mL_law) 285 = .ok (.iadd, 1) := by decide +kernel
theorem dL_law_286 : decode (zcc mL_law) 286 = .ok (.iaload, 1) := by decide +kernel
theorem dL_law_287 : decode (zcc mL_law) 287 = .ok (.aload_n 0, 1) := by decide +kernel
theorem dL_law_288 : decode (zcc mL_law) 288 = .ok (.iload_n 3, 1) := by decide +kernel
theorem dL_law_289 : decode (zcc mL_law) 289 = .ok (.iconst 4, 1) := by decide +kernel
theorem dL_law_290 : decode (zcc mL_law) 290 = .ok (.iadd, 1) := by decide +kernel
theorem dL_law_291 : decode (zcc mL_law) 291 = .ok (.iaload, 1) := by decide +kernel
theorem dL_law_292 : decode (zcc mL_law) 292 = .ok (.invokevirtual 40, 3) := by decide +kernel
theorem dL_law_295 : decode (zcc mL_law) 295 = .ok (.if_icmp .eq 458, 3) := by decide +kernel
theorem dL_law_298 : decode (zcc mL_law) 298 = .ok (.iconst 0, 1) := by decide +kernel
theorem dL_law_299 : decode (zcc mL_law) 299 = .ok (.ireturn, 1) := by decide +kernel
theorem dL_law_300 : decode (zcc mL_law) 300 = .ok (.aload_n 1, 1) := by decide +kernel
theorem dL_law_301 : decode (zcc mL_law) 301 = .ok (.aload_n 0, 1) := by decide +kernel
theorem dL_law_302 : decode (zcc mL_law) 302 = .ok (.iload_n 3, 1) := by decide +kernel
theorem dL_law_303 : decode (zcc mL_law) 303 = .ok (.iconst 1, 1) := by decide +kernel
theorem dL_law_304 : decode (zcc mL_law) 304 = .ok (.iadd, 1) := by decide +kernel
theorem dL_law_305 : decode (zcc mL_law) 305 = .ok (.iaload, 1) := by decide +kernel
theorem dL_law_306 : decode (zcc mL_law) 306 = .ok (.aload_n 0, 1) := by decide +kernel
theorem dL_law_307 : decode (zcc mL_law) 307 = .ok (.iload_n 3, 1) := by decide +kernel
theorem dL_law_308 : decode (zcc mL_law) 308 = .ok (.iconst 2, 1) := by decide +kernel
theorem dL_law_309 : decode (zcc mL_law) 309 = .ok (.iadd, 1) := by decide +kernel
theorem dL_law_310 : decode (zcc mL_law) 310 = .ok (.iaload, 1) := by decide +kernel
theorem dL_law_311 : decode (zcc mL_law) 311 = .ok (.aload_n 0, 1) := by decide +kernel
theorem dL_law_312 : decode (zcc mL_law) 312 = .ok (.iload_n 3, 1) := by decide +kernel
theorem dL_law_313 : decode (zcc mL_law) 313 = .ok (.iconst 3, 1) := by decide +kernel
theorem dL_law_314 : decode (zcc mL_law) 314 = .ok (.iadd, 1) := by decide +kernel
theorem dL_law_315 : decode (zcc mL_law) 315 = .ok (.iaload, 1) := by decide +kernel
theorem dL_law_316 : decode (zcc mL_law) 316 = .ok (.ifCond .eq 7, 3) := by decide +kernel
theorem dL_law_319 : decode (zcc mL_law) 319 = .ok (.iconst 1, 1) := by decide +kernel
theorem dL_law_320 : decode (zcc mL_law) 320 = .ok (.goto 4, 3) := by decide +kernel
theorem dL_law_323 : decode (zcc mL_law) 323 = .ok (.iconst 0, 1) := by decide +kernel
theorem dL_law_324 : decode (zcc mL_law) 324 = .ok (.invokevirtual 41, 3) := by decide +kernel
theorem dL_law_327 : decode (zcc mL_law) 327 = .ok (.aload_n 2, 1) := by decide +kernel
theorem dL_law_328 : decode (zcc mL_law) 328 = .ok (.aload_n 0, 1) := by decide +kernel
theorem dL_law_329 : decode (zcc mL_law) 329 = .ok (.iload_n 3, 1) := by decide +kernel
theorem dL_law_330 : decode (zcc mL_law) 330 = .ok (.iconst 1, 1) := by decide +kernel
theorem dL_law_331 : decode (zcc mL_law) 331 = .ok (.iadd, 1) := by decide +kernel
theorem dL_law_332 : decode (zcc mL_law) 332 = .ok (.iaload, 1) := by decide +kernel
theorem dL_law_333 : decode (zcc mL_law) 333 = .ok (.aload_n 0, 1) := by decide +kernel
theorem dL_law_334 : decode (zcc mL_law) 334 = .ok (.iload_n 3, 1) := by decide +kernel
theorem dL_law_335 : decode (zcc mL_law) 335 = .ok (.iconst 2, 1) := by decide +kernel
theorem dL_law_336 : decode (zcc mL_law) 336 = .ok (.iadd, 1) := by decide +kernel
theorem dL_law_337 : decode (zcc mL_law) 337 = .ok (.iaload, 1) := by decide +kernel
theorem dL_law_338 : decode (zcc mL_law) 338 = .ok (.aload_n 0, 1) := by decide +kernel
theorem dL_law_339 : decode (zcc mL_law) 339 = .ok (.iload_n 3, 1) := by decide +kernel
theorem dL_law_340 : decode (zcc mL_law) 340 = .ok (.iconst 3, 1) := by decide +kernel
theorem dL_law_341 : decode (zcc mL_law) 341 = .ok (.iadd, 1) := by decide +kernel
theorem dL_law_342 : decode (zcc mL_law) 342 = .ok (.iaload, 1) := by decide +kernel
theorem dL_law_343 : decode (zcc mL_law) 343 = .ok (.ifCond .eq 7, 3) := by decide +kernel
theorem dL_law_346 : decode (zcc mL_law) 346 = .ok (.iconst 1, 1) := by decide +kernel
theorem dL_law_347 : decode (zcc mL_law) 347 = .ok (.goto 4, 3) := by decide +kernel
theorem dL_law_350 : decode (zcc mL_law) 350 = .ok (.iconst 0, 1) := by decide +kernel
theorem dL_law_351 : decode (zcc mL_law) 351 = .ok (.invokevirtual 45, 3) := by decide +kernel
theorem dL_law_354 : decode (zcc mL_law) 354 = .ok (.if_icmp .eq 399, 3) := by decide +kernel
theorem dL_law_357 : decode (zcc mL_law) 357 = .ok (.iconst 0, 1) := by decide +kernel
theorem dL_law_358 : decode (zcc mL_law) 358 = .ok (.ireturn, 1) := by decide +kernel
theorem dL_law_359 : decode (zcc mL_law) 359 = .ok (.aload_n 1, 1) := by decide +kernel
theorem dL_law_360 : decode (zcc mL_law) 360 = .ok (.aload_n 0, 1) := by decide +kernel
theorem dL_law_361 : decode (zcc mL_law) 361 = .ok (.iload_n 3, 1) := by decide +kernel
theorem dL_law_362 : decode (zcc mL_law) 362 = .ok (.iconst 1, 1) := by decide +kernel
theorem dL_law_363 : decode (zcc mL_law) 363 = .ok (.iadd, 1) := by decide +kernel
theorem dL_law_364 : decode (zcc mL_law) 364 = .ok (.iaload, 1) := by decide +kernel
theorem dL_law_365 : decode (zcc mL_law) 365 = .ok (.aload_n 0, 1) := by decide +kernel
theorem dL_law_366 : decode (zcc mL_law) 366 = .ok (.iload_n 3, 1) := by decide +kernel
theorem dL_law_367 : decode (zcc mL_law) 367 = .ok (.iconst 2, 1) := by decide +kernel
theorem dL_law_368 : decode (zcc mL_law) 368 = .ok (.iadd, 1) := by decide +kernel
theorem dL_law_369 : decode (zcc mL_law) 369 = .ok (.iaload, 1) := by decide +kernel
theorem dL_law_370 : decode (zcc mL_law) 370 = .ok (.aload_n 0, 1) := by decide +kernel
theorem dL_law_371 : decode (zcc mL_law) 371 = .ok (.iload_n 3, 1) := by decide +kernel
theorem dL_law_372 : decode (zcc mL_law) 372 = .ok (.iconst 3, 1) := by decide +kernel
theorem dL_law_373 : decode (zcc mL_law) 373 = .ok (.iadd, 1) := by decide +kernel
theorem dL_law_374 : decode (zcc mL_law) 374 = .ok (.iaload, 1) := by decide +kernel
theorem dL_law_375 : decode (zcc mL_law) 375 = .ok (.aload_n 0, 1) := by decide +kernel
theorem dL_law_376 : decode (zcc mL_law) 376 = .ok (.iload_n 3, 1) := by decide +kernel
theorem dL_law_377 : decode (zcc mL_law) 377 = .ok (.iconst 4, 1) := by decide +kernel
theorem dL_law_378 : decode (zcc mL_law) 378 = .ok (.iadd, 1) := by decide +kernel
theorem dL_law_379 : decode (zcc mL_law) 379 = .ok (.iaload, 1) := by decide +kernel
theorem dL_law_380 : decode (zcc mL_law) 380 = .ok (.aload_n 0, 1) := by decide +kernel
theorem dL_law_381 : decode (zcc mL_law) 381 = .ok (.iload_n 3, 1) := by decide +kernel
theorem dL_law_382 : decode (zcc mL_law) 382 = .ok (.iconst 5, 1) := by decide +kernel
theorem dL_law_383 : decode (zcc mL_law) 383 = .ok (.iadd, 1) := by decide +kernel
theorem dL_law_384 : decode (zcc mL_law) 384 = .ok (.iaload, 1) := by decide +kernel
theorem dL_law_385 : decode (zcc mL_law) 385 = .ok (.invokevirtual 46, 3) := by decide +kernel
theorem dL_law_388 : decode (zcc mL_law) 388 = .ok (.aload_n 2, 1) := by decide +kernel
theorem dL_law_389 : decode (zcc mL_law) 389 = .ok (.aload_n 0, 1) := by decide +kernel
theorem dL_law_390 : decode (zcc mL_law) 390 = .ok (.iload_n 3, 1) := by decide +kernel
theorem dL_law_391 : decode (zcc mL_law) 391 = .ok (.iconst 1, 1) := by decide +kernel
theorem dL_law_392 : decode (zcc mL_law) 392 = .ok (.iadd, 1) := by decide +kernel
theorem dL_law_393 : decode (zcc mL_law) 393 = .ok (.iaload, 1) := by decide +kernel
theorem dL_law_394 : decode (zcc mL_law) 394 = .ok (.aload_n 0, 1) := by decide +kernel
theorem dL_law_395 : decode (zcc mL_law) 395 = .ok (.iload_n 3, 1) := by decide +kernel
theorem dL_law_396 : decode (zcc mL_law) 396 = .ok (.iconst 2, 1) := by decide +kernel
theorem dL_law_397 : decode (zcc mL_law) 397 = .ok (.iadd, 1) := by decide +kernel
theorem dL_law_398 : decode (zcc mL_law) 398 = .ok (.iaload, 1) := by decide +kernel
theorem dL_law_399 : decode (zcc mL_law) 399 = .ok (.aload_n 0, 1) := by decide +kernel
theorem dL_law_400 : decode (zcc mL_law) 400 = .ok (.iload_n 3, 1) := by decide +kernel
theorem dL_law_401 : decode (zcc mL_law) 401 = .ok (.iconst 3, 1) := by decide +kernel
theorem dL_law_402 : decode (zcc mL_law) 402 = .ok (.iadd, 1) := by decide +kernel
theorem dL_law_403 : decode (zcc mL_law) 403 = .ok (.iaload, 1) := by decide +kernel
theorem dL_law_404 : decode (zcc mL_law) 404 = .ok (.aload_n 0, 1) := by decide +kernel
theorem dL_law_405 : decode (zcc mL_law) 405 = .ok (.iload_n 3, 1) := by decide +kernel
theorem dL_law_406 : decode (zcc mL_law) 406 = .ok (.iconst 4, 1) := by decide +kernel
theorem dL_law_407 : decode (zcc mL_law) 407 = .ok (.iadd, 1) := by decide +kernel
theorem dL_law_408 : decode (zcc mL_law) 408 = .ok (.iaload, 1) := by decide +kernel
theorem dL_law_409 : decode (zcc mL_law) 409 = .ok (.aload_n 0, 1) := by decide +kernel
theorem dL_law_410 : decode (zcc mL_law) 410 = .ok (.iload_n 3, 1) := by decide +kernel
theorem dL_law_411 : decode (zcc mL_law) 411 = .ok (.iconst 5, 1) := by decide +kernel
theorem dL_law_412 : decode (zcc mL_law) 412 = .ok (.iadd, 1) := by decide +kernel
theorem dL_law_413 : decode (zcc mL_law) 413 = .ok (.iaload, 1) := by decide +kernel
theorem dL_law_414 : decode (zcc mL_law) 414 = .ok (.invokevirtual 50, 3) := by decide +kernel
theorem dL_law_417 : decode (zcc mL_law) 417 = .ok (.if_icmp .eq 336, 3) := by decide +kernel
theorem dL_law_420 : decode (zcc mL_law) 420 = .ok (.iconst 0, 1) := by decide +kernel
theorem dL_law_421 : decode (zcc mL_law) 421 = .ok (.ireturn, 1) := by decide +kernel
theorem dL_law_422 : decode (zcc mL_law) 422 = .ok (.aload_n 1, 1) := by decide +kernel
theorem dL_law_423 : decode (zcc mL_law) 423 = .ok (.aload_n 0, 1) := by decide +kernel
theorem dL_law_424 : decode (zcc mL_law) 424 = .ok (.iload_n 3, 1) := by decide +kernel
theorem dL_law_425 : decode (zcc mL_law) 425 = .ok (.iconst 1, 1) := by decide +kernel
theorem dL_law_426 : decode (zcc mL_law) 426 = .ok (.iadd, 1) := by decide +kernel
theorem dL_law_427 : decode (zcc mL_law) 427 = .ok (.iaload, 1) := by decide +kernel
theorem dL_law_428 : decode (zcc mL_law) 428 = .ok (.aload_n 0, 1) := by decide +kernel
theorem dL_law_429 : decode (zcc mL_law) 429 = .ok (.iload_n 3, 1) := by decide +kernel
theorem dL_law_430 : decode (zcc mL_law) 430 = .ok (.iconst 2, 1) := by decide +kernel
theorem dL_law_431 : decode (zcc mL_law) 431 = .ok (.iadd, 1) := by decide +kernel
theorem dL_law_432 : decode (zcc mL_law) 432 = .ok (.iaload, 1) := by decide +kernel
theorem dL_law_433 : decode (zcc mL_law) 433 = .ok (.ifCond .eq 7, 3) := by decide +kernel
theorem dL_law_436 : decode (zcc mL_law) 436 = .ok (.iconst 1, 1) := by decide +kernel
theorem dL_law_437 : decode (zcc mL_law) 437 = .ok (.goto 4, 3) := by decide +kernel
theorem dL_law_440 : decode (zcc mL_law) 440 = .ok (.iconst 0, 1) := by decide +kernel
end
section
theorem dL_law_441 : decode (zcc mL_law) 441 = .ok (.invokevirtual 51, 3) := by decide +kernel
theorem dL_law_444 : decode (zcc mL_law) 444 = .ok (.aload_n 2, 1) := by decide +kernel
theorem dL_law_445 : decode (zcc mL_law) 445 = .ok (.aload_n 0, 1) := by decide +kernel
theorem dL_law_446 : decode (zcc mL_law) 446 = .ok (.iload_n 3, 1) := by decide +kernel
theorem dL_law_447 : decode (zcc mL_law) 447 = .ok (.iconst 1, 1) := by decide +kernel
theorem dL_law_448 : decode (zcc mL_law) 448 = .ok (.iadd, 1) := by decide +kernel
theorem dL_law_449 : decode (zcc mL_law) 449 = .ok (.iaload, 1) := by decide +kernel
theorem dL_law_450 : decode (zcc mL_law) 450 = .ok (.aload_n 0, 1) := by decide +kernel
theorem dL_law_451 : decode (zcc mL_law) 451 = .ok (.iload_n 3, 1) := by decide +kernel
theorem dL_law_452 : decode (zcc mL_law) 452 = .ok (.iconst 2, 1) := by decide +kernel
theorem dL_law_453 : decode (zcc mL_law) 453 = .ok (.iadd, 1) := by decide +kernel
theorem dL_law_454 : decode (zcc mL_law) 454 = .ok (.iaload, 1) := by decide +kernel
theorem dL_law_455 : decode (zcc mL_law) 455 = .ok (.ifCond .eq 7, 3) := by decide +kernel
theorem dL_law_458 : decode (zcc mL_law) 458 = .ok (.iconst 1, 1) := by decide +kernel
theorem dL_law_459 : decode (zcc mL_law) 459 = .ok (.goto 4, 3) := by decide +kernel
theorem dL_law_462 : decode (zcc mL_law) 462 = .ok (.iconst 0, 1) := by decide +kernel
theorem dL_law_463 : decode (zcc mL_law) 463 = .ok (.invokevirtual 55, 3) := by decide +kernel
theorem dL_law_466 : decode (zcc mL_law) 466 = .ok (.if_icmp .eq 287, 3) := by decide +kernel
theorem dL_law_469 : decode (zcc mL_law) 469 = .ok (.iconst 0, 1) := by decide +kernel
theorem dL_law_470 : decode (zcc mL_law) 470 = .ok (.ireturn, 1) := by decide +kernel
theorem dL_law_471 : decode (zcc mL_law) 471 = .ok (.aload_n 1, 1) := by decide +kernel
theorem dL_law_472 : decode (zcc mL_law) 472 = .ok (.aload_n 0, 1) := by decide +kernel
theorem dL_law_473 : decode (zcc mL_law) 473 = .ok (.iload_n 3, 1) := by decide +kernel
theorem dL_law_474 : decode (zcc mL_law) 474 = .ok (.iconst 1, 1) := by decide +kernel
theorem dL_law_475 : decode (zcc mL_law) 475 = .ok (.iadd, 1) := by decide +kernel
theorem dL_law_476 : decode (zcc mL_law) 476 = .ok (.iaload, 1) := by decide +kernel
theorem dL_law_477 : decode (zcc mL_law) 477 = .ok (.aload_n 0, 1) := by decide +kernel
theorem dL_law_478 : decode (zcc mL_law) 478 = .ok (.iload_n 3, 1) := by decide +kernel
theorem dL_law_479 : decode (zcc mL_law) 479 = .ok (.iconst 2, 1) := by decide +kernel
theorem dL_law_480 : decode (zcc mL_law) 480 = .ok (.iadd, 1) := by decide +kernel
theorem dL_law_481 : decode (zcc mL_law) 481 = .ok (.iaload, 1) := by decide +kernel
theorem dL_law_482 : decode (zcc mL_law) 482 = .ok (.ifCond .eq 7, 3) := by decide +kernel
theorem dL_law_485 : decode (zcc mL_law) 485 = .ok (.iconst 1, 1) := by decide +kernel
theorem dL_law_486 : decode (zcc mL_law) 486 = .ok (.goto 4, 3) := by decide +kernel
theorem dL_law_489 : decode (zcc mL_law) 489 = .ok (.iconst 0, 1) := by decide +kernel
theorem dL_law_490 : decode (zcc mL_law) 490 = .ok (.invokevirtual 56, 3) := by decide +kernel
theorem dL_law_493 : decode (zcc mL_law) 493 = .ok (.aload_n 2, 1) := by decide +kernel
theorem dL_law_494 : decode (zcc mL_law) 494 = .ok (.aload_n 0, 1) := by decide +kernel
theorem dL_law_495 : decode (zcc mL_law) 495 = .ok (.iload_n 3, 1) := by decide +kernel
theorem dL_law_496 : decode (zcc mL_law) 496 = .ok (.iconst 1, 1) := by decide +kernel
theorem dL_law_497 : decode (zcc mL_law) 497 = .ok (.iadd, 1) := by decide +kernel
theorem dL_law_498 : decode (zcc mL_law) 498 = .ok (.iaload, 1) := by decide +kernel
theorem dL_law_499 : decode (zcc mL_law) 499 = .ok (.aload_n 0, 1) := by decide +kernel
theorem dL_law_500 : decode (zcc mL_law) 500 = .ok (.iload_n 3, 1) := by decide +kernel
theorem dL_law_501 : decode (zcc mL_law) 501 = .ok (.iconst 2, 1) := by decide +kernel
theorem dL_law_502 : decode (zcc mL_law) 502 = .ok (.iadd, 1) := by decide +kernel
theorem dL_law_503 : decode (zcc mL_law) 503 = .ok (.iaload, 1) := by decide +kernel
theorem dL_law_504 : decode (zcc mL_law) 504 = .ok (.ifCond .eq 7, 3) := by decide +kernel
theorem dL_law_507 : decode (zcc mL_law) 507 = .ok (.iconst 1, 1) := by decide +kernel
theorem dL_law_508 : decode (zcc mL_law) 508 = .ok (.goto 4, 3) := by decide +kernel
theorem dL_law_511 : decode (zcc mL_law) 511 = .ok (.iconst 0, 1) := by decide +kernel
theorem dL_law_512 : decode (zcc mL_law) 512 = .ok (.invokevirtual 59, 3) := by decide +kernel
theorem dL_law_515 : decode (zcc mL_law) 515 = .ok (.if_icmp .eq 238, 3) := by decide +kernel
theorem dL_law_518 : decode (zcc mL_law) 518 = .ok (.iconst 0, 1) := by decide +kernel
theorem dL_law_519 : decode (zcc mL_law) 519 = .ok (.ireturn, 1) := by decide +kernel
theorem dL_law_520 : decode (zcc mL_law) 520 = .ok (.aload_n 1, 1) := by decide +kernel
theorem dL_law_521 : decode (zcc mL_law) 521 = .ok (.invokevirtual 60, 3) := by decide +kernel
theorem dL_law_524 : decode (zcc mL_law) 524 = .ok (.aload_n 2, 1) := by decide +kernel
theorem dL_law_525 : decode (zcc mL_law) 525 = .ok (.invokevirtual 63, 3) := by decide +kernel
theorem dL_law_528 : decode (zcc mL_law) 528 = .ok (.if_icmp .eq 225, 3) := by decide +kernel
theorem dL_law_531 : decode (zcc mL_law) 531 = .ok (.iconst 0, 1) := by decide +kernel
theorem dL_law_532 : decode (zcc mL_law) 532 = .ok (.ireturn, 1) := by decide +kernel
theorem dL_law_533 : decode (zcc mL_law) 533 = .ok (.aload_n 1, 1) := by decide +kernel
theorem dL_law_534 : decode (zcc mL_law) 534 = .ok (.aload_n 0, 1) := by decide +kernel
theorem dL_law_535 : decode (zcc mL_law) 535 = .ok (.iload_n 3, 1) := by decide +kernel
theorem dL_law_536 : decode (zcc mL_law) 536 = .ok (.iconst 1, 1) := by decide +kernel
theorem dL_law_537 : decode (zcc mL_law) 537 = .ok (.iadd, 1) := by decide +kernel
theorem dL_law_538 : decode (zcc mL_law) 538 = .ok (.iaload, 1) := by decide +kernel
theorem dL_law_539 : decode (zcc mL_law) 539 = .ok (.invokevirtual 64, 3) := by decide +kernel
theorem dL_law_542 : decode (zcc mL_law) 542 = .ok (.aload_n 2, 1) := by decide +kernel
theorem dL_law_543 : decode (zcc mL_law) 543 = .ok (.aload_n 0, 1) := by decide +kernel
theorem dL_law_544 : decode (zcc mL_law) 544 = .ok (.iload_n 3, 1) := by decide +kernel
theorem dL_law_545 : decode (zcc mL_law) 545 = .ok (.iconst 1, 1) := by decide +kernel
theorem dL_law_546 : decode (zcc mL_law) 546 = .ok (.iadd, 1) := by decide +kernel
theorem dL_law_547 : decode (zcc mL_law) 547 = .ok (.iaload, 1) := by decide +kernel
theorem dL_law_548 : decode (zcc mL_law) 548 = .ok (.invokevirtual 67, 3) := by decide +kernel
theorem dL_law_551 : decode (zcc mL_law) 551 = .ok (.if_icmp .eq 202, 3) := by decide +kernel
theorem dL_law_554 : decode (zcc mL_law) 554 = .ok (.iconst 0, 1) := by decide +kernel
theorem dL_law_555 : decode (zcc mL_law) 555 = .ok (.ireturn, 1) := by decide +kernel
theorem dL_law_556 : decode (zcc mL_law) 556 = .ok (.aload_n 1, 1) := by decide +kernel
theorem dL_law_557 : decode (zcc mL_law) 557 = .ok (.invokevirtual 68, 3) := by decide +kernel
theorem dL_law_560 : decode (zcc mL_law) 560 = .ok (.aload_n 2, 1) := by decide +kernel
theorem dL_law_561 : decode (zcc mL_law) 561 = .ok (.invokevirtual 71, 3) := by decide +kernel
theorem dL_law_564 : decode (zcc mL_law) 564 = .ok (.if_icmp .eq 189, 3) := by decide +kernel
theorem dL_law_567 : decode (zcc mL_law) 567 = .ok (.iconst 0, 1) := by decide +kernel
theorem dL_law_568 : decode (zcc mL_law) 568 = .ok (.ireturn, 1) := by decide +kernel
theorem dL_law_569 : decode (zcc mL_law) 569 = .ok (.aload_n 1, 1) := by decide +kernel
theorem dL_law_570 : decode (zcc mL_law) 570 = .ok (.aload_n 0, 1) := by decide +kernel
theorem dL_law_571 : decode (zcc mL_law) 571 = .ok (.iload_n 3, 1) := by decide +kernel
theorem dL_law_572 : decode (zcc mL_law) 572 = .ok (.iconst 1, 1) := by decide +kernel
theorem dL_law_573 : decode (zcc mL_law) 573 = .ok (.iadd, 1) := by decide +kernel
theorem dL_law_574 : decode (zcc mL_law) 574 = .ok (.iaload, 1) := by decide +kernel
theorem dL_law_575 : decode (zcc mL_law) 575 = .ok (.invokevirtual 72, 3) := by decide +kernel
theorem dL_law_578 : decode (zcc mL_law) 578 = .ok (.aload_n 2, 1) := by decide +kernel
theorem dL_law_579 : decode (zcc mL_law) 579 = .ok (.aload_n 0, 1) := by decide +kernel
theorem dL_law_580 : decode (zcc mL_law) 580 = .ok (.iload_n 3, 1) := by decide +kernel
theorem dL_law_581 : decode (zcc mL_law) 581 = .ok (.iconst 1, 1) := by decide +kernel
theorem dL_law_582 : decode (zcc mL_law) 582 = .ok (.iadd, 1) := by decide +kernel
theorem dL_law_583 : decode (zcc mL_law) 583 = .ok (.iaload, 1) := by decide +kernel
theorem dL_law_584 : decode (zcc mL_law) 584 = .ok (.invokevirtual 75, 3) := by decide +kernel
theorem dL_law_587 : decode (zcc mL_law) 587 = .ok (.if_icmp .eq 166, 3) := by decide +kernel
theorem dL_law_590 : decode (zcc mL_law) 590 = .ok (.iconst 0, 1) := by decide +kernel
theorem dL_law_591 : decode (zcc mL_law) 591 = .ok (.ireturn, 1) := by decide +kernel
theorem dL_law_592 : decode (zcc mL_law) 592 = .ok (.aload_n 1, 1) := by decide +kernel
theorem dL_law_593 : decode (zcc mL_law) 593 = .ok (.aload_n 0, 1) := by decide +kernel
theorem dL_law_594 : decode (zcc mL_law) 594 = .ok (.iload_n 3, 1) := by decide +kernel
theorem dL_law_595 : decode (zcc mL_law) 595 = .ok (.iconst 1, 1) := by decide +kernel
theorem dL_law_596 : decode (zcc mL_law) 596 = .ok (.iadd, 1) := by decide +kernel
theorem dL_law_597 : decode (zcc mL_law) 597 = .ok (.iaload, 1) := by decide +kernel
theorem dL_law_598 : decode (zcc mL_law) 598 = .ok (.aload_n 0, 1) := by decide +kernel
theorem dL_law_599 : decode (zcc mL_law) 599 = .ok (.iload_n 3, 1) := by decide +kernel
theorem dL_law_600 : decode (zcc mL_law) 600 = .ok (.iconst 2, 1) := by decide +kernel
theorem dL_law_601 : decode (zcc mL_law) 601 = .ok (.iadd, 1) := by decide +kernel
theorem dL_law_602 : decode (zcc mL_law) 602 = .ok (.iaload, 1) := by decide +kernel
theorem dL_law_603 : decode (zcc mL_law) 603 = .ok (.invokevirtual 76, 3) := by decide +kernel
theorem dL_law_606 : decode (zcc mL_law) 606 = .ok (.aload_n 2, 1) := by decide +kernel
theorem dL_law_607 : decode (zcc mL_law) 607 = .ok (.aload_n 0, 1) := by decide +kernel
theorem dL_law_608 : decode (zcc mL_law) 608 = .ok (.iload_n 3, 1) := by decide +kernel
theorem dL_law_609 : decode (zcc mL_law) 609 = .ok (.iconst 1, 1) := by decide +kernel
theorem dL_law_610 : decode (zcc mL_law) 610 = .ok (.iadd, 1) := by decide +kernel
theorem dL_law_611 : decode (zcc mL_law) 611 = .ok (.iaload, 1) := by decide +kernel
theorem dL_law_612 : decode (zcc mL_law) 612 = .ok (.aload_n 0, 1) := by decide +kernel
theorem dL_law_613 : decode (zcc mL_law) 613 = .ok (.iload_n 3, 1) := by decide +kernel
theorem dL_law_614 : decode (zcc mL_law) 614 = .ok (.iconst 2, 1) := by decide +kernel
theorem dL_law_615 : decode (zcc mL_law) 615 = .ok (.iadd, 1) := by decide +kernel
theorem dL_law_616 : decode (zcc mL_law) 616 = .ok (.iaload, 1) := by decide +kernel
theorem dL_law_617 : decode (zcc mL_law) 617 = .ok (.invokevirtual 79, 3) := by decide +kernel
theorem dL_law_620 : decode (zcc mL_law) 620 = .ok (.if_icmp .eq 133, 3) := by decide +kernel
theorem dL_law_623 : decode (zcc mL_law) 623 = .ok (.iconst 0, 1) := by decide +kernel
theorem dL_law_624 : decode (zcc mL_law) 624 = .ok (.ireturn, 1) := by decide +kernel
theorem dL_law_625 : decode (zcc mL_law) 625 = .ok (.aload_n 1, 1) := by decide +kernel
theorem dL_law_626 : decode (zcc mL_law) 626 = .ok (.aload_n 0, 1) := by decide +kernel
theorem dL_law_627 : decode (zcc mL_law) 627 = .ok (.iload_n 3, 1) := by decide +kernel
theorem dL_law_628 : decode (zcc mL_law) 628 = .ok (.iconst 1, 1) := by decide +kernel
theorem dL_law_629 : decode (zcc mL_law) 629 = .ok (.iadd, 1) := by decide +kernel
theorem dL_law_630 : decode (zcc mL_law) 630 = .ok (.iaload, 1) := by decide +kernel
theorem dL_law_631 : decode (zcc mL_law) 631 = .ok (.invokevirtual 80, 3) := by decide +kernel
theorem dL_law_634 : decode (zcc mL_law) 634 = .ok (.aload_n 2, 1) := by decide +kernel
theorem dL_law_635 : decode (zcc mL_law) 635 = .ok (.aload_n 0, 1) := by decide +kernel
theorem dL_law_636 : decode (zcc mL_law) 636 = .ok (.iload_n 3, 1) := by decide +kernel
theorem dL_law_637 : decode (zcc mL_law) 637 = .ok (.iconst 1, 1) := by decide +kernel
theorem dL_law_638 : decode (zcc mL_law) 638 = .ok (.iadd, 1) := by decide +kernel
theorem dL_law_639 : decode (zcc mL_law) 639 = .ok (.iaload, 1) := by decide +kernel
theorem dL_law_640 : decode (zcc mL_law) 640 = .ok (.invokevirtual 83, 3) := by decide +kernel
theorem dL_law_643 : decode (zcc mL_law) 643 = .ok (.if_icmp .eq 110, 3) := by decide +kernel
theorem dL_law_646 : decode (zcc mL_law) 646 = .ok (.iconst 0, 1) := by decide +kernel
theorem dL_law_647 : decode (zcc mL_law) 647 = .ok (.ireturn, 1) := by decide +kernel
theorem dL_law_648 : decode (zcc mL_law) 648 = .ok (.aload_n 1, 1) := by decide +kernel
theorem dL_law_649 : decode (zcc mL_law) 649 = .ok (.invokevirtual 84, 3) := by decide +kernel
theorem dL_law_652 : decode (zcc mL_law) 652 = .ok (.aload_n 2, 1) := by decide +kernel
theorem dL_law_653 : decode (zcc mL_law) 653 = .ok (.invokevirtual 87, 3) := by decide +kernel
theorem dL_law_656 : decode (zcc mL_law) 656 = .ok (.if_icmp .eq 97, 3) := by decide +kernel
theorem dL_law_659 : decode (zcc mL_law) 659 = .ok (.iconst 0, 1) := by decide +kernel
theorem dL_law_660 : decode (zcc mL_law) 660 = .ok (.ireturn, 1) := by decide +kernel
theorem dL_law_661 : decode (zcc mL_law) 661 = .ok (.aload_n 1, 1) := by decide +kernel
theorem dL_law_662 : decode (zcc mL_law) 662 = .ok (.aload_n 0, 1) := by decide +kernel
theorem dL_law_663 : decode (zcc mL_law) 663 = .ok (.iload_n 3, 1) := by decide +kernel
theorem dL_law_664 : decode (zcc mL_law) 664 = .ok (.iconst 1, 1) := by decide +kernel
theorem dL_law_665 : decode (zcc mL_law) 665 = .ok (.iadd, 1) := by decide +kernel
theorem dL_law_666 : decode (zcc mL_law) 666 = .ok (.iaload, 1) := by decide +kernel
theorem dL_law_667 : decode (zcc mL_law) 667 = .ok (.invokevirtual 88, 3) := by decide +kernel
theorem dL_law_670 : decode (zcc mL_law) 670 = .ok (.aload_n 2, 1) := by decide +kernel
theorem dL_law_671 : decode (zcc mL_law) 671 = .ok (.aload_n 0, 1) := by decide +kernel
theorem dL_law_672 : decode (zcc mL_law) 672 = .ok (.iload_n 3, 1) := by decide +kernel
theorem dL_law_673 : decode (zcc mL_law) 673 = .ok (.iconst 1, 1) := by decide +kernel
theorem dL_law_674 : decode (zcc mL_law) 674 = .ok (.iadd, 1) := by decide +kernel
theorem dL_law_675 : decode (zcc mL_law) 675 = .ok (.iaload, 1) := by decide +kernel
theorem dL_law_676 : decode (zcc mL_law) 676 = .ok (.invokevirtual 91, 3) := by decide +kernel
theorem dL_law_679 : decode (zcc mL_law) 679 = .ok (.if_icmp .eq 74, 3) := by decide +kernel
theorem dL_law_682 : decode (zcc mL_law) 682 = .ok (.iconst 0, 1) := by decide +kernel
theorem dL_law_683 : decode (zcc mL_law) 683 = .ok (.ireturn, 1) := by decide +kernel
theorem dL_law_684 : decode (zcc mL_law) 684 = .ok (.aload_n 1, 1) := by decide +kernel
theorem dL_law_685 : decode (zcc mL_law) 685 = .ok (.invokevirtual 92, 3) := by decide +kernel
theorem dL_law_688 : decode (zcc mL_law) 688 = .ok (.aload_n 2, 1) := by decide +kernel
theorem dL_law_689 : decode (zcc mL_law) 689 = .ok (.invokevirtual 95, 3) := by decide +kernel
theorem dL_law_692 : decode (zcc mL_law) 692 = .ok (.if_icmp .eq 61, 3) := by decide +kernel
theorem dL_law_695 : decode (zcc mL_law) 695 = .ok (.iconst 0, 1) := by decide +kernel
theorem dL_law_696 : decode (zcc mL_law) 696 = .ok (.ireturn, 1) := by decide +kernel
theorem dL_law_697 : decode (zcc mL_law) 697 = .ok (.aload_n 1, 1) := by decide +kernel
theorem dL_law_698 : decode (zcc mL_law) 698 = .ok (.aload_n 0, 1) := by decide +kernel
theorem dL_law_699 : decode (zcc mL_law) 699 = .ok (.iload_n 3, 1) := by decide +kernel
theorem dL_law_700 : decode (zcc mL_law) 700 = .ok (.iconst 1, 1) := by decide +kernel
theorem dL_law_701 : decode (zcc mL_law) 701 = .ok (.iadd, 1) := by decide +kernel
theorem dL_law_702 : decode (zcc mL_law) 702 = .ok (.iaload, 1) := by decide +kernel
theorem dL_law_703 : decode (zcc mL_law) 703 = .ok (.aload_n 0, 1) := by decide +kernel
theorem dL_law_704 : decode (zcc mL_law) 704 = .ok (.iload_n 3, 1) := by decide +kernel
theorem dL_law_705 : decode (zcc mL_law) 705 = .ok (.iconst 2, 1) := by decide +kernel
theorem dL_law_706 : decode (zcc mL_law) 706 = .ok (.iadd, 1) := by decide +kernel
theorem dL_law_707 : decode (zcc mL_law) 707 = .ok (.iaload, 1) := by decide +kernel
theorem dL_law_708 : decode (zcc mL_law) 708 = .ok (.invokevirtual 96, 3) := by decide +kernel
theorem dL_law_711 : decode (zcc mL_law) 711 = .ok (.aload_n 2, 1) := by decide +kernel
theorem dL_law_712 : decode (zcc mL_law) 712 = .ok (.aload_n 0, 1) := by decide +kernel
theorem dL_law_713 : decode (zcc mL_law) 713 = .ok (.iload_n 3, 1) := by decide +kernel
theorem dL_law_714 : decode (zcc mL_law) 714 = .ok (.iconst 1, 1) := by decide +kernel
theorem dL_law_715 : decode (zcc mL_law) 715 = .ok (.iadd, 1) := by decide +kernel
theorem dL_law_716 : decode (zcc mL_law) 716 = .ok (.iaload, 1) := by decide +kernel
theorem dL_law_717 : decode (zcc mL_law) 717 = .ok (.aload_n 0, 1) := by decide +kernel
theorem dL_law_718 : decode (zcc mL_law) 718 = .ok (.iload_n 3, 1) := by decide +kernel
theorem dL_law_719 : decode (zcc mL_law) 719 = .ok (.iconst 2, 1) := by decide +kernel
theorem dL_law_720 : decode (zcc mL_law) 720 = .ok (.iadd, 1) := by decide +kernel
theorem dL_law_721 : decode (zcc mL_law) 721 = .ok (.iaload, 1) := by decide +kernel
theorem dL_law_722 : decode (zcc mL_law) 722 = .ok (.invokevirtual 99, 3) := by decide +kernel
theorem dL_law_725 : decode (zcc mL_law) 725 = .ok (.if_icmp .eq 28, 3) := by decide +kernel
theorem dL_law_728 : decode (zcc mL_law) 728 = .ok (.iconst 0, 1) := by decide +kernel
theorem dL_law_729 : decode (zcc mL_law) 729 = .ok (.ireturn, 1) := by decide +kernel
theorem dL_law_730 : decode (zcc mL_law) 730 = .ok (.aload_n 1, 1) := by decide +kernel
theorem dL_law_731 : decode (zcc mL_law) 731 = .ok (.aload_n 0, 1) := by decide +kernel
theorem dL_law_732 : decode (zcc mL_law) 732 = .ok (.iload_n 3, 1) := by decide +kernel
theorem dL_law_733 : decode (zcc mL_law) 733 = .ok (.iconst 1, 1) := by decide +kernel
theorem dL_law_734 : decode (zcc mL_law) 734 = .ok (.iadd, 1) := by decide +kernel
theorem dL_law_735 : decode (zcc mL_law) 735 = .ok (.iaload, 1) := by decide +kernel
theorem dL_law_736 : decode (zcc mL_law) 736 = .ok (.invokevirtual 100, 3) := by decide +kernel
theorem dL_law_739 : decode (zcc mL_law) 739 = .ok (.aload_n 2, 1) := by decide +kernel
theorem dL_law_740 : decode (zcc mL_law) 740 = .ok (.aload_n 0, 1) := by decide +kernel
theorem dL_law_741 : decode (zcc mL_law) 741 = .ok (.iload_n 3, 1) := by decide +kernel
theorem dL_law_742 : decode (zcc mL_law) 742 = .ok (.iconst 1, 1) := by decide +kernel
theorem dL_law_743 : decode (zcc mL_law) 743 = .ok (.iadd, 1) := by decide +kernel
theorem dL_law_744 : decode (zcc mL_law) 744 = .ok (.iaload, 1) := by decide +kernel
theorem dL_law_745 : decode (zcc mL_law) 745 = .ok (.invokevirtual 103, 3) := by decide +kernel
theorem dL_law_748 : decode (zcc mL_law) 748 = .ok (.if_icmp .eq 5, 3) := by decide +kernel
theorem dL_law_751 : decode (zcc mL_law) 751 = .ok (.iconst 0, 1) := by decide +kernel
theorem dL_law_752 : decode (zcc mL_law) 752 = .ok (.ireturn, 1) := by decide +kernel
theorem dL_law_753 : decode (zcc mL_law) 753 = .ok (.iinc 3 6, 3) := by decide +kernel
theorem dL_law_756 : decode (zcc mL_law) 756 = .ok (.goto (-738), 3) := by decide +kernel
theorem dL_law_759 : decode (zcc mL_law) 759 = .ok (.iconst 1, 1) := by decide +kernel
theorem dL_law_760 : decode (zcc mL_law) 760 = .ok (.ireturn, 1) := by decide +kernel
end
section
/-! THE SHAPE OF THE HEAP behind the constructors: a kind K, an index i; the numbers in it are sg K i slot (32 bits), ta K i slot (64 bits) -/
abbrev zI : Type := Nat → Nat → Nat → Int32
abbrev zJ : Type := Nat → Nat → Nat → Int64
def zIds : List (Nat × Nat) := [(0, 0), (1, 0), (2, 0), (3, 0), (4, 0), (5, 0), (6, 0), (3, 1), (4, 1), (5, 1), (6, 1), (7, 0), (8, 0), (9, 0), (10, 0), (11, 12), (12, 12), (13, 0), (14, 0), (13, 1), (14, 1), (13, 2), (14, 2), (13, 3), (14, 3), (11, 0), (12, 0), (11, 1), (12, 1), (11, 2), (12, 2), (11, 3), (12, 3), (11, 4), (12, 4), (11, 5), (12, 5), (11, 6), (12, 6), (11, 7), (12, 7), (11, 8), (12, 8), (11, 9), (12, 9), (11, 10), (12, 10), (11, 11), (12, 11), (15, 0), (16, 0), (15, 1), (16, 1), (15, 2), (16, 2), (17, 0), (18, 0), (19, 0), (17, 1), (18, 1), (19, 1), (17, 2), (18, 2), (19, 2), (17, 3), (18, 3), (19, 3), (17, 4), (18, 4), (19, 4), (17, 5), (18, 5), (19, 5), (17, 6), (18, 6), (19, 6), (17, 7), (18, 7), (19, 7), (17, 8), (18, 8), (19, 8), (17, 9), (18, 9), (19, 9), (20, 0), (21, 0), (22, 0), (23, 0), (24, 0), (25, 0), (26, 0), (27, 0), (28, 0), (29, 0), (30, 0), (31, 0), (32, 0), (33, 0), (34, 0), (35, 0), (36, 0), (37, 0), (38, 0), (39, 0), (40, 0), (41, 0), (42, 0), (43, 0)]
def zdec (k : Nat) : Nat × Nat := zIds.getD (k - 1) (99, 0)
def cnt (K : Nat) : Nat := ([1, 1, 1, 2, 2, 2, 2, 1, 1, 1, 1, 13, 13, 4, 4, 3, 3, 10, 10, 10, 1, 1, 1, 1, 1, 1, 1, 1, 1, 1, 1, 1, 1, 1, 1, 1, 1, 1, 1, 1, 1, 1, 1, 1] : List Nat).getD K 0
def nm (K i : Nat) : Nat := match K with
  | 0 => 1
  | 1 => 2
  | 2 => 3
  | 3 => 4 + 4 * i
  | 4 => 5 + 4 * i
  | 5 => 6 + 4 * i
  | 6 => 7 + 4 * i
  | 7 => 12
  | 8 => 13
  | 9 => 14
  | 10 => 15
  | 11 => if i = 12 then 16 else 26 + 2 * i
  | 12 => if i = 12 then 17 else 27 + 2 * i
  | 13 => 18 + 2 * i
  | 14 => 19 + 2 * i
  | 15 => 50 + 2 * i
  | 16 => 51 + 2 * i
  | 17 => 56 + 3 * i
  | 18 => 57 + 3 * i
  | 19 => 58 + 3 * i
  | K => 66 + K
def shp (K i : Nat) (r : Nat → Int32) (q : Nat → Int64) : zE := match K with
  | 0 => .inr (7, [.ref (nm 1 0), .ref (nm 3 0), .ref (nm 3 1), .ref (nm 7 0), .ref (nm 8 0), .ref (nm 9 0), .ref (nm 10 0), .int (r 7), .int (r 8), .int (r 9), .int (r 10), .int (r 11), .int (r 12)])
  | 1 => .inr (4, [.ref (nm 2 0), .int (r 1), .int (r 2), .int (r 3)])
  | 2 => .inl (0, 4, .inl r)
  | 3 => .inr (6, [.ref (nm 1 0), .ref (nm 4 i), .ref (nm 5 i), .ref (nm 6 i), .int (r 4), .int (r 5), .int (r 6)])
  | 4 => .inl (0, 4, .inl r)
  | 5 => .inl (0, 4, .inl r)
  | 6 => .inl (0, 20, .inl r)
  | 7 => .inl (3, 12, .inr (.inr (.inr (.inr (fun j => if j < 12 then some (nm 11 j) else none)))))
  | 8 => .inl (4, 3, .inr (.inr (.inr (.inr (fun j => if j < 3 then some (nm 15 j) else none)))))
  | 9 => .inl (5, 10, .inr (.inr (.inr (.inr (fun j => if j < 10 then some (nm 17 j) else none)))))
  | 10 => .inr (1, [.ref (nm 7 0), .ref (nm 8 0), .ref (nm 11 12), .ref (nm 13 0), .ref (nm 13 1), .ref (nm 13 2), .ref (nm 13 3)])
  | 11 => .inr (5, [.ref (nm 12 i), .int (r 1)])
  | 12 => .inl (0, 6, .inl r)
  | 13 => .inr (3, [.ref (nm 14 i), .int (r 1)])
  | 14 => .inl (0, 30, .inl r)
  | 15 => .inr (2, [.ref (nm 16 i), .int (r 1), .int (r 2)])
  | 16 => .inl (0, 18, .inl r)
  | 17 => .inr (0, [.ref (nm 18 i), .ref (nm 19 i), .int (r 2), .int (r 3), .int (r 4), .int (r 5), .int (r 6), .int (r 7), .int (r 8)])
  | 18 => .inl (1, 125, .inr (.inl q))
  | 19 => .inl (1, 125, .inr (.inl q))
  | 20 => .inr (8, [.int (r 0), .int (r 1), .ref (nm 21 0), .int (r 3), .int (r 4), .ref (nm 22 0), .ref (nm 23 0), .int (r 7), .ref (nm 24 0), .ref (nm 25 0), .ref (nm 26 0), .int (r 11), .ref (nm 27 0), .ref (nm 28 0), .ref (nm 29 0), .ref (nm 30 0), .ref (nm 31 0), .ref (nm 32 0), .ref (nm 33 0), .int (r 19), .ref (nm 34 0), .ref (nm 35 0), .int (r 22), .ref (nm 36 0), .ref (nm 37 0), .ref (nm 38 0), .ref (nm 39 0), .ref (nm 40 0), .ref (nm 41 0), .int (r 29), .ref (nm 42 0), .ref (nm 43 0)])
  | 21 => .inl (0, 4, .inl r)
  | 22 => .inl (0, 12, .inl r)
  | 23 => .inl (0, 72, .inl r)
  | 24 => .inl (0, 3, .inl r)
  | 25 => .inl (0, 54, .inl r)
  | 26 => .inl (2, 18, .inl r)
  | 27 => .inl (0, 10, .inl r)
  | 28 => .inl (0, 10, .inl r)
  | 29 => .inl (0, 10, .inl r)
  | 30 => .inl (0, 10, .inl r)
  | 31 => .inl (0, 10, .inl r)
  | 32 => .inl (2, 10, .inl r)
  | 33 => .inl (2, 10, .inl r)
  | 34 => .inl (0, 4, .inl r)
  | 35 => .inl (0, 20, .inl r)
  | 36 => .inl (2, 10, .inl r)
  | 37 => .inl (0, 4, .inl r)
  | 38 => .inl (0, 20, .inl r)
  | 39 => .inl (0, 128, .inl r)
  | 40 => .inl (0, 4, .inl r)
  | 41 => .inl (0, 64, .inl r)
  | 42 => .inl (2, 10, .inl r)
  | 43 => .inl (0, 36, .inl r)
  | _ => .inl (0, 0, .inl (fun _ => 0))
theorem sh_0 (i : Nat) (r : Nat → Int32) (q : Nat → Int64) : shp 0 i r q = .inr (7, [.ref (nm 1 0), .ref (nm 3 0), .ref (nm 3 1), .ref (nm 7 0), .ref (nm 8 0), .ref (nm 9 0), .ref (nm 10 0), .int (r 7), .int (r 8), .int (r 9), .int (r 10), .int (r 11), .int (r 12)]) := rfl
theorem sh_1 (i : Nat) (r : Nat → Int32) (q : Nat → Int64) : shp 1 i r q = .inr (4, [.ref (nm 2 0), .int (r 1), .int (r 2), .int (r 3)]) := rfl
theorem sh_2 (i : Nat) (r : Nat → Int32) (q : Nat → Int64) : shp 2 i r q = .inl (0, 4, .inl r) := rfl
theorem sh_3 (i : Nat) (r : Nat → Int32) (q : Nat → Int64) : shp 3 i r q = .inr (6, [.ref (nm 1 0), .ref (nm 4 i), .ref (nm 5 i), .ref (nm 6 i), .int (r 4), .int (r 5), .int (r 6)]) := rfl
theorem sh_4 (i : Nat) (r : Nat → Int32) (q : Nat → Int64) : shp 4 i r q = .inl (0, 4, .inl r) := rfl
theorem sh_5 (i : Nat) (r : Nat → Int32) (q : Nat → Int64) : shp 5 i r q = .inl (0, 4, .inl r) := rfl
theorem sh_6 (i : Nat) (r : Nat → Int32) (q : Nat → Int64) : shp 6 i r q = .inl (0, 20, .inl r) := rfl
theorem sh_7 (i : Nat) (r : Nat → Int32) (q : Nat → Int64) : shp 7 i r q = .inl (3, 12, .inr (.inr (.inr (.inr (fun j => if j < 12 then some (nm 11 j) else none))))) := rfl
theorem sh_8 (i : Nat) (r : Nat → Int32) (q : Nat → Int64) : shp 8 i r q = .inl (4, 3, .inr (.inr (.inr (.inr (fun j => if j < 3 then some (nm 15 j) else none))))) := rfl
theorem sh_9 (i : Nat) (r : Nat → Int32) (q : Nat → Int64) : shp 9 i r q = .inl (5, 10, .inr (.inr (.inr (.inr (fun j => if j < 10 then some (nm 17 j) else none))))) := rfl
theorem sh_10 (i : Nat) (r : Nat → Int32) (q : Nat → Int64) : shp 10 i r q = .inr (1, [.ref (nm 7 0), .ref (nm 8 0), .ref (nm 11 12), .ref (nm 13 0), .ref (nm 13 1), .ref (nm 13 2), .ref (nm 13 3)]) := rfl
theorem sh_11 (i : Nat) (r : Nat → Int32) (q : Nat → Int64) : shp 11 i r q = .inr (5, [.ref (nm 12 i), .int (r 1)]) := rfl
theorem sh_12 (i : Nat) (r : Nat → Int32) (q : Nat → Int64) : shp 12 i r q = .inl (0, 6, .inl r) := rfl
theorem sh_13 (i : Nat) (r : Nat → Int32) (q : Nat → Int64) : shp 13 i r q = .inr (3, [.ref (nm 14 i), .int (r 1)]) := rfl
theorem sh_14 (i : Nat) (r : Nat → Int32) (q : Nat → Int64) : shp 14 i r q = .inl (0, 30, .inl r) := rfl
theorem sh_15 (i : Nat) (r : Nat → Int32) (q : Nat → Int64) : shp 15 i r q = .inr (2, [.ref (nm 16 i), .int (r 1), .int (r 2)]) := rfl
theorem sh_16 (i : Nat) (r : Nat → Int32) (q : Nat → Int64) : shp 16 i r q = .inl (0, 18, .inl r) := rfl
theorem sh_17 (i : Nat) (r : Nat → Int32) (q : Nat → Int64) : shp 17 i r q = .inr (0, [.ref (nm 18 i), .ref (nm 19 i), .int (r 2), .int (r 3), .int (r 4), .int (r 5), .int (r 6), .int (r 7), .int (r 8)]) := rfl
theorem sh_18 (i : Nat) (r : Nat → Int32) (q : Nat → Int64) : shp 18 i r q = .inl (1, 125, .inr (.inl q)) := rfl
theorem sh_19 (i : Nat) (r : Nat → Int32) (q : Nat → Int64) : shp 19 i r q = .inl (1, 125, .inr (.inl q)) := rfl
theorem sh_20 (i : Nat) (r : Nat → Int32) (q : Nat → Int64) : shp 20 i r q = .inr (8, [.int (r 0), .int (r 1), .ref (nm 21 0), .int (r 3), .int (r 4), .ref (nm 22 0), .ref (nm 23 0), .int (r 7), .ref (nm 24 0), .ref (nm 25 0), .ref (nm 26 0), .int (r 11), .ref (nm 27 0), .ref (nm 28 0), .ref (nm 29 0), .ref (nm 30 0), .ref (nm 31 0), .ref (nm 32 0), .ref (nm 33 0), .int (r 19), .ref (nm 34 0), .ref (nm 35 0), .int (r 22), .ref (nm 36 0), .ref (nm 37 0), .ref (nm 38 0), .ref (nm 39 0), .ref (nm 40 0), .ref (nm 41 0), .int (r 29), .ref (nm 42 0), .ref (nm 43 0)]) := rfl
theorem sh_21 (i : Nat) (r : Nat → Int32) (q : Nat → Int64) : shp 21 i r q = .inl (0, 4, .inl r) := rfl
theorem sh_22 (i : Nat) (r : Nat → Int32) (q : Nat → Int64) : shp 22 i r q = .inl (0, 12, .inl r) := rfl
theorem sh_23 (i : Nat) (r : Nat → Int32) (q : Nat → Int64) : shp 23 i r q = .inl (0, 72, .inl r) := rfl
theorem sh_24 (i : Nat) (r : Nat → Int32) (q : Nat → Int64) : shp 24 i r q = .inl (0, 3, .inl r) := rfl
theorem sh_25 (i : Nat) (r : Nat → Int32) (q : Nat → Int64) : shp 25 i r q = .inl (0, 54, .inl r) := rfl
theorem sh_26 (i : Nat) (r : Nat → Int32) (q : Nat → Int64) : shp 26 i r q = .inl (2, 18, .inl r) := rfl
theorem sh_27 (i : Nat) (r : Nat → Int32) (q : Nat → Int64) : shp 27 i r q = .inl (0, 10, .inl r) := rfl
theorem sh_28 (i : Nat) (r : Nat → Int32) (q : Nat → Int64) : shp 28 i r q = .inl (0, 10, .inl r) := rfl
theorem sh_29 (i : Nat) (r : Nat → Int32) (q : Nat → Int64) : shp 29 i r q = .inl (0, 10, .inl r) := rfl
theorem sh_30 (i : Nat) (r : Nat → Int32) (q : Nat → Int64) : shp 30 i r q = .inl (0, 10, .inl r) := rfl
theorem sh_31 (i : Nat) (r : Nat → Int32) (q : Nat → Int64) : shp 31 i r q = .inl (0, 10, .inl r) := rfl
theorem sh_32 (i : Nat) (r : Nat → Int32) (q : Nat → Int64) : shp 32 i r q = .inl (2, 10, .inl r) := rfl
theorem sh_33 (i : Nat) (r : Nat → Int32) (q : Nat → Int64) : shp 33 i r q = .inl (2, 10, .inl r) := rfl
theorem sh_34 (i : Nat) (r : Nat → Int32) (q : Nat → Int64) : shp 34 i r q = .inl (0, 4, .inl r) := rfl
theorem sh_35 (i : Nat) (r : Nat → Int32) (q : Nat → Int64) : shp 35 i r q = .inl (0, 20, .inl r) := rfl
theorem sh_36 (i : Nat) (r : Nat → Int32) (q : Nat → Int64) : shp 36 i r q = .inl (2, 10, .inl r) := rfl
theorem sh_37 (i : Nat) (r : Nat → Int32) (q : Nat → Int64) : shp 37 i r q = .inl (0, 4, .inl r) := rfl
theorem sh_38 (i : Nat) (r : Nat → Int32) (q : Nat → Int64) : shp 38 i r q = .inl (0, 20, .inl r) := rfl
theorem sh_39 (i : Nat) (r : Nat → Int32) (q : Nat → Int64) : shp 39 i r q = .inl (0, 128, .inl r) := rfl
theorem sh_40 (i : Nat) (r : Nat → Int32) (q : Nat → Int64) : shp 40 i r q = .inl (0, 4, .inl r) := rfl
theorem sh_41 (i : Nat) (r : Nat → Int32) (q : Nat → Int64) : shp 41 i r q = .inl (0, 64, .inl r) := rfl
theorem sh_42 (i : Nat) (r : Nat → Int32) (q : Nat → Int64) : shp 42 i r q = .inl (2, 10, .inl r) := rfl
theorem sh_43 (i : Nat) (r : Nat → Int32) (q : Nat → Int64) : shp 43 i r q = .inl (0, 36, .inl r) := rfl
def mk (sg : zI) (ta : zJ) (k : Nat) : zE := shp (zdec k).1 (zdec k).2 (sg (zdec k).1 (zdec k).2) (ta (zdec k).1 (zdec k).2)
theorem zdec_nm0 : ∀ K, K < 44 → ∀ i, i < cnt K → zdec (nm K i) = (K, i) ∧ 1 ≤ nm K i ∧ nm K i ≤ 109 := by decide +kernel
theorem cnt_lt {K i : Nat} (h : i < cnt K) : K < 44 := by
  by_cases hK : K < 44
  · exact hK
  · exfalso
    unfold cnt at h
    rw [List.getD_eq_getElem?_getD, List.getElem?_eq_none (by simp; omega)] at h
    simp at h
theorem zdec_nm {K i : Nat} (h : i < cnt K) : zdec (nm K i) = (K, i) := (zdec_nm0 K (cnt_lt h) i h).1
theorem nm_in {K i : Nat} (h : i < cnt K) : 1 ≤ nm K i ∧ nm K i ≤ 109 := (zdec_nm0 K (cnt_lt h) i h).2
theorem zdec_inj0 : ∀ k, k < 110 → 1 ≤ k → nm (zdec k).1 (zdec k).2 = k := by decide +kernel
theorem mk_nm {sg : zI} {ta : zJ} {K i : Nat} (h : i < cnt K) : mk sg ta (nm K i) = shp K i (sg K i) (ta K i) := by
  unfold mk
  rw [zdec_nm h]
def up3 (sg : zI) (K i j : Nat) (x : Int32) : zI := fun K' i' => if K' = K ∧ i' = i then upd (sg K i) j x else sg K' i'
def up3l (ta : zJ) (K i j : Nat) (x : Int64) : zJ := fun K' i' => if K' = K ∧ i' = i then vp_updL (ta K i) j x else ta K' i'
theorem up3_row (sg : zI) (K i j : Nat) (x : Int32) : up3 sg K i j x K i = upd (sg K i) j x := by simp [up3]
theorem up3l_row (ta : zJ) (K i j : Nat) (x : Int64) : up3l ta K i j x K i = vp_updL (ta K i) j x := by simp [up3l]
theorem up3_off {sg : zI} {K i j : Nat} {x : Int32} {K' i' : Nat} (h : ¬ (K' = K ∧ i' = i)) : up3 sg K i j x K' i' = sg K' i' := by simp [up3, h]
theorem up3l_off {ta : zJ} {K i j : Nat} {x : Int64} {K' i' : Nat} (h : ¬ (K' = K ∧ i' = i)) : up3l ta K i j x K' i' = ta K' i' := by simp [up3l, h]
theorem up3_get (sg : zI) (K i j : Nat) (x : Int32) (K' i' j' : Nat) : up3 sg K i j x K' i' j' = if K' = K ∧ i' = i ∧ j' = j then x else sg K' i' j' := by
  by_cases h : K' = K ∧ i' = i
  · obtain ⟨rfl, rfl⟩ := h
    by_cases hj : j' = j
    · subst hj; simp [up3, upd]
    · simp [up3, upd, hj]
  · have h2 : ¬ (K' = K ∧ i' = i ∧ j' = j) := fun q => h ⟨q.1, q.2.1⟩
    simp [up3, h, h2]
theorem up3l_get (ta : zJ) (K i j : Nat) (x : Int64) (K' i' j' : Nat) : up3l ta K i j x K' i' j' = if K' = K ∧ i' = i ∧ j' = j then x else ta K' i' j' := by
  by_cases h : K' = K ∧ i' = i
  · obtain ⟨rfl, rfl⟩ := h
    by_cases hj : j' = j
    · subst hj; simp [up3l, vp_updL]
    · simp [up3l, vp_updL, hj]
  · have h2 : ¬ (K' = K ∧ i' = i ∧ j' = j) := fun q => h ⟨q.1, q.2.1⟩
    simp [up3l, h, h2]
/-- another heap function that is the shape within the numbers -/
def zSame (g g' : Nat → zE) : Prop := ∀ k, k < 109 → g (k + 1) = g' (k + 1)
theorem mk_up {sg sg' : zI} {ta ta' : zJ} {K i : Nat} {e : zE} (h : i < cnt K) (he : shp K i (sg' K i) (ta' K i) = e) (h1 : ∀ K' i', ¬ (K' = K ∧ i' = i) → sg' K' i' = sg K' i') (h2 : ∀ K' i', ¬ (K' = K ∧ i' = i) → ta' K' i' = ta K' i') : zSame (va_up (mk sg ta) (nm K i) e) (mk sg' ta') := by
  intro k hk
  by_cases hkn : k + 1 = nm K i
  · rw [hkn, mk_nm h, he]
    simp [va_up]
  · have hd : ¬ ((zdec (k + 1)).1 = K ∧ (zdec (k + 1)).2 = i) := fun q => hkn (by
      have := zdec_inj0 (k + 1) (by omega) (by omega)
      rw [q.1, q.2] at this
      exact this.symm)
    show (if k + 1 = nm K i then e else mk sg ta (k + 1)) = _
    rw [if_neg hkn]
    unfold mk
    rw [h1 _ _ hd, h2 _ _ hd]
theorem z_get {M : zM} {d : Nat} {sc : zS} {mc ms : Nat} {Q : zQ} {cells slots : Nat} {sg : zI} {ta : zJ} {pc : Nat} {lv : List (Option Value)} {st : List Value} {K i : Nat} {idx ci : Nat} {fs : List Value} {CC : String} {T : u_T} {n : Nat} {v : Value} (j : Nat) (hd : decode (zcc M) pc = .ok (.getfield idx, 3)) (hi : i < cnt K) (he : shp K i (sg K i) (ta K i) = .inr (ci, fs)) (hc : vwCl[ci]? = some (CC, T, n)) (hj : j < n) (hl : Cond.fieldLink (zown M) idx (T j).1 (T j).2.1 (T j).2.2.1 ∈ TB) (hv : fs[j]? = some v) (kk : Wq M d sc mc ms Q cells slots 109 (mk sg ta) (pc + 3) lv (v :: st)) : Wq M d sc mc ms Q cells slots 109 (mk sg ta) pc lv (.ref (nm K i) :: st) :=
  q_get j hd ((mk_nm hi).trans he) (nm_in hi).1 (nm_in hi).2 hc hj hl hv kk
theorem z_puti {M : zM} {d : Nat} {sc : zS} {mc ms : Nat} {Q : zQ} {cells slots : Nat} {sg : zI} {ta : zJ} {pc : Nat} {lv : List (Option Value)} {st : List Value} {K i : Nat} {idx ci : Nat} {fs : List Value} {CC : String} {T : u_T} {n : Nat} {x : Int32} (j : Nat) (hd : decode (zcc M) pc = .ok (.putfield idx, 3)) (hi : i < cnt K) (he : shp K i (sg K i) (ta K i) = .inr (ci, fs)) (hc : vwCl[ci]? = some (CC, T, n)) (hj : j < n) (hl : Cond.fieldLink (zown M) idx (T j).1 (T j).2.1 (T j).2.2.1 ∈ TB) (hfin : (T j).2.2.2 = false) (hty : parseFieldDescriptor (T j).2.2.1 = some .int) (hlen : j < fs.length) (he2 : shp K i (upd (sg K i) j x) (ta K i) = .inr (ci, fs.set j (.int x))) (kk : Wq M d sc mc ms Q cells slots 109 (mk (up3 sg K i j x) ta) (pc + 3) lv st) : Wq M d sc mc ms Q cells slots 109 (mk sg ta) pc lv (.int x :: .ref (nm K i) :: st) :=
  q_puti j hd ((mk_nm hi).trans he) (nm_in hi).1 (nm_in hi).2 hc hj hl hfin hty hlen (q_congr (mk_up hi (by rw [up3_row]; exact he2) (fun K' i' h => up3_off h) (fun _ _ _ => rfl)) kk)
theorem z_putz {M : zM} {d : Nat} {sc : zS} {mc ms : Nat} {Q : zQ} {cells slots : Nat} {sg : zI} {ta : zJ} {pc : Nat} {lv : List (Option Value)} {st : List Value} {K i : Nat} {idx ci : Nat} {fs : List Value} {CC : String} {T : u_T} {n : Nat} {x : Int32} (j : Nat) (hd : decode (zcc M) pc = .ok (.putfield idx, 3)) (hi : i < cnt K) (he : shp K i (sg K i) (ta K i) = .inr (ci, fs)) (hc : vwCl[ci]? = some (CC, T, n)) (hj : j < n) (hl : Cond.fieldLink (zown M) idx (T j).1 (T j).2.1 (T j).2.2.1 ∈ TB) (hfin : (T j).2.2.2 = false) (hty : parseFieldDescriptor (T j).2.2.1 = some .boolean) (hlen : j < fs.length) (h01 : x = 0 ∨ x = 1) (he2 : shp K i (upd (sg K i) j x) (ta K i) = .inr (ci, fs.set j (.int x))) (kk : Wq M d sc mc ms Q cells slots 109 (mk (up3 sg K i j x) ta) (pc + 3) lv st) : Wq M d sc mc ms Q cells slots 109 (mk sg ta) pc lv (.int x :: .ref (nm K i) :: st) :=
  q_putz j hd ((mk_nm hi).trans he) (nm_in hi).1 (nm_in hi).2 hc hj hl hfin hty hlen h01 (q_congr (mk_up hi (by rw [up3_row]; exact he2) (fun K' i' h => up3_off h) (fun _ _ _ => rfl)) kk)
theorem z_iald {M : zM} {d : Nat} {sc : zS} {mc ms : Nat} {Q : zQ} {cells slots : Nat} {sg : zI} {ta : zJ} {pc : Nat} {lv : List (Option Value)} {st : List Value} {K i : Nat} {n : Nat} {x : Int32} (hd : decode (zcc M) pc = .ok (.iaload, 1)) (hi : i < cnt K) (he : shp K i (sg K i) (ta K i) = .inl (0, n, .inl (sg K i))) (hin : vp_in x n) (kk : Wq M d sc mc ms Q cells slots 109 (mk sg ta) (pc + 1) lv (.int (sg K i x.toNatClampNeg) :: st)) : Wq M d sc mc ms Q cells slots 109 (mk sg ta) pc lv (.int x :: .ref (nm K i) :: st) :=
  q_iald hd ((mk_nm hi).trans he) (nm_in hi).1 (nm_in hi).2 hin kk
theorem z_zald {M : zM} {d : Nat} {sc : zS} {mc ms : Nat} {Q : zQ} {cells slots : Nat} {sg : zI} {ta : zJ} {pc : Nat} {lv : List (Option Value)} {st : List Value} {K i : Nat} {n : Nat} {x : Int32} (hd : decode (zcc M) pc = .ok (.baload, 1)) (hi : i < cnt K) (he : shp K i (sg K i) (ta K i) = .inl (2, n, .inl (sg K i))) (hin : vp_in x n) (kk : Wq M d sc mc ms Q cells slots 109 (mk sg ta) (pc + 1) lv (.int (sg K i x.toNatClampNeg) :: st)) : Wq M d sc mc ms Q cells slots 109 (mk sg ta) pc lv (.int x :: .ref (nm K i) :: st) :=
  q_zald hd ((mk_nm hi).trans he) (nm_in hi).1 (nm_in hi).2 hin kk
theorem z_lald {M : zM} {d : Nat} {sc : zS} {mc ms : Nat} {Q : zQ} {cells slots : Nat} {sg : zI} {ta : zJ} {pc : Nat} {lv : List (Option Value)} {st : List Value} {K i : Nat} {n : Nat} {x : Int32} (hd : decode (zcc M) pc = .ok (.laload, 1)) (hi : i < cnt K) (he : shp K i (sg K i) (ta K i) = .inl (1, n, .inr (.inl (ta K i)))) (hin : vp_in x n) (kk : Wq M d sc mc ms Q cells slots 109 (mk sg ta) (pc + 1) lv (.long (ta K i x.toNatClampNeg) :: st)) : Wq M d sc mc ms Q cells slots 109 (mk sg ta) pc lv (.int x :: .ref (nm K i) :: st) :=
  q_lald hd ((mk_nm hi).trans he) (nm_in hi).1 (nm_in hi).2 hin kk
theorem z_aald {M : zM} {d : Nat} {sc : zS} {mc ms : Nat} {Q : zQ} {cells slots : Nat} {sg : zI} {ta : zJ} {pc : Nat} {lv : List (Option Value)} {st : List Value} {K i : Nat} {n t : Nat} {C0 : String} {f : Nat → Option Nat} {x : Int32} {kv : Nat} (hd : decode (zcc M) pc = .ok (.aaload, 1)) (hi : i < cnt K) (he : shp K i (sg K i) (ta K i) = .inl (t, n, .inr (.inr (.inr (.inr f))))) (ht : ∀ cA : Nat → ClassId, (zTys cA)[t]? = some (cA t, .object C0)) (hin : vp_in x n) (hf : f x.toNatClampNeg = some kv) (kk : Wq M d sc mc ms Q cells slots 109 (mk sg ta) (pc + 1) lv (.ref kv :: st)) : Wq M d sc mc ms Q cells slots 109 (mk sg ta) pc lv (.int x :: .ref (nm K i) :: st) :=
  q_aald hd ((mk_nm hi).trans he) (nm_in hi).1 (nm_in hi).2 ht hin hf kk
theorem z_alen {M : zM} {d : Nat} {sc : zS} {mc ms : Nat} {Q : zQ} {cells slots : Nat} {sg : zI} {ta : zJ} {pc : Nat} {lv : List (Option Value)} {st : List Value} {K i : Nat} {t : Nat} {a : vp_A} {ty : FieldType} {v : Int32} (hd : decode (zcc M) pc = .ok (.arraylength, 1)) (hi : i < cnt K) (he : shp K i (sg K i) (ta K i) = .inl (t, a)) (ht : ∀ cA : Nat → ClassId, (zTys cA)[t]? = some (cA t, ty)) (hv : Int32.ofNat a.1 = v) (kk : Wq M d sc mc ms Q cells slots 109 (mk sg ta) (pc + 1) lv (.int v :: st)) : Wq M d sc mc ms Q cells slots 109 (mk sg ta) pc lv (.ref (nm K i) :: st) :=
  q_alen hd ((mk_nm hi).trans he) (nm_in hi).1 (nm_in hi).2 ht hv kk
theorem z_iast {M : zM} {d : Nat} {sc : zS} {mc ms : Nat} {Q : zQ} {cells slots : Nat} {sg : zI} {ta : zJ} {pc : Nat} {lv : List (Option Value)} {st : List Value} {K i : Nat} {n : Nat} {x y : Int32} (hd : decode (zcc M) pc = .ok (.iastore, 1)) (hi : i < cnt K) (he : ∀ r q, shp K i r q = .inl (0, n, .inl r)) (hin : vp_in x n) (kk : Wq M d sc mc ms Q cells slots 109 (mk (up3 sg K i x.toNatClampNeg y) ta) (pc + 1) lv st) : Wq M d sc mc ms Q cells slots 109 (mk sg ta) pc lv (.int y :: .int x :: .ref (nm K i) :: st) :=
  q_iast hd ((mk_nm hi).trans (he _ _)) (nm_in hi).1 (nm_in hi).2 hin (q_congr (mk_up hi (by rw [up3_row]; exact he _ _) (fun K' i' h => up3_off h) (fun _ _ _ => rfl)) kk)
theorem z_zast {M : zM} {d : Nat} {sc : zS} {mc ms : Nat} {Q : zQ} {cells slots : Nat} {sg : zI} {ta : zJ} {pc : Nat} {lv : List (Option Value)} {st : List Value} {K i : Nat} {n : Nat} {x y : Int32} (hd : decode (zcc M) pc = .ok (.bastore, 1)) (hi : i < cnt K) (he : ∀ r q, shp K i r q = .inl (2, n, .inl r)) (hin : vp_in x n) (h01 : y = 0 ∨ y = 1) (kk : Wq M d sc mc ms Q cells slots 109 (mk (up3 sg K i x.toNatClampNeg y) ta) (pc + 1) lv st) : Wq M d sc mc ms Q cells slots 109 (mk sg ta) pc lv (.int y :: .int x :: .ref (nm K i) :: st) :=
  q_zast hd ((mk_nm hi).trans (he _ _)) (nm_in hi).1 (nm_in hi).2 hin h01 (q_congr (mk_up hi (by rw [up3_row]; exact he _ _) (fun K' i' h => up3_off h) (fun _ _ _ => rfl)) kk)
theorem z_last {M : zM} {d : Nat} {sc : zS} {mc ms : Nat} {Q : zQ} {cells slots : Nat} {sg : zI} {ta : zJ} {pc : Nat} {lv : List (Option Value)} {st : List Value} {K i : Nat} {n : Nat} {x : Int32} {y : Int64} (hd : decode (zcc M) pc = .ok (.lastore, 1)) (hi : i < cnt K) (he : ∀ r q, shp K i r q = .inl (1, n, .inr (.inl q))) (hin : vp_in x n) (kk : Wq M d sc mc ms Q cells slots 109 (mk sg (up3l ta K i x.toNatClampNeg y)) (pc + 1) lv st) : Wq M d sc mc ms Q cells slots 109 (mk sg ta) pc lv (.long y :: .int x :: .ref (nm K i) :: st) :=
  q_last hd ((mk_nm hi).trans (he _ _)) (nm_in hi).1 (nm_in hi).2 hin (q_congr (mk_up hi (by rw [up3l_row]; exact he _ _) (fun _ _ _ => rfl) (fun K' i' h => up3l_off h)) kk)
/-! contracts over the shape -/
abbrev zPost : Type := Option Value → zI → zJ → Prop
def zQ2 (P : zPost) : zQ := fun v N g => N = 109 ∧ ∃ (sg : zI) (ta : zJ), g = mk sg ta ∧ P v sg ta
def zP (y : MethodName) (M : zM) (d : Nat) (args : List Value) (sg : zI) (ta : zJ) (P : zPost) : Prop := zC y M d 0 0 args 109 (mk sg ta) (zQ2 P)
abbrev Zq (M : zM) (d : Nat) (P : zPost) (sg : zI) (ta : zJ) (pc : Nat) (lv : List (Option Value)) (st : List Value) : Prop := Wq M d none 0 0 (zQ2 P) 0 0 109 (mk sg ta) pc lv st
theorem zP_of {y : MethodName} {M : zM} {d : Nat} {args : List Value} {sg : zI} {ta : zJ} {P : zPost} {lv : List (Option Value)} (hy : plainName y.cls = true) (ho : zown M = y.cls) (hi : zini M = true → y.name = "<init>") (hlv : zent (znl M) args = lv) (hlen : (zargs args).length ≤ znl M) (h : Zq M d P sg ta 0 lv []) : zP y M d args sg ta P := zC_of hy ho hi hlv hlen h
theorem z_iret {M : zM} {d : Nat} {P : zPost} {sg : zI} {ta : zJ} {pc : Nat} {lv : List (Option Value)} {x : Int32} (hd : decode (zcc M) pc = .ok (.ireturn, 1)) (hr : zret M = some .int) (hp : P (some (.int x)) sg ta) : Zq M d P sg ta pc lv [.int x] := q_ret (v := some (.int x)) ⟨rfl, sg, ta, rfl, hp⟩ ⟨hd, Or.inl hr⟩ (Nat.le_refl _) (Nat.le_refl _)
theorem z_zret {M : zM} {d : Nat} {P : zPost} {sg : zI} {ta : zJ} {pc : Nat} {lv : List (Option Value)} {x : Int32} (hd : decode (zcc M) pc = .ok (.ireturn, 1)) (hr : zret M = some .boolean) (h01 : x = 0 ∨ x = 1) (hp : P (some (.int x)) sg ta) : Zq M d P sg ta pc lv [.int x] := q_ret (v := some (.int x)) ⟨rfl, sg, ta, rfl, hp⟩ ⟨hd, Or.inr ⟨hr, h01⟩⟩ (Nat.le_refl _) (Nat.le_refl _)
theorem z_lret {M : zM} {d : Nat} {P : zPost} {sg : zI} {ta : zJ} {pc : Nat} {lv : List (Option Value)} {x : Int64} (hd : decode (zcc M) pc = .ok (.lreturn, 1)) (hr : zret M = some .long) (hp : P (some (.long x)) sg ta) : Zq M d P sg ta pc lv [.long x] := q_ret (v := some (.long x)) ⟨rfl, sg, ta, rfl, hp⟩ ⟨hd, hr⟩ (Nat.le_refl _) (Nat.le_refl _)
theorem z_vret {M : zM} {d : Nat} {P : zPost} {sg : zI} {ta : zJ} {pc : Nat} {lv : List (Option Value)} (hd : decode (zcc M) pc = .ok (.return_, 1)) (hr : zret M = none) (hp : P none sg ta) : Zq M d P sg ta pc lv [] := q_ret (v := none) ⟨rfl, sg, ta, rfl, hp⟩ ⟨hd, hr⟩ (Nat.le_refl _) (Nat.le_refl _)
theorem z_aret {M : zM} {d : Nat} {P : zPost} {sg : zI} {ta : zJ} {pc : Nat} {lv : List (Option Value)} {k : Nat} {n : String} (hd : decode (zcc M) pc = .ok (.areturn, 1)) (hr : zret M = some (.object n)) (hp : P (some (.ref k)) sg ta) : Zq M d P sg ta pc lv [.ref k] := q_ret (v := some (.ref k)) ⟨rfl, sg, ta, rfl, hp⟩ ⟨hd, n, hr⟩ (Nat.le_refl _) (Nat.le_refl _)
theorem z_nret {M : zM} {d : Nat} {P : zPost} {sg : zI} {ta : zJ} {pc : Nat} {lv : List (Option Value)} {n : String} (hd : decode (zcc M) pc = .ok (.areturn, 1)) (hr : zret M = some (.object n)) (hp : P (some .null) sg ta) : Zq M d P sg ta pc lv [.null] := q_ret (v := some .null) ⟨rfl, sg, ta, rfl, hp⟩ ⟨hd, n, hr⟩ (Nat.le_refl _) (Nat.le_refl _)
theorem z_callV {M : zM} {d : Nat} {sc : zS} {mc ms : Nat} {Q : zQ} {cells slots : Nat} {sg : zI} {ta : zJ} {pc : Nat} {lv : List (Option Value)} {st : List Value} {st0 : List Value} {idx d1 n1 K i ci n : Nat} {y : MethodName} {M1 : zM} {P1 : zPost} {As fs : List Value} {CC : String} {T : u_T} (hM : zP y M1 d1 (.ref (nm K i) :: As) sg ta P1) (hl : zLV (zown M) idx y M1 n1) (hd : decode (zcc M) pc = .ok (.invokevirtual idx, 3)) (hi : i < cnt K) (he : shp K i (sg K i) (ta K i) = .inr (ci, fs)) (hc : vwCl[ci]? = some (CC, T, n)) (hcy : CC = y.cls) (hn : As.length = n1) (hdd : d1 + 1 ≤ d) (hst : (st.map fun v => v.category).sum ≤ 8) (hcl : cells ≤ mc) (hsl : slots ≤ ms) (hs0 : st0 = As.reverse ++ .ref (nm K i) :: st) (kk : ∀ (v : Option Value) (sg2 : zI) (ta2 : zJ), P1 v sg2 ta2 → Wq M d sc mc ms Q cells slots 109 (mk sg2 ta2) (pc + 3) lv (v.toList ++ st)) : Wq M d sc mc ms Q cells slots 109 (mk sg ta) pc lv st0 :=
  q_callV hM hl hd ((mk_nm hi).trans he) (nm_in hi).1 (nm_in hi).2 hc hcy hn hdd hst hcl hsl hs0 (fun v N2 g2 h => by
    obtain ⟨rfl, sg2, ta2, rfl, hp⟩ := h
    exact kk v sg2 ta2 hp)
theorem z_callS {M : zM} {d : Nat} {sc : zS} {mc ms : Nat} {Q : zQ} {cells slots : Nat} {sg : zI} {ta : zJ} {pc : Nat} {lv : List (Option Value)} {st : List Value} {st0 : List Value} {idx d1 n1 : Nat} {y : MethodName} {M1 : zM} {P1 : zPost} {As : List Value} (hM : zP y M1 d1 As sg ta P1) (hl : zLS (zown M) idx y M1 n1) (hd : decode (zcc M) pc = .ok (.invokestatic idx, 3)) (hn : As.length = n1) (hdd : d1 + 1 ≤ d) (hst : (st.map fun v => v.category).sum ≤ 8) (hcl : cells ≤ mc) (hsl : slots ≤ ms) (hs0 : st0 = As.reverse ++ st) (kk : ∀ (v : Option Value) (sg2 : zI) (ta2 : zJ), P1 v sg2 ta2 → Wq M d sc mc ms Q cells slots 109 (mk sg2 ta2) (pc + 3) lv (v.toList ++ st)) : Wq M d sc mc ms Q cells slots 109 (mk sg ta) pc lv st0 :=
  q_callS hM hl hd hn hdd hst hcl hsl hs0 (fun v N2 g2 h => by
    obtain ⟨rfl, sg2, ta2, rfl, hp⟩ := h
    exact kk v sg2 ta2 hp)
end
section
/-! call sites, by the tables -/
theorem pfI : parseFieldDescriptor "I" = some .int := by decide +kernel
theorem pfZ : parseFieldDescriptor "Z" = some .boolean := by decide +kernel
theorem pd_yX7_init : yX7_init.cls ≠ "java/lang/invoke/MethodHandle" ∧ yX7_init.cls ≠ "java/lang/invoke/VarHandle" ∧ (parseMethodDescriptor yX7_init.desc).map (fun d => d.parameters.length) = some 0 := ⟨by decide +kernel, by decide +kernel, by decide +kernel⟩
theorem pn_yX7_init : plainName yX7_init.cls = true := by decide +kernel
theorem kI_L_9 : zLI RL 9 yX7_init mX7_init 0 := ⟨⟨ml_L_9, in_RX7, co_yX7_init, pd_yX7_init, Nat.le_of_ble_eq_true rfl⟩, im_yX7_init, rfl, rfl⟩
theorem pd_yX6_init : yX6_init.cls ≠ "java/lang/invoke/MethodHandle" ∧ yX6_init.cls ≠ "java/lang/invoke/VarHandle" ∧ (parseMethodDescriptor yX6_init.desc).map (fun d => d.parameters.length) = some 1 := ⟨by decide +kernel, by decide +kernel, by decide +kernel⟩
theorem pn_yX6_init : plainName yX6_init.cls = true := by decide +kernel
theorem kI_X7_18 : zLI RX7 18 yX6_init mX6_init 1 := ⟨⟨ml_X7_18, in_RX6, co_yX6_init, pd_yX6_init, Nat.le_of_ble_eq_true rfl⟩, im_yX6_init, rfl, rfl⟩
theorem pd_yX1_init : yX1_init.cls ≠ "java/lang/invoke/MethodHandle" ∧ yX1_init.cls ≠ "java/lang/invoke/VarHandle" ∧ (parseMethodDescriptor yX1_init.desc).map (fun d => d.parameters.length) = some 2 := ⟨by decide +kernel, by decide +kernel, by decide +kernel⟩
theorem pn_yX1_init : plainName yX1_init.cls = true := by decide +kernel
theorem kI_X7_48 : zLI RX7 48 yX1_init mX1_init 2 := ⟨⟨ml_X7_48, in_RX1, co_yX1_init, pd_yX1_init, Nat.le_of_ble_eq_true rfl⟩, im_yX1_init, rfl, rfl⟩
theorem pd_yX8_init : yX8_init.cls ≠ "java/lang/invoke/MethodHandle" ∧ yX8_init.cls ≠ "java/lang/invoke/VarHandle" ∧ (parseMethodDescriptor yX8_init.desc).map (fun d => d.parameters.length) = some 0 := ⟨by decide +kernel, by decide +kernel, by decide +kernel⟩
theorem pn_yX8_init : plainName yX8_init.cls = true := by decide +kernel
theorem kI_L_12 : zLI RL 12 yX8_init mX8_init 0 := ⟨⟨ml_L_12, in_RX8, co_yX8_init, pd_yX8_init, Nat.le_of_ble_eq_true rfl⟩, im_yX8_init, rfl, rfl⟩
theorem pd_yX7_clear : yX7_clear.cls ≠ "java/lang/invoke/MethodHandle" ∧ yX7_clear.cls ≠ "java/lang/invoke/VarHandle" ∧ (parseMethodDescriptor yX7_clear.desc).map (fun d => d.parameters.length) = some 1 := ⟨by decide +kernel, by decide +kernel, by decide +kernel⟩
theorem pn_yX7_clear : plainName yX7_clear.cls = true := by decide +kernel
theorem kV_L_13 : zLV RL 13 yX7_clear mX7_clear 1 := ⟨⟨ml_L_13, in_RX7, co_yX7_clear, pd_yX7_clear, Nat.le_of_ble_eq_true rfl⟩, im_yX7_clear, se_yX7_clear⟩
theorem pd_yX4_restart : yX4_restart.cls ≠ "java/lang/invoke/MethodHandle" ∧ yX4_restart.cls ≠ "java/lang/invoke/VarHandle" ∧ (parseMethodDescriptor yX4_restart.desc).map (fun d => d.parameters.length) = some 1 := ⟨by decide +kernel, by decide +kernel, by decide +kernel⟩
theorem pn_yX4_restart : plainName yX4_restart.cls = true := by decide +kernel
theorem kV_X7_62 : zLV RX7 62 yX4_restart mX4_restart 1 := ⟨⟨ml_X7_62, in_RX4, co_yX4_restart, pd_yX4_restart, Nat.le_of_ble_eq_true rfl⟩, im_yX4_restart, se_yX4_restart⟩
theorem pd_yX7_dropWays : yX7_dropWays.cls ≠ "java/lang/invoke/MethodHandle" ∧ yX7_dropWays.cls ≠ "java/lang/invoke/VarHandle" ∧ (parseMethodDescriptor yX7_dropWays.desc).map (fun d => d.parameters.length) = some 0 := ⟨by decide +kernel, by decide +kernel, by decide +kernel⟩
theorem pn_yX7_dropWays : plainName yX7_dropWays.cls = true := by decide +kernel
theorem kV_X7_72 : zLV RX7 72 yX7_dropWays mX7_dropWays 0 := ⟨⟨ml_X7_72, in_RX7, co_yX7_dropWays, pd_yX7_dropWays, Nat.le_of_ble_eq_true rfl⟩, im_yX7_dropWays, se_yX7_dropWays⟩
theorem pd_yX6_restart : yX6_restart.cls ≠ "java/lang/invoke/MethodHandle" ∧ yX6_restart.cls ≠ "java/lang/invoke/VarHandle" ∧ (parseMethodDescriptor yX6_restart.desc).map (fun d => d.parameters.length) = some 0 := ⟨by decide +kernel, by decide +kernel, by decide +kernel⟩
theorem pn_yX6_restart : plainName yX6_restart.cls = true := by decide +kernel
theorem kV_X7_208 : zLV RX7 208 yX6_restart mX6_restart 0 := ⟨⟨ml_X7_208, in_RX6, co_yX6_restart, pd_yX6_restart, Nat.le_of_ble_eq_true rfl⟩, im_yX6_restart, se_yX6_restart⟩
theorem pd_yJ7_fill_53178 : yJ7_fill_53178.cls ≠ "java/lang/invoke/MethodHandle" ∧ yJ7_fill_53178.cls ≠ "java/lang/invoke/VarHandle" ∧ (parseMethodDescriptor yJ7_fill_53178.desc).map (fun d => d.parameters.length) = some 2 := ⟨by decide +kernel, by decide +kernel, by decide +kernel⟩
theorem pn_yJ7_fill_53178 : plainName yJ7_fill_53178.cls = true := by decide +kernel
theorem kS_X6_29 : zLS RX6 29 yJ7_fill_53178 mJ7_fill_53178 2 := ⟨⟨ml_X6_29, in_RJ7, co_yJ7_fill_53178, pd_yJ7_fill_53178, Nat.le_of_ble_eq_true rfl⟩, st_yJ7_fill_53178⟩
theorem pd_yX6_layOut : yX6_layOut.cls ≠ "java/lang/invoke/MethodHandle" ∧ yX6_layOut.cls ≠ "java/lang/invoke/VarHandle" ∧ (parseMethodDescriptor yX6_layOut.desc).map (fun d => d.parameters.length) = some 0 := ⟨by decide +kernel, by decide +kernel, by decide +kernel⟩
theorem pn_yX6_layOut : plainName yX6_layOut.cls = true := by decide +kernel
theorem kV_X6_38 : zLV RX6 38 yX6_layOut mX6_layOut 0 := ⟨⟨ml_X6_38, in_RX6, co_yX6_layOut, pd_yX6_layOut, Nat.le_of_ble_eq_true rfl⟩, im_yX6_layOut, se_yX6_layOut⟩
theorem pd_yX0_forget : yX0_forget.cls ≠ "java/lang/invoke/MethodHandle" ∧ yX0_forget.cls ≠ "java/lang/invoke/VarHandle" ∧ (parseMethodDescriptor yX0_forget.desc).map (fun d => d.parameters.length) = some 0 := ⟨by decide +kernel, by decide +kernel, by decide +kernel⟩
theorem pn_yX0_forget : plainName yX0_forget.cls = true := by decide +kernel
theorem kV_X7_104 : zLV RX7 104 yX0_forget mX0_forget 0 := ⟨⟨ml_X7_104, in_RX0, co_yX0_forget, pd_yX0_forget, Nat.le_of_ble_eq_true rfl⟩, im_yX0_forget, se_yX0_forget⟩
theorem pd_yJ7_fill_d0a16 : yJ7_fill_d0a16.cls ≠ "java/lang/invoke/MethodHandle" ∧ yJ7_fill_d0a16.cls ≠ "java/lang/invoke/VarHandle" ∧ (parseMethodDescriptor yJ7_fill_d0a16.desc).map (fun d => d.parameters.length) = some 2 := ⟨by decide +kernel, by decide +kernel, by decide +kernel⟩
theorem pn_yJ7_fill_d0a16 : plainName yJ7_fill_d0a16.cls = true := by decide +kernel
theorem kS_X0_44 : zLS RX0 44 yJ7_fill_d0a16 mJ7_fill_d0a16 2 := ⟨⟨ml_X0_44, in_RJ7, co_yJ7_fill_d0a16, pd_yJ7_fill_d0a16, Nat.le_of_ble_eq_true rfl⟩, st_yJ7_fill_d0a16⟩
theorem pd_yX7_dropFindings : yX7_dropFindings.cls ≠ "java/lang/invoke/MethodHandle" ∧ yX7_dropFindings.cls ≠ "java/lang/invoke/VarHandle" ∧ (parseMethodDescriptor yX7_dropFindings.desc).map (fun d => d.parameters.length) = some 0 := ⟨by decide +kernel, by decide +kernel, by decide +kernel⟩
theorem pn_yX7_dropFindings : plainName yX7_dropFindings.cls = true := by decide +kernel
theorem kV_X7_75 : zLV RX7 75 yX7_dropFindings mX7_dropFindings 0 := ⟨⟨ml_X7_75, in_RX7, co_yX7_dropFindings, pd_yX7_dropFindings, Nat.le_of_ble_eq_true rfl⟩, im_yX7_dropFindings, se_yX7_dropFindings⟩
theorem pd_yX8_clear : yX8_clear.cls ≠ "java/lang/invoke/MethodHandle" ∧ yX8_clear.cls ≠ "java/lang/invoke/VarHandle" ∧ (parseMethodDescriptor yX8_clear.desc).map (fun d => d.parameters.length) = some 1 := ⟨by decide +kernel, by decide +kernel, by decide +kernel⟩
theorem pn_yX8_clear : plainName yX8_clear.cls = true := by decide +kernel
theorem kV_L_17 : zLV RL 17 yX8_clear mX8_clear 1 := ⟨⟨ml_L_17, in_RX8, co_yX8_clear, pd_yX8_clear, Nat.le_of_ble_eq_true rfl⟩, im_yX8_clear, se_yX8_clear⟩
theorem pd_yX8_in : yX8_in.cls ≠ "java/lang/invoke/MethodHandle" ∧ yX8_in.cls ≠ "java/lang/invoke/VarHandle" ∧ (parseMethodDescriptor yX8_in.desc).map (fun d => d.parameters.length) = some 3 := ⟨by decide +kernel, by decide +kernel, by decide +kernel⟩
theorem pn_yX8_in : plainName yX8_in.cls = true := by decide +kernel
theorem kS_X8_94 : zLS RX8 94 yX8_in mX8_in 3 := ⟨⟨ml_X8_94, in_RX8, co_yX8_in, pd_yX8_in, Nat.le_of_ble_eq_true rfl⟩, st_yX8_in⟩
theorem pd_yX8_changed : yX8_changed.cls ≠ "java/lang/invoke/MethodHandle" ∧ yX8_changed.cls ≠ "java/lang/invoke/VarHandle" ∧ (parseMethodDescriptor yX8_changed.desc).map (fun d => d.parameters.length) = some 0 := ⟨by decide +kernel, by decide +kernel, by decide +kernel⟩
theorem pn_yX8_changed : plainName yX8_changed.cls = true := by decide +kernel
theorem kV_X8_110 : zLV RX8 110 yX8_changed mX8_changed 0 := ⟨⟨ml_X8_110, in_RX8, co_yX8_changed, pd_yX8_changed, Nat.le_of_ble_eq_true rfl⟩, im_yX8_changed, se_yX8_changed⟩
theorem pd_yX7_text : yX7_text.cls ≠ "java/lang/invoke/MethodHandle" ∧ yX7_text.cls ≠ "java/lang/invoke/VarHandle" ∧ (parseMethodDescriptor yX7_text.desc).map (fun d => d.parameters.length) = some 1 := ⟨by decide +kernel, by decide +kernel, by decide +kernel⟩
theorem pn_yX7_text : plainName yX7_text.cls = true := by decide +kernel
theorem kV_L_18 : zLV RL 18 yX7_text mX7_text 1 := ⟨⟨ml_L_18, in_RX7, co_yX7_text, pd_yX7_text, Nat.le_of_ble_eq_true rfl⟩, im_yX7_text, se_yX7_text⟩
theorem pd_yX4_hasRoomFor : yX4_hasRoomFor.cls ≠ "java/lang/invoke/MethodHandle" ∧ yX4_hasRoomFor.cls ≠ "java/lang/invoke/VarHandle" ∧ (parseMethodDescriptor yX4_hasRoomFor.desc).map (fun d => d.parameters.length) = some 1 := ⟨by decide +kernel, by decide +kernel, by decide +kernel⟩
theorem pn_yX4_hasRoomFor : plainName yX4_hasRoomFor.cls = true := by decide +kernel
theorem kV_X7_78 : zLV RX7 78 yX4_hasRoomFor mX4_hasRoomFor 1 := ⟨⟨ml_X7_78, in_RX4, co_yX4_hasRoomFor, pd_yX4_hasRoomFor, Nat.le_of_ble_eq_true rfl⟩, im_yX4_hasRoomFor, se_yX4_hasRoomFor⟩
theorem pd_yX4_rowsUpTo : yX4_rowsUpTo.cls ≠ "java/lang/invoke/MethodHandle" ∧ yX4_rowsUpTo.cls ≠ "java/lang/invoke/VarHandle" ∧ (parseMethodDescriptor yX4_rowsUpTo.desc).map (fun d => d.parameters.length) = some 1 := ⟨by decide +kernel, by decide +kernel, by decide +kernel⟩
theorem pn_yX4_rowsUpTo : plainName yX4_rowsUpTo.cls = true := by decide +kernel
theorem kV_X4_25 : zLV RX4 25 yX4_rowsUpTo mX4_rowsUpTo 1 := ⟨⟨ml_X4_25, in_RX4, co_yX4_rowsUpTo, pd_yX4_rowsUpTo, Nat.le_of_ble_eq_true rfl⟩, im_yX4_rowsUpTo, se_yX4_rowsUpTo⟩
theorem pd_yX4_add : yX4_add.cls ≠ "java/lang/invoke/MethodHandle" ∧ yX4_add.cls ≠ "java/lang/invoke/VarHandle" ∧ (parseMethodDescriptor yX4_add.desc).map (fun d => d.parameters.length) = some 1 := ⟨by decide +kernel, by decide +kernel, by decide +kernel⟩
theorem pn_yX4_add : plainName yX4_add.cls = true := by decide +kernel
theorem kV_X7_82 : zLV RX7 82 yX4_add mX4_add 1 := ⟨⟨ml_X7_82, in_RX4, co_yX4_add, pd_yX4_add, Nat.le_of_ble_eq_true rfl⟩, im_yX4_add, se_yX4_add⟩
theorem pd_yX8_text : yX8_text.cls ≠ "java/lang/invoke/MethodHandle" ∧ yX8_text.cls ≠ "java/lang/invoke/VarHandle" ∧ (parseMethodDescriptor yX8_text.desc).map (fun d => d.parameters.length) = some 1 := ⟨by decide +kernel, by decide +kernel, by decide +kernel⟩
theorem pn_yX8_text : plainName yX8_text.cls = true := by decide +kernel
theorem kV_L_21 : zLV RL 21 yX8_text mX8_text 1 := ⟨⟨ml_L_21, in_RX8, co_yX8_text, pd_yX8_text, Nat.le_of_ble_eq_true rfl⟩, im_yX8_text, se_yX8_text⟩
theorem pd_yX7_term : yX7_term.cls ≠ "java/lang/invoke/MethodHandle" ∧ yX7_term.cls ≠ "java/lang/invoke/VarHandle" ∧ (parseMethodDescriptor yX7_term.desc).map (fun d => d.parameters.length) = some 0 := ⟨by decide +kernel, by decide +kernel, by decide +kernel⟩
theorem pn_yX7_term : plainName yX7_term.cls = true := by decide +kernel
theorem kV_L_22 : zLV RL 22 yX7_term mX7_term 0 := ⟨⟨ml_L_22, in_RX7, co_yX7_term, pd_yX7_term, Nat.le_of_ble_eq_true rfl⟩, im_yX7_term, se_yX7_term⟩
theorem pd_yX5_restart : yX5_restart.cls ≠ "java/lang/invoke/MethodHandle" ∧ yX5_restart.cls ≠ "java/lang/invoke/VarHandle" ∧ (parseMethodDescriptor yX5_restart.desc).map (fun d => d.parameters.length) = some 0 := ⟨by decide +kernel, by decide +kernel, by decide +kernel⟩
theorem pn_yX5_restart : plainName yX5_restart.cls = true := by decide +kernel
theorem kV_X7_88 : zLV RX7 88 yX5_restart mX5_restart 0 := ⟨⟨ml_X7_88, in_RX5, co_yX5_restart, pd_yX5_restart, Nat.le_of_ble_eq_true rfl⟩, im_yX5_restart, se_yX5_restart⟩
theorem pd_yX8_term : yX8_term.cls ≠ "java/lang/invoke/MethodHandle" ∧ yX8_term.cls ≠ "java/lang/invoke/VarHandle" ∧ (parseMethodDescriptor yX8_term.desc).map (fun d => d.parameters.length) = some 0 := ⟨by decide +kernel, by decide +kernel, by decide +kernel⟩
theorem pn_yX8_term : plainName yX8_term.cls = true := by decide +kernel
theorem kV_L_26 : zLV RL 26 yX8_term mX8_term 0 := ⟨⟨ml_L_26, in_RX8, co_yX8_term, pd_yX8_term, Nat.le_of_ble_eq_true rfl⟩, im_yX8_term, se_yX8_term⟩
theorem pd_yX7_part : yX7_part.cls ≠ "java/lang/invoke/MethodHandle" ∧ yX7_part.cls ≠ "java/lang/invoke/VarHandle" ∧ (parseMethodDescriptor yX7_part.desc).map (fun d => d.parameters.length) = some 2 := ⟨by decide +kernel, by decide +kernel, by decide +kernel⟩
theorem pn_yX7_part : plainName yX7_part.cls = true := by decide +kernel
theorem kV_L_27 : zLV RL 27 yX7_part mX7_part 2 := ⟨⟨ml_L_27, in_RX7, co_yX7_part, pd_yX7_part, Nat.le_of_ble_eq_true rfl⟩, im_yX7_part, se_yX7_part⟩
theorem pd_yX7_isTerm : yX7_isTerm.cls ≠ "java/lang/invoke/MethodHandle" ∧ yX7_isTerm.cls ≠ "java/lang/invoke/VarHandle" ∧ (parseMethodDescriptor yX7_isTerm.desc).map (fun d => d.parameters.length) = some 1 := ⟨by decide +kernel, by decide +kernel, by decide +kernel⟩
theorem pn_yX7_isTerm : plainName yX7_isTerm.cls = true := by decide +kernel
theorem kV_X7_90 : zLV RX7 90 yX7_isTerm mX7_isTerm 1 := ⟨⟨ml_X7_90, in_RX7, co_yX7_isTerm, pd_yX7_isTerm, Nat.le_of_ble_eq_true rfl⟩, im_yX7_isTerm, se_yX7_isTerm⟩
theorem pd_yX4_isLetter : yX4_isLetter.cls ≠ "java/lang/invoke/MethodHandle" ∧ yX4_isLetter.cls ≠ "java/lang/invoke/VarHandle" ∧ (parseMethodDescriptor yX4_isLetter.desc).map (fun d => d.parameters.length) = some 1 := ⟨by decide +kernel, by decide +kernel, by decide +kernel⟩
theorem pn_yX4_isLetter : plainName yX4_isLetter.cls = true := by decide +kernel
theorem kV_X7_93 : zLV RX7 93 yX4_isLetter mX4_isLetter 1 := ⟨⟨ml_X7_93, in_RX4, co_yX4_isLetter, pd_yX4_isLetter, Nat.le_of_ble_eq_true rfl⟩, im_yX4_isLetter, se_yX4_isLetter⟩
theorem pd_yX4_isText : yX4_isText.cls ≠ "java/lang/invoke/MethodHandle" ∧ yX4_isText.cls ≠ "java/lang/invoke/VarHandle" ∧ (parseMethodDescriptor yX4_isText.desc).map (fun d => d.parameters.length) = some 1 := ⟨by decide +kernel, by decide +kernel, by decide +kernel⟩
theorem pn_yX4_isText : plainName yX4_isText.cls = true := by decide +kernel
theorem kV_X7_96 : zLV RX7 96 yX4_isText mX4_isText 1 := ⟨⟨ml_X7_96, in_RX4, co_yX4_isText, pd_yX4_isText, Nat.le_of_ble_eq_true rfl⟩, im_yX4_isText, se_yX4_isText⟩
theorem pd_yX5_add : yX5_add.cls ≠ "java/lang/invoke/MethodHandle" ∧ yX5_add.cls ≠ "java/lang/invoke/VarHandle" ∧ (parseMethodDescriptor yX5_add.desc).map (fun d => d.parameters.length) = some 1 := ⟨by decide +kernel, by decide +kernel, by decide +kernel⟩
theorem pn_yX5_add : plainName yX5_add.cls = true := by decide +kernel
theorem kV_X7_99 : zLV RX7 99 yX5_add mX5_add 1 := ⟨⟨ml_X7_99, in_RX5, co_yX5_add, pd_yX5_add, Nat.le_of_ble_eq_true rfl⟩, im_yX5_add, se_yX5_add⟩
theorem pd_yX0_isAboutTerm : yX0_isAboutTerm.cls ≠ "java/lang/invoke/MethodHandle" ∧ yX0_isAboutTerm.cls ≠ "java/lang/invoke/VarHandle" ∧ (parseMethodDescriptor yX0_isAboutTerm.desc).map (fun d => d.parameters.length) = some 1 := ⟨by decide +kernel, by decide +kernel, by decide +kernel⟩
theorem pn_yX0_isAboutTerm : plainName yX0_isAboutTerm.cls = true := by decide +kernel
theorem kV_X7_101 : zLV RX7 101 yX0_isAboutTerm mX0_isAboutTerm 1 := ⟨⟨ml_X7_101, in_RX0, co_yX0_isAboutTerm, pd_yX0_isAboutTerm, Nat.le_of_ble_eq_true rfl⟩, im_yX0_isAboutTerm, se_yX0_isAboutTerm⟩
theorem pd_yX0_hasSecondTerm : yX0_hasSecondTerm.cls ≠ "java/lang/invoke/MethodHandle" ∧ yX0_hasSecondTerm.cls ≠ "java/lang/invoke/VarHandle" ∧ (parseMethodDescriptor yX0_hasSecondTerm.desc).map (fun d => d.parameters.length) = some 0 := ⟨by decide +kernel, by decide +kernel, by decide +kernel⟩
theorem pn_yX0_hasSecondTerm : plainName yX0_hasSecondTerm.cls = true := by decide +kernel
theorem kV_X0_56 : zLV RX0 56 yX0_hasSecondTerm mX0_hasSecondTerm 0 := ⟨⟨ml_X0_56, in_RX0, co_yX0_hasSecondTerm, pd_yX0_hasSecondTerm, Nat.le_of_ble_eq_true rfl⟩, im_yX0_hasSecondTerm, se_yX0_hasSecondTerm⟩
theorem pd_yX8_part : yX8_part.cls ≠ "java/lang/invoke/MethodHandle" ∧ yX8_part.cls ≠ "java/lang/invoke/VarHandle" ∧ (parseMethodDescriptor yX8_part.desc).map (fun d => d.parameters.length) = some 2 := ⟨by decide +kernel, by decide +kernel, by decide +kernel⟩
theorem pn_yX8_part : plainName yX8_part.cls = true := by decide +kernel
theorem kV_L_31 : zLV RL 31 yX8_part mX8_part 2 := ⟨⟨ml_L_31, in_RX8, co_yX8_part, pd_yX8_part, Nat.le_of_ble_eq_true rfl⟩, im_yX8_part, se_yX8_part⟩
theorem pd_yX7_machine : yX7_machine.cls ≠ "java/lang/invoke/MethodHandle" ∧ yX7_machine.cls ≠ "java/lang/invoke/VarHandle" ∧ (parseMethodDescriptor yX7_machine.desc).map (fun d => d.parameters.length) = some 1 := ⟨by decide +kernel, by decide +kernel, by decide +kernel⟩
theorem pn_yX7_machine : plainName yX7_machine.cls = true := by decide +kernel
theorem kV_L_32 : zLV RL 32 yX7_machine mX7_machine 1 := ⟨⟨ml_L_32, in_RX7, co_yX7_machine, pd_yX7_machine, Nat.le_of_ble_eq_true rfl⟩, im_yX7_machine, se_yX7_machine⟩
theorem pd_yX2_restart : yX2_restart.cls ≠ "java/lang/invoke/MethodHandle" ∧ yX2_restart.cls ≠ "java/lang/invoke/VarHandle" ∧ (parseMethodDescriptor yX2_restart.desc).map (fun d => d.parameters.length) = some 1 := ⟨by decide +kernel, by decide +kernel, by decide +kernel⟩
theorem pn_yX2_restart : plainName yX2_restart.cls = true := by decide +kernel
theorem kV_X7_110 : zLV RX7 110 yX2_restart mX2_restart 1 := ⟨⟨ml_X7_110, in_RX2, co_yX2_restart, pd_yX2_restart, Nat.le_of_ble_eq_true rfl⟩, im_yX2_restart, se_yX2_restart⟩
theorem kS_X2_22 : zLS RX2 22 yJ7_fill_53178 mJ7_fill_53178 2 := ⟨⟨ml_X2_22, in_RJ7, co_yJ7_fill_53178, pd_yJ7_fill_53178, Nat.le_of_ble_eq_true rfl⟩, st_yJ7_fill_53178⟩
theorem pd_yX8_machine : yX8_machine.cls ≠ "java/lang/invoke/MethodHandle" ∧ yX8_machine.cls ≠ "java/lang/invoke/VarHandle" ∧ (parseMethodDescriptor yX8_machine.desc).map (fun d => d.parameters.length) = some 1 := ⟨by decide +kernel, by decide +kernel, by decide +kernel⟩
theorem pn_yX8_machine : plainName yX8_machine.cls = true := by decide +kernel
theorem kV_L_35 : zLV RL 35 yX8_machine mX8_machine 1 := ⟨⟨ml_L_35, in_RX8, co_yX8_machine, pd_yX8_machine, Nat.le_of_ble_eq_true rfl⟩, im_yX8_machine, se_yX8_machine⟩
theorem pd_yX7_step : yX7_step.cls ≠ "java/lang/invoke/MethodHandle" ∧ yX7_step.cls ≠ "java/lang/invoke/VarHandle" ∧ (parseMethodDescriptor yX7_step.desc).map (fun d => d.parameters.length) = some 4 := ⟨by decide +kernel, by decide +kernel, by decide +kernel⟩
theorem pn_yX7_step : plainName yX7_step.cls = true := by decide +kernel
theorem kV_L_36 : zLV RL 36 yX7_step mX7_step 4 := ⟨⟨ml_L_36, in_RX7, co_yX7_step, pd_yX7_step, Nat.le_of_ble_eq_true rfl⟩, im_yX7_step, se_yX7_step⟩
theorem pd_yX7_isMachine : yX7_isMachine.cls ≠ "java/lang/invoke/MethodHandle" ∧ yX7_isMachine.cls ≠ "java/lang/invoke/VarHandle" ∧ (parseMethodDescriptor yX7_isMachine.desc).map (fun d => d.parameters.length) = some 1 := ⟨by decide +kernel, by decide +kernel, by decide +kernel⟩
theorem pn_yX7_isMachine : plainName yX7_isMachine.cls = true := by decide +kernel
theorem kV_X7_111 : zLV RX7 111 yX7_isMachine mX7_isMachine 1 := ⟨⟨ml_X7_111, in_RX7, co_yX7_isMachine, pd_yX7_isMachine, Nat.le_of_ble_eq_true rfl⟩, im_yX7_isMachine, se_yX7_isMachine⟩
theorem pd_yX2_isState : yX2_isState.cls ≠ "java/lang/invoke/MethodHandle" ∧ yX2_isState.cls ≠ "java/lang/invoke/VarHandle" ∧ (parseMethodDescriptor yX2_isState.desc).map (fun d => d.parameters.length) = some 1 := ⟨by decide +kernel, by decide +kernel, by decide +kernel⟩
theorem pn_yX2_isState : plainName yX2_isState.cls = true := by decide +kernel
theorem kV_X7_114 : zLV RX7 114 yX2_isState mX2_isState 1 := ⟨⟨ml_X7_114, in_RX2, co_yX2_isState, pd_yX2_isState, Nat.le_of_ble_eq_true rfl⟩, im_yX2_isState, se_yX2_isState⟩
theorem pd_yX2_next : yX2_next.cls ≠ "java/lang/invoke/MethodHandle" ∧ yX2_next.cls ≠ "java/lang/invoke/VarHandle" ∧ (parseMethodDescriptor yX2_next.desc).map (fun d => d.parameters.length) = some 2 := ⟨by decide +kernel, by decide +kernel, by decide +kernel⟩
theorem pn_yX2_next : plainName yX2_next.cls = true := by decide +kernel
theorem kV_X7_117 : zLV RX7 117 yX2_next mX2_next 2 := ⟨⟨ml_X7_117, in_RX2, co_yX2_next, pd_yX2_next, Nat.le_of_ble_eq_true rfl⟩, im_yX2_next, se_yX2_next⟩
theorem pd_yX2_lead : yX2_lead.cls ≠ "java/lang/invoke/MethodHandle" ∧ yX2_lead.cls ≠ "java/lang/invoke/VarHandle" ∧ (parseMethodDescriptor yX2_lead.desc).map (fun d => d.parameters.length) = some 3 := ⟨by decide +kernel, by decide +kernel, by decide +kernel⟩
theorem pn_yX2_lead : plainName yX2_lead.cls = true := by decide +kernel
theorem kV_X7_121 : zLV RX7 121 yX2_lead mX2_lead 3 := ⟨⟨ml_X7_121, in_RX2, co_yX2_lead, pd_yX2_lead, Nat.le_of_ble_eq_true rfl⟩, im_yX2_lead, se_yX2_lead⟩
theorem pd_yX7_dropFindingsOfMachine : yX7_dropFindingsOfMachine.cls ≠ "java/lang/invoke/MethodHandle" ∧ yX7_dropFindingsOfMachine.cls ≠ "java/lang/invoke/VarHandle" ∧ (parseMethodDescriptor yX7_dropFindingsOfMachine.desc).map (fun d => d.parameters.length) = some 1 := ⟨by decide +kernel, by decide +kernel, by decide +kernel⟩
theorem pn_yX7_dropFindingsOfMachine : plainName yX7_dropFindingsOfMachine.cls = true := by decide +kernel
theorem kV_X7_125 : zLV RX7 125 yX7_dropFindingsOfMachine mX7_dropFindingsOfMachine 1 := ⟨⟨ml_X7_125, in_RX7, co_yX7_dropFindingsOfMachine, pd_yX7_dropFindingsOfMachine, Nat.le_of_ble_eq_true rfl⟩, im_yX7_dropFindingsOfMachine, se_yX7_dropFindingsOfMachine⟩
theorem pd_yX0_isAboutMachine : yX0_isAboutMachine.cls ≠ "java/lang/invoke/MethodHandle" ∧ yX0_isAboutMachine.cls ≠ "java/lang/invoke/VarHandle" ∧ (parseMethodDescriptor yX0_isAboutMachine.desc).map (fun d => d.parameters.length) = some 1 := ⟨by decide +kernel, by decide +kernel, by decide +kernel⟩
theorem pn_yX0_isAboutMachine : plainName yX0_isAboutMachine.cls = true := by decide +kernel
theorem kV_X7_227 : zLV RX7 227 yX0_isAboutMachine mX0_isAboutMachine 1 := ⟨⟨ml_X7_227, in_RX0, co_yX0_isAboutMachine, pd_yX0_isAboutMachine, Nat.le_of_ble_eq_true rfl⟩, im_yX0_isAboutMachine, se_yX0_isAboutMachine⟩
theorem pd_yX8_step : yX8_step.cls ≠ "java/lang/invoke/MethodHandle" ∧ yX8_step.cls ≠ "java/lang/invoke/VarHandle" ∧ (parseMethodDescriptor yX8_step.desc).map (fun d => d.parameters.length) = some 4 := ⟨by decide +kernel, by decide +kernel, by decide +kernel⟩
theorem pn_yX8_step : plainName yX8_step.cls = true := by decide +kernel
theorem kV_L_40 : zLV RL 40 yX8_step mX8_step 4 := ⟨⟨ml_L_40, in_RX8, co_yX8_step, pd_yX8_step, Nat.le_of_ble_eq_true rfl⟩, im_yX8_step, se_yX8_step⟩
theorem pd_yX7_good : yX7_good.cls ≠ "java/lang/invoke/MethodHandle" ∧ yX7_good.cls ≠ "java/lang/invoke/VarHandle" ∧ (parseMethodDescriptor yX7_good.desc).map (fun d => d.parameters.length) = some 3 := ⟨by decide +kernel, by decide +kernel, by decide +kernel⟩
theorem pn_yX7_good : plainName yX7_good.cls = true := by decide +kernel
theorem kV_L_41 : zLV RL 41 yX7_good mX7_good 3 := ⟨⟨ml_L_41, in_RX7, co_yX7_good, pd_yX7_good, Nat.le_of_ble_eq_true rfl⟩, im_yX7_good, se_yX7_good⟩
theorem pd_yX2_isGood : yX2_isGood.cls ≠ "java/lang/invoke/MethodHandle" ∧ yX2_isGood.cls ≠ "java/lang/invoke/VarHandle" ∧ (parseMethodDescriptor yX2_isGood.desc).map (fun d => d.parameters.length) = some 1 := ⟨by decide +kernel, by decide +kernel, by decide +kernel⟩
theorem pn_yX2_isGood : plainName yX2_isGood.cls = true := by decide +kernel
theorem kV_X7_128 : zLV RX7 128 yX2_isGood mX2_isGood 1 := ⟨⟨ml_X7_128, in_RX2, co_yX2_isGood, pd_yX2_isGood, Nat.le_of_ble_eq_true rfl⟩, im_yX2_isGood, se_yX2_isGood⟩
theorem pd_yX7_asNumber : yX7_asNumber.cls ≠ "java/lang/invoke/MethodHandle" ∧ yX7_asNumber.cls ≠ "java/lang/invoke/VarHandle" ∧ (parseMethodDescriptor yX7_asNumber.desc).map (fun d => d.parameters.length) = some 1 := ⟨by decide +kernel, by decide +kernel, by decide +kernel⟩
theorem pn_yX7_asNumber : plainName yX7_asNumber.cls = true := by decide +kernel
theorem kS_X7_131 : zLS RX7 131 yX7_asNumber mX7_asNumber 1 := ⟨⟨ml_X7_131, in_RX7, co_yX7_asNumber, pd_yX7_asNumber, Nat.le_of_ble_eq_true rfl⟩, st_yX7_asNumber⟩
theorem pd_yX2_setGood : yX2_setGood.cls ≠ "java/lang/invoke/MethodHandle" ∧ yX2_setGood.cls ≠ "java/lang/invoke/VarHandle" ∧ (parseMethodDescriptor yX2_setGood.desc).map (fun d => d.parameters.length) = some 2 := ⟨by decide +kernel, by decide +kernel, by decide +kernel⟩
theorem pn_yX2_setGood : plainName yX2_setGood.cls = true := by decide +kernel
theorem kV_X7_135 : zLV RX7 135 yX2_setGood mX2_setGood 2 := ⟨⟨ml_X7_135, in_RX2, co_yX2_setGood, pd_yX2_setGood, Nat.le_of_ble_eq_true rfl⟩, im_yX2_setGood, se_yX2_setGood⟩
theorem pd_yX8_good : yX8_good.cls ≠ "java/lang/invoke/MethodHandle" ∧ yX8_good.cls ≠ "java/lang/invoke/VarHandle" ∧ (parseMethodDescriptor yX8_good.desc).map (fun d => d.parameters.length) = some 3 := ⟨by decide +kernel, by decide +kernel, by decide +kernel⟩
theorem pn_yX8_good : plainName yX8_good.cls = true := by decide +kernel
theorem kV_L_45 : zLV RL 45 yX8_good mX8_good 3 := ⟨⟨ml_L_45, in_RX8, co_yX8_good, pd_yX8_good, Nat.le_of_ble_eq_true rfl⟩, im_yX8_good, se_yX8_good⟩
theorem pd_yX7_formula : yX7_formula.cls ≠ "java/lang/invoke/MethodHandle" ∧ yX7_formula.cls ≠ "java/lang/invoke/VarHandle" ∧ (parseMethodDescriptor yX7_formula.desc).map (fun d => d.parameters.length) = some 5 := ⟨by decide +kernel, by decide +kernel, by decide +kernel⟩
theorem pn_yX7_formula : plainName yX7_formula.cls = true := by decide +kernel
theorem kV_L_46 : zLV RL 46 yX7_formula mX7_formula 5 := ⟨⟨ml_L_46, in_RX7, co_yX7_formula, pd_yX7_formula, Nat.le_of_ble_eq_true rfl⟩, im_yX7_formula, se_yX7_formula⟩
theorem pd_yX7_areOthersKnown : yX7_areOthersKnown.cls ≠ "java/lang/invoke/MethodHandle" ∧ yX7_areOthersKnown.cls ≠ "java/lang/invoke/VarHandle" ∧ (parseMethodDescriptor yX7_areOthersKnown.desc).map (fun d => d.parameters.length) = some 4 := ⟨by decide +kernel, by decide +kernel, by decide +kernel⟩
theorem pn_yX7_areOthersKnown : plainName yX7_areOthersKnown.cls = true := by decide +kernel
theorem kV_X7_139 : zLV RX7 139 yX7_areOthersKnown mX7_areOthersKnown 4 := ⟨⟨ml_X7_139, in_RX7, co_yX7_areOthersKnown, pd_yX7_areOthersKnown, Nat.le_of_ble_eq_true rfl⟩, im_yX7_areOthersKnown, se_yX7_areOthersKnown⟩
theorem pd_yX7_areNumbersInside : yX7_areNumbersInside.cls ≠ "java/lang/invoke/MethodHandle" ∧ yX7_areNumbersInside.cls ≠ "java/lang/invoke/VarHandle" ∧ (parseMethodDescriptor yX7_areNumbersInside.desc).map (fun d => d.parameters.length) = some 3 := ⟨by decide +kernel, by decide +kernel, by decide +kernel⟩
theorem pn_yX7_areNumbersInside : plainName yX7_areNumbersInside.cls = true := by decide +kernel
theorem kS_X7_143 : zLS RX7 143 yX7_areNumbersInside mX7_areNumbersInside 3 := ⟨⟨ml_X7_143, in_RX7, co_yX7_areNumbersInside, pd_yX7_areNumbersInside, Nat.le_of_ble_eq_true rfl⟩, st_yX7_areNumbersInside⟩
theorem pd_yX0_restart : yX0_restart.cls ≠ "java/lang/invoke/MethodHandle" ∧ yX0_restart.cls ≠ "java/lang/invoke/VarHandle" ∧ (parseMethodDescriptor yX0_restart.desc).map (fun d => d.parameters.length) = some 5 := ⟨by decide +kernel, by decide +kernel, by decide +kernel⟩
theorem pn_yX0_restart : plainName yX0_restart.cls = true := by decide +kernel
theorem kV_X7_147 : zLV RX7 147 yX0_restart mX0_restart 5 := ⟨⟨ml_X7_147, in_RX0, co_yX0_restart, pd_yX0_restart, Nat.le_of_ble_eq_true rfl⟩, im_yX0_restart, se_yX0_restart⟩
theorem kV_X0_41 : zLV RX0 41 yX0_forget mX0_forget 0 := ⟨⟨ml_X0_41, in_RX0, co_yX0_forget, pd_yX0_forget, Nat.le_of_ble_eq_true rfl⟩, im_yX0_forget, se_yX0_forget⟩
theorem pd_yX8_formula : yX8_formula.cls ≠ "java/lang/invoke/MethodHandle" ∧ yX8_formula.cls ≠ "java/lang/invoke/VarHandle" ∧ (parseMethodDescriptor yX8_formula.desc).map (fun d => d.parameters.length) = some 5 := ⟨by decide +kernel, by decide +kernel, by decide +kernel⟩
theorem pn_yX8_formula : plainName yX8_formula.cls = true := by decide +kernel
theorem kV_L_50 : zLV RL 50 yX8_formula mX8_formula 5 := ⟨⟨ml_L_50, in_RX8, co_yX8_formula, pd_yX8_formula, Nat.le_of_ble_eq_true rfl⟩, im_yX8_formula, se_yX8_formula⟩
theorem pd_yX8_isTerm : yX8_isTerm.cls ≠ "java/lang/invoke/MethodHandle" ∧ yX8_isTerm.cls ≠ "java/lang/invoke/VarHandle" ∧ (parseMethodDescriptor yX8_isTerm.desc).map (fun d => d.parameters.length) = some 1 := ⟨by decide +kernel, by decide +kernel, by decide +kernel⟩
theorem pn_yX8_isTerm : plainName yX8_isTerm.cls = true := by decide +kernel
theorem kV_X8_113 : zLV RX8 113 yX8_isTerm mX8_isTerm 1 := ⟨⟨ml_X8_113, in_RX8, co_yX8_isTerm, pd_yX8_isTerm, Nat.le_of_ble_eq_true rfl⟩, im_yX8_isTerm, se_yX8_isTerm⟩
theorem pd_yX7_deny : yX7_deny.cls ≠ "java/lang/invoke/MethodHandle" ∧ yX7_deny.cls ≠ "java/lang/invoke/VarHandle" ∧ (parseMethodDescriptor yX7_deny.desc).map (fun d => d.parameters.length) = some 2 := ⟨by decide +kernel, by decide +kernel, by decide +kernel⟩
theorem pn_yX7_deny : plainName yX7_deny.cls = true := by decide +kernel
theorem kV_L_51 : zLV RL 51 yX7_deny mX7_deny 2 := ⟨⟨ml_L_51, in_RX7, co_yX7_deny, pd_yX7_deny, Nat.le_of_ble_eq_true rfl⟩, im_yX7_deny, se_yX7_deny⟩
theorem pd_yX7_isFormula : yX7_isFormula.cls ≠ "java/lang/invoke/MethodHandle" ∧ yX7_isFormula.cls ≠ "java/lang/invoke/VarHandle" ∧ (parseMethodDescriptor yX7_isFormula.desc).map (fun d => d.parameters.length) = some 1 := ⟨by decide +kernel, by decide +kernel, by decide +kernel⟩
theorem pn_yX7_isFormula : plainName yX7_isFormula.cls = true := by decide +kernel
theorem kV_X7_150 : zLV RX7 150 yX7_isFormula mX7_isFormula 1 := ⟨⟨ml_X7_150, in_RX7, co_yX7_isFormula, pd_yX7_isFormula, Nat.le_of_ble_eq_true rfl⟩, im_yX7_isFormula, se_yX7_isFormula⟩
theorem pd_yX8_deny : yX8_deny.cls ≠ "java/lang/invoke/MethodHandle" ∧ yX8_deny.cls ≠ "java/lang/invoke/VarHandle" ∧ (parseMethodDescriptor yX8_deny.desc).map (fun d => d.parameters.length) = some 2 := ⟨by decide +kernel, by decide +kernel, by decide +kernel⟩
theorem pn_yX8_deny : plainName yX8_deny.cls = true := by decide +kernel
theorem kV_L_55 : zLV RL 55 yX8_deny mX8_deny 2 := ⟨⟨ml_L_55, in_RX8, co_yX8_deny, pd_yX8_deny, Nat.le_of_ble_eq_true rfl⟩, im_yX8_deny, se_yX8_deny⟩
theorem pd_yX7_leave : yX7_leave.cls ≠ "java/lang/invoke/MethodHandle" ∧ yX7_leave.cls ≠ "java/lang/invoke/VarHandle" ∧ (parseMethodDescriptor yX7_leave.desc).map (fun d => d.parameters.length) = some 2 := ⟨by decide +kernel, by decide +kernel, by decide +kernel⟩
theorem pn_yX7_leave : plainName yX7_leave.cls = true := by decide +kernel
theorem kV_L_56 : zLV RL 56 yX7_leave mX7_leave 2 := ⟨⟨ml_L_56, in_RX7, co_yX7_leave, pd_yX7_leave, Nat.le_of_ble_eq_true rfl⟩, im_yX7_leave, se_yX7_leave⟩
theorem pd_yX8_leave : yX8_leave.cls ≠ "java/lang/invoke/MethodHandle" ∧ yX8_leave.cls ≠ "java/lang/invoke/VarHandle" ∧ (parseMethodDescriptor yX8_leave.desc).map (fun d => d.parameters.length) = some 2 := ⟨by decide +kernel, by decide +kernel, by decide +kernel⟩
theorem pn_yX8_leave : plainName yX8_leave.cls = true := by decide +kernel
theorem kV_L_59 : zLV RL 59 yX8_leave mX8_leave 2 := ⟨⟨ml_L_59, in_RX8, co_yX8_leave, pd_yX8_leave, Nat.le_of_ble_eq_true rfl⟩, im_yX8_leave, se_yX8_leave⟩
theorem pd_yX7_solve : yX7_solve.cls ≠ "java/lang/invoke/MethodHandle" ∧ yX7_solve.cls ≠ "java/lang/invoke/VarHandle" ∧ (parseMethodDescriptor yX7_solve.desc).map (fun d => d.parameters.length) = some 0 := ⟨by decide +kernel, by decide +kernel, by decide +kernel⟩
theorem pn_yX7_solve : plainName yX7_solve.cls = true := by decide +kernel
theorem kV_L_60 : zLV RL 60 yX7_solve mX7_solve 0 := ⟨⟨ml_L_60, in_RX7, co_yX7_solve, pd_yX7_solve, Nat.le_of_ble_eq_true rfl⟩, im_yX7_solve, se_yX7_solve⟩
theorem pd_yX7_takeInHand : yX7_takeInHand.cls ≠ "java/lang/invoke/MethodHandle" ∧ yX7_takeInHand.cls ≠ "java/lang/invoke/VarHandle" ∧ (parseMethodDescriptor yX7_takeInHand.desc).map (fun d => d.parameters.length) = some 1 := ⟨by decide +kernel, by decide +kernel, by decide +kernel⟩
theorem pn_yX7_takeInHand : plainName yX7_takeInHand.cls = true := by decide +kernel
theorem kV_X7_160 : zLV RX7 160 yX7_takeInHand mX7_takeInHand 1 := ⟨⟨ml_X7_160, in_RX7, co_yX7_takeInHand, pd_yX7_takeInHand, Nat.le_of_ble_eq_true rfl⟩, im_yX7_takeInHand, se_yX7_takeInHand⟩
theorem pd_yX7_countingFormulas : yX7_countingFormulas.cls ≠ "java/lang/invoke/MethodHandle" ∧ yX7_countingFormulas.cls ≠ "java/lang/invoke/VarHandle" ∧ (parseMethodDescriptor yX7_countingFormulas.desc).map (fun d => d.parameters.length) = some 0 := ⟨by decide +kernel, by decide +kernel, by decide +kernel⟩
theorem pn_yX7_countingFormulas : plainName yX7_countingFormulas.cls = true := by decide +kernel
theorem kV_X7_164 : zLV RX7 164 yX7_countingFormulas mX7_countingFormulas 0 := ⟨⟨ml_X7_164, in_RX7, co_yX7_countingFormulas, pd_yX7_countingFormulas, Nat.le_of_ble_eq_true rfl⟩, im_yX7_countingFormulas, se_yX7_countingFormulas⟩
theorem pd_yX7_modelsIn : yX7_modelsIn.cls ≠ "java/lang/invoke/MethodHandle" ∧ yX7_modelsIn.cls ≠ "java/lang/invoke/VarHandle" ∧ (parseMethodDescriptor yX7_modelsIn.desc).map (fun d => d.parameters.length) = some 2 := ⟨by decide +kernel, by decide +kernel, by decide +kernel⟩
theorem pn_yX7_modelsIn : plainName yX7_modelsIn.cls = true := by decide +kernel
theorem kV_X7_168 : zLV RX7 168 yX7_modelsIn mX7_modelsIn 2 := ⟨⟨ml_X7_168, in_RX7, co_yX7_modelsIn, pd_yX7_modelsIn, Nat.le_of_ble_eq_true rfl⟩, im_yX7_modelsIn, se_yX7_modelsIn⟩
theorem pd_yX7_waysIn : yX7_waysIn.cls ≠ "java/lang/invoke/MethodHandle" ∧ yX7_waysIn.cls ≠ "java/lang/invoke/VarHandle" ∧ (parseMethodDescriptor yX7_waysIn.desc).map (fun d => d.parameters.length) = some 1 := ⟨by decide +kernel, by decide +kernel, by decide +kernel⟩
theorem pn_yX7_waysIn : plainName yX7_waysIn.cls = true := by decide +kernel
theorem kV_X7_239 : zLV RX7 239 yX7_waysIn mX7_waysIn 1 := ⟨⟨ml_X7_239, in_RX7, co_yX7_waysIn, pd_yX7_waysIn, Nat.le_of_ble_eq_true rfl⟩, im_yX7_waysIn, se_yX7_waysIn⟩
theorem pd_yX7_isIn : yX7_isIn.cls ≠ "java/lang/invoke/MethodHandle" ∧ yX7_isIn.cls ≠ "java/lang/invoke/VarHandle" ∧ (parseMethodDescriptor yX7_isIn.desc).map (fun d => d.parameters.length) = some 2 := ⟨by decide +kernel, by decide +kernel, by decide +kernel⟩
theorem pn_yX7_isIn : plainName yX7_isIn.cls = true := by decide +kernel
theorem kS_X7_204 : zLS RX7 204 yX7_isIn mX7_isIn 2 := ⟨⟨ml_X7_204, in_RX7, co_yX7_isIn, pd_yX7_isIn, Nat.le_of_ble_eq_true rfl⟩, st_yX7_isIn⟩
theorem pd_yX0_ruledOut : yX0_ruledOut.cls ≠ "java/lang/invoke/MethodHandle" ∧ yX0_ruledOut.cls ≠ "java/lang/invoke/VarHandle" ∧ (parseMethodDescriptor yX0_ruledOut.desc).map (fun d => d.parameters.length) = some 1 := ⟨by decide +kernel, by decide +kernel, by decide +kernel⟩
theorem pn_yX0_ruledOut : plainName yX0_ruledOut.cls = true := by decide +kernel
theorem kV_X7_243 : zLV RX7 243 yX0_ruledOut mX0_ruledOut 1 := ⟨⟨ml_X7_243, in_RX0, co_yX0_ruledOut, pd_yX0_ruledOut, Nat.le_of_ble_eq_true rfl⟩, im_yX0_ruledOut, se_yX0_ruledOut⟩
theorem pd_yX0_notJudged : yX0_notJudged.cls ≠ "java/lang/invoke/MethodHandle" ∧ yX0_notJudged.cls ≠ "java/lang/invoke/VarHandle" ∧ (parseMethodDescriptor yX0_notJudged.desc).map (fun d => d.parameters.length) = some 1 := ⟨by decide +kernel, by decide +kernel, by decide +kernel⟩
theorem pn_yX0_notJudged : plainName yX0_notJudged.cls = true := by decide +kernel
theorem kV_X7_246 : zLV RX7 246 yX0_notJudged mX0_notJudged 1 := ⟨⟨ml_X7_246, in_RX0, co_yX0_notJudged, pd_yX0_notJudged, Nat.le_of_ble_eq_true rfl⟩, im_yX0_notJudged, se_yX0_notJudged⟩
theorem pd_yX7_isModel : yX7_isModel.cls ≠ "java/lang/invoke/MethodHandle" ∧ yX7_isModel.cls ≠ "java/lang/invoke/VarHandle" ∧ (parseMethodDescriptor yX7_isModel.desc).map (fun d => d.parameters.length) = some 2 := ⟨by decide +kernel, by decide +kernel, by decide +kernel⟩
theorem pn_yX7_isModel : plainName yX7_isModel.cls = true := by decide +kernel
theorem kV_X7_249 : zLV RX7 249 yX7_isModel mX7_isModel 2 := ⟨⟨ml_X7_249, in_RX7, co_yX7_isModel, pd_yX7_isModel, Nat.le_of_ble_eq_true rfl⟩, im_yX7_isModel, se_yX7_isModel⟩
theorem pd_yX0_isJudged : yX0_isJudged.cls ≠ "java/lang/invoke/MethodHandle" ∧ yX0_isJudged.cls ≠ "java/lang/invoke/VarHandle" ∧ (parseMethodDescriptor yX0_isJudged.desc).map (fun d => d.parameters.length) = some 1 := ⟨by decide +kernel, by decide +kernel, by decide +kernel⟩
theorem pn_yX0_isJudged : plainName yX0_isJudged.cls = true := by decide +kernel
theorem kV_X7_252 : zLV RX7 252 yX0_isJudged mX0_isJudged 1 := ⟨⟨ml_X7_252, in_RX0, co_yX0_isJudged, pd_yX0_isJudged, Nat.le_of_ble_eq_true rfl⟩, im_yX0_isJudged, se_yX0_isJudged⟩
theorem pd_yX0_isBit : yX0_isBit.cls ≠ "java/lang/invoke/MethodHandle" ∧ yX0_isBit.cls ≠ "java/lang/invoke/VarHandle" ∧ (parseMethodDescriptor yX0_isBit.desc).map (fun d => d.parameters.length) = some 2 := ⟨by decide +kernel, by decide +kernel, by decide +kernel⟩
theorem pn_yX0_isBit : plainName yX0_isBit.cls = true := by decide +kernel
theorem kS_X0_50 : zLS RX0 50 yX0_isBit mX0_isBit 2 := ⟨⟨ml_X0_50, in_RX0, co_yX0_isBit, pd_yX0_isBit, Nat.le_of_ble_eq_true rfl⟩, st_yX0_isBit⟩
theorem pd_yX6_goTo : yX6_goTo.cls ≠ "java/lang/invoke/MethodHandle" ∧ yX6_goTo.cls ≠ "java/lang/invoke/VarHandle" ∧ (parseMethodDescriptor yX6_goTo.desc).map (fun d => d.parameters.length) = some 1 := ⟨by decide +kernel, by decide +kernel, by decide +kernel⟩
theorem pn_yX6_goTo : plainName yX6_goTo.cls = true := by decide +kernel
theorem kV_X7_234 : zLV RX7 234 yX6_goTo mX6_goTo 1 := ⟨⟨ml_X7_234, in_RX6, co_yX6_goTo, pd_yX6_goTo, Nat.le_of_ble_eq_true rfl⟩, im_yX6_goTo, se_yX6_goTo⟩
theorem kV_X6_55 : zLV RX6 55 yX6_restart mX6_restart 0 := ⟨⟨ml_X6_55, in_RX6, co_yX6_restart, pd_yX6_restart, Nat.le_of_ble_eq_true rfl⟩, im_yX6_restart, se_yX6_restart⟩
theorem pd_yX4_lengthWays : yX4_lengthWays.cls ≠ "java/lang/invoke/MethodHandle" ∧ yX4_lengthWays.cls ≠ "java/lang/invoke/VarHandle" ∧ (parseMethodDescriptor yX4_lengthWays.desc).map (fun d => d.parameters.length) = some 0 := ⟨by decide +kernel, by decide +kernel, by decide +kernel⟩
theorem pn_yX4_lengthWays : plainName yX4_lengthWays.cls = true := by decide +kernel
theorem kV_X6_58 : zLV RX6 58 yX4_lengthWays mX4_lengthWays 0 := ⟨⟨ml_X6_58, in_RX4, co_yX4_lengthWays, pd_yX4_lengthWays, Nat.le_of_ble_eq_true rfl⟩, im_yX4_lengthWays, se_yX4_lengthWays⟩
theorem pd_yX6_goToNextLengths : yX6_goToNextLengths.cls ≠ "java/lang/invoke/MethodHandle" ∧ yX6_goToNextLengths.cls ≠ "java/lang/invoke/VarHandle" ∧ (parseMethodDescriptor yX6_goToNextLengths.desc).map (fun d => d.parameters.length) = some 0 := ⟨by decide +kernel, by decide +kernel, by decide +kernel⟩
theorem pn_yX6_goToNextLengths : plainName yX6_goToNextLengths.cls = true := by decide +kernel
theorem kV_X6_62 : zLV RX6 62 yX6_goToNextLengths mX6_goToNextLengths 0 := ⟨⟨ml_X6_62, in_RX6, co_yX6_goToNextLengths, pd_yX6_goToNextLengths, Nat.le_of_ble_eq_true rfl⟩, im_yX6_goToNextLengths, se_yX6_goToNextLengths⟩
theorem pd_yX1_isSo : yX1_isSo.cls ≠ "java/lang/invoke/MethodHandle" ∧ yX1_isSo.cls ≠ "java/lang/invoke/VarHandle" ∧ (parseMethodDescriptor yX1_isSo.desc).map (fun d => d.parameters.length) = some 2 := ⟨by decide +kernel, by decide +kernel, by decide +kernel⟩
theorem pn_yX1_isSo : plainName yX1_isSo.cls = true := by decide +kernel
theorem kV_X7_187 : zLV RX7 187 yX1_isSo mX1_isSo 2 := ⟨⟨ml_X7_187, in_RX1, co_yX1_isSo, pd_yX1_isSo, Nat.le_of_ble_eq_true rfl⟩, im_yX1_isSo, se_yX1_isSo⟩
theorem pd_yX1_isLonger : yX1_isLonger.cls ≠ "java/lang/invoke/MethodHandle" ∧ yX1_isLonger.cls ≠ "java/lang/invoke/VarHandle" ∧ (parseMethodDescriptor yX1_isLonger.desc).map (fun d => d.parameters.length) = some 2 := ⟨by decide +kernel, by decide +kernel, by decide +kernel⟩
theorem pn_yX1_isLonger : plainName yX1_isLonger.cls = true := by decide +kernel
theorem kV_X1_68 : zLV RX1 68 yX1_isLonger mX1_isLonger 2 := ⟨⟨ml_X1_68, in_RX1, co_yX1_isLonger, pd_yX1_isLonger, Nat.le_of_ble_eq_true rfl⟩, im_yX1_isLonger, se_yX1_isLonger⟩
theorem pd_yX1_termAt : yX1_termAt.cls ≠ "java/lang/invoke/MethodHandle" ∧ yX1_termAt.cls ≠ "java/lang/invoke/VarHandle" ∧ (parseMethodDescriptor yX1_termAt.desc).map (fun d => d.parameters.length) = some 1 := ⟨by decide +kernel, by decide +kernel, by decide +kernel⟩
theorem pn_yX1_termAt : plainName yX1_termAt.cls = true := by decide +kernel
theorem kV_X1_47 : zLV RX1 47 yX1_termAt mX1_termAt 1 := ⟨⟨ml_X1_47, in_RX1, co_yX1_termAt, pd_yX1_termAt, Nat.le_of_ble_eq_true rfl⟩, im_yX1_termAt, se_yX1_termAt⟩
theorem pd_yX5_lengthWith : yX5_lengthWith.cls ≠ "java/lang/invoke/MethodHandle" ∧ yX5_lengthWith.cls ≠ "java/lang/invoke/VarHandle" ∧ (parseMethodDescriptor yX5_lengthWith.desc).map (fun d => d.parameters.length) = some 1 := ⟨by decide +kernel, by decide +kernel, by decide +kernel⟩
theorem pn_yX5_lengthWith : plainName yX5_lengthWith.cls = true := by decide +kernel
theorem kV_X1_51 : zLV RX1 51 yX5_lengthWith mX5_lengthWith 1 := ⟨⟨ml_X1_51, in_RX5, co_yX5_lengthWith, pd_yX5_lengthWith, Nat.le_of_ble_eq_true rfl⟩, im_yX5_lengthWith, se_yX5_lengthWith⟩
theorem pd_yX1_isOneLength : yX1_isOneLength.cls ≠ "java/lang/invoke/MethodHandle" ∧ yX1_isOneLength.cls ≠ "java/lang/invoke/VarHandle" ∧ (parseMethodDescriptor yX1_isOneLength.desc).map (fun d => d.parameters.length) = some 2 := ⟨by decide +kernel, by decide +kernel, by decide +kernel⟩
theorem pn_yX1_isOneLength : plainName yX1_isOneLength.cls = true := by decide +kernel
theorem kV_X1_72 : zLV RX1 72 yX1_isOneLength mX1_isOneLength 2 := ⟨⟨ml_X1_72, in_RX1, co_yX1_isOneLength, pd_yX1_isOneLength, Nat.le_of_ble_eq_true rfl⟩, im_yX1_isOneLength, se_yX1_isOneLength⟩
theorem pd_yX3_write : yX3_write.cls ≠ "java/lang/invoke/MethodHandle" ∧ yX3_write.cls ≠ "java/lang/invoke/VarHandle" ∧ (parseMethodDescriptor yX3_write.desc).map (fun d => d.parameters.length) = some 2 := ⟨by decide +kernel, by decide +kernel, by decide +kernel⟩
theorem pn_yX3_write : plainName yX3_write.cls = true := by decide +kernel
theorem kV_X1_75 : zLV RX1 75 yX3_write mX3_write 2 := ⟨⟨ml_X1_75, in_RX3, co_yX3_write, pd_yX3_write, Nat.le_of_ble_eq_true rfl⟩, im_yX3_write, se_yX3_write⟩
theorem pd_yX3_addLetter : yX3_addLetter.cls ≠ "java/lang/invoke/MethodHandle" ∧ yX3_addLetter.cls ≠ "java/lang/invoke/VarHandle" ∧ (parseMethodDescriptor yX3_addLetter.desc).map (fun d => d.parameters.length) = some 1 := ⟨by decide +kernel, by decide +kernel, by decide +kernel⟩
theorem pn_yX3_addLetter : plainName yX3_addLetter.cls = true := by decide +kernel
theorem kV_X3_25 : zLV RX3 25 yX3_addLetter mX3_addLetter 1 := ⟨⟨ml_X3_25, in_RX3, co_yX3_addLetter, pd_yX3_addLetter, Nat.le_of_ble_eq_true rfl⟩, im_yX3_addLetter, se_yX3_addLetter⟩
theorem pd_yX3_addRow : yX3_addRow.cls ≠ "java/lang/invoke/MethodHandle" ∧ yX3_addRow.cls ≠ "java/lang/invoke/VarHandle" ∧ (parseMethodDescriptor yX3_addRow.desc).map (fun d => d.parameters.length) = some 3 := ⟨by decide +kernel, by decide +kernel, by decide +kernel⟩
theorem pn_yX3_addRow : plainName yX3_addRow.cls = true := by decide +kernel
theorem kV_X3_40 : zLV RX3 40 yX3_addRow mX3_addRow 3 := ⟨⟨ml_X3_40, in_RX3, co_yX3_addRow, pd_yX3_addRow, Nat.le_of_ble_eq_true rfl⟩, im_yX3_addRow, se_yX3_addRow⟩
theorem kV_X1_79 : zLV RX1 79 yX0_hasSecondTerm mX0_hasSecondTerm 0 := ⟨⟨ml_X1_79, in_RX0, co_yX0_hasSecondTerm, pd_yX0_hasSecondTerm, Nat.le_of_ble_eq_true rfl⟩, im_yX0_hasSecondTerm, se_yX0_hasSecondTerm⟩
theorem pd_yX3_isSame : yX3_isSame.cls ≠ "java/lang/invoke/MethodHandle" ∧ yX3_isSame.cls ≠ "java/lang/invoke/VarHandle" ∧ (parseMethodDescriptor yX3_isSame.desc).map (fun d => d.parameters.length) = some 1 := ⟨by decide +kernel, by decide +kernel, by decide +kernel⟩
theorem pn_yX3_isSame : plainName yX3_isSame.cls = true := by decide +kernel
theorem kV_X1_83 : zLV RX1 83 yX3_isSame mX3_isSame 1 := ⟨⟨ml_X1_83, in_RX3, co_yX3_isSame, pd_yX3_isSame, Nat.le_of_ble_eq_true rfl⟩, im_yX3_isSame, se_yX3_isSame⟩
theorem pd_yX3_agrees : yX3_agrees.cls ≠ "java/lang/invoke/MethodHandle" ∧ yX3_agrees.cls ≠ "java/lang/invoke/VarHandle" ∧ (parseMethodDescriptor yX3_agrees.desc).map (fun d => d.parameters.length) = some 4 := ⟨by decide +kernel, by decide +kernel, by decide +kernel⟩
theorem pn_yX3_agrees : plainName yX3_agrees.cls = true := by decide +kernel
theorem kV_X3_44 : zLV RX3 44 yX3_agrees mX3_agrees 4 := ⟨⟨ml_X3_44, in_RX3, co_yX3_agrees, pd_yX3_agrees, Nat.le_of_ble_eq_true rfl⟩, im_yX3_agrees, se_yX3_agrees⟩
theorem pd_yX1_machineAt : yX1_machineAt.cls ≠ "java/lang/invoke/MethodHandle" ∧ yX1_machineAt.cls ≠ "java/lang/invoke/VarHandle" ∧ (parseMethodDescriptor yX1_machineAt.desc).map (fun d => d.parameters.length) = some 1 := ⟨by decide +kernel, by decide +kernel, by decide +kernel⟩
theorem pn_yX1_machineAt : plainName yX1_machineAt.cls = true := by decide +kernel
theorem kV_X1_87 : zLV RX1 87 yX1_machineAt mX1_machineAt 1 := ⟨⟨ml_X1_87, in_RX1, co_yX1_machineAt, pd_yX1_machineAt, Nat.le_of_ble_eq_true rfl⟩, im_yX1_machineAt, se_yX1_machineAt⟩
theorem pd_yX2_takes : yX2_takes.cls ≠ "java/lang/invoke/MethodHandle" ∧ yX2_takes.cls ≠ "java/lang/invoke/VarHandle" ∧ (parseMethodDescriptor yX2_takes.desc).map (fun d => d.parameters.length) = some 1 := ⟨by decide +kernel, by decide +kernel, by decide +kernel⟩
theorem pn_yX2_takes : plainName yX2_takes.cls = true := by decide +kernel
theorem kV_X1_91 : zLV RX1 91 yX2_takes mX2_takes 1 := ⟨⟨ml_X1_91, in_RX2, co_yX2_takes, pd_yX2_takes, Nat.le_of_ble_eq_true rfl⟩, im_yX2_takes, se_yX2_takes⟩
theorem kV_X2_36 : zLV RX2 36 yX2_next mX2_next 2 := ⟨⟨ml_X2_36, in_RX2, co_yX2_next, pd_yX2_next, Nat.le_of_ble_eq_true rfl⟩, im_yX2_next, se_yX2_next⟩
theorem kV_X2_40 : zLV RX2 40 yX2_isGood mX2_isGood 1 := ⟨⟨ml_X2_40, in_RX2, co_yX2_isGood, pd_yX2_isGood, Nat.le_of_ble_eq_true rfl⟩, im_yX2_isGood, se_yX2_isGood⟩
theorem pd_yX3_isBefore : yX3_isBefore.cls ≠ "java/lang/invoke/MethodHandle" ∧ yX3_isBefore.cls ≠ "java/lang/invoke/VarHandle" ∧ (parseMethodDescriptor yX3_isBefore.desc).map (fun d => d.parameters.length) = some 1 := ⟨by decide +kernel, by decide +kernel, by decide +kernel⟩
theorem pn_yX3_isBefore : plainName yX3_isBefore.cls = true := by decide +kernel
theorem kV_X1_96 : zLV RX1 96 yX3_isBefore mX3_isBefore 1 := ⟨⟨ml_X1_96, in_RX3, co_yX3_isBefore, pd_yX3_isBefore, Nat.le_of_ble_eq_true rfl⟩, im_yX3_isBefore, se_yX3_isBefore⟩
theorem pd_yX3_placeOf : yX3_placeOf.cls ≠ "java/lang/invoke/MethodHandle" ∧ yX3_placeOf.cls ≠ "java/lang/invoke/VarHandle" ∧ (parseMethodDescriptor yX3_placeOf.desc).map (fun d => d.parameters.length) = some 1 := ⟨by decide +kernel, by decide +kernel, by decide +kernel⟩
theorem pn_yX3_placeOf : plainName yX3_placeOf.cls = true := by decide +kernel
theorem kV_X1_99 : zLV RX1 99 yX3_placeOf mX3_placeOf 1 := ⟨⟨ml_X1_99, in_RX3, co_yX3_placeOf, pd_yX3_placeOf, Nat.le_of_ble_eq_true rfl⟩, im_yX3_placeOf, se_yX3_placeOf⟩
theorem pd_yX3_hasSum : yX3_hasSum.cls ≠ "java/lang/invoke/MethodHandle" ∧ yX3_hasSum.cls ≠ "java/lang/invoke/VarHandle" ∧ (parseMethodDescriptor yX3_hasSum.desc).map (fun d => d.parameters.length) = some 2 := ⟨by decide +kernel, by decide +kernel, by decide +kernel⟩
theorem pn_yX3_hasSum : plainName yX3_hasSum.cls = true := by decide +kernel
theorem kV_X1_103 : zLV RX1 103 yX3_hasSum mX3_hasSum 2 := ⟨⟨ml_X1_103, in_RX3, co_yX3_hasSum, pd_yX3_hasSum, Nat.le_of_ble_eq_true rfl⟩, im_yX3_hasSum, se_yX3_hasSum⟩
theorem pd_yJ9_floorMod_7cf53 : yJ9_floorMod_7cf53.cls ≠ "java/lang/invoke/MethodHandle" ∧ yJ9_floorMod_7cf53.cls ≠ "java/lang/invoke/VarHandle" ∧ (parseMethodDescriptor yJ9_floorMod_7cf53.desc).map (fun d => d.parameters.length) = some 2 := ⟨by decide +kernel, by decide +kernel, by decide +kernel⟩
theorem pn_yJ9_floorMod_7cf53 : plainFor yJ9_floorMod_7cf53 = true := by decide +kernel
theorem kS_X3_48 : zLS RX3 48 yJ9_floorMod_7cf53 mJ9_floorMod_7cf53 2 := ⟨⟨ml_X3_48, in_RJ9, co_yJ9_floorMod_7cf53, pd_yJ9_floorMod_7cf53, Nat.le_of_ble_eq_true rfl⟩, st_yJ9_floorMod_7cf53⟩
theorem pd_yX3_isReplaced : yX3_isReplaced.cls ≠ "java/lang/invoke/MethodHandle" ∧ yX3_isReplaced.cls ≠ "java/lang/invoke/VarHandle" ∧ (parseMethodDescriptor yX3_isReplaced.desc).map (fun d => d.parameters.length) = some 4 := ⟨by decide +kernel, by decide +kernel, by decide +kernel⟩
theorem pn_yX3_isReplaced : plainName yX3_isReplaced.cls = true := by decide +kernel
theorem kV_X1_112 : zLV RX1 112 yX3_isReplaced mX3_isReplaced 4 := ⟨⟨ml_X1_112, in_RX3, co_yX3_isReplaced, pd_yX3_isReplaced, Nat.le_of_ble_eq_true rfl⟩, im_yX3_isReplaced, se_yX3_isReplaced⟩
theorem pd_yX0_keep : yX0_keep.cls ≠ "java/lang/invoke/MethodHandle" ∧ yX0_keep.cls ≠ "java/lang/invoke/VarHandle" ∧ (parseMethodDescriptor yX0_keep.desc).map (fun d => d.parameters.length) = some 2 := ⟨by decide +kernel, by decide +kernel, by decide +kernel⟩
theorem pn_yX0_keep : plainName yX0_keep.cls = true := by decide +kernel
theorem kV_X7_255 : zLV RX7 255 yX0_keep mX0_keep 2 := ⟨⟨ml_X7_255, in_RX0, co_yX0_keep, pd_yX0_keep, Nat.le_of_ble_eq_true rfl⟩, im_yX0_keep, se_yX0_keep⟩
theorem pd_yX0_isSoIn : yX0_isSoIn.cls ≠ "java/lang/invoke/MethodHandle" ∧ yX0_isSoIn.cls ≠ "java/lang/invoke/VarHandle" ∧ (parseMethodDescriptor yX0_isSoIn.desc).map (fun d => d.parameters.length) = some 1 := ⟨by decide +kernel, by decide +kernel, by decide +kernel⟩
theorem pn_yX0_isSoIn : plainName yX0_isSoIn.cls = true := by decide +kernel
theorem kV_X7_258 : zLV RX7 258 yX0_isSoIn mX0_isSoIn 1 := ⟨⟨ml_X7_258, in_RX0, co_yX0_isSoIn, pd_yX0_isSoIn, Nat.le_of_ble_eq_true rfl⟩, im_yX0_isSoIn, se_yX0_isSoIn⟩
theorem pd_yJ13_bitCount_95d88 : yJ13_bitCount_95d88.cls ≠ "java/lang/invoke/MethodHandle" ∧ yJ13_bitCount_95d88.cls ≠ "java/lang/invoke/VarHandle" ∧ (parseMethodDescriptor yJ13_bitCount_95d88.desc).map (fun d => d.parameters.length) = some 1 := ⟨by decide +kernel, by decide +kernel, by decide +kernel⟩
theorem pn_yJ13_bitCount_95d88 : plainName yJ13_bitCount_95d88.cls = true := by decide +kernel
theorem kS_X7_172 : zLS RX7 172 yJ13_bitCount_95d88 mJ13_bitCount_95d88 1 := ⟨⟨ml_X7_172, in_RJ13, co_yJ13_bitCount_95d88, pd_yJ13_bitCount_95d88, Nat.le_of_ble_eq_true rfl⟩, st_yJ13_bitCount_95d88⟩
theorem pd_yX7_placeOfBit : yX7_placeOfBit.cls ≠ "java/lang/invoke/MethodHandle" ∧ yX7_placeOfBit.cls ≠ "java/lang/invoke/VarHandle" ∧ (parseMethodDescriptor yX7_placeOfBit.desc).map (fun d => d.parameters.length) = some 2 := ⟨by decide +kernel, by decide +kernel, by decide +kernel⟩
theorem pn_yX7_placeOfBit : plainName yX7_placeOfBit.cls = true := by decide +kernel
theorem kS_X7_230 : zLS RX7 230 yX7_placeOfBit mX7_placeOfBit 2 := ⟨⟨ml_X7_230, in_RX7, co_yX7_placeOfBit, pd_yX7_placeOfBit, Nat.le_of_ble_eq_true rfl⟩, st_yX7_placeOfBit⟩
theorem pd_yX8_solve : yX8_solve.cls ≠ "java/lang/invoke/MethodHandle" ∧ yX8_solve.cls ≠ "java/lang/invoke/VarHandle" ∧ (parseMethodDescriptor yX8_solve.desc).map (fun d => d.parameters.length) = some 0 := ⟨by decide +kernel, by decide +kernel, by decide +kernel⟩
theorem pn_yX8_solve : plainName yX8_solve.cls = true := by decide +kernel
theorem kV_L_63 : zLV RL 63 yX8_solve mX8_solve 0 := ⟨⟨ml_L_63, in_RX8, co_yX8_solve, pd_yX8_solve, Nat.le_of_ble_eq_true rfl⟩, im_yX8_solve, se_yX8_solve⟩
theorem pd_yX8_take : yX8_take.cls ≠ "java/lang/invoke/MethodHandle" ∧ yX8_take.cls ≠ "java/lang/invoke/VarHandle" ∧ (parseMethodDescriptor yX8_take.desc).map (fun d => d.parameters.length) = some 1 := ⟨by decide +kernel, by decide +kernel, by decide +kernel⟩
theorem pn_yX8_take : plainName yX8_take.cls = true := by decide +kernel
theorem kV_X8_174 : zLV RX8 174 yX8_take mX8_take 1 := ⟨⟨ml_X8_174, in_RX8, co_yX8_take, pd_yX8_take, Nat.le_of_ble_eq_true rfl⟩, im_yX8_take, se_yX8_take⟩
theorem pd_yX8_stayAll : yX8_stayAll.cls ≠ "java/lang/invoke/MethodHandle" ∧ yX8_stayAll.cls ≠ "java/lang/invoke/VarHandle" ∧ (parseMethodDescriptor yX8_stayAll.desc).map (fun d => d.parameters.length) = some 0 := ⟨by decide +kernel, by decide +kernel, by decide +kernel⟩
theorem pn_yX8_stayAll : plainName yX8_stayAll.cls = true := by decide +kernel
theorem kV_X8_167 : zLV RX8 167 yX8_stayAll mX8_stayAll 0 := ⟨⟨ml_X8_167, in_RX8, co_yX8_stayAll, pd_yX8_stayAll, Nat.le_of_ble_eq_true rfl⟩, im_yX8_stayAll, se_yX8_stayAll⟩
theorem pd_yX8_search : yX8_search.cls ≠ "java/lang/invoke/MethodHandle" ∧ yX8_search.cls ≠ "java/lang/invoke/VarHandle" ∧ (parseMethodDescriptor yX8_search.desc).map (fun d => d.parameters.length) = some 1 := ⟨by decide +kernel, by decide +kernel, by decide +kernel⟩
theorem pn_yX8_search : plainName yX8_search.cls = true := by decide +kernel
theorem kV_X8_170 : zLV RX8 170 yX8_search mX8_search 1 := ⟨⟨ml_X8_170, in_RX8, co_yX8_search, pd_yX8_search, Nat.le_of_ble_eq_true rfl⟩, im_yX8_search, se_yX8_search⟩
theorem pd_yX8_first : yX8_first.cls ≠ "java/lang/invoke/MethodHandle" ∧ yX8_first.cls ≠ "java/lang/invoke/VarHandle" ∧ (parseMethodDescriptor yX8_first.desc).map (fun d => d.parameters.length) = some 0 := ⟨by decide +kernel, by decide +kernel, by decide +kernel⟩
theorem pn_yX8_first : plainName yX8_first.cls = true := by decide +kernel
theorem kV_X8_158 : zLV RX8 158 yX8_first mX8_first 0 := ⟨⟨ml_X8_158, in_RX8, co_yX8_first, pd_yX8_first, Nat.le_of_ble_eq_true rfl⟩, im_yX8_first, se_yX8_first⟩
theorem pd_yX8_isModel : yX8_isModel.cls ≠ "java/lang/invoke/MethodHandle" ∧ yX8_isModel.cls ≠ "java/lang/invoke/VarHandle" ∧ (parseMethodDescriptor yX8_isModel.desc).map (fun d => d.parameters.length) = some 0 := ⟨by decide +kernel, by decide +kernel, by decide +kernel⟩
theorem pn_yX8_isModel : plainName yX8_isModel.cls = true := by decide +kernel
theorem kV_X8_161 : zLV RX8 161 yX8_isModel mX8_isModel 0 := ⟨⟨ml_X8_161, in_RX8, co_yX8_isModel, pd_yX8_isModel, Nat.le_of_ble_eq_true rfl⟩, im_yX8_isModel, se_yX8_isModel⟩
theorem pd_yX8_is : yX8_is.cls ≠ "java/lang/invoke/MethodHandle" ∧ yX8_is.cls ≠ "java/lang/invoke/VarHandle" ∧ (parseMethodDescriptor yX8_is.desc).map (fun d => d.parameters.length) = some 1 := ⟨by decide +kernel, by decide +kernel, by decide +kernel⟩
theorem pn_yX8_is : plainName yX8_is.cls = true := by decide +kernel
theorem kV_X8_155 : zLV RX8 155 yX8_is mX8_is 1 := ⟨⟨ml_X8_155, in_RX8, co_yX8_is, pd_yX8_is, Nat.le_of_ble_eq_true rfl⟩, im_yX8_is, se_yX8_is⟩
theorem pd_yX8_spell : yX8_spell.cls ≠ "java/lang/invoke/MethodHandle" ∧ yX8_spell.cls ≠ "java/lang/invoke/VarHandle" ∧ (parseMethodDescriptor yX8_spell.desc).map (fun d => d.parameters.length) = some 2 := ⟨by decide +kernel, by decide +kernel, by decide +kernel⟩
theorem pn_yX8_spell : plainName yX8_spell.cls = true := by decide +kernel
theorem kV_X8_128 : zLV RX8 128 yX8_spell mX8_spell 2 := ⟨⟨ml_X8_128, in_RX8, co_yX8_spell, pd_yX8_spell, Nat.le_of_ble_eq_true rfl⟩, im_yX8_spell, se_yX8_spell⟩
theorem pd_yX8_isSame : yX8_isSame.cls ≠ "java/lang/invoke/MethodHandle" ∧ yX8_isSame.cls ≠ "java/lang/invoke/VarHandle" ∧ (parseMethodDescriptor yX8_isSame.desc).map (fun d => d.parameters.length) = some 0 := ⟨by decide +kernel, by decide +kernel, by decide +kernel⟩
theorem pn_yX8_isSame : plainName yX8_isSame.cls = true := by decide +kernel
theorem kV_X8_132 : zLV RX8 132 yX8_isSame mX8_isSame 0 := ⟨⟨ml_X8_132, in_RX8, co_yX8_isSame, pd_yX8_isSame, Nat.le_of_ble_eq_true rfl⟩, im_yX8_isSame, se_yX8_isSame⟩
theorem pd_yX8_isTaken : yX8_isTaken.cls ≠ "java/lang/invoke/MethodHandle" ∧ yX8_isTaken.cls ≠ "java/lang/invoke/VarHandle" ∧ (parseMethodDescriptor yX8_isTaken.desc).map (fun d => d.parameters.length) = some 2 := ⟨by decide +kernel, by decide +kernel, by decide +kernel⟩
theorem pn_yX8_isTaken : plainName yX8_isTaken.cls = true := by decide +kernel
theorem kV_X8_136 : zLV RX8 136 yX8_isTaken mX8_isTaken 2 := ⟨⟨ml_X8_136, in_RX8, co_yX8_isTaken, pd_yX8_isTaken, Nat.le_of_ble_eq_true rfl⟩, im_yX8_isTaken, se_yX8_isTaken⟩
theorem pd_yX8_isBefore : yX8_isBefore.cls ≠ "java/lang/invoke/MethodHandle" ∧ yX8_isBefore.cls ≠ "java/lang/invoke/VarHandle" ∧ (parseMethodDescriptor yX8_isBefore.desc).map (fun d => d.parameters.length) = some 0 := ⟨by decide +kernel, by decide +kernel, by decide +kernel⟩
theorem pn_yX8_isBefore : plainName yX8_isBefore.cls = true := by decide +kernel
theorem kV_X8_140 : zLV RX8 140 yX8_isBefore mX8_isBefore 0 := ⟨⟨ml_X8_140, in_RX8, co_yX8_isBefore, pd_yX8_isBefore, Nat.le_of_ble_eq_true rfl⟩, im_yX8_isBefore, se_yX8_isBefore⟩
theorem pd_yX8_found : yX8_found.cls ≠ "java/lang/invoke/MethodHandle" ∧ yX8_found.cls ≠ "java/lang/invoke/VarHandle" ∧ (parseMethodDescriptor yX8_found.desc).map (fun d => d.parameters.length) = some 2 := ⟨by decide +kernel, by decide +kernel, by decide +kernel⟩
theorem pn_yX8_found : plainName yX8_found.cls = true := by decide +kernel
theorem kV_X8_120 : zLV RX8 120 yX8_found mX8_found 2 := ⟨⟨ml_X8_120, in_RX8, co_yX8_found, pd_yX8_found, Nat.le_of_ble_eq_true rfl⟩, im_yX8_found, se_yX8_found⟩
theorem pd_yX8_isSum : yX8_isSum.cls ≠ "java/lang/invoke/MethodHandle" ∧ yX8_isSum.cls ≠ "java/lang/invoke/VarHandle" ∧ (parseMethodDescriptor yX8_isSum.desc).map (fun d => d.parameters.length) = some 2 := ⟨by decide +kernel, by decide +kernel, by decide +kernel⟩
theorem pn_yX8_isSum : plainName yX8_isSum.cls = true := by decide +kernel
theorem kV_X8_143 : zLV RX8 143 yX8_isSum mX8_isSum 2 := ⟨⟨ml_X8_143, in_RX8, co_yX8_isSum, pd_yX8_isSum, Nat.le_of_ble_eq_true rfl⟩, im_yX8_isSum, se_yX8_isSum⟩
theorem pd_yX8_isReplaced : yX8_isReplaced.cls ≠ "java/lang/invoke/MethodHandle" ∧ yX8_isReplaced.cls ≠ "java/lang/invoke/VarHandle" ∧ (parseMethodDescriptor yX8_isReplaced.desc).map (fun d => d.parameters.length) = some 0 := ⟨by decide +kernel, by decide +kernel, by decide +kernel⟩
theorem pn_yX8_isReplaced : plainName yX8_isReplaced.cls = true := by decide +kernel
theorem kV_X8_146 : zLV RX8 146 yX8_isReplaced mX8_isReplaced 0 := ⟨⟨ml_X8_146, in_RX8, co_yX8_isReplaced, pd_yX8_isReplaced, Nat.le_of_ble_eq_true rfl⟩, im_yX8_isReplaced, se_yX8_isReplaced⟩
theorem pd_yX8_make : yX8_make.cls ≠ "java/lang/invoke/MethodHandle" ∧ yX8_make.cls ≠ "java/lang/invoke/VarHandle" ∧ (parseMethodDescriptor yX8_make.desc).map (fun d => d.parameters.length) = some 3 := ⟨by decide +kernel, by decide +kernel, by decide +kernel⟩
theorem pn_yX8_make : plainName yX8_make.cls = true := by decide +kernel
theorem kV_X8_124 : zLV RX8 124 yX8_make mX8_make 3 := ⟨⟨ml_X8_124, in_RX8, co_yX8_make, pd_yX8_make, Nat.le_of_ble_eq_true rfl⟩, im_yX8_make, se_yX8_make⟩
theorem pd_yX8_next : yX8_next.cls ≠ "java/lang/invoke/MethodHandle" ∧ yX8_next.cls ≠ "java/lang/invoke/VarHandle" ∧ (parseMethodDescriptor yX8_next.desc).map (fun d => d.parameters.length) = some 0 := ⟨by decide +kernel, by decide +kernel, by decide +kernel⟩
theorem pn_yX8_next : plainName yX8_next.cls = true := by decide +kernel
theorem kV_X8_164 : zLV RX8 164 yX8_next mX8_next 0 := ⟨⟨ml_X8_164, in_RX8, co_yX8_next, pd_yX8_next, Nat.le_of_ble_eq_true rfl⟩, im_yX8_next, se_yX8_next⟩
theorem pd_yX8_nextLetters : yX8_nextLetters.cls ≠ "java/lang/invoke/MethodHandle" ∧ yX8_nextLetters.cls ≠ "java/lang/invoke/VarHandle" ∧ (parseMethodDescriptor yX8_nextLetters.desc).map (fun d => d.parameters.length) = some 0 := ⟨by decide +kernel, by decide +kernel, by decide +kernel⟩
theorem pn_yX8_nextLetters : plainName yX8_nextLetters.cls = true := by decide +kernel
theorem kV_X8_149 : zLV RX8 149 yX8_nextLetters mX8_nextLetters 0 := ⟨⟨ml_X8_149, in_RX8, co_yX8_nextLetters, pd_yX8_nextLetters, Nat.le_of_ble_eq_true rfl⟩, im_yX8_nextLetters, se_yX8_nextLetters⟩
theorem pd_yX8_nextLengths : yX8_nextLengths.cls ≠ "java/lang/invoke/MethodHandle" ∧ yX8_nextLengths.cls ≠ "java/lang/invoke/VarHandle" ∧ (parseMethodDescriptor yX8_nextLengths.desc).map (fun d => d.parameters.length) = some 0 := ⟨by decide +kernel, by decide +kernel, by decide +kernel⟩
theorem pn_yX8_nextLengths : plainName yX8_nextLengths.cls = true := by decide +kernel
theorem kV_X8_152 : zLV RX8 152 yX8_nextLengths mX8_nextLengths 0 := ⟨⟨ml_X8_152, in_RX8, co_yX8_nextLengths, pd_yX8_nextLengths, Nat.le_of_ble_eq_true rfl⟩, im_yX8_nextLengths, se_yX8_nextLengths⟩
theorem pd_yX7_model : yX7_model.cls ≠ "java/lang/invoke/MethodHandle" ∧ yX7_model.cls ≠ "java/lang/invoke/VarHandle" ∧ (parseMethodDescriptor yX7_model.desc).map (fun d => d.parameters.length) = some 1 := ⟨by decide +kernel, by decide +kernel, by decide +kernel⟩
theorem pn_yX7_model : plainName yX7_model.cls = true := by decide +kernel
theorem kV_L_64 : zLV RL 64 yX7_model mX7_model 1 := ⟨⟨ml_L_64, in_RX7, co_yX7_model, pd_yX7_model, Nat.le_of_ble_eq_true rfl⟩, im_yX7_model, se_yX7_model⟩
theorem pd_yX8_model : yX8_model.cls ≠ "java/lang/invoke/MethodHandle" ∧ yX8_model.cls ≠ "java/lang/invoke/VarHandle" ∧ (parseMethodDescriptor yX8_model.desc).map (fun d => d.parameters.length) = some 1 := ⟨by decide +kernel, by decide +kernel, by decide +kernel⟩
theorem pn_yX8_model : plainName yX8_model.cls = true := by decide +kernel
theorem kV_L_67 : zLV RL 67 yX8_model mX8_model 1 := ⟨⟨ml_L_67, in_RX8, co_yX8_model, pd_yX8_model, Nat.le_of_ble_eq_true rfl⟩, im_yX8_model, se_yX8_model⟩
theorem pd_yX7_models : yX7_models.cls ≠ "java/lang/invoke/MethodHandle" ∧ yX7_models.cls ≠ "java/lang/invoke/VarHandle" ∧ (parseMethodDescriptor yX7_models.desc).map (fun d => d.parameters.length) = some 0 := ⟨by decide +kernel, by decide +kernel, by decide +kernel⟩
theorem pn_yX7_models : plainName yX7_models.cls = true := by decide +kernel
theorem kV_L_68 : zLV RL 68 yX7_models mX7_models 0 := ⟨⟨ml_L_68, in_RX7, co_yX7_models, pd_yX7_models, Nat.le_of_ble_eq_true rfl⟩, im_yX7_models, se_yX7_models⟩
theorem pd_yX8_models : yX8_models.cls ≠ "java/lang/invoke/MethodHandle" ∧ yX8_models.cls ≠ "java/lang/invoke/VarHandle" ∧ (parseMethodDescriptor yX8_models.desc).map (fun d => d.parameters.length) = some 0 := ⟨by decide +kernel, by decide +kernel, by decide +kernel⟩
theorem pn_yX8_models : plainName yX8_models.cls = true := by decide +kernel
theorem kV_L_71 : zLV RL 71 yX8_models mX8_models 0 := ⟨⟨ml_L_71, in_RX8, co_yX8_models, pd_yX8_models, Nat.le_of_ble_eq_true rfl⟩, im_yX8_models, se_yX8_models⟩
theorem pd_yX7_length : yX7_length.cls ≠ "java/lang/invoke/MethodHandle" ∧ yX7_length.cls ≠ "java/lang/invoke/VarHandle" ∧ (parseMethodDescriptor yX7_length.desc).map (fun d => d.parameters.length) = some 1 := ⟨by decide +kernel, by decide +kernel, by decide +kernel⟩
theorem pn_yX7_length : plainName yX7_length.cls = true := by decide +kernel
theorem kV_L_72 : zLV RL 72 yX7_length mX7_length 1 := ⟨⟨ml_L_72, in_RX7, co_yX7_length, pd_yX7_length, Nat.le_of_ble_eq_true rfl⟩, im_yX7_length, se_yX7_length⟩
theorem pd_yX6_lengthOf : yX6_lengthOf.cls ≠ "java/lang/invoke/MethodHandle" ∧ yX6_lengthOf.cls ≠ "java/lang/invoke/VarHandle" ∧ (parseMethodDescriptor yX6_lengthOf.desc).map (fun d => d.parameters.length) = some 1 := ⟨by decide +kernel, by decide +kernel, by decide +kernel⟩
theorem pn_yX6_lengthOf : plainName yX6_lengthOf.cls = true := by decide +kernel
theorem kV_X7_181 : zLV RX7 181 yX6_lengthOf mX6_lengthOf 1 := ⟨⟨ml_X7_181, in_RX6, co_yX6_lengthOf, pd_yX6_lengthOf, Nat.le_of_ble_eq_true rfl⟩, im_yX6_lengthOf, se_yX6_lengthOf⟩
theorem kV_X6_65 : zLV RX6 65 yX4_isText mX4_isText 1 := ⟨⟨ml_X6_65, in_RX4, co_yX4_isText, pd_yX4_isText, Nat.le_of_ble_eq_true rfl⟩, im_yX4_isText, se_yX4_isText⟩
theorem pd_yX8_length : yX8_length.cls ≠ "java/lang/invoke/MethodHandle" ∧ yX8_length.cls ≠ "java/lang/invoke/VarHandle" ∧ (parseMethodDescriptor yX8_length.desc).map (fun d => d.parameters.length) = some 1 := ⟨by decide +kernel, by decide +kernel, by decide +kernel⟩
theorem pn_yX8_length : plainName yX8_length.cls = true := by decide +kernel
theorem kV_L_75 : zLV RL 75 yX8_length mX8_length 1 := ⟨⟨ml_L_75, in_RX8, co_yX8_length, pd_yX8_length, Nat.le_of_ble_eq_true rfl⟩, im_yX8_length, se_yX8_length⟩
theorem pd_yX7_letter : yX7_letter.cls ≠ "java/lang/invoke/MethodHandle" ∧ yX7_letter.cls ≠ "java/lang/invoke/VarHandle" ∧ (parseMethodDescriptor yX7_letter.desc).map (fun d => d.parameters.length) = some 2 := ⟨by decide +kernel, by decide +kernel, by decide +kernel⟩
theorem pn_yX7_letter : plainName yX7_letter.cls = true := by decide +kernel
theorem kV_L_76 : zLV RL 76 yX7_letter mX7_letter 2 := ⟨⟨ml_L_76, in_RX7, co_yX7_letter, pd_yX7_letter, Nat.le_of_ble_eq_true rfl⟩, im_yX7_letter, se_yX7_letter⟩
theorem pd_yX6_letterOf : yX6_letterOf.cls ≠ "java/lang/invoke/MethodHandle" ∧ yX6_letterOf.cls ≠ "java/lang/invoke/VarHandle" ∧ (parseMethodDescriptor yX6_letterOf.desc).map (fun d => d.parameters.length) = some 2 := ⟨by decide +kernel, by decide +kernel, by decide +kernel⟩
theorem pn_yX6_letterOf : plainName yX6_letterOf.cls = true := by decide +kernel
theorem kV_X7_184 : zLV RX7 184 yX6_letterOf mX6_letterOf 2 := ⟨⟨ml_X7_184, in_RX6, co_yX6_letterOf, pd_yX6_letterOf, Nat.le_of_ble_eq_true rfl⟩, im_yX6_letterOf, se_yX6_letterOf⟩
theorem kV_X6_69 : zLV RX6 69 yX6_lengthOf mX6_lengthOf 1 := ⟨⟨ml_X6_69, in_RX6, co_yX6_lengthOf, pd_yX6_lengthOf, Nat.le_of_ble_eq_true rfl⟩, im_yX6_lengthOf, se_yX6_lengthOf⟩
theorem pd_yX8_letter : yX8_letter.cls ≠ "java/lang/invoke/MethodHandle" ∧ yX8_letter.cls ≠ "java/lang/invoke/VarHandle" ∧ (parseMethodDescriptor yX8_letter.desc).map (fun d => d.parameters.length) = some 2 := ⟨by decide +kernel, by decide +kernel, by decide +kernel⟩
theorem pn_yX8_letter : plainName yX8_letter.cls = true := by decide +kernel
theorem kV_L_79 : zLV RL 79 yX8_letter mX8_letter 2 := ⟨⟨ml_L_79, in_RX8, co_yX8_letter, pd_yX8_letter, Nat.le_of_ble_eq_true rfl⟩, im_yX8_letter, se_yX8_letter⟩
theorem pd_yX7_holds : yX7_holds.cls ≠ "java/lang/invoke/MethodHandle" ∧ yX7_holds.cls ≠ "java/lang/invoke/VarHandle" ∧ (parseMethodDescriptor yX7_holds.desc).map (fun d => d.parameters.length) = some 1 := ⟨by decide +kernel, by decide +kernel, by decide +kernel⟩
theorem pn_yX7_holds : plainName yX7_holds.cls = true := by decide +kernel
theorem kV_L_80 : zLV RL 80 yX7_holds mX7_holds 1 := ⟨⟨ml_L_80, in_RX7, co_yX7_holds, pd_yX7_holds, Nat.le_of_ble_eq_true rfl⟩, im_yX7_holds, se_yX7_holds⟩
theorem pd_yX8_holds : yX8_holds.cls ≠ "java/lang/invoke/MethodHandle" ∧ yX8_holds.cls ≠ "java/lang/invoke/VarHandle" ∧ (parseMethodDescriptor yX8_holds.desc).map (fun d => d.parameters.length) = some 1 := ⟨by decide +kernel, by decide +kernel, by decide +kernel⟩
theorem pn_yX8_holds : plainName yX8_holds.cls = true := by decide +kernel
theorem kV_L_83 : zLV RL 83 yX8_holds mX8_holds 1 := ⟨⟨ml_L_83, in_RX8, co_yX8_holds, pd_yX8_holds, Nat.le_of_ble_eq_true rfl⟩, im_yX8_holds, se_yX8_holds⟩
theorem pd_yX7_core : yX7_core.cls ≠ "java/lang/invoke/MethodHandle" ∧ yX7_core.cls ≠ "java/lang/invoke/VarHandle" ∧ (parseMethodDescriptor yX7_core.desc).map (fun d => d.parameters.length) = some 0 := ⟨by decide +kernel, by decide +kernel, by decide +kernel⟩
theorem pn_yX7_core : plainName yX7_core.cls = true := by decide +kernel
theorem kV_L_84 : zLV RL 84 yX7_core mX7_core 0 := ⟨⟨ml_L_84, in_RX7, co_yX7_core, pd_yX7_core, Nat.le_of_ble_eq_true rfl⟩, im_yX7_core, se_yX7_core⟩
theorem pd_yX7_hasModel : yX7_hasModel.cls ≠ "java/lang/invoke/MethodHandle" ∧ yX7_hasModel.cls ≠ "java/lang/invoke/VarHandle" ∧ (parseMethodDescriptor yX7_hasModel.desc).map (fun d => d.parameters.length) = some 1 := ⟨by decide +kernel, by decide +kernel, by decide +kernel⟩
theorem pn_yX7_hasModel : plainName yX7_hasModel.cls = true := by decide +kernel
theorem kV_X7_191 : zLV RX7 191 yX7_hasModel mX7_hasModel 1 := ⟨⟨ml_X7_191, in_RX7, co_yX7_hasModel, pd_yX7_hasModel, Nat.le_of_ble_eq_true rfl⟩, im_yX7_hasModel, se_yX7_hasModel⟩
theorem pd_yJ6_bitCount_0f7a4 : yJ6_bitCount_0f7a4.cls ≠ "java/lang/invoke/MethodHandle" ∧ yJ6_bitCount_0f7a4.cls ≠ "java/lang/invoke/VarHandle" ∧ (parseMethodDescriptor yJ6_bitCount_0f7a4.desc).map (fun d => d.parameters.length) = some 1 := ⟨by decide +kernel, by decide +kernel, by decide +kernel⟩
theorem pn_yJ6_bitCount_0f7a4 : plainName yJ6_bitCount_0f7a4.cls = true := by decide +kernel
theorem kS_X7_200 : zLS RX7 200 yJ6_bitCount_0f7a4 mJ6_bitCount_0f7a4 1 := ⟨⟨ml_X7_200, in_RJ6, co_yJ6_bitCount_0f7a4, pd_yJ6_bitCount_0f7a4, Nat.le_of_ble_eq_true rfl⟩, st_yJ6_bitCount_0f7a4⟩
theorem pd_yX8_core : yX8_core.cls ≠ "java/lang/invoke/MethodHandle" ∧ yX8_core.cls ≠ "java/lang/invoke/VarHandle" ∧ (parseMethodDescriptor yX8_core.desc).map (fun d => d.parameters.length) = some 0 := ⟨by decide +kernel, by decide +kernel, by decide +kernel⟩
theorem pn_yX8_core : plainName yX8_core.cls = true := by decide +kernel
theorem kV_L_87 : zLV RL 87 yX8_core mX8_core 0 := ⟨⟨ml_L_87, in_RX8, co_yX8_core, pd_yX8_core, Nat.le_of_ble_eq_true rfl⟩, im_yX8_core, se_yX8_core⟩
theorem pd_yX7_inCore : yX7_inCore.cls ≠ "java/lang/invoke/MethodHandle" ∧ yX7_inCore.cls ≠ "java/lang/invoke/VarHandle" ∧ (parseMethodDescriptor yX7_inCore.desc).map (fun d => d.parameters.length) = some 1 := ⟨by decide +kernel, by decide +kernel, by decide +kernel⟩
theorem pn_yX7_inCore : plainName yX7_inCore.cls = true := by decide +kernel
theorem kV_L_88 : zLV RL 88 yX7_inCore mX7_inCore 1 := ⟨⟨ml_L_88, in_RX7, co_yX7_inCore, pd_yX7_inCore, Nat.le_of_ble_eq_true rfl⟩, im_yX7_inCore, se_yX7_inCore⟩
theorem pd_yX8_inCore : yX8_inCore.cls ≠ "java/lang/invoke/MethodHandle" ∧ yX8_inCore.cls ≠ "java/lang/invoke/VarHandle" ∧ (parseMethodDescriptor yX8_inCore.desc).map (fun d => d.parameters.length) = some 1 := ⟨by decide +kernel, by decide +kernel, by decide +kernel⟩
theorem pn_yX8_inCore : plainName yX8_inCore.cls = true := by decide +kernel
theorem kV_L_91 : zLV RL 91 yX8_inCore mX8_inCore 1 := ⟨⟨ml_L_91, in_RX8, co_yX8_inCore, pd_yX8_inCore, Nat.le_of_ble_eq_true rfl⟩, im_yX8_inCore, se_yX8_inCore⟩
theorem pd_yX7_spans : yX7_spans.cls ≠ "java/lang/invoke/MethodHandle" ∧ yX7_spans.cls ≠ "java/lang/invoke/VarHandle" ∧ (parseMethodDescriptor yX7_spans.desc).map (fun d => d.parameters.length) = some 0 := ⟨by decide +kernel, by decide +kernel, by decide +kernel⟩
theorem pn_yX7_spans : plainName yX7_spans.cls = true := by decide +kernel
theorem kV_L_92 : zLV RL 92 yX7_spans mX7_spans 0 := ⟨⟨ml_L_92, in_RX7, co_yX7_spans, pd_yX7_spans, Nat.le_of_ble_eq_true rfl⟩, im_yX7_spans, se_yX7_spans⟩
theorem kV_X7_209 : zLV RX7 209 yX4_lengthWays mX4_lengthWays 0 := ⟨⟨ml_X7_209, in_RX4, co_yX4_lengthWays, pd_yX4_lengthWays, Nat.le_of_ble_eq_true rfl⟩, im_yX4_lengthWays, se_yX4_lengthWays⟩
theorem pd_yX7_areLengthsFit : yX7_areLengthsFit.cls ≠ "java/lang/invoke/MethodHandle" ∧ yX7_areLengthsFit.cls ≠ "java/lang/invoke/VarHandle" ∧ (parseMethodDescriptor yX7_areLengthsFit.desc).map (fun d => d.parameters.length) = some 0 := ⟨by decide +kernel, by decide +kernel, by decide +kernel⟩
theorem pn_yX7_areLengthsFit : plainName yX7_areLengthsFit.cls = true := by decide +kernel
theorem kV_X7_212 : zLV RX7 212 yX7_areLengthsFit mX7_areLengthsFit 0 := ⟨⟨ml_X7_212, in_RX7, co_yX7_areLengthsFit, pd_yX7_areLengthsFit, Nat.le_of_ble_eq_true rfl⟩, im_yX7_areLengthsFit, se_yX7_areLengthsFit⟩
theorem pd_yX7_isLengthFit : yX7_isLengthFit.cls ≠ "java/lang/invoke/MethodHandle" ∧ yX7_isLengthFit.cls ≠ "java/lang/invoke/VarHandle" ∧ (parseMethodDescriptor yX7_isLengthFit.desc).map (fun d => d.parameters.length) = some 1 := ⟨by decide +kernel, by decide +kernel, by decide +kernel⟩
theorem pn_yX7_isLengthFit : plainName yX7_isLengthFit.cls = true := by decide +kernel
theorem kV_X7_261 : zLV RX7 261 yX7_isLengthFit mX7_isLengthFit 1 := ⟨⟨ml_X7_261, in_RX7, co_yX7_isLengthFit, pd_yX7_isLengthFit, Nat.le_of_ble_eq_true rfl⟩, im_yX7_isLengthFit, se_yX7_isLengthFit⟩
theorem kV_X7_272 : zLV RX7 272 yX1_isLonger mX1_isLonger 2 := ⟨⟨ml_X7_272, in_RX1, co_yX1_isLonger, pd_yX1_isLonger, Nat.le_of_ble_eq_true rfl⟩, im_yX1_isLonger, se_yX1_isLonger⟩
theorem kV_X7_276 : zLV RX7 276 yX1_isOneLength mX1_isOneLength 2 := ⟨⟨ml_X7_276, in_RX1, co_yX1_isOneLength, pd_yX1_isOneLength, Nat.le_of_ble_eq_true rfl⟩, im_yX1_isOneLength, se_yX1_isOneLength⟩
theorem kV_X7_216 : zLV RX7 216 yX6_goToNextLengths mX6_goToNextLengths 0 := ⟨⟨ml_X7_216, in_RX6, co_yX6_goToNextLengths, pd_yX6_goToNextLengths, Nat.le_of_ble_eq_true rfl⟩, im_yX6_goToNextLengths, se_yX6_goToNextLengths⟩
theorem pd_yX8_spans : yX8_spans.cls ≠ "java/lang/invoke/MethodHandle" ∧ yX8_spans.cls ≠ "java/lang/invoke/VarHandle" ∧ (parseMethodDescriptor yX8_spans.desc).map (fun d => d.parameters.length) = some 0 := ⟨by decide +kernel, by decide +kernel, by decide +kernel⟩
theorem pn_yX8_spans : plainName yX8_spans.cls = true := by decide +kernel
theorem kV_L_95 : zLV RL 95 yX8_spans mX8_spans 0 := ⟨⟨ml_L_95, in_RX8, co_yX8_spans, pd_yX8_spans, Nat.le_of_ble_eq_true rfl⟩, im_yX8_spans, se_yX8_spans⟩
theorem pd_yX8_lengthOf : yX8_lengthOf.cls ≠ "java/lang/invoke/MethodHandle" ∧ yX8_lengthOf.cls ≠ "java/lang/invoke/VarHandle" ∧ (parseMethodDescriptor yX8_lengthOf.desc).map (fun d => d.parameters.length) = some 1 := ⟨by decide +kernel, by decide +kernel, by decide +kernel⟩
theorem pn_yX8_lengthOf : plainName yX8_lengthOf.cls = true := by decide +kernel
theorem kV_X8_177 : zLV RX8 177 yX8_lengthOf mX8_lengthOf 1 := ⟨⟨ml_X8_177, in_RX8, co_yX8_lengthOf, pd_yX8_lengthOf, Nat.le_of_ble_eq_true rfl⟩, im_yX8_lengthOf, se_yX8_lengthOf⟩
theorem pd_yX7_meet : yX7_meet.cls ≠ "java/lang/invoke/MethodHandle" ∧ yX7_meet.cls ≠ "java/lang/invoke/VarHandle" ∧ (parseMethodDescriptor yX7_meet.desc).map (fun d => d.parameters.length) = some 2 := ⟨by decide +kernel, by decide +kernel, by decide +kernel⟩
theorem pn_yX7_meet : plainName yX7_meet.cls = true := by decide +kernel
theorem kV_L_96 : zLV RL 96 yX7_meet mX7_meet 2 := ⟨⟨ml_L_96, in_RX7, co_yX7_meet, pd_yX7_meet, Nat.le_of_ble_eq_true rfl⟩, im_yX7_meet, se_yX7_meet⟩
theorem pd_yX2_shortestWith : yX2_shortestWith.cls ≠ "java/lang/invoke/MethodHandle" ∧ yX2_shortestWith.cls ≠ "java/lang/invoke/VarHandle" ∧ (parseMethodDescriptor yX2_shortestWith.desc).map (fun d => d.parameters.length) = some 2 := ⟨by decide +kernel, by decide +kernel, by decide +kernel⟩
theorem pn_yX2_shortestWith : plainName yX2_shortestWith.cls = true := by decide +kernel
theorem kV_X7_222 : zLV RX7 222 yX2_shortestWith mX2_shortestWith 2 := ⟨⟨ml_X7_222, in_RX2, co_yX2_shortestWith, pd_yX2_shortestWith, Nat.le_of_ble_eq_true rfl⟩, im_yX2_shortestWith, se_yX2_shortestWith⟩
theorem pd_yX8_meet : yX8_meet.cls ≠ "java/lang/invoke/MethodHandle" ∧ yX8_meet.cls ≠ "java/lang/invoke/VarHandle" ∧ (parseMethodDescriptor yX8_meet.desc).map (fun d => d.parameters.length) = some 2 := ⟨by decide +kernel, by decide +kernel, by decide +kernel⟩
theorem pn_yX8_meet : plainName yX8_meet.cls = true := by decide +kernel
theorem kV_L_99 : zLV RL 99 yX8_meet mX8_meet 2 := ⟨⟨ml_L_99, in_RX8, co_yX8_meet, pd_yX8_meet, Nat.le_of_ble_eq_true rfl⟩, im_yX8_meet, se_yX8_meet⟩
theorem pd_yX7_told : yX7_told.cls ≠ "java/lang/invoke/MethodHandle" ∧ yX7_told.cls ≠ "java/lang/invoke/VarHandle" ∧ (parseMethodDescriptor yX7_told.desc).map (fun d => d.parameters.length) = some 1 := ⟨by decide +kernel, by decide +kernel, by decide +kernel⟩
theorem pn_yX7_told : plainName yX7_told.cls = true := by decide +kernel
theorem kV_L_100 : zLV RL 100 yX7_told mX7_told 1 := ⟨⟨ml_L_100, in_RX7, co_yX7_told, pd_yX7_told, Nat.le_of_ble_eq_true rfl⟩, im_yX7_told, se_yX7_told⟩
theorem pd_yX8_told : yX8_told.cls ≠ "java/lang/invoke/MethodHandle" ∧ yX8_told.cls ≠ "java/lang/invoke/VarHandle" ∧ (parseMethodDescriptor yX8_told.desc).map (fun d => d.parameters.length) = some 1 := ⟨by decide +kernel, by decide +kernel, by decide +kernel⟩
theorem pn_yX8_told : plainName yX8_told.cls = true := by decide +kernel
theorem kV_L_103 : zLV RL 103 yX8_told mX8_told 1 := ⟨⟨ml_L_103, in_RX8, co_yX8_told, pd_yX8_told, Nat.le_of_ble_eq_true rfl⟩, im_yX8_told, se_yX8_told⟩
theorem pd_yX4_init : yX4_init.cls ≠ "java/lang/invoke/MethodHandle" ∧ yX4_init.cls ≠ "java/lang/invoke/VarHandle" ∧ (parseMethodDescriptor yX4_init.desc).map (fun d => d.parameters.length) = some 0 := ⟨by decide +kernel, by decide +kernel, by decide +kernel⟩
theorem pn_yX4_init : plainName yX4_init.cls = true := by decide +kernel
theorem kN_X7_11 : zLN RX7 11 yX4_init mX4_init 0 := ⟨⟨List.mem_of_getElem? (i := 0) rfl, in_RX4, co_yX4_init, pd_yX4_init, Nat.le_of_ble_eq_true rfl⟩, im_yX4_init, rfl, rfl⟩
theorem pd_yX5_init : yX5_init.cls ≠ "java/lang/invoke/MethodHandle" ∧ yX5_init.cls ≠ "java/lang/invoke/VarHandle" ∧ (parseMethodDescriptor yX5_init.desc).map (fun d => d.parameters.length) = some 0 := ⟨by decide +kernel, by decide +kernel, by decide +kernel⟩
theorem pn_yX5_init : plainName yX5_init.cls = true := by decide +kernel
theorem kN_X7_55 : zLN RX7 55 yX5_init mX5_init 0 := ⟨⟨List.mem_of_getElem? (i := 1) rfl, in_RX5, co_yX5_init, pd_yX5_init, Nat.le_of_ble_eq_true rfl⟩, im_yX5_init, rfl, rfl⟩
theorem pd_yX2_init : yX2_init.cls ≠ "java/lang/invoke/MethodHandle" ∧ yX2_init.cls ≠ "java/lang/invoke/VarHandle" ∧ (parseMethodDescriptor yX2_init.desc).map (fun d => d.parameters.length) = some 0 := ⟨by decide +kernel, by decide +kernel, by decide +kernel⟩
theorem pn_yX2_init : plainName yX2_init.cls = true := by decide +kernel
theorem kN_X7_56 : zLN RX7 56 yX2_init mX2_init 0 := ⟨⟨List.mem_of_getElem? (i := 2) rfl, in_RX2, co_yX2_init, pd_yX2_init, Nat.le_of_ble_eq_true rfl⟩, im_yX2_init, rfl, rfl⟩
theorem pd_yX0_init : yX0_init.cls ≠ "java/lang/invoke/MethodHandle" ∧ yX0_init.cls ≠ "java/lang/invoke/VarHandle" ∧ (parseMethodDescriptor yX0_init.desc).map (fun d => d.parameters.length) = some 0 := ⟨by decide +kernel, by decide +kernel, by decide +kernel⟩
theorem pn_yX0_init : plainName yX0_init.cls = true := by decide +kernel
theorem kN_X7_57 : zLN RX7 57 yX0_init mX0_init 0 := ⟨⟨List.mem_of_getElem? (i := 3) rfl, in_RX0, co_yX0_init, pd_yX0_init, Nat.le_of_ble_eq_true rfl⟩, im_yX0_init, rfl, rfl⟩
theorem kN_X1_11 : zLN RX1 11 yX5_init mX5_init 0 := ⟨⟨List.mem_of_getElem? (i := 4) rfl, in_RX5, co_yX5_init, pd_yX5_init, Nat.le_of_ble_eq_true rfl⟩, im_yX5_init, rfl, rfl⟩
theorem pd_yX3_init : yX3_init.cls ≠ "java/lang/invoke/MethodHandle" ∧ yX3_init.cls ≠ "java/lang/invoke/VarHandle" ∧ (parseMethodDescriptor yX3_init.desc).map (fun d => d.parameters.length) = some 0 := ⟨by decide +kernel, by decide +kernel, by decide +kernel⟩
theorem pn_yX3_init : plainName yX3_init.cls = true := by decide +kernel
theorem kN_X1_20 : zLN RX1 20 yX3_init mX3_init 0 := ⟨⟨List.mem_of_getElem? (i := 5) rfl, in_RX3, co_yX3_init, pd_yX3_init, Nat.le_of_ble_eq_true rfl⟩, im_yX3_init, rfl, rfl⟩
theorem s_istore_n {M : zM} {d : Nat} {sc : zS} {mc ms : Nat} {Q : zQ} {cells slots N : Nat} {g : Nat → zE} {pc : Nat} {lv : List (Option Value)} {st : List Value} {kk : Fin 4} {x : Int32} (i : Nat) (hd : decode (zcc M) pc = .ok (.istore_n kk, 1)) (hi : (kk : Nat) = i) (hn : i < znl M) (ho : zok lv i = true) (k : Wq M d sc mc ms Q cells slots N g (pc + 1) (lv.set i (some (.int x))) st) : Wq M d sc mc ms Q cells slots N g pc lv (.int x :: st) := by
  subst hi
  exact q_istore_n hd hn ho k
theorem s_lstore_n {M : zM} {d : Nat} {sc : zS} {mc ms : Nat} {Q : zQ} {cells slots N : Nat} {g : Nat → zE} {pc : Nat} {lv : List (Option Value)} {st : List Value} {kk : Fin 4} {x : Int64} (i : Nat) (hd : decode (zcc M) pc = .ok (.lstore_n kk, 1)) (hi : (kk : Nat) = i) (hn : i + 1 < znl M) (ho : zok lv i = true) (k : Wq M d sc mc ms Q cells slots N g (pc + 1) ((lv.set i (some (.long x))).set (i + 1) none) st) : Wq M d sc mc ms Q cells slots N g pc lv (.long x :: st) := by
  subst hi
  exact q_lstore_n hd hn ho k
theorem s_astore_n {M : zM} {d : Nat} {sc : zS} {mc ms : Nat} {Q : zQ} {cells slots N : Nat} {g : Nat → zE} {pc : Nat} {lv : List (Option Value)} {st : List Value} {kk : Fin 4} {x : Nat} (i : Nat) (hd : decode (zcc M) pc = .ok (.astore_n kk, 1)) (hi : (kk : Nat) = i) (hn : i < znl M) (ho : zok lv i = true) (k : Wq M d sc mc ms Q cells slots N g (pc + 1) (lv.set i (some (.ref x))) st) : Wq M d sc mc ms Q cells slots N g pc lv (.ref x :: st) := by
  subst hi
  exact q_astore_n hd hn ho k
theorem Met.ofWF {l : Launch} {y : MethodName} {ws ws' : List Cond} {rm : Room} {Pc : Array Value → State → Prop} {Qc : Array Value → State → Outcome → State → Prop} {mc ms : Nat} {free : Addr → Prop} {cc : ByteArray} {maxL : Nat} {ret : Option FieldType}
    (hy : plainFor y = true) (hw : ws = Cond.code y cc maxL ret :: ws')
    (body : ∀ p e s m args below meth c s₁, BodyLoose p l y (headSpec ws rm) cc maxL ret e s m args below meth c s₁ → c.maxLocals = maxL → Pc args s →
      W p l e (headSpec ws rm).room s m args below meth c s.heap [] 0 0 (MQ below Qc args s mc ms free) (entryFrame m args maxL)) : Met l y ws rm Pc Qc mc ms free := by
  refine MetFree.of_bodySF (code := cc) (maxLocals := maxL) (ret := ret) hy ?_ ?_
  · intro args s m h hn
    obtain ⟨meth, c, h1, h2, h3, h4, h5, h6, -, -⟩ := Cond.code_spec hn (atoms_spec (ws := ws) h _ (by rw [hw]; exact List.mem_cons_self))
    exact ⟨meth, c, h1, h2, h3, h4, h5, h6⟩
  · intro p e s m args below meth c s₁ B hml hP _
    have hh0 : s₁.heap = s.heap := by rw [B.state]; rfl
    obtain ⟨t, a1, o, b1, b2, b3⟩ := body p e s m args below meth c s₁ B hml hP s₁ hh0 (Stand.of_body B)
    exact ⟨t, o, a1, b1, b2, ⟨b3.1, b3.2⟩⟩
theorem zC_ofF {y : MethodName} {M : zM} {d mc ms : Nat} {args : List Value} {N : Nat} {g : Nat → zE} {Q : zQ} {lv : List (Option Value)} (hy : plainFor y = true) (ho : zown M = y.cls) (hi : zini M = true → y.name = "<init>") (hlv : zent (znl M) args = lv) (hlen : (zargs args).length ≤ znl M)
    (h : Wq M d none mc ms Q 0 0 N g 0 lv []) : zC y M d mc ms args N g Q := by
  intro l D cA b base
  refine Met.ofWF (cc := zcc M) (maxL := znl M) (ret := zret M) hy rfl ?_
  intro p e s m args' below meth c s₁ B hml hv
  obtain ⟨rfl, hR, hK, hN⟩ := hv
  have hts := atoms_spec (ws := Cond.code y (zcc M) (znl M) (zret M) :: TB) B.pre
  have hown : s.vm.findClass (zown M) = some m.cls := by rw [ho]; exact findClass_of_methodNamed B.named
  have hname := (name_of_methodNamed B.named B.method).1
  rw [lg_entry_eq]
  subst hlv
  refine h l p e _ s m _ below meth c D cA b base _ ⟨B.exec, B.bytes, hml, B.returns, B.notSynchronized, hown, fun w hw => hts w (List.mem_cons_of_mem _ hw), fun h1 => hname.trans (hi h1), ⟨Nat.le_refl _, Nat.le_refl _, Nat.le_refl _, Nat.le_refl _⟩, hK, hN, ?_, ?_, ?_⟩ s.heap [] _ hR va_S.rf (zent_zL hlen)
  · rw [hR.1]; exact Nat.le_add_right _ _
  · intro L xs h2; cases h2
  · intro v N' g' H locs ls pc hq hR' hS' hret
    exact zC_end B.exec B.bytes B.returns B.notSynchronized hq hR' hS' hret
end
section
/-! helpers of contracts -/
def bI (p : Prop) [Decidable p] : Int32 := if p then 1 else 0
theorem bI_t {p : Prop} [Decidable p] (h : p) : bI p = 1 := if_pos h
theorem bI_f {p : Prop} [Decidable p] (h : ¬ p) : bI p = 0 := if_neg h
theorem bI_01 (p : Prop) [Decidable p] : bI p = 0 ∨ bI p = 1 := by by_cases h : p <;> simp [bI, h]
theorem bI_nz {p : Prop} [Decidable p] : ¬ bI p = 0 ↔ p := by by_cases h : p <;> simp [bI, h]
theorem bI_z {p : Prop} [Decidable p] : bI p = 0 ↔ ¬ p := by by_cases h : p <;> simp [bI, h]
/-- an int comes back, nothing changes -/
def pI (r : Int32) (sg : zI) (ta : zJ) : zPost := fun v s t => v = some (.int r) ∧ s = sg ∧ t = ta
def pV (sg : zI) (ta : zJ) : zPost := fun v s t => v = none ∧ s = sg ∧ t = ta
theorem aal {n t K : Nat} (h : t < n) (hn : n < 2 ^ 31) : (fun j => if j < n then some (nm K j) else none) (nI t).toNatClampNeg = some (nm K t) := by
  show (if (nI t).toNatClampNeg < n then some (nm K (nI t).toNatClampNeg) else none) = _
  rw [nI_clamp (by omega), if_pos h]
theorem nI_inc (i : Nat) : nI i + Int32.ofInt 1 = nI (i + 1) := nI_1 i
theorem nI_dec (i : Nat) : nI (i + 1) + Int32.ofInt (-1) = nI i := pk_m1 i
/-! Space -/
set_option maxRecDepth 100000 in
set_option maxHeartbeats 4000000 in
theorem c_Space_isLetter (sg : zI) (ta : zJ) (x : Int32) : zP yX4_isLetter mX4_isLetter 0 [.ref (nm 1 0), .int x] sg ta (pI (bI (0 ≤ x ∧ x < sg 1 0 1)) sg ta) := by
  refine zP_of (lv := [some (.ref (nm 1 0)), some (.int x)]) (by decide +kernel) rfl (fun h => by cases h) rfl (Nat.le_of_ble_eq_true rfl) ?_
  refine q_iload_n dX4_isLetter_0 rfl ?_
  refine q_if_lt 16 dX4_isLetter_1 (by decide) (fun h => ?_) (fun h => ?_)
  · refine q_iconst (v := 0) dX4_isLetter_16 rfl ?_
    exact z_zret dX4_isLetter_17 rfl (Or.inl rfl) ⟨by rw [bI_f (fun q => absurd h (Int32.not_lt.mpr q.1))], rfl, rfl⟩
  · refine q_iload_n dX4_isLetter_4 rfl ?_
    refine q_aload_n dX4_isLetter_5 rfl ?_
    refine z_get 1 dX4_isLetter_6 (by first | assumption | decide) (sh_1 _ _ _) rfl (by decide) fl_X4_15 rfl ?_
    refine q_icmp_ge 16 dX4_isLetter_9 (by decide) (fun h2 => ?_) (fun h2 => ?_)
    · refine q_iconst (v := 0) dX4_isLetter_16 rfl ?_
      exact z_zret dX4_isLetter_17 rfl (Or.inl rfl) ⟨by rw [bI_f (fun q => absurd q.2 (Int32.not_lt.mpr h2))], rfl, rfl⟩
    · refine q_iconst (v := 1) dX4_isLetter_12 rfl ?_
      refine q_goto 17 dX4_isLetter_13 (by decide) ?_
      exact z_zret dX4_isLetter_17 rfl (Or.inr rfl) ⟨by rw [bI_t ⟨Int32.not_lt.mp h, Int32.not_le.mp h2⟩], rfl, rfl⟩
def rowsN (A : Nat) : Nat → Nat
  | 0 => 1
  | m + 1 => rowsN A m + A ^ (m + 1)
set_option maxRecDepth 100000 in
set_option maxHeartbeats 4000000 in
theorem c_Space_rowsUpTo (sg : zI) (ta : zJ) (A m : Nat) (hA : sg 1 0 1 = nI A) (hm : m < 2 ^ 31) : zP yX4_rowsUpTo mX4_rowsUpTo 0 [.ref (nm 1 0), .int (nI m)] sg ta (pI (nI (rowsN A m)) sg ta) := by
  refine zP_of (lv := [some (.ref (nm 1 0)), some (.int (nI m)), none, none, none]) (by decide +kernel) rfl (fun h => by cases h) rfl (Nat.le_of_ble_eq_true rfl) ?_
  have loop : ∀ n i : Nat, i + n = m → Zq mX4_rowsUpTo 0 (pI (nI (rowsN A m)) sg ta) sg ta 7 [some (.ref (nm 1 0)), some (.int (nI m)), some (.int (nI (rowsN A i))), some (.int (nI (A ^ i))), some (.int (nI i))] [] := by
    intro n
    induction n with
    | zero =>
      intro i hi
      refine q_iload dX4_rowsUpTo_7 rfl ?_
      refine q_iload_n dX4_rowsUpTo_9 rfl ?_
      refine q_icmp_ge 30 dX4_rowsUpTo_10 (by decide) (fun h => ?_) (fun h => ?_)
      · refine q_iload_n dX4_rowsUpTo_30 rfl ?_
        exact z_iret dX4_rowsUpTo_31 rfl ⟨by rw [show i = m by omega], rfl, rfl⟩
      · exact absurd (nI_le (by omega) (by omega)) h
    | succ n ih =>
      intro i hi
      refine q_iload dX4_rowsUpTo_7 rfl ?_
      refine q_iload_n dX4_rowsUpTo_9 rfl ?_
      refine q_icmp_ge 30 dX4_rowsUpTo_10 (by decide) (fun h => ?_) (fun h => ?_)
      · exact absurd h (nI_ge (by omega) (by omega))
      · refine q_iload_n dX4_rowsUpTo_13 rfl ?_
        refine q_aload_n dX4_rowsUpTo_14 rfl ?_
        refine z_get 1 dX4_rowsUpTo_15 (by first | assumption | decide) (sh_1 _ _ _) rfl (by decide) fl_X4_15 rfl ?_
        refine q_imul dX4_rowsUpTo_18 ?_
        refine s_istore_n 3 dX4_rowsUpTo_19 rfl (Nat.le_of_ble_eq_true rfl) rfl ?_
        dsimp only [List.set]
        refine q_iload_n dX4_rowsUpTo_20 rfl ?_
        refine q_iload_n dX4_rowsUpTo_21 rfl ?_
        refine q_iadd dX4_rowsUpTo_22 ?_
        refine s_istore_n 2 dX4_rowsUpTo_23 rfl (Nat.le_of_ble_eq_true rfl) rfl ?_
        dsimp only [List.set]
        refine q_iinc dX4_rowsUpTo_24 rfl (Nat.le_of_ble_eq_true rfl) rfl ?_
        dsimp only [List.set]
        refine q_goto 7 dX4_rowsUpTo_27 (by decide) ?_
        have e1 : nI (A ^ i) * sg 1 0 1 = nI (A ^ (i + 1)) := by rw [hA, pk_mul, Nat.pow_succ]
        rw [e1, nI_add, nI_inc]
        exact ih (i + 1) (by omega)
  refine q_iconst (v := 1) dX4_rowsUpTo_0 rfl ?_
  refine s_istore_n 2 dX4_rowsUpTo_1 rfl (Nat.le_of_ble_eq_true rfl) rfl ?_
  dsimp only [List.set]
  refine q_iconst (v := 1) dX4_rowsUpTo_2 rfl ?_
  refine s_istore_n 3 dX4_rowsUpTo_3 rfl (Nat.le_of_ble_eq_true rfl) rfl ?_
  dsimp only [List.set]
  refine q_iconst (v := 0) dX4_rowsUpTo_4 rfl ?_
  refine q_istore dX4_rowsUpTo_5 (Nat.le_of_ble_eq_true rfl) rfl ?_
  dsimp only [List.set]
  exact loop m 0 (by omega)
end
section
def upR (sg : zI) (K i : Nat) (r : Nat → Int32) : zI := fun K' i' => if K' = K ∧ i' = i then r else sg K' i'
def upRl (ta : zJ) (K i : Nat) (r : Nat → Int64) : zJ := fun K' i' => if K' = K ∧ i' = i then r else ta K' i'
theorem upR_up3 (sg : zI) (K i : Nat) (r : Nat → Int32) (j : Nat) (x : Int32) : up3 (upR sg K i r) K i j x = upR sg K i (upd r j x) := by
  funext K' i'
  by_cases h : K' = K ∧ i' = i
  · simp [up3, upR, h]
  · simp [up3, upR, h]
theorem upRl_up3l (ta : zJ) (K i : Nat) (r : Nat → Int64) (j : Nat) (x : Int64) : up3l (upRl ta K i r) K i j x = upRl ta K i (vp_updL r j x) := by
  funext K' i'
  by_cases h : K' = K ∧ i' = i
  · simp [up3l, upRl, h]
  · simp [up3l, upRl, h]
theorem upR_self (sg : zI) (K i : Nat) : upR sg K i (sg K i) = sg := by
  funext K' i'
  by_cases h : K' = K ∧ i' = i
  · simp [upR, h]
  · simp [upR, h]
theorem upRl_self (ta : zJ) (K i : Nat) : upRl ta K i (ta K i) = ta := by
  funext K' i'
  by_cases h : K' = K ∧ i' = i
  · simp [upRl, h]
  · simp [upRl, h]
theorem fill_step (r : Nat → Int32) (x : Int32) (k : Nat) : upd (fun j => if j < k then x else r j) k x = fun j => if j < k + 1 then x else r j := by
  funext j
  unfold upd
  by_cases h : j = k
  · simp [h]
  · by_cases h2 : j < k
    · simp [h, h2]; intro h3; omega
    · have : ¬ j < k + 1 := by omega
      simp [h, h2, this]
theorem fill_stepL (r : Nat → Int64) (x : Int64) (k : Nat) : vp_updL (fun j => if j < k then x else r j) k x = fun j => if j < k + 1 then x else r j := by
  funext j
  unfold vp_updL
  by_cases h : j = k
  · simp [h]
  · by_cases h2 : j < k
    · simp [h, h2]; intro h3; omega
    · have : ¬ j < k + 1 := by omega
      simp [h, h2, this]
/-! the JDK's fill -/
set_option maxRecDepth 100000 in
set_option maxHeartbeats 4000000 in
theorem c_fillI (sg : zI) (ta : zJ) (K i n : Nat) (x : Int32) (hi : i < cnt K) (he : ∀ r q, shp K i r q = .inl (0, n, .inl r)) (hn : n < 2 ^ 31) : zP yJ7_fill_53178 mJ7_fill_53178 0 [.ref (nm K i), .int x] sg ta (fun v s t => v = none ∧ s = upR sg K i (fun j => if j < n then x else sg K i j) ∧ t = ta) := by
  refine zP_of (lv := [some (.ref (nm K i)), some (.int x), none, none]) (by decide +kernel) rfl (fun h => by cases h) rfl (Nat.le_of_ble_eq_true rfl) ?_
  have loop : ∀ k j : Nat, j + k = n → Zq mJ7_fill_53178 0 (fun v s t => v = none ∧ s = upR sg K i (fun j => if j < n then x else sg K i j) ∧ t = ta) (upR sg K i (fun q => if q < j then x else sg K i q)) ta 5 [some (.ref (nm K i)), some (.int x), some (.int (nI j)), some (.int (nI n))] [] := by
    intro k
    induction k with
    | zero =>
      intro j hj
      refine q_iload_n dJ7_fill_53178_5 rfl ?_
      refine q_iload_n dJ7_fill_53178_6 rfl ?_
      refine q_icmp_ge 20 dJ7_fill_53178_7 (by decide) (fun h => ?_) (fun h => ?_)
      · exact z_vret dJ7_fill_53178_20 rfl ⟨rfl, by rw [show j = n by omega], rfl⟩
      · exact absurd (nI_le (by omega) (by omega)) h
    | succ k ih =>
      intro j hj
      refine q_iload_n dJ7_fill_53178_5 rfl ?_
      refine q_iload_n dJ7_fill_53178_6 rfl ?_
      refine q_icmp_ge 20 dJ7_fill_53178_7 (by decide) (fun h => ?_) (fun h => ?_)
      · exact absurd h (nI_ge (by omega) (by omega))
      · refine q_aload_n dJ7_fill_53178_10 rfl ?_
        refine q_iload_n dJ7_fill_53178_11 rfl ?_
        refine q_iload_n dJ7_fill_53178_12 rfl ?_
        refine z_iast dJ7_fill_53178_13 hi he (vp_in_nI (by omega) (by omega)) ?_
        rw [nI_clamp (by omega), upR_up3, fill_step]
        refine q_iinc dJ7_fill_53178_14 rfl (Nat.le_of_ble_eq_true rfl) rfl ?_
        dsimp only [List.set]
        refine q_goto 5 dJ7_fill_53178_17 (by decide) ?_
        rw [nI_inc]
        exact ih (j + 1) (by omega)
  refine q_iconst (v := 0) dJ7_fill_53178_0 rfl ?_
  refine s_istore_n 2 dJ7_fill_53178_1 rfl (Nat.le_of_ble_eq_true rfl) rfl ?_
  dsimp only [List.set]
  refine q_aload_n dJ7_fill_53178_2 rfl ?_
  refine z_alen dJ7_fill_53178_3 hi (he _ _) (fun _ => rfl) rfl ?_
  refine s_istore_n 3 dJ7_fill_53178_4 rfl (Nat.le_of_ble_eq_true rfl) rfl ?_
  dsimp only [List.set]
  have h0 := loop n 0 (by omega)
  simp only [Nat.not_lt_zero, if_false] at h0
  rw [upR_self] at h0
  exact h0
set_option maxRecDepth 100000 in
set_option maxHeartbeats 4000000 in
theorem c_fillL (sg : zI) (ta : zJ) (K i n : Nat) (x : Int64) (hi : i < cnt K) (he : ∀ r q, shp K i r q = .inl (1, n, .inr (.inl q))) (hn : n < 2 ^ 31) : zP yJ7_fill_d0a16 mJ7_fill_d0a16 0 [.ref (nm K i), .long x] sg ta (fun v s t => v = none ∧ s = sg ∧ t = upRl ta K i (fun j => if j < n then x else ta K i j)) := by
  refine zP_of (lv := [some (.ref (nm K i)), some (.long x), none, none, none]) (by decide +kernel) rfl (fun h => by cases h) rfl (Nat.le_of_ble_eq_true rfl) ?_
  have loop : ∀ k j : Nat, j + k = n → Zq mJ7_fill_d0a16 0 (fun v s t => v = none ∧ s = sg ∧ t = upRl ta K i (fun j => if j < n then x else ta K i j)) sg (upRl ta K i (fun q => if q < j then x else ta K i q)) 6 [some (.ref (nm K i)), some (.long x), none, some (.int (nI j)), some (.int (nI n))] [] := by
    intro k
    induction k with
    | zero =>
      intro j hj
      refine q_iload_n dJ7_fill_d0a16_6 rfl ?_
      refine q_iload dJ7_fill_d0a16_7 rfl ?_
      refine q_icmp_ge 22 dJ7_fill_d0a16_9 (by decide) (fun h => ?_) (fun h => ?_)
      · exact z_vret dJ7_fill_d0a16_22 rfl ⟨rfl, rfl, by rw [show j = n by omega]⟩
      · exact absurd (nI_le (by omega) (by omega)) h
    | succ k ih =>
      intro j hj
      refine q_iload_n dJ7_fill_d0a16_6 rfl ?_
      refine q_iload dJ7_fill_d0a16_7 rfl ?_
      refine q_icmp_ge 22 dJ7_fill_d0a16_9 (by decide) (fun h => ?_) (fun h => ?_)
      · exact absurd h (nI_ge (by omega) (by omega))
      · refine q_aload_n dJ7_fill_d0a16_12 rfl ?_
        refine q_iload_n dJ7_fill_d0a16_13 rfl ?_
        refine q_lload_n dJ7_fill_d0a16_14 rfl ?_
        refine z_last dJ7_fill_d0a16_15 hi he (vp_in_nI (by omega) (by omega)) ?_
        rw [nI_clamp (by omega), upRl_up3l, fill_stepL]
        refine q_iinc dJ7_fill_d0a16_16 rfl (Nat.le_of_ble_eq_true rfl) rfl ?_
        dsimp only [List.set]
        refine q_goto 6 dJ7_fill_d0a16_19 (by decide) ?_
        rw [nI_inc]
        exact ih (j + 1) (by omega)
  refine q_iconst (v := 0) dJ7_fill_d0a16_0 rfl ?_
  refine s_istore_n 3 dJ7_fill_d0a16_1 rfl (Nat.le_of_ble_eq_true rfl) rfl ?_
  dsimp only [List.set]
  refine q_aload_n dJ7_fill_d0a16_2 rfl ?_
  refine z_alen dJ7_fill_d0a16_3 hi (he _ _) (fun _ => rfl) rfl ?_
  refine q_istore dJ7_fill_d0a16_4 (Nat.le_of_ble_eq_true rfl) rfl ?_
  dsimp only [List.set]
  have h0 := loop n 0 (by omega)
  simp only [Nat.not_lt_zero, if_false] at h0
  rw [upRl_self] at h0
  exact h0
/-! Space, the rest -/
set_option maxRecDepth 100000 in
set_option maxHeartbeats 4000000 in
theorem c_Space_isText (sg : zI) (ta : zJ) (x : Int32) : zP yX4_isText mX4_isText 0 [.ref (nm 1 0), .int x] sg ta (pI (bI (0 ≤ x ∧ x < sg 1 0 2)) sg ta) := by
  refine zP_of (lv := [some (.ref (nm 1 0)), some (.int x)]) (by decide +kernel) rfl (fun h => by cases h) rfl (Nat.le_of_ble_eq_true rfl) ?_
  refine q_iload_n dX4_isText_0 rfl ?_
  refine q_if_lt 16 dX4_isText_1 (by decide) (fun h => ?_) (fun h => ?_)
  · refine q_iconst (v := 0) dX4_isText_16 rfl ?_
    exact z_zret dX4_isText_17 rfl (Or.inl rfl) ⟨by rw [bI_f (fun q => absurd h (Int32.not_lt.mpr q.1))], rfl, rfl⟩
  · refine q_iload_n dX4_isText_4 rfl ?_
    refine q_aload_n dX4_isText_5 rfl ?_
    refine z_get 2 dX4_isText_6 (by first | assumption | decide) (sh_1 _ _ _) rfl (by decide) fl_X4_22 rfl ?_
    refine q_icmp_ge 16 dX4_isText_9 (by decide) (fun h2 => ?_) (fun h2 => ?_)
    · refine q_iconst (v := 0) dX4_isText_16 rfl ?_
      exact z_zret dX4_isText_17 rfl (Or.inl rfl) ⟨by rw [bI_f (fun q => absurd q.2 (Int32.not_lt.mpr h2))], rfl, rfl⟩
    · refine q_iconst (v := 1) dX4_isText_12 rfl ?_
      refine q_goto 17 dX4_isText_13 (by decide) ?_
      exact z_zret dX4_isText_17 rfl (Or.inr rfl) ⟨by rw [bI_t ⟨Int32.not_lt.mp h, Int32.not_le.mp h2⟩], rfl, rfl⟩
set_option maxRecDepth 100000 in
set_option maxHeartbeats 4000000 in
theorem c_Space_restart (sg : zI) (ta : zJ) (x : Int32) : zP yX4_restart mX4_restart 0 [.ref (nm 1 0), .int x] sg ta (pV (up3 (up3 (up3 sg 1 0 1 x) 1 0 2 0) 1 0 3 1) ta) := by
  refine zP_of (lv := [some (.ref (nm 1 0)), some (.int x)]) (by decide +kernel) rfl (fun h => by cases h) rfl (Nat.le_of_ble_eq_true rfl) ?_
  refine q_aload_n dX4_restart_0 rfl ?_
  refine q_iload_n dX4_restart_1 rfl ?_
  refine z_puti 1 dX4_restart_2 (by first | assumption | decide) (sh_1 _ _ _) rfl (by decide) fl_X4_15 rfl pfI (Nat.le_of_ble_eq_true rfl) rfl ?_
  refine q_aload_n dX4_restart_5 rfl ?_
  refine q_iconst (v := 0) dX4_restart_6 rfl ?_
  refine z_puti 2 dX4_restart_7 (by first | assumption | decide) (sh_1 _ _ _) rfl (by decide) fl_X4_22 rfl pfI (Nat.le_of_ble_eq_true rfl) rfl ?_
  refine q_aload_n dX4_restart_10 rfl ?_
  refine q_iconst (v := 1) dX4_restart_11 rfl ?_
  refine z_puti 3 dX4_restart_12 (by first | assumption | decide) (sh_1 _ _ _) rfl (by decide) fl_X4_19 rfl pfI (Nat.le_of_ble_eq_true rfl) rfl ?_
  exact z_vret dX4_restart_15 rfl ⟨rfl, rfl, rfl⟩
set_option maxRecDepth 100000 in
set_option maxHeartbeats 4000000 in
theorem c_Space_hasRoomFor (sg : zI) (ta : zJ) (A m nT sz : Nat) (hA : sg 1 0 1 = nI A) (hT : sg 1 0 2 = nI nT) (hs : sg 1 0 3 = nI sz) (hm : m < 2 ^ 31) (hT2 : nT ≤ 4) (hs2 : sz ≤ 8000) (hr : rowsN A m ≤ 400) : zP yX4_hasRoomFor mX4_hasRoomFor 1 [.ref (nm 1 0), .int (nI m)] sg ta (pI (bI (nT < 4 ∧ sz * rowsN A m ≤ 8000)) sg ta) := by
  refine zP_of (lv := [some (.ref (nm 1 0)), some (.int (nI m))]) (by decide +kernel) rfl (fun h => by cases h) rfl (Nat.le_of_ble_eq_true rfl) ?_
  refine q_aload_n dX4_hasRoomFor_0 rfl ?_
  refine z_get 2 dX4_hasRoomFor_1 (by first | assumption | decide) (sh_1 _ _ _) rfl (by decide) fl_X4_22 rfl ?_
  refine q_iconst (v := 4) dX4_hasRoomFor_4 rfl ?_
  rw [hT]
  refine q_icmp_ge 28 dX4_hasRoomFor_5 (by decide) (fun h => ?_) (fun h => ?_)
  · refine q_iconst (v := 0) dX4_hasRoomFor_28 rfl ?_
    exact z_zret dX4_hasRoomFor_29 rfl (Or.inl rfl) ⟨by rw [bI_f (fun q => absurd ((nI_leI (a := 4) (by omega) (by omega)).mp h) (by omega))], rfl, rfl⟩
  · have h4 : nT < 4 := by
      apply Nat.lt_of_not_le
      intro q
      exact h (nI_le (a := 4) q (by omega))
    refine q_aload_n dX4_hasRoomFor_8 rfl ?_
    refine z_get 3 dX4_hasRoomFor_9 (by first | assumption | decide) (sh_1 _ _ _) rfl (by decide) fl_X4_19 rfl ?_
    refine q_aload_n dX4_hasRoomFor_12 rfl ?_
    refine q_iload_n dX4_hasRoomFor_13 rfl ?_
    refine z_callV (c_Space_rowsUpTo sg ta A m hA hm) kV_X4_25 dX4_hasRoomFor_14 (by first | assumption | decide) (sh_1 _ _ _) rfl rfl rfl (by omega) (Nat.le_of_ble_eq_true rfl) (Nat.le_refl _) (Nat.le_refl _) rfl (fun v sg2 ta2 h => ?_)
    obtain ⟨rfl, rfl, rfl⟩ := h
    dsimp only [Option.toList, List.cons_append, List.nil_append]
    refine q_imul dX4_hasRoomFor_17 ?_
    refine q_sipush (v := 8000) dX4_hasRoomFor_18 rfl ?_
    have hp : sz * rowsN A m ≤ 8000 * 400 := Nat.mul_le_mul hs2 hr
    rw [hs, pk_mul]
    refine q_icmp_gt 28 dX4_hasRoomFor_21 (by decide) (fun h2 => ?_) (fun h2 => ?_)
    · refine q_iconst (v := 0) dX4_hasRoomFor_28 rfl ?_
      refine z_zret dX4_hasRoomFor_29 rfl (Or.inl rfl) ⟨?_, rfl, rfl⟩
      rw [bI_f (fun q => absurd h2 (nI_nlt (a := 8000) q.2 (by omega) : ¬ nI 8000 < _))]
    · refine q_iconst (v := 1) dX4_hasRoomFor_24 rfl ?_
      refine q_goto 29 dX4_hasRoomFor_25 (by decide) ?_
      refine z_zret dX4_hasRoomFor_29 rfl (Or.inr rfl) ⟨?_, rfl, rfl⟩
      rw [bI_t ⟨h4, Nat.le_of_not_lt (fun q => h2 (nI_lt (a := 8000) q (by omega)))⟩]
set_option maxRecDepth 100000 in
set_option maxHeartbeats 4000000 in
theorem c_Space_add (sg : zI) (ta : zJ) (A m nT sz : Nat) (hA : sg 1 0 1 = nI A) (hT : sg 1 0 2 = nI nT) (hs : sg 1 0 3 = nI sz) (hm : m < 2 ^ 31) (hT2 : nT < 4) : zP yX4_add mX4_add 1 [.ref (nm 1 0), .int (nI m)] sg ta (pV (up3 (up3 (up3 sg 2 0 nT (nI m)) 1 0 2 (nI (nT + 1))) 1 0 3 (nI (sz * rowsN A m))) ta) := by
  refine zP_of (lv := [some (.ref (nm 1 0)), some (.int (nI m))]) (by decide +kernel) rfl (fun h => by cases h) rfl (Nat.le_of_ble_eq_true rfl) ?_
  refine q_aload_n dX4_add_0 rfl ?_
  refine z_get 2 dX4_add_1 (by first | assumption | decide) (sh_1 _ _ _) rfl (by decide) fl_X4_22 rfl ?_
  refine q_iconst (v := 4) dX4_add_4 rfl ?_
  rw [hT]
  refine q_icmp_ge 42 dX4_add_5 (by decide) (fun h => ?_) (fun h => ?_)
  · exact absurd ((nI_leI (a := 4) (by omega) (by omega)).mp h) (by omega)
  · refine q_aload_n dX4_add_8 rfl ?_
    refine z_get 0 dX4_add_9 (by first | assumption | decide) (sh_1 _ _ _) rfl (by decide) fl_X4_9 rfl ?_
    refine q_aload_n dX4_add_12 rfl ?_
    refine z_get 2 dX4_add_13 (by first | assumption | decide) (sh_1 _ _ _) rfl (by decide) fl_X4_22 rfl ?_
    refine q_iload_n dX4_add_16 rfl ?_
    rw [hT]
    refine z_iast dX4_add_17 (by first | assumption | decide) (fun _ _ => rfl) (vp_in_nI hT2 (by omega)) ?_
    rw [nI_clamp (by omega)]
    refine q_aload_n dX4_add_18 rfl ?_
    refine q_dup dX4_add_19 rfl ?_
    refine z_get 2 dX4_add_20 (by first | assumption | decide) (sh_1 _ _ _) rfl (by decide) fl_X4_22 rfl ?_
    refine q_iconst (v := 1) dX4_add_23 rfl ?_
    have e2 : up3 sg 2 0 nT (nI m) 1 0 2 = nI nT := by rw [up3_off (by decide)]; exact hT
    rw [e2]
    refine q_iadd dX4_add_24 ?_
    rw [nI_1]
    refine z_puti 2 dX4_add_25 (by first | assumption | decide) (sh_1 _ _ _) rfl (by decide) fl_X4_22 rfl pfI (Nat.le_of_ble_eq_true rfl) rfl ?_
    refine q_aload_n dX4_add_28 rfl ?_
    refine q_dup dX4_add_29 rfl ?_
    refine z_get 3 dX4_add_30 (by first | assumption | decide) (sh_1 _ _ _) rfl (by decide) fl_X4_19 rfl ?_
    refine q_aload_n dX4_add_33 rfl ?_
    refine q_iload_n dX4_add_34 rfl ?_
    refine z_callV (c_Space_rowsUpTo _ ta A m (by rw [up3_get, if_neg (by decide), up3_off (by decide)]; exact hA) hm) kV_X4_25 dX4_add_35 (by first | assumption | decide) (sh_1 _ _ _) rfl rfl rfl (by omega) (Nat.le_of_ble_eq_true rfl) (Nat.le_refl _) (Nat.le_refl _) rfl (fun v sg2 ta2 h => ?_)
    obtain ⟨rfl, rfl, rfl⟩ := h
    dsimp only [Option.toList, List.cons_append, List.nil_append]
    refine q_imul dX4_add_38 ?_
    have e3 : up3 (up3 sg 2 0 nT (nI m)) 1 0 2 (nI (nT + 1)) 1 0 3 = nI sz := by rw [up3_get, if_neg (by decide), up3_off (by decide)]; exact hs
    rw [e3, pk_mul]
    refine z_puti 3 dX4_add_39 (by first | assumption | decide) (sh_1 _ _ _) rfl (by decide) fl_X4_19 rfl pfI (Nat.le_of_ble_eq_true rfl) rfl ?_
    exact z_vret dX4_add_42 rfl ⟨rfl, rfl, rfl⟩
end
section
noncomputable def bC (p : Prop) : Int32 := @ite Int32 p (Classical.propDecidable p) 1 0
theorem bC_t {p : Prop} (h : p) : bC p = 1 := by unfold bC; exact if_pos h
theorem bC_f {p : Prop} (h : ¬ p) : bC p = 0 := by unfold bC; exact if_neg h
theorem bC_01 (p : Prop) : bC p = 0 ∨ bC p = 1 := by
  by_cases h : p
  · exact Or.inr (bC_t h)
  · exact Or.inl (bC_f h)
theorem bC_z {p : Prop} : bC p = 0 ↔ ¬ p := by
  by_cases h : p
  · rw [bC_t h]; exact ⟨fun q => absurd q (by decide), fun q => absurd h q⟩
  · rw [bC_f h]; exact ⟨fun _ => h, fun _ => rfl⟩
theorem bC_nz {p : Prop} : ¬ bC p = 0 ↔ p := by rw [bC_z]; exact Classical.not_not
theorem bC_iff {p q : Prop} (h : p ↔ q) : bC p = bC q := by
  by_cases hp : p
  · rw [bC_t hp, bC_t (h.mp hp)]
  · rw [bC_f hp, bC_f (fun k => hp (h.mpr k))]
theorem bI_bC (p : Prop) [Decidable p] : bI p = bC p := by
  by_cases hp : p
  · rw [bI_t hp, bC_t hp]
  · rw [bI_f hp, bC_f hp]
/-- tested against its bounds: an index that is in -/
theorem vin {x : Int32} {n : Nat} (h1 : ¬ x < 0) (h2 : ¬ nI n ≤ x) (hn : n < 2 ^ 31) : vp_in x n := by
  rw [vp_in_iff]
  have e1 : ¬ x.toInt < 0 := fun q => h1 (by rw [Int32.lt_iff_toInt_lt, Int32.toInt_zero]; exact q)
  have e2 : ¬ (n : Int) ≤ x.toInt := fun q => h2 (by rw [Int32.le_iff_toInt_le, nI_toInt hn]; exact q)
  omega
theorem vin_not {x : Int32} {n : Nat} (h : x < 0 ∨ nI n ≤ x) (hn : n < 2 ^ 31) : ¬ vp_in x n := by
  rw [vp_in_iff]
  rcases h with h | h
  · rw [Int32.lt_iff_toInt_lt, Int32.toInt_zero] at h; omega
  · rw [Int32.le_iff_toInt_le, nI_toInt hn] at h; omega
noncomputable def sel (p : Prop) (a b : Int32) : Int32 := @ite Int32 p (Classical.propDecidable p) a b
theorem sel_t {p : Prop} {a b : Int32} (h : p) : sel p a b = a := by unfold sel; exact if_pos h
theorem sel_f {p : Prop} {a b : Int32} (h : ¬ p) : sel p a b = b := by unfold sel; exact if_neg h
/-! Term -/
set_option maxRecDepth 100000 in
set_option maxHeartbeats 4000000 in
theorem c_Term_restart (sg : zI) (ta : zJ) (i : Nat) (hi : i < cnt 11) : zP yX5_restart mX5_restart 0 [.ref (nm 11 i)] sg ta (pV (up3 sg 11 i 1 0) ta) := by
  refine zP_of (lv := [some (.ref (nm 11 i))]) (by decide +kernel) rfl (fun h => by cases h) rfl (Nat.le_of_ble_eq_true rfl) ?_
  refine q_aload_n dX5_restart_0 rfl ?_
  refine q_iconst (v := 0) dX5_restart_1 rfl ?_
  refine z_puti 1 dX5_restart_2 (by first | assumption | decide) (sh_11 _ _ _) rfl (by decide) fl_X5_15 rfl pfI (Nat.le_of_ble_eq_true rfl) rfl ?_
  exact z_vret dX5_restart_5 rfl ⟨rfl, rfl, rfl⟩
theorem cnt12 {i : Nat} (h : i < cnt 11) : i < cnt 12 := h
theorem cnt14 {i : Nat} (h : i < cnt 13) : i < cnt 14 := h
theorem cnt16 {i : Nat} (h : i < cnt 15) : i < cnt 16 := h
theorem cnt18 {i : Nat} (h : i < cnt 17) : i < cnt 18 := h
theorem cnt19 {i : Nat} (h : i < cnt 17) : i < cnt 19 := h
theorem cnt4 {i : Nat} (h : i < cnt 3) : i < cnt 4 := h
theorem cnt5 {i : Nat} (h : i < cnt 3) : i < cnt 5 := h
theorem cnt6 {i : Nat} (h : i < cnt 3) : i < cnt 6 := h
set_option maxRecDepth 100000 in
set_option maxHeartbeats 4000000 in
theorem c_Term_add (sg : zI) (ta : zJ) (i n : Nat) (x : Int32) (hi : i < cnt 11) (hn : sg 11 i 1 = nI n) (hn6 : n ≤ 6) : zP yX5_add mX5_add 0 [.ref (nm 11 i), .int x] sg ta (fun v s t => t = ta ∧ (n < 6 → v = some (.int 1) ∧ s = up3 (up3 sg 12 i n x) 11 i 1 (nI (n + 1))) ∧ (n = 6 → v = some (.int 0) ∧ s = sg)) := by
  have hi2 := cnt12 hi
  refine zP_of (lv := [some (.ref (nm 11 i)), some (.int x)]) (by decide +kernel) rfl (fun h => by cases h) rfl (Nat.le_of_ble_eq_true rfl) ?_
  refine q_aload_n dX5_add_0 rfl ?_
  refine z_get 1 dX5_add_1 (by first | assumption | decide) (sh_11 _ _ _) rfl (by decide) fl_X5_15 rfl ?_
  refine q_bipush (v := 6) dX5_add_4 rfl ?_
  rw [hn]
  refine q_icmp_lt 11 dX5_add_6 (by decide) (fun h => ?_) (fun h => ?_)
  · have h6 : n < 6 := by
      apply Nat.lt_of_not_le
      intro q
      exact nI_nlt (b := 6) (a := n) q (by omega) h
    refine q_aload_n dX5_add_11 rfl ?_
    refine z_get 0 dX5_add_12 (by first | assumption | decide) (sh_11 _ _ _) rfl (by decide) fl_X5_9 rfl ?_
    refine q_aload_n dX5_add_15 rfl ?_
    refine z_get 1 dX5_add_16 (by first | assumption | decide) (sh_11 _ _ _) rfl (by decide) fl_X5_15 rfl ?_
    refine q_iload_n dX5_add_19 rfl ?_
    rw [hn]
    refine z_iast dX5_add_20 (by first | assumption | decide) (fun _ _ => rfl) (vp_in_nI h6 (by omega)) ?_
    rw [nI_clamp (by omega)]
    refine q_aload_n dX5_add_21 rfl ?_
    refine q_dup dX5_add_22 rfl ?_
    refine z_get 1 dX5_add_23 (by first | assumption | decide) (sh_11 _ _ _) rfl (by decide) fl_X5_15 rfl ?_
    refine q_iconst (v := 1) dX5_add_26 rfl ?_
    rw [up3_off (by omega), hn]
    refine q_iadd dX5_add_27 ?_
    rw [nI_1]
    refine z_puti 1 dX5_add_28 (by first | assumption | decide) (sh_11 _ _ _) rfl (by decide) fl_X5_15 rfl pfI (Nat.le_of_ble_eq_true rfl) rfl ?_
    refine q_iconst (v := 1) dX5_add_31 rfl ?_
    exact z_zret dX5_add_32 rfl (Or.inr rfl) ⟨rfl, fun _ => ⟨rfl, rfl⟩, fun q => absurd q (by omega)⟩
  · have h6 : n = 6 := by
      apply Nat.le_antisymm hn6
      apply Nat.le_of_not_lt
      intro q
      exact h (nI_lt (b := 6) q (by omega))
    refine q_iconst (v := 0) dX5_add_9 rfl ?_
    exact z_zret dX5_add_10 rfl (Or.inl rfl) ⟨rfl, fun q => absurd q (by omega), fun _ => ⟨rfl, rfl⟩⟩
/-- a term's length, its parts p, the texts' lengths L -/
noncomputable def tlen (p L : Nat → Int32) : Nat → Int32
  | 0 => 0
  | k + 1 => tlen p L k + sel (vp_in (p k - 8) 4) (L (p k - 8).toNatClampNeg) 1
theorem tlen_s (p L : Nat → Int32) (k : Nat) : tlen p L (k + 1) = tlen p L k + sel (vp_in (p k - 8) 4) (L (p k - 8).toNatClampNeg) 1 := rfl
set_option maxRecDepth 100000 in
set_option maxHeartbeats 4000000 in
theorem c_Term_lengthWith (sg : zI) (ta : zJ) (i n w : Nat) (hi : i < cnt 11) (hw : w < cnt 4) (hn : sg 11 i 1 = nI n) (hn6 : n ≤ 6) : zP yX5_lengthWith mX5_lengthWith 0 [.ref (nm 11 i), .ref (nm 4 w)] sg ta (pI (tlen (sg 12 i) (sg 4 w) n) sg ta) := by
  have hi2 := cnt12 hi
  refine zP_of (lv := [some (.ref (nm 11 i)), some (.ref (nm 4 w)), none, none, none]) (by decide +kernel) rfl (fun h => by cases h) rfl (Nat.le_of_ble_eq_true rfl) ?_
  have loop : ∀ k j : Nat, ∀ z : Option Value, j + k = n → Zq mX5_lengthWith 0 (pI (tlen (sg 12 i) (sg 4 w) n) sg ta) sg ta 4 [some (.ref (nm 11 i)), some (.ref (nm 4 w)), some (.int (tlen (sg 12 i) (sg 4 w) j)), some (.int (nI j)), z] [] := by
    intro k
    induction k with
    | zero =>
      intro j z hj
      refine q_iload_n dX5_lengthWith_4 rfl ?_
      refine q_aload_n dX5_lengthWith_5 rfl ?_
      refine z_get 1 dX5_lengthWith_6 (by first | assumption | decide) (sh_11 _ _ _) rfl (by decide) fl_X5_15 rfl ?_
      rw [hn]
      refine q_icmp_ge 52 dX5_lengthWith_9 (by decide) (fun h => ?_) (fun h => ?_)
      · refine q_iload_n dX5_lengthWith_52 rfl ?_
        exact z_iret dX5_lengthWith_53 rfl ⟨by rw [show j = n by omega], rfl, rfl⟩
      · exact absurd (nI_le (by omega) (by omega)) h
    | succ k ih =>
      intro j z hj
      refine q_iload_n dX5_lengthWith_4 rfl ?_
      refine q_aload_n dX5_lengthWith_5 rfl ?_
      refine z_get 1 dX5_lengthWith_6 (by first | assumption | decide) (sh_11 _ _ _) rfl (by decide) fl_X5_15 rfl ?_
      rw [hn]
      refine q_icmp_ge 52 dX5_lengthWith_9 (by decide) (fun h => ?_) (fun h => ?_)
      · exact absurd h (nI_ge (by omega) (by omega))
      · refine q_aload_n dX5_lengthWith_12 rfl ?_
        refine z_get 0 dX5_lengthWith_13 (by first | assumption | decide) (sh_11 _ _ _) rfl (by decide) fl_X5_9 rfl ?_
        refine q_iload_n dX5_lengthWith_16 rfl ?_
        refine z_iald dX5_lengthWith_17 (by first | assumption | decide) rfl (vp_in_nI (n := j) (by omega) (by omega)) ?_
        refine q_bipush (v := 8) dX5_lengthWith_18 rfl ?_
        refine q_isub dX5_lengthWith_20 ?_
        refine q_istore dX5_lengthWith_21 (Nat.le_of_ble_eq_true rfl) rfl ?_
        dsimp only [List.set]
        refine q_iload_n dX5_lengthWith_23 rfl ?_
        refine q_iload dX5_lengthWith_24 rfl ?_
        rw [nI_clamp (by omega)]
        refine q_if_lt 43 dX5_lengthWith_26 (by decide) (fun h1 => ?_) (fun h1 => ?_)
        · refine q_iconst (v := 1) dX5_lengthWith_43 rfl ?_
          refine q_iadd dX5_lengthWith_44 ?_
          refine s_istore_n 2 dX5_lengthWith_45 rfl (Nat.le_of_ble_eq_true rfl) rfl ?_
          dsimp only [List.set]
          refine q_iinc dX5_lengthWith_46 rfl (Nat.le_of_ble_eq_true rfl) rfl ?_
          dsimp only [List.set]
          refine q_goto 4 dX5_lengthWith_49 (by decide) ?_
          rw [nI_inc]
          have hs : sel (vp_in (sg 12 i j - 8) 4) (sg 4 w (sg 12 i j - 8).toNatClampNeg) 1 = 1 := sel_f (vin_not (Or.inl h1) (by omega))
          have h2 := ih (j + 1) (some (.int (sg 12 i j - 8))) (by omega)
          rw [tlen_s, hs] at h2
          exact h2
        · refine q_iload dX5_lengthWith_29 rfl ?_
          refine q_aload_n dX5_lengthWith_31 rfl ?_
          refine z_alen dX5_lengthWith_32 (by first | assumption | decide) rfl (fun _ => rfl) rfl ?_
          refine q_icmp_ge 43 dX5_lengthWith_33 (by decide) (fun h2 => ?_) (fun h2 => ?_)
          · refine q_iconst (v := 1) dX5_lengthWith_43 rfl ?_
            refine q_iadd dX5_lengthWith_44 ?_
            refine s_istore_n 2 dX5_lengthWith_45 rfl (Nat.le_of_ble_eq_true rfl) rfl ?_
            dsimp only [List.set]
            refine q_iinc dX5_lengthWith_46 rfl (Nat.le_of_ble_eq_true rfl) rfl ?_
            dsimp only [List.set]
            refine q_goto 4 dX5_lengthWith_49 (by decide) ?_
            rw [nI_inc]
            have hs : sel (vp_in (sg 12 i j - 8) 4) (sg 4 w (sg 12 i j - 8).toNatClampNeg) 1 = 1 := sel_f (vin_not (Or.inr h2) (by omega))
            have h3 := ih (j + 1) (some (.int (sg 12 i j - 8))) (by omega)
            rw [tlen_s, hs] at h3
            exact h3
          · refine q_aload_n dX5_lengthWith_36 rfl ?_
            refine q_iload dX5_lengthWith_37 rfl ?_
            refine z_iald dX5_lengthWith_39 (by first | assumption | decide) rfl (vin h1 h2 (by omega)) ?_
            refine q_goto 44 dX5_lengthWith_40 (by decide) ?_
            refine q_iadd dX5_lengthWith_44 ?_
            refine s_istore_n 2 dX5_lengthWith_45 rfl (Nat.le_of_ble_eq_true rfl) rfl ?_
            dsimp only [List.set]
            refine q_iinc dX5_lengthWith_46 rfl (Nat.le_of_ble_eq_true rfl) rfl ?_
            dsimp only [List.set]
            refine q_goto 4 dX5_lengthWith_49 (by decide) ?_
            rw [nI_inc]
            have hs : sel (vp_in (sg 12 i j - 8) 4) (sg 4 w (sg 12 i j - 8).toNatClampNeg) 1 = sg 4 w (sg 12 i j - 8).toNatClampNeg := sel_t (vin h1 h2 (by omega))
            have h3 := ih (j + 1) (some (.int (sg 12 i j - 8))) (by omega)
            rw [tlen_s, hs] at h3
            exact h3
  refine q_iconst (v := 0) dX5_lengthWith_0 rfl ?_
  refine s_istore_n 2 dX5_lengthWith_1 rfl (Nat.le_of_ble_eq_true rfl) rfl ?_
  dsimp only [List.set]
  refine q_iconst (v := 0) dX5_lengthWith_2 rfl ?_
  refine s_istore_n 3 dX5_lengthWith_3 rfl (Nat.le_of_ble_eq_true rfl) rfl ?_
  dsimp only [List.set]
  exact loop n 0 none (by omega)
/-! Math.floorMod -/
noncomputable def fmod (x y : Int32) : Int32 := sel ((x ^^^ y) < 0 ∧ ¬ (x - x / y * y) = 0) (x - x / y * y + y) (x - x / y * y)
set_option maxRecDepth 100000 in
set_option maxHeartbeats 4000000 in
theorem c_floorMod (sg : zI) (ta : zJ) (x y : Int32) (hy : ¬ y = 0) : zP yJ9_floorMod_7cf53 mJ9_floorMod_7cf53 0 [.int x, .int y] sg ta (pI (fmod x y) sg ta) := by
  refine zC_ofF (lv := [some (.int x), some (.int y), none]) pn_yJ9_floorMod_7cf53 rfl (fun h => by cases h) rfl (Nat.le_of_ble_eq_true rfl) ?_
  refine q_iload_n dJ9_floorMod_7cf53_0 rfl ?_
  refine q_iload_n dJ9_floorMod_7cf53_1 rfl ?_
  refine q_irem dJ9_floorMod_7cf53_2 hy ?_
  refine s_istore_n 2 dJ9_floorMod_7cf53_3 rfl (Nat.le_of_ble_eq_true rfl) rfl ?_
  dsimp only [List.set]
  refine q_iload_n dJ9_floorMod_7cf53_4 rfl ?_
  refine q_iload_n dJ9_floorMod_7cf53_5 rfl ?_
  refine q_ixor dJ9_floorMod_7cf53_6 ?_
  refine q_if_ge 18 dJ9_floorMod_7cf53_7 (by decide) (fun h => ?_) (fun h => ?_)
  · refine q_iload_n dJ9_floorMod_7cf53_18 rfl ?_
    exact z_iret dJ9_floorMod_7cf53_19 rfl ⟨by unfold fmod; rw [sel_f (fun q => absurd q.1 (Int32.not_lt.mpr h))], rfl, rfl⟩
  · refine q_iload_n dJ9_floorMod_7cf53_10 rfl ?_
    refine q_if_eq 18 dJ9_floorMod_7cf53_11 (by decide) (fun h2 => ?_) (fun h2 => ?_)
    · refine q_iload_n dJ9_floorMod_7cf53_18 rfl ?_
      exact z_iret dJ9_floorMod_7cf53_19 rfl ⟨by unfold fmod; rw [sel_f (fun q => absurd h2 q.2)], rfl, rfl⟩
    · refine q_iload_n dJ9_floorMod_7cf53_14 rfl ?_
      refine q_iload_n dJ9_floorMod_7cf53_15 rfl ?_
      refine q_iadd dJ9_floorMod_7cf53_16 ?_
      exact z_iret dJ9_floorMod_7cf53_17 rfl ⟨by unfold fmod; rw [sel_t ⟨Int32.not_le.mp h, h2⟩], rfl, rfl⟩
end
section
/-! Machine -/
set_option maxRecDepth 100000 in
set_option maxHeartbeats 4000000 in
theorem c_Machine_restart (sg : zI) (ta : zJ) (i : Nat) (x : Int32) (hi : i < cnt 15) : zP yX2_restart mX2_restart 1 [.ref (nm 15 i), .int x] sg ta (pV (upR (up3 (up3 sg 15 i 1 x) 15 i 2 0) 16 i (fun j => if j < 18 then 0 else sg 16 i j)) ta) := by
  have hi2 := cnt16 hi
  refine zP_of (lv := [some (.ref (nm 15 i)), some (.int x)]) (by decide +kernel) rfl (fun h => by cases h) rfl (Nat.le_of_ble_eq_true rfl) ?_
  refine q_aload_n dX2_restart_0 rfl ?_
  refine q_iload_n dX2_restart_1 rfl ?_
  refine z_puti 1 dX2_restart_2 (by first | assumption | decide) (sh_15 _ _ _) rfl (by decide) fl_X2_15 rfl pfI (Nat.le_of_ble_eq_true rfl) rfl ?_
  refine q_aload_n dX2_restart_5 rfl ?_
  refine q_iconst (v := 0) dX2_restart_6 rfl ?_
  refine z_puti 2 dX2_restart_7 (by first | assumption | decide) (sh_15 _ _ _) rfl (by decide) fl_X2_19 rfl pfI (Nat.le_of_ble_eq_true rfl) rfl ?_
  refine q_aload_n dX2_restart_10 rfl ?_
  refine z_get 0 dX2_restart_11 (by first | assumption | decide) (sh_15 _ _ _) rfl (by decide) fl_X2_9 rfl ?_
  refine q_iconst (v := 0) dX2_restart_14 rfl ?_
  refine z_callS (c_fillI _ ta 16 i 18 0 hi2 (fun _ _ => rfl) (by omega)) kS_X2_22 dX2_restart_15 rfl (by omega) (Nat.le_of_ble_eq_true rfl) (Nat.le_refl _) (Nat.le_refl _) rfl (fun v sg2 ta2 h => ?_)
  obtain ⟨rfl, rfl, rfl⟩ := h
  dsimp only [Option.toList, List.cons_append, List.nil_append]
  refine z_vret dX2_restart_18 rfl ⟨rfl, ?_, rfl⟩
  rw [up3_off (by omega), up3_off (by omega)]
set_option maxRecDepth 100000 in
set_option maxHeartbeats 4000000 in
theorem c_Machine_isState (sg : zI) (ta : zJ) (i : Nat) (x : Int32) (hi : i < cnt 15) : zP yX2_isState mX2_isState 0 [.ref (nm 15 i), .int x] sg ta (pI (bI (0 ≤ x ∧ x < sg 15 i 1)) sg ta) := by
  refine zP_of (lv := [some (.ref (nm 15 i)), some (.int x)]) (by decide +kernel) rfl (fun h => by cases h) rfl (Nat.le_of_ble_eq_true rfl) ?_
  refine q_iload_n dX2_isState_0 rfl ?_
  refine q_if_lt 16 dX2_isState_1 (by decide) (fun h => ?_) (fun h => ?_)
  · refine q_iconst (v := 0) dX2_isState_16 rfl ?_
    exact z_zret dX2_isState_17 rfl (Or.inl rfl) ⟨by rw [bI_f (fun q => absurd h (Int32.not_lt.mpr q.1))], rfl, rfl⟩
  · refine q_iload_n dX2_isState_4 rfl ?_
    refine q_aload_n dX2_isState_5 rfl ?_
    refine z_get 1 dX2_isState_6 (by first | assumption | decide) (sh_15 _ _ _) rfl (by decide) fl_X2_15 rfl ?_
    refine q_icmp_ge 16 dX2_isState_9 (by decide) (fun h2 => ?_) (fun h2 => ?_)
    · refine q_iconst (v := 0) dX2_isState_16 rfl ?_
      exact z_zret dX2_isState_17 rfl (Or.inl rfl) ⟨by rw [bI_f (fun q => absurd q.2 (Int32.not_lt.mpr h2))], rfl, rfl⟩
    · refine q_iconst (v := 1) dX2_isState_12 rfl ?_
      refine q_goto 17 dX2_isState_13 (by decide) ?_
      exact z_zret dX2_isState_17 rfl (Or.inr rfl) ⟨by rw [bI_t ⟨Int32.not_lt.mp h, Int32.not_le.mp h2⟩], rfl, rfl⟩
/-- a machine's step, steps r -/
noncomputable def mnx (r : Nat → Int32) (s a : Int32) : Int32 := sel (vp_in (s * 3 + a) 18) (r (s * 3 + a).toNatClampNeg) 0
set_option maxRecDepth 100000 in
set_option maxHeartbeats 4000000 in
theorem c_Machine_next (sg : zI) (ta : zJ) (i : Nat) (x y : Int32) (hi : i < cnt 15) : zP yX2_next mX2_next 0 [.ref (nm 15 i), .int x, .int y] sg ta (pI (mnx (sg 16 i) x y) sg ta) := by
  have hi2 := cnt16 hi
  refine zP_of (lv := [some (.ref (nm 15 i)), some (.int x), some (.int y), none]) (by decide +kernel) rfl (fun h => by cases h) rfl (Nat.le_of_ble_eq_true rfl) ?_
  refine q_iload_n dX2_next_0 rfl ?_
  refine q_iconst (v := 3) dX2_next_1 rfl ?_
  refine q_imul dX2_next_2 ?_
  refine q_iload_n dX2_next_3 rfl ?_
  refine q_iadd dX2_next_4 ?_
  refine s_istore_n 3 dX2_next_5 rfl (Nat.le_of_ble_eq_true rfl) rfl ?_
  dsimp only [List.set]
  refine q_iload_n dX2_next_6 rfl ?_
  refine q_if_lt 28 dX2_next_7 (by decide) (fun h => ?_) (fun h => ?_)
  · refine q_iconst (v := 0) dX2_next_28 rfl ?_
    exact z_iret dX2_next_29 rfl ⟨by unfold mnx; rw [sel_f (vin_not (Or.inl h) (by omega))], rfl, rfl⟩
  · refine q_iload_n dX2_next_10 rfl ?_
    refine q_aload_n dX2_next_11 rfl ?_
    refine z_get 0 dX2_next_12 (by first | assumption | decide) (sh_15 _ _ _) rfl (by decide) fl_X2_9 rfl ?_
    refine z_alen dX2_next_15 (by first | assumption | decide) rfl (fun _ => rfl) rfl ?_
    refine q_icmp_ge 28 dX2_next_16 (by decide) (fun h2 => ?_) (fun h2 => ?_)
    · refine q_iconst (v := 0) dX2_next_28 rfl ?_
      exact z_iret dX2_next_29 rfl ⟨by unfold mnx; rw [sel_f (vin_not (Or.inr h2) (by omega))], rfl, rfl⟩
    · refine q_aload_n dX2_next_19 rfl ?_
      refine z_get 0 dX2_next_20 (by first | assumption | decide) (sh_15 _ _ _) rfl (by decide) fl_X2_9 rfl ?_
      refine q_iload_n dX2_next_23 rfl ?_
      refine z_iald dX2_next_24 (by first | assumption | decide) rfl (vin h h2 (by omega)) ?_
      refine q_goto 29 dX2_next_25 (by decide) ?_
      exact z_iret dX2_next_29 rfl ⟨by unfold mnx; rw [sel_t (vin h h2 (by omega))], rfl, rfl⟩
set_option maxRecDepth 100000 in
set_option maxHeartbeats 4000000 in
theorem c_Machine_lead (sg : zI) (ta : zJ) (i : Nat) (x y z : Int32) (hi : i < cnt 15) (hv : vp_in (x * 3 + y) 18) : zP yX2_lead mX2_lead 0 [.ref (nm 15 i), .int x, .int y, .int z] sg ta (pV (up3 sg 16 i (x * 3 + y).toNatClampNeg z) ta) := by
  have hi2 := cnt16 hi
  refine zP_of (lv := [some (.ref (nm 15 i)), some (.int x), some (.int y), some (.int z), none]) (by decide +kernel) rfl (fun h => by cases h) rfl (Nat.le_of_ble_eq_true rfl) ?_
  refine q_iload_n dX2_lead_0 rfl ?_
  refine q_iconst (v := 3) dX2_lead_1 rfl ?_
  refine q_imul dX2_lead_2 ?_
  refine q_iload_n dX2_lead_3 rfl ?_
  refine q_iadd dX2_lead_4 ?_
  refine q_istore dX2_lead_5 (Nat.le_of_ble_eq_true rfl) rfl ?_
  dsimp only [List.set]
  refine q_iload dX2_lead_7 rfl ?_
  refine q_if_lt 30 dX2_lead_9 (by decide) (fun h => ?_) (fun h => ?_)
  · exact absurd hv (vin_not (Or.inl h) (by omega))
  · refine q_iload dX2_lead_12 rfl ?_
    refine q_aload_n dX2_lead_14 rfl ?_
    refine z_get 0 dX2_lead_15 (by first | assumption | decide) (sh_15 _ _ _) rfl (by decide) fl_X2_9 rfl ?_
    refine z_alen dX2_lead_18 (by first | assumption | decide) rfl (fun _ => rfl) rfl ?_
    refine q_icmp_ge 30 dX2_lead_19 (by decide) (fun h2 => ?_) (fun h2 => ?_)
    · exact absurd hv (vin_not (Or.inr h2) (by omega))
    · refine q_aload_n dX2_lead_22 rfl ?_
      refine z_get 0 dX2_lead_23 (by first | assumption | decide) (sh_15 _ _ _) rfl (by decide) fl_X2_9 rfl ?_
      refine q_iload dX2_lead_26 rfl ?_
      refine q_iload_n dX2_lead_28 rfl ?_
      refine z_iast dX2_lead_29 (by first | assumption | decide) (fun _ _ => rfl) hv ?_
      exact z_vret dX2_lead_30 rfl ⟨rfl, rfl, rfl⟩
def mgd (g x : Int32) : Prop := ¬ ((g >>> (x &&& 31)) &&& 1) = 0
set_option maxRecDepth 100000 in
set_option maxHeartbeats 4000000 in
theorem c_Machine_isGood (sg : zI) (ta : zJ) (i : Nat) (x : Int32) (hi : i < cnt 15) : zP yX2_isGood mX2_isGood 0 [.ref (nm 15 i), .int x] sg ta (pI (bC (mgd (sg 15 i 2) x)) sg ta) := by
  refine zP_of (lv := [some (.ref (nm 15 i)), some (.int x)]) (by decide +kernel) rfl (fun h => by cases h) rfl (Nat.le_of_ble_eq_true rfl) ?_
  refine q_aload_n dX2_isGood_0 rfl ?_
  refine z_get 2 dX2_isGood_1 (by first | assumption | decide) (sh_15 _ _ _) rfl (by decide) fl_X2_19 rfl ?_
  refine q_iload_n dX2_isGood_4 rfl ?_
  refine q_ishr dX2_isGood_5 ?_
  refine q_iconst (v := 1) dX2_isGood_6 rfl ?_
  refine q_iand dX2_isGood_7 ?_
  refine q_if_eq 15 dX2_isGood_8 (by decide) (fun h => ?_) (fun h => ?_)
  · refine q_iconst (v := 0) dX2_isGood_15 rfl ?_
    exact z_zret dX2_isGood_16 rfl (Or.inl rfl) ⟨by rw [bC_f (fun q => q h)], rfl, rfl⟩
  · refine q_iconst (v := 1) dX2_isGood_11 rfl ?_
    refine q_goto 16 dX2_isGood_12 (by decide) ?_
    exact z_zret dX2_isGood_16 rfl (Or.inr rfl) ⟨by rw [bC_t (p := mgd _ _) h], rfl, rfl⟩
set_option maxRecDepth 100000 in
set_option maxHeartbeats 4000000 in
theorem c_Machine_setGood (sg : zI) (ta : zJ) (i : Nat) (x y : Int32) (hi : i < cnt 15) : zP yX2_setGood mX2_setGood 0 [.ref (nm 15 i), .int x, .int y] sg ta (pV (up3 sg 15 i 2 (sel (y = 0) (sg 15 i 2 &&& ((1 <<< (x &&& 31)) ^^^ (-1))) (sg 15 i 2 ||| (1 <<< (x &&& 31))))) ta) := by
  refine zP_of (lv := [some (.ref (nm 15 i)), some (.int x), some (.int y)]) (by decide +kernel) rfl (fun h => by cases h) rfl (Nat.le_of_ble_eq_true rfl) ?_
  refine q_aload_n dX2_setGood_0 rfl ?_
  refine q_iload_n dX2_setGood_1 rfl ?_
  refine q_if_eq 16 dX2_setGood_2 (by decide) (fun h => ?_) (fun h => ?_)
  · refine q_aload_n dX2_setGood_16 rfl ?_
    refine z_get 2 dX2_setGood_17 (by first | assumption | decide) (sh_15 _ _ _) rfl (by decide) fl_X2_19 rfl ?_
    refine q_iconst (v := 1) dX2_setGood_20 rfl ?_
    refine q_iload_n dX2_setGood_21 rfl ?_
    refine q_ishl dX2_setGood_22 ?_
    refine q_iconst (v := (-1)) dX2_setGood_23 rfl ?_
    refine q_ixor dX2_setGood_24 ?_
    refine q_iand dX2_setGood_25 ?_
    refine z_puti 2 dX2_setGood_26 (by first | assumption | decide) (sh_15 _ _ _) rfl (by decide) fl_X2_19 rfl pfI (Nat.le_of_ble_eq_true rfl) rfl ?_
    exact z_vret dX2_setGood_29 rfl ⟨rfl, by rw [sel_t h], rfl⟩
  · refine q_aload_n dX2_setGood_5 rfl ?_
    refine z_get 2 dX2_setGood_6 (by first | assumption | decide) (sh_15 _ _ _) rfl (by decide) fl_X2_19 rfl ?_
    refine q_iconst (v := 1) dX2_setGood_9 rfl ?_
    refine q_iload_n dX2_setGood_10 rfl ?_
    refine q_ishl dX2_setGood_11 ?_
    refine q_ior dX2_setGood_12 ?_
    refine q_goto 26 dX2_setGood_13 (by decide) ?_
    refine z_puti 2 dX2_setGood_26 (by first | assumption | decide) (sh_15 _ _ _) rfl (by decide) fl_X2_19 rfl pfI (Nat.le_of_ble_eq_true rfl) rfl ?_
    exact z_vret dX2_setGood_29 rfl ⟨rfl, by rw [sel_f h], rfl⟩
def mrun (nx : Int32 → Int32 → Int32) (f : Nat → Int32) : Nat → Int32
  | 0 => 0
  | k + 1 => nx (mrun nx f k) (f k)
set_option maxRecDepth 100000 in
set_option maxHeartbeats 4000000 in
theorem c_Machine_takes (sg : zI) (ta : zJ) (i r n : Nat) (hi : i < cnt 15) (hr : r < cnt 13) (hn : sg 13 r 1 = nI n) (hn30 : n ≤ 30) : zP yX2_takes mX2_takes 1 [.ref (nm 15 i), .ref (nm 13 r)] sg ta (pI (bC (mgd (sg 15 i 2) (mrun (mnx (sg 16 i)) (sg 14 r) n))) sg ta) := by
  have hr2 := cnt14 hr
  refine zP_of (lv := [some (.ref (nm 15 i)), some (.ref (nm 13 r)), none, none]) (by decide +kernel) rfl (fun h => by cases h) rfl (Nat.le_of_ble_eq_true rfl) ?_
  have loop : ∀ k j : Nat, j + k = n → Zq mX2_takes 1 (pI (bC (mgd (sg 15 i 2) (mrun (mnx (sg 16 i)) (sg 14 r) n))) sg ta) sg ta 4 [some (.ref (nm 15 i)), some (.ref (nm 13 r)), some (.int (mrun (mnx (sg 16 i)) (sg 14 r) j)), some (.int (nI j))] [] := by
    intro k
    induction k with
    | zero =>
      intro j hj
      refine q_iload_n dX2_takes_4 rfl ?_
      refine q_aload_n dX2_takes_5 rfl ?_
      refine z_get 1 dX2_takes_6 (by first | assumption | decide) (sh_13 _ _ _) rfl (by decide) fl_X2_28 rfl ?_
      rw [hn]
      refine q_icmp_ge 30 dX2_takes_9 (by decide) (fun h => ?_) (fun h => ?_)
      · refine q_aload_n dX2_takes_30 rfl ?_
        refine q_iload_n dX2_takes_31 rfl ?_
        refine z_callV (c_Machine_isGood sg ta i _ hi) kV_X2_40 dX2_takes_32 (by first | assumption | decide) (sh_15 _ _ _) rfl rfl rfl (by omega) (Nat.le_of_ble_eq_true rfl) (Nat.le_refl _) (Nat.le_refl _) rfl (fun v sg2 ta2 h => ?_)
        obtain ⟨rfl, rfl, rfl⟩ := h
        dsimp only [Option.toList, List.cons_append, List.nil_append]
        exact z_zret dX2_takes_35 rfl (bC_01 _) ⟨by rw [show j = n by omega], rfl, rfl⟩
      · exact absurd (nI_le (by omega) (by omega)) h
    | succ k ih =>
      intro j hj
      refine q_iload_n dX2_takes_4 rfl ?_
      refine q_aload_n dX2_takes_5 rfl ?_
      refine z_get 1 dX2_takes_6 (by first | assumption | decide) (sh_13 _ _ _) rfl (by decide) fl_X2_28 rfl ?_
      rw [hn]
      refine q_icmp_ge 30 dX2_takes_9 (by decide) (fun h => ?_) (fun h => ?_)
      · exact absurd h (nI_ge (by omega) (by omega))
      · refine q_aload_n dX2_takes_12 rfl ?_
        refine q_iload_n dX2_takes_13 rfl ?_
        refine q_aload_n dX2_takes_14 rfl ?_
        refine z_get 0 dX2_takes_15 (by first | assumption | decide) (sh_13 _ _ _) rfl (by decide) fl_X2_33 rfl ?_
        refine q_iload_n dX2_takes_18 rfl ?_
        refine z_iald dX2_takes_19 (by first | assumption | decide) rfl (vp_in_nI (n := j) (by omega) (by omega)) ?_
        rw [nI_clamp (by omega)]
        refine z_callV (c_Machine_next sg ta i _ _ hi) kV_X2_36 dX2_takes_20 (by first | assumption | decide) (sh_15 _ _ _) rfl rfl rfl (by omega) (Nat.le_of_ble_eq_true rfl) (Nat.le_refl _) (Nat.le_refl _) rfl (fun v sg2 ta2 h => ?_)
        obtain ⟨rfl, rfl, rfl⟩ := h
        dsimp only [Option.toList, List.cons_append, List.nil_append]
        refine s_istore_n 2 dX2_takes_23 rfl (Nat.le_of_ble_eq_true rfl) rfl ?_
        dsimp only [List.set]
        refine q_iinc dX2_takes_24 rfl (Nat.le_of_ble_eq_true rfl) rfl ?_
        dsimp only [List.set]
        refine q_goto 4 dX2_takes_27 (by decide) ?_
        rw [nI_inc]
        exact ih (j + 1) (by omega)
  refine q_iconst (v := 0) dX2_takes_0 rfl ?_
  refine s_istore_n 2 dX2_takes_1 rfl (Nat.le_of_ble_eq_true rfl) rfl ?_
  dsimp only [List.set]
  refine q_iconst (v := 0) dX2_takes_2 rfl ?_
  refine s_istore_n 3 dX2_takes_3 rfl (Nat.le_of_ble_eq_true rfl) rfl ?_
  dsimp only [List.set]
  exact loop n 0 (by omega)
end
section
/-! Row -/
set_option maxRecDepth 100000 in
set_option maxHeartbeats 4000000 in
theorem c_Row_addLetter (sg : zI) (ta : zJ) (r n : Nat) (x : Int32) (hr : r < cnt 13) (hn : sg 13 r 1 = nI n) (hn30 : n < 30) : zP yX3_addLetter mX3_addLetter 0 [.ref (nm 13 r), .int x] sg ta (pV (up3 (up3 sg 14 r n x) 13 r 1 (nI (n + 1))) ta) := by
  have hr2 := cnt14 hr
  refine zP_of (lv := [some (.ref (nm 13 r)), some (.int x)]) (by decide +kernel) rfl (fun h => by cases h) rfl (Nat.le_of_ble_eq_true rfl) ?_
  refine q_aload_n dX3_addLetter_0 rfl ?_
  refine z_get 1 dX3_addLetter_1 (by first | assumption | decide) (sh_13 _ _ _) rfl (by decide) fl_X3_15 rfl ?_
  refine q_aload_n dX3_addLetter_4 rfl ?_
  refine z_get 0 dX3_addLetter_5 (by first | assumption | decide) (sh_13 _ _ _) rfl (by decide) fl_X3_9 rfl ?_
  refine z_alen dX3_addLetter_8 (by first | assumption | decide) rfl (fun _ => rfl) rfl ?_
  rw [hn]
  refine q_icmp_ge 32 dX3_addLetter_9 (by decide) (fun h => ?_) (fun h => ?_)
  · exact absurd ((nI_leI (a := 30) (by omega) (by omega)).mp h) (by omega)
  · refine q_aload_n dX3_addLetter_12 rfl ?_
    refine z_get 0 dX3_addLetter_13 (by first | assumption | decide) (sh_13 _ _ _) rfl (by decide) fl_X3_9 rfl ?_
    refine q_aload_n dX3_addLetter_16 rfl ?_
    refine z_get 1 dX3_addLetter_17 (by first | assumption | decide) (sh_13 _ _ _) rfl (by decide) fl_X3_15 rfl ?_
    refine q_iload_n dX3_addLetter_20 rfl ?_
    rw [hn]
    refine z_iast dX3_addLetter_21 (by first | assumption | decide) (fun _ _ => rfl) (vp_in_nI hn30 (by omega)) ?_
    rw [nI_clamp (by omega)]
    refine q_aload_n dX3_addLetter_22 rfl ?_
    refine q_dup dX3_addLetter_23 rfl ?_
    refine z_get 1 dX3_addLetter_24 (by first | assumption | decide) (sh_13 _ _ _) rfl (by decide) fl_X3_15 rfl ?_
    refine q_iconst (v := 1) dX3_addLetter_27 rfl ?_
    rw [up3_off (by omega), hn]
    refine q_iadd dX3_addLetter_28 ?_
    rw [nI_1]
    refine z_puti 1 dX3_addLetter_29 (by first | assumption | decide) (sh_13 _ _ _) rfl (by decide) fl_X3_15 rfl pfI (Nat.le_of_ble_eq_true rfl) rfl ?_
    exact z_vret dX3_addLetter_32 rfl ⟨rfl, rfl, rfl⟩
/-- a row with c letters of another one (from f on) behind its n -/
def rAdd (a : Nat → Int32) (n : Nat) (b : Nat → Int32) (f c : Nat) : Nat → Int32 := fun j => if n ≤ j ∧ j < n + c then b (f + (j - n)) else a j
theorem rAdd_s (a b : Nat → Int32) (n f c : Nat) : upd (rAdd a n b f c) (n + c) (b (f + c)) = rAdd a n b f (c + 1) := by
  funext j
  unfold upd rAdd
  by_cases h : j = n + c
  · subst h
    simp only [if_true]
    rw [if_pos (by omega), show n + c - n = c by omega]
  · rw [if_neg h]
    by_cases h2 : n ≤ j ∧ j < n + c
    · rw [if_pos h2, if_pos (by omega)]
    · rw [if_neg h2, if_neg (by omega)]
theorem rAdd_0 (a b : Nat → Int32) (n f : Nat) : rAdd a n b f 0 = a := by
  funext j
  unfold rAdd
  rw [if_neg (by omega)]
set_option maxRecDepth 100000 in
set_option maxHeartbeats 4000000 in
theorem c_Row_addRow (sg : zI) (ta : zJ) (r n w f c : Nat) (hr : r < cnt 13) (hw : w < cnt 6) (hn : sg 13 r 1 = nI n) (hn30 : n + c ≤ 30) (hf : f + c ≤ 20) : zP yX3_addRow mX3_addRow 0 [.ref (nm 13 r), .ref (nm 6 w), .int (nI f), .int (nI c)] sg ta (pV (up3 (upR sg 14 r (rAdd (sg 14 r) n (sg 6 w) f c)) 13 r 1 (nI (n + c))) ta) := by
  have hr2 := cnt14 hr
  refine zP_of (lv := [some (.ref (nm 13 r)), some (.ref (nm 6 w)), some (.int (nI f)), some (.int (nI c)), none]) (by decide +kernel) rfl (fun h => by cases h) rfl (Nat.le_of_ble_eq_true rfl) ?_
  have loop : ∀ k j : Nat, j + k = c → Zq mX3_addRow 0 (pV (up3 (upR sg 14 r (rAdd (sg 14 r) n (sg 6 w) f c)) 13 r 1 (nI (n + c))) ta) (up3 (upR sg 14 r (rAdd (sg 14 r) n (sg 6 w) f j)) 13 r 1 (nI (n + j))) ta 3 [some (.ref (nm 13 r)), some (.ref (nm 6 w)), some (.int (nI f)), some (.int (nI c)), some (.int (nI j))] [] := by
    intro k
    induction k with
    | zero =>
      intro j hj
      refine q_iload dX3_addRow_3 rfl ?_
      refine q_iload_n dX3_addRow_5 rfl ?_
      refine q_icmp_ge 61 dX3_addRow_6 (by decide) (fun h => ?_) (fun h => ?_)
      · exact z_vret dX3_addRow_61 rfl ⟨rfl, by rw [show j = c by omega], rfl⟩
      · exact absurd (nI_le (by omega) (by omega)) h
    | succ k ih =>
      intro j hj
      have e1 : up3 (upR sg 14 r (rAdd (sg 14 r) n (sg 6 w) f j)) 13 r 1 (nI (n + j)) 13 r 1 = nI (n + j) := by rw [up3_get, if_pos ⟨rfl, rfl, rfl⟩]
      have e2 : up3 (upR sg 14 r (rAdd (sg 14 r) n (sg 6 w) f j)) 13 r 1 (nI (n + j)) 6 w = sg 6 w := by rw [up3_off (by omega)]; simp [upR]
      refine q_iload dX3_addRow_3 rfl ?_
      refine q_iload_n dX3_addRow_5 rfl ?_
      refine q_icmp_ge 61 dX3_addRow_6 (by decide) (fun h => ?_) (fun h => ?_)
      · exact absurd h (nI_ge (by omega) (by omega))
      · refine q_aload_n dX3_addRow_9 rfl ?_
        refine z_get 1 dX3_addRow_10 (by first | assumption | decide) (sh_13 _ _ _) rfl (by decide) fl_X3_15 rfl ?_
        refine q_aload_n dX3_addRow_13 rfl ?_
        refine z_get 0 dX3_addRow_14 (by first | assumption | decide) (sh_13 _ _ _) rfl (by decide) fl_X3_9 rfl ?_
        refine z_alen dX3_addRow_17 (by first | assumption | decide) rfl (fun _ => rfl) rfl ?_
        rw [e1]
        refine q_icmp_ge 61 dX3_addRow_18 (by decide) (fun h2 => ?_) (fun h2 => ?_)
        · exact absurd ((nI_leI (a := 30) (by omega) (by omega)).mp h2) (by omega)
        · refine q_iload_n dX3_addRow_21 rfl ?_
          refine q_iload dX3_addRow_22 rfl ?_
          refine q_iadd dX3_addRow_24 ?_
          rw [nI_add]
          refine q_aload_n dX3_addRow_25 rfl ?_
          refine z_alen dX3_addRow_26 (by first | assumption | decide) rfl (fun _ => rfl) rfl ?_
          refine q_icmp_ge 61 dX3_addRow_27 (by decide) (fun h3 => ?_) (fun h3 => ?_)
          · exact absurd ((nI_leI (a := 20) (by omega) (by omega)).mp h3) (by omega)
          · refine q_aload_n dX3_addRow_30 rfl ?_
            refine z_get 0 dX3_addRow_31 (by first | assumption | decide) (sh_13 _ _ _) rfl (by decide) fl_X3_9 rfl ?_
            refine q_aload_n dX3_addRow_34 rfl ?_
            refine z_get 1 dX3_addRow_35 (by first | assumption | decide) (sh_13 _ _ _) rfl (by decide) fl_X3_15 rfl ?_
            refine q_aload_n dX3_addRow_38 rfl ?_
            refine q_iload_n dX3_addRow_39 rfl ?_
            refine q_iload dX3_addRow_40 rfl ?_
            refine q_iadd dX3_addRow_42 ?_
            rw [e1, nI_add]
            refine z_iald dX3_addRow_43 (by first | assumption | decide) rfl (vp_in_nI (n := f + j) (by omega) (by omega)) ?_
            rw [nI_clamp (by omega), e2]
            refine z_iast dX3_addRow_44 (by first | assumption | decide) (fun _ _ => rfl) (vp_in_nI (n := n + j) (by omega) (by omega)) ?_
            rw [nI_clamp (by omega)]
            have e3 : up3 (up3 (upR sg 14 r (rAdd (sg 14 r) n (sg 6 w) f j)) 13 r 1 (nI (n + j))) 14 r (n + j) (sg 6 w (f + j)) = up3 (upR sg 14 r (rAdd (sg 14 r) n (sg 6 w) f (j + 1))) 13 r 1 (nI (n + j)) := by
              rw [← rAdd_s]
              funext K' i'
              by_cases h1 : K' = 14 ∧ i' = r
              · obtain ⟨rfl, rfl⟩ := h1
                simp [up3, upR]
              · by_cases h2 : K' = 13 ∧ i' = r
                · obtain ⟨rfl, rfl⟩ := h2
                  simp [up3, upR]
                · simp [up3, upR, h1, h2]
            rw [e3]
            have e4 : up3 (upR sg 14 r (rAdd (sg 14 r) n (sg 6 w) f (j + 1))) 13 r 1 (nI (n + j)) 13 r 1 = nI (n + j) := by rw [up3_get, if_pos ⟨rfl, rfl, rfl⟩]
            refine q_aload_n dX3_addRow_45 rfl ?_
            refine q_dup dX3_addRow_46 rfl ?_
            refine z_get 1 dX3_addRow_47 (by first | assumption | decide) (sh_13 _ _ _) rfl (by decide) fl_X3_15 rfl ?_
            refine q_iconst (v := 1) dX3_addRow_50 rfl ?_
            rw [e4]
            refine q_iadd dX3_addRow_51 ?_
            rw [nI_1]
            refine z_puti 1 dX3_addRow_52 (by first | assumption | decide) (sh_13 _ _ _) rfl (by decide) fl_X3_15 rfl pfI (Nat.le_of_ble_eq_true rfl) rfl ?_
            refine q_iinc dX3_addRow_55 rfl (Nat.le_of_ble_eq_true rfl) rfl ?_
            dsimp only [List.set]
            refine q_goto 3 dX3_addRow_58 (by decide) ?_
            rw [nI_inc]
            have e5 : ∀ q : zI, up3 (up3 q 13 r 1 (nI (n + j))) 13 r 1 (nI (n + j + 1)) = up3 q 13 r 1 (nI (n + (j + 1))) := by
              intro q
              funext K' i'
              by_cases h1 : K' = 13 ∧ i' = r
              · obtain ⟨rfl, rfl⟩ := h1
                funext j'
                by_cases hj' : j' = 1
                · subst hj'; simp [up3, upd, Nat.add_assoc]
                · simp [up3, upd, hj']
              · simp [up3, h1]
            rw [e5]
            exact ih (j + 1) (by omega)
  refine q_iconst (v := 0) dX3_addRow_0 rfl ?_
  refine q_istore dX3_addRow_1 (Nat.le_of_ble_eq_true rfl) rfl ?_
  dsimp only [List.set]
  have h0 := loop c 0 (by omega)
  rw [rAdd_0, upR_self, Nat.add_zero] at h0
  have e6 : up3 sg 13 r 1 (nI n) = sg := by
    funext K' i'
    by_cases h1 : K' = 13 ∧ i' = r
    · obtain ⟨rfl, rfl⟩ := h1
      funext j'
      by_cases hj' : j' = 1
      · subst hj'; simp [up3, upd, hn]
      · simp [up3, upd, hj']
    · simp [up3, h1]
  rw [e6] at h0
  exact h0
/-- c letters of one row from f on are those of another from o on -/
def agr (a : Nat → Int32) (f n : Nat) (b : Nat → Int32) (o m c : Nat) : Prop := f + c ≤ n ∧ o + c ≤ m ∧ ∀ k, k < c → a (f + k) = b (o + k)
set_option maxRecDepth 100000 in
set_option maxHeartbeats 4000000 in
theorem c_Row_agrees (sg : zI) (ta : zJ) (r f n r2 o m c : Nat) (hr : r < cnt 13) (hr' : r2 < cnt 13) (hn : sg 13 r 1 = nI n) (hm : sg 13 r2 1 = nI m) (hn30 : n ≤ 30) (hm30 : m ≤ 30) (hf : f ≤ 1000) (ho : o ≤ 1000) (hc : c ≤ 1000) : zP yX3_agrees mX3_agrees 0 [.ref (nm 13 r), .int (nI f), .ref (nm 13 r2), .int (nI o), .int (nI c)] sg ta (pI (bC (agr (sg 14 r) f n (sg 14 r2) o m c)) sg ta) := by
  have hr2 := cnt14 hr
  have hr3 := cnt14 hr'
  refine zP_of (lv := [some (.ref (nm 13 r)), some (.int (nI f)), some (.ref (nm 13 r2)), some (.int (nI o)), some (.int (nI c)), none]) (by decide +kernel) rfl (fun h => by cases h) rfl (Nat.le_of_ble_eq_true rfl) ?_
  have loop : f + c ≤ n → o + c ≤ m → ∀ k j : Nat, j + k = c → (∀ q, q < j → sg 14 r (f + q) = sg 14 r2 (o + q)) → Zq mX3_agrees 0 (pI (bC (agr (sg 14 r) f n (sg 14 r2) o m c)) sg ta) sg ta 27 [some (.ref (nm 13 r)), some (.int (nI f)), some (.ref (nm 13 r2)), some (.int (nI o)), some (.int (nI c)), some (.int (nI j))] [] := by
    intro g1 g2 k
    induction k with
    | zero =>
      intro j hj hq
      refine q_iload dX3_agrees_27 rfl ?_
      refine q_iload dX3_agrees_29 rfl ?_
      refine q_icmp_ge 63 dX3_agrees_31 (by decide) (fun h => ?_) (fun h => ?_)
      · refine q_iconst (v := 1) dX3_agrees_63 rfl ?_
        exact z_zret dX3_agrees_64 rfl (Or.inr rfl) ⟨by rw [bC_t ⟨g1, g2, fun k hk => hq k (by omega)⟩], rfl, rfl⟩
      · exact absurd (nI_le (by omega) (by omega)) h
    | succ k ih =>
      intro j hj hq
      refine q_iload dX3_agrees_27 rfl ?_
      refine q_iload dX3_agrees_29 rfl ?_
      refine q_icmp_ge 63 dX3_agrees_31 (by decide) (fun h => ?_) (fun h => ?_)
      · exact absurd h (nI_ge (by omega) (by omega))
      · refine q_aload_n dX3_agrees_34 rfl ?_
        refine z_get 0 dX3_agrees_35 (by first | assumption | decide) (sh_13 _ _ _) rfl (by decide) fl_X3_9 rfl ?_
        refine q_iload_n dX3_agrees_38 rfl ?_
        refine q_iload dX3_agrees_39 rfl ?_
        refine q_iadd dX3_agrees_41 ?_
        rw [nI_add]
        refine z_iald dX3_agrees_42 (by first | assumption | decide) rfl (vp_in_nI (n := f + j) (by omega) (by omega)) ?_
        rw [nI_clamp (by omega)]
        refine q_aload_n dX3_agrees_43 rfl ?_
        refine z_get 0 dX3_agrees_44 (by first | assumption | decide) (sh_13 _ _ _) rfl (by decide) fl_X3_9 rfl ?_
        refine q_iload_n dX3_agrees_47 rfl ?_
        refine q_iload dX3_agrees_48 rfl ?_
        refine q_iadd dX3_agrees_50 ?_
        rw [nI_add]
        refine z_iald dX3_agrees_51 (by first | assumption | decide) rfl (vp_in_nI (n := o + j) (by omega) (by omega)) ?_
        rw [nI_clamp (by omega)]
        refine q_icmp_eq 57 dX3_agrees_52 (by decide) (fun h2 => ?_) (fun h2 => ?_)
        · refine q_iinc dX3_agrees_57 rfl (Nat.le_of_ble_eq_true rfl) rfl ?_
          dsimp only [List.set]
          refine q_goto 27 dX3_agrees_60 (by decide) ?_
          rw [nI_inc]
          exact ih (j + 1) (by omega) (lt_s hq h2)
        · refine q_iconst (v := 0) dX3_agrees_55 rfl ?_
          exact z_zret dX3_agrees_56 rfl (Or.inl rfl) ⟨by rw [bC_f (fun q => h2 (q.2.2 j (by omega)))], rfl, rfl⟩
  refine q_iload_n dX3_agrees_0 rfl ?_
  refine q_iload dX3_agrees_1 rfl ?_
  refine q_iadd dX3_agrees_3 ?_
  refine q_aload_n dX3_agrees_4 rfl ?_
  refine z_get 1 dX3_agrees_5 (by first | assumption | decide) (sh_13 _ _ _) rfl (by decide) fl_X3_15 rfl ?_
  rw [nI_add, hn]
  refine q_icmp_gt 22 dX3_agrees_8 (by decide) (fun h => ?_) (fun h => ?_)
  · refine q_iconst (v := 0) dX3_agrees_22 rfl ?_
    exact z_zret dX3_agrees_23 rfl (Or.inl rfl) ⟨by rw [bC_f (fun q => nI_nlt q.1 (by omega) h)], rfl, rfl⟩
  · have g1 : f + c ≤ n := Nat.le_of_not_lt (fun q => h (nI_lt q (by omega)))
    refine q_iload_n dX3_agrees_11 rfl ?_
    refine q_iload dX3_agrees_12 rfl ?_
    refine q_iadd dX3_agrees_14 ?_
    refine q_aload_n dX3_agrees_15 rfl ?_
    refine z_get 1 dX3_agrees_16 (by first | assumption | decide) (sh_13 _ _ _) rfl (by decide) fl_X3_15 rfl ?_
    rw [nI_add, hm]
    refine q_icmp_le 24 dX3_agrees_19 (by decide) (fun h2 => ?_) (fun h2 => ?_)
    · have g2 : o + c ≤ m := (nI_leI (by omega) (by omega)).mp h2
      refine q_iconst (v := 0) dX3_agrees_24 rfl ?_
      refine q_istore dX3_agrees_25 (Nat.le_of_ble_eq_true rfl) rfl ?_
      dsimp only [List.set]
      exact loop g1 g2 c 0 (by omega) (fun q hq => absurd hq (by omega))
    · refine q_iconst (v := 0) dX3_agrees_22 rfl ?_
      exact z_zret dX3_agrees_23 rfl (Or.inl rfl) ⟨by rw [bC_f (fun q => h2 (nI_le q.2.1 (by omega)))], rfl, rfl⟩
end
section
set_option maxRecDepth 100000 in
set_option maxHeartbeats 4000000 in
theorem c_Row_isSame (sg : zI) (ta : zJ) (r n r2 m : Nat) (hr : r < cnt 13) (hr' : r2 < cnt 13) (hn : sg 13 r 1 = nI n) (hm : sg 13 r2 1 = nI m) (hn30 : n ≤ 30) (hm30 : m ≤ 30) : zP yX3_isSame mX3_isSame 1 [.ref (nm 13 r), .ref (nm 13 r2)] sg ta (pI (bC (n = m ∧ ∀ k, k < n → sg 14 r k = sg 14 r2 k)) sg ta) := by
  refine zP_of (lv := [some (.ref (nm 13 r)), some (.ref (nm 13 r2))]) (by decide +kernel) rfl (fun h => by cases h) rfl (Nat.le_of_ble_eq_true rfl) ?_
  refine q_aload_n dX3_isSame_0 rfl ?_
  refine z_get 1 dX3_isSame_1 (by first | assumption | decide) (sh_13 _ _ _) rfl (by decide) fl_X3_15 rfl ?_
  refine q_aload_n dX3_isSame_4 rfl ?_
  refine z_get 1 dX3_isSame_5 (by first | assumption | decide) (sh_13 _ _ _) rfl (by decide) fl_X3_15 rfl ?_
  rw [hn, hm]
  refine q_icmp_ne 29 dX3_isSame_8 (by decide) (fun h => ?_) (fun h => ?_)
  · refine q_iconst (v := 0) dX3_isSame_29 rfl ?_
    exact z_zret dX3_isSame_30 rfl (Or.inl rfl) ⟨by rw [bC_f (fun q => h (by rw [q.1]))], rfl, rfl⟩
  · have hnm : n = m := (nI_eq (by omega) (by omega)).mp h
    refine q_aload_n dX3_isSame_11 rfl ?_
    refine q_iconst (v := 0) dX3_isSame_12 rfl ?_
    refine q_aload_n dX3_isSame_13 rfl ?_
    refine q_iconst (v := 0) dX3_isSame_14 rfl ?_
    refine q_aload_n dX3_isSame_15 rfl ?_
    refine z_get 1 dX3_isSame_16 (by first | assumption | decide) (sh_13 _ _ _) rfl (by decide) fl_X3_15 rfl ?_
    rw [hn]
    refine z_callV (c_Row_agrees sg ta r 0 n r2 0 m n hr hr' hn hm hn30 hm30 (by omega) (by omega) (by omega)) kV_X3_44 dX3_isSame_19 (by first | assumption | decide) (sh_13 _ _ _) rfl rfl rfl (by omega) (Nat.le_of_ble_eq_true rfl) (Nat.le_refl _) (Nat.le_refl _) rfl (fun v sg2 ta2 h => ?_)
    obtain ⟨rfl, rfl, rfl⟩ := h
    dsimp only [Option.toList, List.cons_append, List.nil_append]
    refine q_if_eq 29 dX3_isSame_22 (by decide) (fun h2 => ?_) (fun h2 => ?_)
    · refine q_iconst (v := 0) dX3_isSame_29 rfl ?_
      exact z_zret dX3_isSame_30 rfl (Or.inl rfl) ⟨by rw [bC_f (fun q => bC_z.mp h2 ⟨by omega, by omega, fun k hk => by rw [Nat.zero_add]; exact q.2 k hk⟩)], rfl, rfl⟩
    · refine q_iconst (v := 1) dX3_isSame_25 rfl ?_
      refine q_goto 30 dX3_isSame_26 (by decide) ?_
      exact z_zret dX3_isSame_30 rfl (Or.inr rfl) ⟨by rw [bC_t ⟨hnm, fun k hk => by have := (bC_nz.mp h2).2.2 k hk; rwa [Nat.zero_add] at this⟩], rfl, rfl⟩
/-- b (m letters) stands in a (n letters) at the place p -/
def matR (a : Nat → Int32) (n : Nat) (b : Nat → Int32) (m p : Nat) : Prop := p + m ≤ n ∧ ∀ k, k < m → a (p + k) = b k
/-- r: the first place, or -1 -/
def plR (a : Nat → Int32) (n : Nat) (b : Nat → Int32) (m : Nat) (r : Int32) : Prop := (r = -1 ∧ ∀ p, ¬ matR a n b m p) ∨ ∃ p, r = nI p ∧ matR a n b m p ∧ ∀ q, q < p → ¬ matR a n b m q
set_option maxRecDepth 100000 in
set_option maxHeartbeats 4000000 in
theorem c_Row_placeOf (sg : zI) (ta : zJ) (r n r2 m : Nat) (hr : r < cnt 13) (hr' : r2 < cnt 13) (hn : sg 13 r 1 = nI n) (hm : sg 13 r2 1 = nI m) (hn30 : n ≤ 30) (hm30 : m ≤ 30) : zP yX3_placeOf mX3_placeOf 1 [.ref (nm 13 r), .ref (nm 13 r2)] sg ta (fun v s t => s = sg ∧ t = ta ∧ ∃ x, v = some (.int x) ∧ plR (sg 14 r) n (sg 14 r2) m x) := by
  refine zP_of (lv := [some (.ref (nm 13 r)), some (.ref (nm 13 r2)), none]) (by decide +kernel) rfl (fun h => by cases h) rfl (Nat.le_of_ble_eq_true rfl) ?_
  have loop : ∀ k j : Nat, j + k = n + 1 → (∀ q, q < j → ¬ matR (sg 14 r) n (sg 14 r2) m q) → Zq mX3_placeOf 1 (fun v s t => s = sg ∧ t = ta ∧ ∃ x, v = some (.int x) ∧ plR (sg 14 r) n (sg 14 r2) m x) sg ta 2 [some (.ref (nm 13 r)), some (.ref (nm 13 r2)), some (.int (nI j))] [] := by
    intro k
    induction k with
    | zero =>
      intro j hj hq
      refine q_iload_n dX3_placeOf_2 rfl ?_
      refine q_aload_n dX3_placeOf_3 rfl ?_
      refine z_get 1 dX3_placeOf_4 (by first | assumption | decide) (sh_13 _ _ _) rfl (by decide) fl_X3_15 rfl ?_
      refine q_iadd dX3_placeOf_7 ?_
      refine q_aload_n dX3_placeOf_8 rfl ?_
      refine z_get 1 dX3_placeOf_9 (by first | assumption | decide) (sh_13 _ _ _) rfl (by decide) fl_X3_15 rfl ?_
      rw [hn, hm, nI_add]
      refine q_icmp_gt 37 dX3_placeOf_12 (by decide) (fun h => ?_) (fun h => ?_)
      · refine q_iconst (v := (-1)) dX3_placeOf_37 rfl ?_
        exact z_iret dX3_placeOf_38 rfl ⟨rfl, rfl, _, rfl, Or.inl ⟨rfl, fun p hp => hq p (by have := hp.1; omega) hp⟩⟩
      · exact absurd (nI_lt (by omega) (by omega)) h
    | succ k ih =>
      intro j hj hq
      refine q_iload_n dX3_placeOf_2 rfl ?_
      refine q_aload_n dX3_placeOf_3 rfl ?_
      refine z_get 1 dX3_placeOf_4 (by first | assumption | decide) (sh_13 _ _ _) rfl (by decide) fl_X3_15 rfl ?_
      refine q_iadd dX3_placeOf_7 ?_
      refine q_aload_n dX3_placeOf_8 rfl ?_
      refine z_get 1 dX3_placeOf_9 (by first | assumption | decide) (sh_13 _ _ _) rfl (by decide) fl_X3_15 rfl ?_
      rw [hn, hm, nI_add]
      refine q_icmp_gt 37 dX3_placeOf_12 (by decide) (fun h => ?_) (fun h => ?_)
      · have h1 : n < j + m := (nI_ltI (by omega) (by omega)).mp h
        refine q_iconst (v := (-1)) dX3_placeOf_37 rfl ?_
        refine z_iret dX3_placeOf_38 rfl ⟨rfl, rfl, _, rfl, Or.inl ⟨rfl, fun p hp => ?_⟩⟩
        rcases Nat.lt_or_ge p j with g | g
        · exact hq p g hp
        · have := hp.1; omega
      · have h1 : j + m ≤ n := Nat.le_of_not_lt (fun q => h (nI_lt q (by omega)))
        refine q_aload_n dX3_placeOf_15 rfl ?_
        refine q_iload_n dX3_placeOf_16 rfl ?_
        refine q_aload_n dX3_placeOf_17 rfl ?_
        refine q_iconst (v := 0) dX3_placeOf_18 rfl ?_
        refine q_aload_n dX3_placeOf_19 rfl ?_
        refine z_get 1 dX3_placeOf_20 (by first | assumption | decide) (sh_13 _ _ _) rfl (by decide) fl_X3_15 rfl ?_
        rw [hm]
        refine z_callV (c_Row_agrees sg ta r j n r2 0 m m hr hr' hn hm hn30 hm30 (by omega) (by omega) (by omega)) kV_X3_44 dX3_placeOf_23 (by first | assumption | decide) (sh_13 _ _ _) rfl rfl rfl (by omega) (Nat.le_of_ble_eq_true rfl) (Nat.le_refl _) (Nat.le_refl _) rfl (fun v sg2 ta2 h => ?_)
        obtain ⟨rfl, rfl, rfl⟩ := h
        dsimp only [Option.toList, List.cons_append, List.nil_append]
        refine q_if_eq 31 dX3_placeOf_26 (by decide) (fun h2 => ?_) (fun h2 => ?_)
        · refine q_iinc dX3_placeOf_31 rfl (Nat.le_of_ble_eq_true rfl) rfl ?_
          dsimp only [List.set]
          refine q_goto 2 dX3_placeOf_34 (by decide) ?_
          rw [nI_inc]
          refine ih (j + 1) (by omega) (lt_s hq (fun g => bC_z.mp h2 ⟨h1, by omega, fun k hk => by rw [Nat.zero_add]; exact g.2 k hk⟩))
        · refine q_iload_n dX3_placeOf_29 rfl ?_
          exact z_iret dX3_placeOf_30 rfl ⟨rfl, rfl, _, rfl, Or.inr ⟨j, rfl, ⟨h1, fun k hk => by have := (bC_nz.mp h2).2.2 k hk; rwa [Nat.zero_add] at this⟩, hq⟩⟩
  refine q_iconst (v := 0) dX3_placeOf_0 rfl ?_
  refine s_istore_n 2 dX3_placeOf_1 rfl (Nat.le_of_ble_eq_true rfl) rfl ?_
  dsimp only [List.set]
  exact loop (n + 1) 0 (by omega) (fun q hq => absurd hq (by omega))
/-- a is before b -/
def befR (a : Nat → Int32) (n : Nat) (b : Nat → Int32) (m : Nat) : Prop := ∃ i, (∀ k, k < i → a k = b k) ∧ i ≤ n ∧ i < m ∧ (i = n ∨ i < n ∧ a i < b i)
theorem befR_no {a b : Nat → Int32} {n m i : Nat} (hq : ∀ k, k < i → a k = b k) (hn : i < n) (hm : i < m) (hne : ¬ a i = b i) (hlt : ¬ a i < b i) : ¬ befR a n b m := by
  rintro ⟨j, h1, h2, h3, h4⟩
  rcases Nat.lt_trichotomy j i with g | g | g
  · rcases h4 with h4 | ⟨h4, h5⟩
    · omega
    · rw [hq j g] at h5
      exact absurd h5 (by rw [Int32.lt_iff_toInt_lt]; omega)
  · subst g
    rcases h4 with h4 | ⟨h4, h5⟩
    · omega
    · exact hlt h5
  · exact hne (h1 i g)
set_option maxRecDepth 100000 in
set_option maxHeartbeats 4000000 in
theorem c_Row_isBefore (sg : zI) (ta : zJ) (r n r2 m : Nat) (hr : r < cnt 13) (hr' : r2 < cnt 13) (hn : sg 13 r 1 = nI n) (hm : sg 13 r2 1 = nI m) (hn30 : n ≤ 30) (hm30 : m ≤ 30) : zP yX3_isBefore mX3_isBefore 0 [.ref (nm 13 r), .ref (nm 13 r2)] sg ta (pI (bC (befR (sg 14 r) n (sg 14 r2) m)) sg ta) := by
  have hr2 := cnt14 hr
  have hr3 := cnt14 hr'
  refine zP_of (lv := [some (.ref (nm 13 r)), some (.ref (nm 13 r2)), none]) (by decide +kernel) rfl (fun h => by cases h) rfl (Nat.le_of_ble_eq_true rfl) ?_
  have fin : ∀ j : Nat, (j = n ∨ j = m) → j ≤ n → j ≤ m → (∀ q, q < j → sg 14 r q = sg 14 r2 q) → Zq mX3_isBefore 0 (pI (bC (befR (sg 14 r) n (sg 14 r2) m)) sg ta) sg ta 60 [some (.ref (nm 13 r)), some (.ref (nm 13 r2)), some (.int (nI j))] [] := by
    intro j hj h1 h2 hq
    refine q_aload_n dX3_isBefore_60 rfl ?_
    refine z_get 1 dX3_isBefore_61 (by first | assumption | decide) (sh_13 _ _ _) rfl (by decide) fl_X3_15 rfl ?_
    refine q_aload_n dX3_isBefore_64 rfl ?_
    refine z_get 1 dX3_isBefore_65 (by first | assumption | decide) (sh_13 _ _ _) rfl (by decide) fl_X3_15 rfl ?_
    rw [hn, hm]
    refine q_icmp_ge 75 dX3_isBefore_68 (by decide) (fun h => ?_) (fun h => ?_)
    · have g : m ≤ n := (nI_leI (by omega) (by omega)).mp h
      refine q_iconst (v := 0) dX3_isBefore_75 rfl ?_
      refine z_zret dX3_isBefore_76 rfl (Or.inl rfl) ⟨?_, rfl, rfl⟩
      rw [bC_f]
      rintro ⟨i, q1, q2, q3, q4⟩
      rcases q4 with q4 | ⟨q4, q5⟩
      · omega
      · rw [hq i (by omega)] at q5
        exact absurd q5 (by rw [Int32.lt_iff_toInt_lt]; omega)
    · have g : n < m := Nat.lt_of_not_le (fun q => h (nI_le q (by omega)))
      refine q_iconst (v := 1) dX3_isBefore_71 rfl ?_
      refine q_goto 76 dX3_isBefore_72 (by decide) ?_
      refine z_zret dX3_isBefore_76 rfl (Or.inr rfl) ⟨?_, rfl, rfl⟩
      rw [bC_t ⟨n, fun k hk => hq k (by omega), Nat.le_refl n, g, Or.inl rfl⟩]
  have loop : ∀ k j : Nat, j + k = n → j ≤ m → (∀ q, q < j → sg 14 r q = sg 14 r2 q) → Zq mX3_isBefore 0 (pI (bC (befR (sg 14 r) n (sg 14 r2) m)) sg ta) sg ta 2 [some (.ref (nm 13 r)), some (.ref (nm 13 r2)), some (.int (nI j))] [] := by
    intro k
    induction k with
    | zero =>
      intro j hj hjm hq
      refine q_iload_n dX3_isBefore_2 rfl ?_
      refine q_aload_n dX3_isBefore_3 rfl ?_
      refine z_get 1 dX3_isBefore_4 (by first | assumption | decide) (sh_13 _ _ _) rfl (by decide) fl_X3_15 rfl ?_
      rw [hn]
      refine q_icmp_ge 60 dX3_isBefore_7 (by decide) (fun h => ?_) (fun h => ?_)
      · exact fin j (by omega) (by omega) hjm hq
      · exact absurd (nI_le (by omega) (by omega)) h
    | succ k ih =>
      intro j hj hjm hq
      refine q_iload_n dX3_isBefore_2 rfl ?_
      refine q_aload_n dX3_isBefore_3 rfl ?_
      refine z_get 1 dX3_isBefore_4 (by first | assumption | decide) (sh_13 _ _ _) rfl (by decide) fl_X3_15 rfl ?_
      rw [hn]
      refine q_icmp_ge 60 dX3_isBefore_7 (by decide) (fun h => ?_) (fun h => ?_)
      · exact absurd h (nI_ge (by omega) (by omega))
      · refine q_iload_n dX3_isBefore_10 rfl ?_
        refine q_aload_n dX3_isBefore_11 rfl ?_
        refine z_get 1 dX3_isBefore_12 (by first | assumption | decide) (sh_13 _ _ _) rfl (by decide) fl_X3_15 rfl ?_
        rw [hm]
        refine q_icmp_ge 60 dX3_isBefore_15 (by decide) (fun h2 => ?_) (fun h2 => ?_)
        · have g : m ≤ j := (nI_leI (by omega) (by omega)).mp h2
          exact fin j (by omega) (by omega) hjm hq
        · have g : j < m := Nat.lt_of_not_le (fun q => h2 (nI_le q (by omega)))
          refine q_aload_n dX3_isBefore_18 rfl ?_
          refine z_get 0 dX3_isBefore_19 (by first | assumption | decide) (sh_13 _ _ _) rfl (by decide) fl_X3_9 rfl ?_
          refine q_iload_n dX3_isBefore_22 rfl ?_
          refine z_iald dX3_isBefore_23 (by first | assumption | decide) rfl (vp_in_nI (n := j) (by omega) (by omega)) ?_
          refine q_aload_n dX3_isBefore_24 rfl ?_
          refine z_get 0 dX3_isBefore_25 (by first | assumption | decide) (sh_13 _ _ _) rfl (by decide) fl_X3_9 rfl ?_
          refine q_iload_n dX3_isBefore_28 rfl ?_
          refine z_iald dX3_isBefore_29 (by first | assumption | decide) rfl (vp_in_nI (n := j) (by omega) (by omega)) ?_
          rw [nI_clamp (by omega)]
          refine q_icmp_eq 54 dX3_isBefore_30 (by decide) (fun h3 => ?_) (fun h3 => ?_)
          · refine q_iinc dX3_isBefore_54 rfl (Nat.le_of_ble_eq_true rfl) rfl ?_
            dsimp only [List.set]
            refine q_goto 2 dX3_isBefore_57 (by decide) ?_
            rw [nI_inc]
            exact ih (j + 1) (by omega) (by omega) (lt_s hq h3)
          · refine q_aload_n dX3_isBefore_33 rfl ?_
            refine z_get 0 dX3_isBefore_34 (by first | assumption | decide) (sh_13 _ _ _) rfl (by decide) fl_X3_9 rfl ?_
            refine q_iload_n dX3_isBefore_37 rfl ?_
            refine z_iald dX3_isBefore_38 (by first | assumption | decide) rfl (vp_in_nI (n := j) (by omega) (by omega)) ?_
            refine q_aload_n dX3_isBefore_39 rfl ?_
            refine z_get 0 dX3_isBefore_40 (by first | assumption | decide) (sh_13 _ _ _) rfl (by decide) fl_X3_9 rfl ?_
            refine q_iload_n dX3_isBefore_43 rfl ?_
            refine z_iald dX3_isBefore_44 (by first | assumption | decide) rfl (vp_in_nI (n := j) (by omega) (by omega)) ?_
            rw [nI_clamp (by omega)]
            refine q_icmp_ge 52 dX3_isBefore_45 (by decide) (fun h4 => ?_) (fun h4 => ?_)
            · refine q_iconst (v := 0) dX3_isBefore_52 rfl ?_
              exact z_zret dX3_isBefore_53 rfl (Or.inl rfl) ⟨by rw [bC_f (befR_no hq (by omega) g h3 (Int32.not_lt.mpr h4))], rfl, rfl⟩
            · refine q_iconst (v := 1) dX3_isBefore_48 rfl ?_
              refine q_goto 53 dX3_isBefore_49 (by decide) ?_
              exact z_zret dX3_isBefore_53 rfl (Or.inr rfl) ⟨by rw [bC_t ⟨j, hq, by omega, g, Or.inr ⟨by omega, Int32.not_le.mp h4⟩⟩], rfl, rfl⟩
  refine q_iconst (v := 0) dX3_isBefore_0 rfl ?_
  refine s_istore_n 2 dX3_isBefore_1 rfl (Nat.le_of_ble_eq_true rfl) rfl ?_
  dsimp only [List.set]
  exact loop n 0 (by omega) (by omega) (fun q hq => absurd hq (by omega))
/-- the sum of a row -/
def sumR (a : Nat → Int32) : Nat → Int32
  | 0 => 0
  | k + 1 => 31 * sumR a k + a k + 1
set_option maxRecDepth 100000 in
set_option maxHeartbeats 4000000 in
theorem c_Row_hasSum (sg : zI) (ta : zJ) (r n : Nat) (x y : Int32) (hr : r < cnt 13) (hn : sg 13 r 1 = nI n) (hn30 : n ≤ 30) (hx : 0 < x) : zP yX3_hasSum mX3_hasSum 1 [.ref (nm 13 r), .int x, .int y] sg ta (pI (bC (fmod (sumR (sg 14 r) n) x = y)) sg ta) := by
  have hr2 := cnt14 hr
  refine zP_of (lv := [some (.ref (nm 13 r)), some (.int x), some (.int y), none, none]) (by decide +kernel) rfl (fun h => by cases h) rfl (Nat.le_of_ble_eq_true rfl) ?_
  have loop : ∀ k j : Nat, j + k = n → Zq mX3_hasSum 1 (pI (bC (fmod (sumR (sg 14 r) n) x = y)) sg ta) sg ta 5 [some (.ref (nm 13 r)), some (.int x), some (.int y), some (.int (sumR (sg 14 r) j)), some (.int (nI j))] [] := by
    intro k
    induction k with
    | zero =>
      intro j hj
      refine q_iload dX3_hasSum_5 rfl ?_
      refine q_aload_n dX3_hasSum_7 rfl ?_
      refine z_get 1 dX3_hasSum_8 (by first | assumption | decide) (sh_13 _ _ _) rfl (by decide) fl_X3_15 rfl ?_
      rw [hn]
      refine q_icmp_ge 35 dX3_hasSum_11 (by decide) (fun h => ?_) (fun h => ?_)
      · refine q_iload_n dX3_hasSum_35 rfl ?_
        refine q_if_le 52 dX3_hasSum_36 (by decide) (fun h2 => ?_) (fun h2 => ?_)
        · exact absurd hx (Int32.not_lt.mpr h2)
        · refine q_iload_n dX3_hasSum_39 rfl ?_
          refine q_iload_n dX3_hasSum_40 rfl ?_
          refine z_callS (c_floorMod sg ta _ x (fun q => by rw [q] at hx; exact absurd hx (by decide))) kS_X3_48 dX3_hasSum_41 rfl (by omega) (Nat.le_of_ble_eq_true rfl) (Nat.le_refl _) (Nat.le_refl _) rfl (fun v sg2 ta2 h => ?_)
          obtain ⟨rfl, rfl, rfl⟩ := h
          dsimp only [Option.toList, List.cons_append, List.nil_append]
          refine q_iload_n dX3_hasSum_44 rfl ?_
          refine q_icmp_ne 52 dX3_hasSum_45 (by decide) (fun h3 => ?_) (fun h3 => ?_)
          · refine q_iconst (v := 0) dX3_hasSum_52 rfl ?_
            exact z_zret dX3_hasSum_53 rfl (Or.inl rfl) ⟨by rw [bC_f (fun q => h3 (by rw [show j = n by omega]; exact q))], rfl, rfl⟩
          · refine q_iconst (v := 1) dX3_hasSum_48 rfl ?_
            refine q_goto 53 dX3_hasSum_49 (by decide) ?_
            exact z_zret dX3_hasSum_53 rfl (Or.inr rfl) ⟨by rw [bC_t (by rw [show n = j by omega]; exact h3)], rfl, rfl⟩
      · exact absurd (nI_le (by omega) (by omega)) h
    | succ k ih =>
      intro j hj
      refine q_iload dX3_hasSum_5 rfl ?_
      refine q_aload_n dX3_hasSum_7 rfl ?_
      refine z_get 1 dX3_hasSum_8 (by first | assumption | decide) (sh_13 _ _ _) rfl (by decide) fl_X3_15 rfl ?_
      rw [hn]
      refine q_icmp_ge 35 dX3_hasSum_11 (by decide) (fun h => ?_) (fun h => ?_)
      · exact absurd h (nI_ge (by omega) (by omega))
      · refine q_bipush (v := 31) dX3_hasSum_14 rfl ?_
        refine q_iload_n dX3_hasSum_16 rfl ?_
        refine q_imul dX3_hasSum_17 ?_
        refine q_aload_n dX3_hasSum_18 rfl ?_
        refine z_get 0 dX3_hasSum_19 (by first | assumption | decide) (sh_13 _ _ _) rfl (by decide) fl_X3_9 rfl ?_
        refine q_iload dX3_hasSum_22 rfl ?_
        refine z_iald dX3_hasSum_24 (by first | assumption | decide) rfl (vp_in_nI (n := j) (by omega) (by omega)) ?_
        refine q_iadd dX3_hasSum_25 ?_
        refine q_iconst (v := 1) dX3_hasSum_26 rfl ?_
        refine q_iadd dX3_hasSum_27 ?_
        refine s_istore_n 3 dX3_hasSum_28 rfl (Nat.le_of_ble_eq_true rfl) rfl ?_
        dsimp only [List.set]
        refine q_iinc dX3_hasSum_29 rfl (Nat.le_of_ble_eq_true rfl) rfl ?_
        dsimp only [List.set]
        refine q_goto 5 dX3_hasSum_32 (by decide) ?_
        rw [nI_clamp (by omega), nI_inc]
        exact ih (j + 1) (by omega)
  refine q_iconst (v := 0) dX3_hasSum_0 rfl ?_
  refine s_istore_n 3 dX3_hasSum_1 rfl (Nat.le_of_ble_eq_true rfl) rfl ?_
  dsimp only [List.set]
  refine q_iconst (v := 0) dX3_hasSum_2 rfl ?_
  refine q_istore dX3_hasSum_3 (Nat.le_of_ble_eq_true rfl) rfl ?_
  dsimp only [List.set]
  exact loop n 0 (by omega)
set_option maxRecDepth 100000 in
set_option maxHeartbeats 4000000 in
theorem c_Row_isReplaced (sg : zI) (ta : zJ) (r n r2 m p g r3 k : Nat) (hr : r < cnt 13) (hr' : r2 < cnt 13) (hr'' : r3 < cnt 13) (hn : sg 13 r 1 = nI n) (hm : sg 13 r2 1 = nI m) (hk : sg 13 r3 1 = nI k) (hn30 : n ≤ 30) (hm30 : m ≤ 30) (hk30 : k ≤ 30) (hpg : p + g ≤ m) : zP yX3_isReplaced mX3_isReplaced 1 [.ref (nm 13 r), .ref (nm 13 r2), .int (nI p), .int (nI g), .ref (nm 13 r3)] sg ta (pI (bC (n = p + k + (m - p - g) ∧ (∀ j, j < p → sg 14 r j = sg 14 r2 j) ∧ (∀ j, j < k → sg 14 r (p + j) = sg 14 r3 j) ∧ ∀ j, j < m - p - g → sg 14 r (p + k + j) = sg 14 r2 (p + g + j))) sg ta) := by
  refine zP_of (lv := [some (.ref (nm 13 r)), some (.ref (nm 13 r2)), some (.int (nI p)), some (.int (nI g)), some (.ref (nm 13 r3)), none]) (by decide +kernel) rfl (fun h => by cases h) rfl (Nat.le_of_ble_eq_true rfl) ?_
  refine q_aload_n dX3_isReplaced_0 rfl ?_
  refine z_get 1 dX3_isReplaced_1 (by first | assumption | decide) (sh_13 _ _ _) rfl (by decide) fl_X3_15 rfl ?_
  refine q_iload_n dX3_isReplaced_4 rfl ?_
  refine q_isub dX3_isReplaced_5 ?_
  refine q_iload_n dX3_isReplaced_6 rfl ?_
  refine q_isub dX3_isReplaced_7 ?_
  rw [hm, pk_sub (by omega), pk_sub (by omega)]
  refine q_istore dX3_isReplaced_8 (Nat.le_of_ble_eq_true rfl) rfl ?_
  dsimp only [List.set]
  refine q_aload_n dX3_isReplaced_10 rfl ?_
  refine z_get 1 dX3_isReplaced_11 (by first | assumption | decide) (sh_13 _ _ _) rfl (by decide) fl_X3_15 rfl ?_
  refine q_iload_n dX3_isReplaced_14 rfl ?_
  refine q_aload dX3_isReplaced_15 rfl ?_
  refine z_get 1 dX3_isReplaced_17 (by first | assumption | decide) (sh_13 _ _ _) rfl (by decide) fl_X3_15 rfl ?_
  refine q_iadd dX3_isReplaced_20 ?_
  refine q_iload dX3_isReplaced_21 rfl ?_
  refine q_iadd dX3_isReplaced_23 ?_
  rw [hn, hk, nI_add, nI_add]
  refine q_icmp_ne 78 dX3_isReplaced_24 (by decide) (fun h => ?_) (fun h => ?_)
  · refine q_iconst (v := 0) dX3_isReplaced_78 rfl ?_
    exact z_zret dX3_isReplaced_79 rfl (Or.inl rfl) ⟨by rw [bC_f (fun q => h (by rw [q.1]))], rfl, rfl⟩
  · have e : n = p + k + (m - p - g) := (nI_eq (by omega) (by omega)).mp h
    refine q_aload_n dX3_isReplaced_27 rfl ?_
    refine q_iconst (v := 0) dX3_isReplaced_28 rfl ?_
    refine q_aload_n dX3_isReplaced_29 rfl ?_
    refine q_iconst (v := 0) dX3_isReplaced_30 rfl ?_
    refine q_iload_n dX3_isReplaced_31 rfl ?_
    refine z_callV (c_Row_agrees sg ta r 0 n r2 0 m p hr hr' hn hm hn30 hm30 (by omega) (by omega) (by omega)) kV_X3_44 dX3_isReplaced_32 (by first | assumption | decide) (sh_13 _ _ _) rfl rfl rfl (by omega) (Nat.le_of_ble_eq_true rfl) (Nat.le_refl _) (Nat.le_refl _) rfl (fun v sg2 ta2 h => ?_)
    obtain ⟨rfl, rfl, rfl⟩ := h
    dsimp only [Option.toList, List.cons_append, List.nil_append]
    refine q_if_eq 78 dX3_isReplaced_35 (by decide) (fun h1 => ?_) (fun h1 => ?_)
    · refine q_iconst (v := 0) dX3_isReplaced_78 rfl ?_
      exact z_zret dX3_isReplaced_79 rfl (Or.inl rfl) ⟨by rw [bC_f (fun q => bC_z.mp h1 ⟨by omega, by omega, fun j hj => by rw [Nat.zero_add]; exact q.2.1 j hj⟩)], rfl, rfl⟩
    · have a1 := (bC_nz.mp h1).2.2
      refine q_aload_n dX3_isReplaced_38 rfl ?_
      refine q_iload_n dX3_isReplaced_39 rfl ?_
      refine q_aload dX3_isReplaced_40 rfl ?_
      refine q_iconst (v := 0) dX3_isReplaced_42 rfl ?_
      refine q_aload dX3_isReplaced_43 rfl ?_
      refine z_get 1 dX3_isReplaced_45 (by first | assumption | decide) (sh_13 _ _ _) rfl (by decide) fl_X3_15 rfl ?_
      rw [hk]
      refine z_callV (c_Row_agrees sg2 ta2 r p n r3 0 k k hr hr'' hn hk hn30 hk30 (by omega) (by omega) (by omega)) kV_X3_44 dX3_isReplaced_48 (by first | assumption | decide) (sh_13 _ _ _) rfl rfl rfl (by omega) (Nat.le_of_ble_eq_true rfl) (Nat.le_refl _) (Nat.le_refl _) rfl (fun v sg3 ta3 h => ?_)
      obtain ⟨rfl, rfl, rfl⟩ := h
      dsimp only [Option.toList, List.cons_append, List.nil_append]
      refine q_if_eq 78 dX3_isReplaced_51 (by decide) (fun h2 => ?_) (fun h2 => ?_)
      · refine q_iconst (v := 0) dX3_isReplaced_78 rfl ?_
        exact z_zret dX3_isReplaced_79 rfl (Or.inl rfl) ⟨by rw [bC_f (fun q => bC_z.mp h2 ⟨by omega, by omega, fun j hj => by rw [Nat.zero_add]; exact q.2.2.1 j hj⟩)], rfl, rfl⟩
      · have a2 := (bC_nz.mp h2).2.2
        refine q_aload_n dX3_isReplaced_54 rfl ?_
        refine q_iload_n dX3_isReplaced_55 rfl ?_
        refine q_aload dX3_isReplaced_56 rfl ?_
        refine z_get 1 dX3_isReplaced_58 (by first | assumption | decide) (sh_13 _ _ _) rfl (by decide) fl_X3_15 rfl ?_
        refine q_iadd dX3_isReplaced_61 ?_
        refine q_aload_n dX3_isReplaced_62 rfl ?_
        refine q_iload_n dX3_isReplaced_63 rfl ?_
        refine q_iload_n dX3_isReplaced_64 rfl ?_
        refine q_iadd dX3_isReplaced_65 ?_
        refine q_iload dX3_isReplaced_66 rfl ?_
        rw [hk, nI_add, nI_add]
        refine z_callV (c_Row_agrees sg3 ta3 r (p + k) n r2 (p + g) m (m - p - g) hr hr' hn hm hn30 hm30 (by omega) (by omega) (by omega)) kV_X3_44 dX3_isReplaced_68 (by first | assumption | decide) (sh_13 _ _ _) rfl rfl rfl (by omega) (Nat.le_of_ble_eq_true rfl) (Nat.le_refl _) (Nat.le_refl _) rfl (fun v sg4 ta4 h => ?_)
        obtain ⟨rfl, rfl, rfl⟩ := h
        dsimp only [Option.toList, List.cons_append, List.nil_append]
        refine q_if_eq 78 dX3_isReplaced_71 (by decide) (fun h3 => ?_) (fun h3 => ?_)
        · refine q_iconst (v := 0) dX3_isReplaced_78 rfl ?_
          exact z_zret dX3_isReplaced_79 rfl (Or.inl rfl) ⟨by rw [bC_f (fun q => bC_z.mp h3 ⟨by omega, by omega, fun j hj => q.2.2.2 j hj⟩)], rfl, rfl⟩
        · have a3 := (bC_nz.mp h3).2.2
          refine q_iconst (v := 1) dX3_isReplaced_74 rfl ?_
          refine q_goto 79 dX3_isReplaced_75 (by decide) ?_
          exact z_zret dX3_isReplaced_79 rfl (Or.inr rfl) ⟨by rw [bC_t ⟨e, fun j hj => by have := a1 j hj; rwa [Nat.zero_add] at this, fun j hj => by have := a2 j hj; rwa [Nat.zero_add] at this, a3⟩], rfl, rfl⟩
end
section
theorem ts_nf {x : Bool} (h : ¬ x = false) : x = true := by cases x <;> first | rfl | exact absurd rfl h
theorem ts_nt {x : Bool} (h : ¬ x = true) : x = false := by cases x <;> first | rfl | exact absurd rfl h
theorem ts_bit {w : Int64} {s : UInt64} {j : Nat} (hj : j < 64) (hs : s.toNat = j) : ((w.toUInt64 >>> s).toInt64 &&& 1) = 0 ↔ w.toBitVec.getLsbD j = false := by
  have e : (w.toUInt64 >>> s).toInt64.toBitVec = w.toBitVec >>> j := by
    apply BitVec.eq_of_toNat_eq
    show (w.toUInt64 >>> s).toNat = _
    rw [UInt64.toNat_shiftRight, hs, Nat.mod_eq_of_lt hj, BitVec.toNat_ushiftRight]
    rfl
  rw [← Int64.toBitVec_inj, Int64.toBitVec_and, e]
  show w.toBitVec >>> j &&& 1#64 = 0#64 ↔ _
  constructor
  · intro h
    have t := congrArg (fun x => x.getLsbD 0) h
    simpa using t
  · intro h
    apply BitVec.eq_of_getLsbD_eq
    intro i hi
    cases i with
    | zero => simp [h]
    | succ i => simp
theorem wb_tb (n : Nat) : (lN n).toBitVec = BitVec.ofNat 64 n := rfl
theorem wb_inj {a b : Int64} (h : a.toBitVec = b.toBitVec) : a = b := Int64.toBitVec_inj.mp h
theorem wb_tn {n : Nat} (h : n < 2 ^ 64) : (lN n).toBitVec.toNat = n := by rw [wb_tb, BitVec.toNat_ofNat, Nat.mod_eq_of_lt h]
theorem wb_of (x : Int64) : ∃ n, n < 2 ^ 64 ∧ x = lN n := ⟨x.toBitVec.toNat, x.toBitVec.isLt, wb_inj (by rw [wb_tb]; simp)⟩
theorem wb_of32 (x : Int32) : ∃ n, n < 2 ^ 32 ∧ x = nI n := ⟨x.toBitVec.toNat, x.toBitVec.isLt, Int32.toBitVec_inj.mp (by show _ = BitVec.ofNat 32 _; simp)⟩
theorem wb_c : ∀ k, k < 64 → ((nI k).toInt64 &&& 63) = lN k := by decide +kernel
theorem wb_cu : ∀ k, k < 64 → ((nI k).toInt64.toUInt64 &&& Int64.toUInt64 63) = UInt64.ofNat k := by decide +kernel
theorem wb_sm : ∀ k, k < 64 → (BitVec.ofNat 64 k).smod 64 = BitVec.ofNat 64 k := by decide +kernel
theorem u_tn {n : Nat} (h : n < 2 ^ 64) : (UInt64.ofNat n).toNat = n := Nat.mod_eq_of_lt h
/-- bit j of a long -/
def lb (x : Int64) (j : Nat) : Bool := x.toBitVec.getLsbD j
theorem lb_ext {x y : Int64} (h : ∀ j, j < 64 → lb x j = lb y j) : x = y := by
  apply Int64.toBitVec_inj.mp
  exact BitVec.eq_of_getLsbD_eq (fun i hi => h i hi)
theorem lb_or (x y : Int64) (j : Nat) : lb (x ||| y) j = (lb x j || lb y j) := by
  unfold lb; rw [Int64.toBitVec_or, BitVec.getLsbD_or]
theorem lb_and (x y : Int64) (j : Nat) : lb (x &&& y) j = (lb x j && lb y j) := by
  unfold lb; rw [Int64.toBitVec_and, BitVec.getLsbD_and]
theorem lb_m1 {j : Nat} (h : j < 64) : lb (-1) j = true := by
  have : (-1 : Int64).toBitVec = BitVec.allOnes 64 := by decide
  unfold lb; rw [this, BitVec.getLsbD_allOnes]; simpa using h
theorem lb_not (x : Int64) {j : Nat} (h : j < 64) : lb (x ^^^ (-1)) j = !lb x j := by
  have h1 := lb_m1 h
  unfold lb at *
  rw [Int64.toBitVec_xor, BitVec.getLsbD_xor, h1]
  simp
theorem lb_0 (j : Nat) : lb 0 j = false := by
  unfold lb
  show (0#64).getLsbD j = false
  simp
theorem lb_big {x : Int64} {j : Nat} (h : 64 ≤ j) : lb x j = false := BitVec.getLsbD_of_ge _ _ h
theorem lb_zero {x : Int64} : x = 0 ↔ ∀ j, j < 64 → lb x j = false := by
  constructor
  · rintro rfl j _; exact lb_0 j
  · intro h; exact lb_ext (fun j hj => by rw [h j hj, lb_0])
theorem lb_shl (x : Int64) {k : Nat} (hk : k < 64) {j : Nat} (hj : j < 64) : lb (x <<< ((nI k).toInt64 &&& 63)) j = (decide (k ≤ j) && lb x (j - k)) := by
  unfold lb
  rw [wb_c k hk, Int64.toBitVec_shiftLeft]
  rw [wb_tb, wb_sm k hk]
  show (x.toBitVec <<< (BitVec.ofNat 64 k).toNat).getLsbD j = _
  rw [BitVec.toNat_ofNat, Nat.mod_eq_of_lt (by omega), BitVec.getLsbD_shiftLeft]
  by_cases h : j < k
  · simp [h, Nat.not_le.mpr h]
  · have h2 : k ≤ j := by omega
    simp [h, h2, hj]
theorem lb_1 (j : Nat) : lb 1 j = decide (j = 0) := by
  unfold lb
  show (1#64).getLsbD j = _
  rw [BitVec.getLsbD_one]
  simp
theorem lb_one_shl {k : Nat} (hk : k < 64) {j : Nat} (hj : j < 64) : lb (1 <<< ((nI k).toInt64 &&& 63)) j = decide (j = k) := by
  rw [lb_shl 1 hk hj, lb_1]
  by_cases h : j = k
  · subst h; simp
  · by_cases h2 : k ≤ j
    · have : ¬ j - k = 0 := by omega
      simp [h, this]
    · simp [h, h2]
theorem lb_ushr (x : Int64) {k : Nat} (hk : k < 64) (j : Nat) : lb ((x.toUInt64 >>> ((nI k).toInt64.toUInt64 &&& Int64.toUInt64 63)).toInt64) j = lb x (k + j) := by
  have e : ((x.toUInt64 >>> ((nI k).toInt64.toUInt64 &&& Int64.toUInt64 63)).toInt64).toBitVec = x.toBitVec >>> k := by
    rw [wb_cu k hk]
    apply BitVec.eq_of_toNat_eq
    show (x.toUInt64 >>> UInt64.ofNat k).toNat = _
    rw [UInt64.toNat_shiftRight, u_tn (by omega), Nat.mod_eq_of_lt hk, BitVec.toNat_ushiftRight]
    rfl
  unfold lb
  rw [e, BitVec.getLsbD_ushiftRight]
theorem lb_and1 (x : Int64) : (x &&& 1) = 0 ↔ lb x 0 = false := by
  rw [lb_zero]
  constructor
  · intro h
    have := h 0 (by omega)
    rw [lb_and, lb_1] at this
    simpa using this
  · intro h j _
    rw [lb_and, lb_1]
    by_cases hj : j = 0
    · subst hj; simp [h]
    · simp [hj]
/-- bit k, tested as javac does -/
theorem lb_test (x : Int64) {k : Nat} (hk : k < 64) : ((x.toUInt64 >>> ((nI k).toInt64.toUInt64 &&& Int64.toUInt64 63)).toInt64 &&& 1) = 0 ↔ lb x k = false := by
  rw [lb_and1, lb_ushr x hk, Nat.add_zero]
theorem lcmp0 (x y : Int64) : lg_cmp x y = 0 ↔ x = y := by
  unfold lg_cmp
  by_cases h1 : x > y
  · rw [if_pos h1]
    constructor
    · intro h; exact absurd h (by decide)
    · intro h; subst h; exact (Int64.lt_irrefl h1).elim
  · rw [if_neg h1]
    by_cases h2 : x = y
    · rw [if_pos h2]; exact ⟨fun _ => h2, fun _ => rfl⟩
    · rw [if_neg h2]; exact ⟨fun h => absurd h (by decide), fun h => absurd h h2⟩
/-! Formula -/
def zer (n : Nat) (r : Nat → Int64) : Nat → Int64 := fun j => if j < n then 0 else r j
set_option maxRecDepth 100000 in
set_option maxHeartbeats 4000000 in
theorem c_Formula_forget (sg : zI) (ta : zJ) (f : Nat) (hf : f < cnt 17) : zP yX0_forget mX0_forget 1 [.ref (nm 17 f)] sg ta (pV sg (upRl (upRl ta 18 f (zer 125 (ta 18 f))) 19 f (zer 125 (ta 19 f)))) := by
  have hf2 := cnt18 hf
  have hf3 := cnt19 hf
  refine zP_of (lv := [some (.ref (nm 17 f))]) (by decide +kernel) rfl (fun h => by cases h) rfl (Nat.le_of_ble_eq_true rfl) ?_
  refine q_aload_n dX0_forget_0 rfl ?_
  refine z_get 0 dX0_forget_1 (by first | assumption | decide) (sh_17 _ _ _) rfl (by decide) fl_X0_9 rfl ?_
  refine q_lconst (v := 0) dX0_forget_4 rfl ?_
  refine z_callS (c_fillL sg ta 18 f 125 0 hf2 (fun _ _ => rfl) (by omega)) kS_X0_44 dX0_forget_5 rfl (by omega) (Nat.le_of_ble_eq_true rfl) (Nat.le_refl _) (Nat.le_refl _) rfl (fun v sg2 ta2 h => ?_)
  obtain ⟨rfl, rfl, rfl⟩ := h
  dsimp only [Option.toList, List.cons_append, List.nil_append]
  refine q_aload_n dX0_forget_8 rfl ?_
  refine z_get 1 dX0_forget_9 (by first | assumption | decide) (sh_17 _ _ _) rfl (by decide) fl_X0_15 rfl ?_
  refine q_lconst (v := 0) dX0_forget_12 rfl ?_
  refine z_callS (c_fillL sg2 _ 19 f 125 0 hf3 (fun _ _ => rfl) (by omega)) kS_X0_44 dX0_forget_13 rfl (by omega) (Nat.le_of_ble_eq_true rfl) (Nat.le_refl _) (Nat.le_refl _) rfl (fun v sg3 ta3 h => ?_)
  obtain ⟨rfl, rfl, rfl⟩ := h
  dsimp only [Option.toList, List.cons_append, List.nil_append]
  refine z_vret dX0_forget_16 rfl ⟨rfl, rfl, ?_⟩
  congr 1
set_option maxRecDepth 100000 in
set_option maxHeartbeats 4000000 in
theorem c_Formula_restart (sg : zI) (ta : zJ) (f : Nat) (k a b c d : Int32) (hf : f < cnt 17) : zP yX0_restart mX0_restart 2 [.ref (nm 17 f), .int k, .int a, .int b, .int c, .int d] sg ta (pV (up3 (up3 (up3 (up3 (up3 (up3 (up3 sg 17 f 2 k) 17 f 3 a) 17 f 4 b) 17 f 5 c) 17 f 6 d) 17 f 7 0) 17 f 8 0) (upRl (upRl ta 18 f (zer 125 (ta 18 f))) 19 f (zer 125 (ta 19 f)))) := by
  refine zP_of (lv := [some (.ref (nm 17 f)), some (.int k), some (.int a), some (.int b), some (.int c), some (.int d)]) (by decide +kernel) rfl (fun h => by cases h) rfl (Nat.le_of_ble_eq_true rfl) ?_
  refine q_aload_n dX0_restart_0 rfl ?_
  refine q_iload_n dX0_restart_1 rfl ?_
  refine z_puti 2 dX0_restart_2 (by first | assumption | decide) (sh_17 _ _ _) rfl (by decide) fl_X0_18 rfl pfI (Nat.le_of_ble_eq_true rfl) rfl ?_
  refine q_aload_n dX0_restart_5 rfl ?_
  refine q_iload_n dX0_restart_6 rfl ?_
  refine z_puti 3 dX0_restart_7 (by first | assumption | decide) (sh_17 _ _ _) rfl (by decide) fl_X0_22 rfl pfI (Nat.le_of_ble_eq_true rfl) rfl ?_
  refine q_aload_n dX0_restart_10 rfl ?_
  refine q_iload_n dX0_restart_11 rfl ?_
  refine z_puti 4 dX0_restart_12 (by first | assumption | decide) (sh_17 _ _ _) rfl (by decide) fl_X0_25 rfl pfI (Nat.le_of_ble_eq_true rfl) rfl ?_
  refine q_aload_n dX0_restart_15 rfl ?_
  refine q_iload dX0_restart_16 rfl ?_
  refine z_puti 5 dX0_restart_18 (by first | assumption | decide) (sh_17 _ _ _) rfl (by decide) fl_X0_28 rfl pfI (Nat.le_of_ble_eq_true rfl) rfl ?_
  refine q_aload_n dX0_restart_21 rfl ?_
  refine q_iload dX0_restart_22 rfl ?_
  refine z_puti 6 dX0_restart_24 (by first | assumption | decide) (sh_17 _ _ _) rfl (by decide) fl_X0_31 rfl pfI (Nat.le_of_ble_eq_true rfl) rfl ?_
  refine q_aload_n dX0_restart_27 rfl ?_
  refine q_iconst (v := 0) dX0_restart_28 rfl ?_
  refine z_putz 7 dX0_restart_29 (by first | assumption | decide) (sh_17 _ _ _) rfl (by decide) fl_X0_34 rfl pfZ (Nat.le_of_ble_eq_true rfl) (by first | exact Or.inl rfl | exact Or.inr rfl | assumption) rfl ?_
  refine q_aload_n dX0_restart_32 rfl ?_
  refine q_iconst (v := 0) dX0_restart_33 rfl ?_
  refine z_putz 8 dX0_restart_34 (by first | assumption | decide) (sh_17 _ _ _) rfl (by decide) fl_X0_38 rfl pfZ (Nat.le_of_ble_eq_true rfl) (by first | exact Or.inl rfl | exact Or.inr rfl | assumption) rfl ?_
  refine q_aload_n dX0_restart_37 rfl ?_
  refine z_callV (c_Formula_forget _ ta f hf) kV_X0_41 dX0_restart_38 (by first | assumption | decide) (sh_17 _ _ _) rfl rfl rfl (by omega) (Nat.le_of_ble_eq_true rfl) (Nat.le_refl _) (Nat.le_refl _) rfl (fun v sg2 ta2 h => ?_)
  obtain ⟨rfl, rfl, rfl⟩ := h
  dsimp only [Option.toList, List.cons_append, List.nil_append]
  exact z_vret dX0_restart_41 rfl ⟨rfl, rfl, rfl⟩
set_option maxRecDepth 100000 in
set_option maxHeartbeats 4000000 in
theorem c_Formula_isBit (sg : zI) (ta : zJ) (K f w : Nat) (hf : f < cnt K) (he : ∀ r q, shp K f r q = .inl (1, 125, .inr (.inl q))) (hw : w < 8000) : zP yX0_isBit mX0_isBit 0 [.ref (nm K f), .int (nI w)] sg ta (pI (bC (lb (ta K f (w / 64)) (w % 64) = true)) sg ta) := by
  have e1 : nI w / 64 = nI (w / 64) := pk_div (d := 64) (by omega) (by omega) (by omega)
  have e2 : nI w - nI w / 64 * 64 = nI (w % 64) := pk_rem (d := 64) (by omega) (by omega) (by omega)
  have h6 : w % 64 < 64 := Nat.mod_lt _ (by omega)
  refine zP_of (lv := [some (.ref (nm K f)), some (.int (nI w)), none]) (by decide +kernel) rfl (fun h => by cases h) rfl (Nat.le_of_ble_eq_true rfl) ?_
  refine q_iload_n dX0_isBit_0 rfl ?_
  refine q_bipush (v := 64) dX0_isBit_1 rfl ?_
  refine q_idiv dX0_isBit_3 (by decide) ?_
  refine s_istore_n 2 dX0_isBit_4 rfl (Nat.le_of_ble_eq_true rfl) rfl ?_
  dsimp only [List.set]
  refine q_iload_n dX0_isBit_5 rfl ?_
  rw [e1]
  refine q_if_lt 34 dX0_isBit_6 (by decide) (fun h => ?_) (fun h => ?_)
  · exact absurd h (nI_pos (by omega))
  · refine q_iload_n dX0_isBit_9 rfl ?_
    refine q_aload_n dX0_isBit_10 rfl ?_
    refine z_alen dX0_isBit_11 hf (he _ _) (fun _ => rfl) rfl ?_
    refine q_icmp_ge 34 dX0_isBit_12 (by decide) (fun h2 => ?_) (fun h2 => ?_)
    · exact absurd ((nI_leI (a := 125) (by omega) (by omega)).mp h2) (by omega)
    · refine q_aload_n dX0_isBit_15 rfl ?_
      refine q_iload_n dX0_isBit_16 rfl ?_
      refine z_lald dX0_isBit_17 hf (he _ _) (vp_in_nI (by omega) (by omega)) ?_
      rw [nI_clamp (by omega)]
      refine q_iload_n dX0_isBit_18 rfl ?_
      refine q_bipush (v := 64) dX0_isBit_19 rfl ?_
      refine q_irem dX0_isBit_21 (by decide) ?_
      rw [e2]
      refine q_lushr dX0_isBit_22 ?_
      refine q_lconst (v := 1) dX0_isBit_23 rfl ?_
      refine q_land dX0_isBit_24 ?_
      refine q_lconst (v := 0) dX0_isBit_25 rfl ?_
      refine q_lcmp dX0_isBit_26 ?_
      refine q_if_eq 34 dX0_isBit_27 (by decide) (fun h3 => ?_) (fun h3 => ?_)
      · rw [lcmp0, lb_test _ h6] at h3
        refine q_iconst (v := 0) dX0_isBit_34 rfl ?_
        exact z_zret dX0_isBit_35 rfl (Or.inl rfl) ⟨by rw [bC_f (by rw [h3]; decide)], rfl, rfl⟩
      · rw [lcmp0, lb_test _ h6] at h3
        refine q_iconst (v := 1) dX0_isBit_30 rfl ?_
        refine q_goto 35 dX0_isBit_31 (by decide) ?_
        exact z_zret dX0_isBit_35 rfl (Or.inr rfl) ⟨by rw [bC_t (by simpa using h3)], rfl, rfl⟩
set_option maxRecDepth 100000 in
set_option maxHeartbeats 4000000 in
theorem c_Formula_isJudged (sg : zI) (ta : zJ) (f w : Nat) (hf : f < cnt 17) (hw : w < 8000) : zP yX0_isJudged mX0_isJudged 1 [.ref (nm 17 f), .int (nI w)] sg ta (pI (bC (lb (ta 18 f (w / 64)) (w % 64) = true)) sg ta) := by
  refine zP_of (lv := [some (.ref (nm 17 f)), some (.int (nI w))]) (by decide +kernel) rfl (fun h => by cases h) rfl (Nat.le_of_ble_eq_true rfl) ?_
  refine q_aload_n dX0_isJudged_0 rfl ?_
  refine z_get 0 dX0_isJudged_1 (by first | assumption | decide) (sh_17 _ _ _) rfl (by decide) fl_X0_9 rfl ?_
  refine q_iload_n dX0_isJudged_4 rfl ?_
  refine z_callS (c_Formula_isBit sg ta 18 f w (cnt18 hf) (fun _ _ => rfl) hw) kS_X0_50 dX0_isJudged_5 rfl (by omega) (Nat.le_of_ble_eq_true rfl) (Nat.le_refl _) (Nat.le_refl _) rfl (fun v sg2 ta2 h => ?_)
  obtain ⟨rfl, rfl, rfl⟩ := h
  dsimp only [Option.toList, List.cons_append, List.nil_append]
  exact z_zret dX0_isJudged_8 rfl (bC_01 _) ⟨rfl, rfl, rfl⟩
set_option maxRecDepth 100000 in
set_option maxHeartbeats 4000000 in
theorem c_Formula_isSoIn (sg : zI) (ta : zJ) (f w : Nat) (hf : f < cnt 17) (hw : w < 8000) : zP yX0_isSoIn mX0_isSoIn 1 [.ref (nm 17 f), .int (nI w)] sg ta (pI (bC (lb (ta 19 f (w / 64)) (w % 64) = true)) sg ta) := by
  refine zP_of (lv := [some (.ref (nm 17 f)), some (.int (nI w))]) (by decide +kernel) rfl (fun h => by cases h) rfl (Nat.le_of_ble_eq_true rfl) ?_
  refine q_aload_n dX0_isSoIn_0 rfl ?_
  refine z_get 1 dX0_isSoIn_1 (by first | assumption | decide) (sh_17 _ _ _) rfl (by decide) fl_X0_15 rfl ?_
  refine q_iload_n dX0_isSoIn_4 rfl ?_
  refine z_callS (c_Formula_isBit sg ta 19 f w (cnt19 hf) (fun _ _ => rfl) hw) kS_X0_50 dX0_isSoIn_5 rfl (by omega) (Nat.le_of_ble_eq_true rfl) (Nat.le_refl _) (Nat.le_refl _) rfl (fun v sg2 ta2 h => ?_)
  obtain ⟨rfl, rfl, rfl⟩ := h
  dsimp only [Option.toList, List.cons_append, List.nil_append]
  exact z_zret dX0_isSoIn_8 rfl (bC_01 _) ⟨rfl, rfl, rfl⟩
/-- bit k of a word is set if b -/
noncomputable def setb (x : Int64) (k : Nat) (b : Prop) : Int64 := x ||| ((@ite Int64 b (Classical.propDecidable b) 1 0) <<< ((nI k).toInt64 &&& 63))
theorem lb_setb (x : Int64) {k : Nat} (hk : k < 64) (b : Prop) {j : Nat} (hj : j < 64) : lb (setb x k b) j = true ↔ lb x j = true ∨ (j = k ∧ b) := by
  unfold setb
  by_cases hb : b
  · rw [if_pos hb, lb_or, lb_one_shl hk hj]
    simp [hb]
  · rw [if_neg hb, lb_or, lb_shl 0 hk hj, lb_0]
    simp [hb]
set_option maxRecDepth 100000 in
set_option maxHeartbeats 4000000 in
theorem c_Formula_keep (sg : zI) (ta : zJ) (f w : Nat) (x : Int32) (hf : f < cnt 17) (hw : w < 8000) : zP yX0_keep mX0_keep 0 [.ref (nm 17 f), .int (nI w), .int x] sg ta (pV sg (up3l (up3l ta 18 f (w / 64) (setb (ta 18 f (w / 64)) (w % 64) True)) 19 f (w / 64) (setb (ta 19 f (w / 64)) (w % 64) (¬ x = 0)))) := by
  have hf2 := cnt18 hf
  have hf3 := cnt19 hf
  have e1 : nI w / 64 = nI (w / 64) := pk_div (d := 64) (by omega) (by omega) (by omega)
  have e2 : nI w - nI w / 64 * 64 = nI (w % 64) := pk_rem (d := 64) (by omega) (by omega) (by omega)
  have hin : vp_in (nI (w / 64)) 125 := vp_in_nI (by omega) (by omega)
  refine zP_of (lv := [some (.ref (nm 17 f)), some (.int (nI w)), some (.int x), none]) (by decide +kernel) rfl (fun h => by cases h) rfl (Nat.le_of_ble_eq_true rfl) ?_
  refine q_iload_n dX0_keep_0 rfl ?_
  refine q_bipush (v := 64) dX0_keep_1 rfl ?_
  refine q_idiv dX0_keep_3 (by decide) ?_
  refine s_istore_n 3 dX0_keep_4 rfl (Nat.le_of_ble_eq_true rfl) rfl ?_
  dsimp only [List.set]
  refine q_iload_n dX0_keep_5 rfl ?_
  rw [e1]
  refine q_if_lt 53 dX0_keep_6 (by decide) (fun h => ?_) (fun h => ?_)
  · exact absurd h (nI_pos (by omega))
  · refine q_iload_n dX0_keep_9 rfl ?_
    refine q_bipush (v := 125) dX0_keep_10 rfl ?_
    refine q_icmp_ge 53 dX0_keep_12 (by decide) (fun h2 => ?_) (fun h2 => ?_)
    · exact absurd ((nI_leI (a := 125) (by omega) (by omega)).mp h2) (by omega)
    · refine q_aload_n dX0_keep_15 rfl ?_
      refine z_get 0 dX0_keep_16 (by first | assumption | decide) (sh_17 _ _ _) rfl (by decide) fl_X0_9 rfl ?_
      refine q_iload_n dX0_keep_19 rfl ?_
      refine q_dup2 dX0_keep_20 rfl rfl ?_
      refine z_lald dX0_keep_21 (by first | assumption | decide) rfl (by assumption) ?_
      refine q_lconst (v := 1) dX0_keep_22 rfl ?_
      refine q_iload_n dX0_keep_23 rfl ?_
      refine q_bipush (v := 64) dX0_keep_24 rfl ?_
      refine q_irem dX0_keep_26 (by decide) ?_
      rw [e2]
      refine q_lshl dX0_keep_27 ?_
      refine q_lor dX0_keep_28 ?_
      refine z_last dX0_keep_29 (by first | assumption | decide) (fun _ _ => rfl) (by assumption) ?_
      refine q_aload_n dX0_keep_30 rfl ?_
      refine z_get 1 dX0_keep_31 (by first | assumption | decide) (sh_17 _ _ _) rfl (by decide) fl_X0_15 rfl ?_
      refine q_iload_n dX0_keep_34 rfl ?_
      refine q_dup2 dX0_keep_35 rfl rfl ?_
      refine z_lald dX0_keep_36 (by first | assumption | decide) rfl (by assumption) ?_
      rw [nI_clamp (by omega)]
      refine q_iload_n dX0_keep_37 rfl ?_
      have e4 : up3l ta 18 f (w / 64) (ta 18 f (w / 64) ||| 1 <<< ((nI (w % 64)).toInt64 &&& 63)) 19 f (w / 64) = ta 19 f (w / 64) := by rw [up3l_off (by omega)]
      rw [e4]
      have e5 : setb (ta 18 f (w / 64)) (w % 64) True = (ta 18 f (w / 64) ||| 1 <<< ((nI (w % 64)).toInt64 &&& 63)) := by unfold setb; rw [if_pos trivial]
      refine q_if_eq 45 dX0_keep_38 (by decide) (fun h3 => ?_) (fun h3 => ?_)
      · refine q_lconst (v := 0) dX0_keep_45 rfl ?_
        refine q_iload_n dX0_keep_46 rfl ?_
        refine q_bipush (v := 64) dX0_keep_47 rfl ?_
        refine q_irem dX0_keep_49 (by decide) ?_
        rw [e2]
        refine q_lshl dX0_keep_50 ?_
        refine q_lor dX0_keep_51 ?_
        refine z_last dX0_keep_52 (by first | assumption | decide) (fun _ _ => rfl) (by assumption) ?_
        rw [nI_clamp (by omega)]
        exact z_vret dX0_keep_53 rfl ⟨rfl, rfl, by unfold setb; rw [if_pos trivial, if_neg (fun q => q h3)]⟩
      · refine q_lconst (v := 1) dX0_keep_41 rfl ?_
        refine q_goto 46 dX0_keep_42 (by decide) ?_
        refine q_iload_n dX0_keep_46 rfl ?_
        refine q_bipush (v := 64) dX0_keep_47 rfl ?_
        refine q_irem dX0_keep_49 (by decide) ?_
        rw [e2]
        refine q_lshl dX0_keep_50 ?_
        refine q_lor dX0_keep_51 ?_
        refine z_last dX0_keep_52 (by first | assumption | decide) (fun _ _ => rfl) (by assumption) ?_
        rw [nI_clamp (by omega)]
        exact z_vret dX0_keep_53 rfl ⟨rfl, rfl, by unfold setb; rw [if_pos trivial, if_pos h3]⟩
set_option maxRecDepth 100000 in
set_option maxHeartbeats 4000000 in
theorem c_Formula_ruledOut (sg : zI) (ta : zJ) (f w : Nat) (hf : f < cnt 17) (hw : w < 125) : zP yX0_ruledOut mX0_ruledOut 0 [.ref (nm 17 f), .int (nI w)] sg ta (fun v s t => s = sg ∧ t = ta ∧ ∃ x, v = some (.long x) ∧ ∀ j, j < 64 → (lb x j = true ↔ lb (ta 18 f w) j = true ∧ (lb (ta 19 f w) j = true ↔ ¬ sg 17 f 7 = 0))) := by
  have hf2 := cnt18 hf
  have hf3 := cnt19 hf
  have hin : vp_in (nI w) 125 := vp_in_nI (by omega) (by omega)
  refine zP_of (lv := [some (.ref (nm 17 f)), some (.int (nI w))]) (by decide +kernel) rfl (fun h => by cases h) rfl (Nat.le_of_ble_eq_true rfl) ?_
  refine q_iload_n dX0_ruledOut_0 rfl ?_
  refine q_if_lt 10 dX0_ruledOut_1 (by decide) (fun h => ?_) (fun h => ?_)
  · exact absurd h (nI_pos (by omega))
  · refine q_iload_n dX0_ruledOut_4 rfl ?_
    refine q_bipush (v := 125) dX0_ruledOut_5 rfl ?_
    refine q_icmp_lt 12 dX0_ruledOut_7 (by decide) (fun h2 => ?_) (fun h2 => ?_)
    · refine q_aload_n dX0_ruledOut_12 rfl ?_
      refine z_get 0 dX0_ruledOut_13 (by first | assumption | decide) (sh_17 _ _ _) rfl (by decide) fl_X0_9 rfl ?_
      refine q_iload_n dX0_ruledOut_16 rfl ?_
      refine z_lald dX0_ruledOut_17 (by first | assumption | decide) rfl (by assumption) ?_
      refine q_aload_n dX0_ruledOut_18 rfl ?_
      refine z_get 7 dX0_ruledOut_19 (by first | assumption | decide) (sh_17 _ _ _) rfl (by decide) fl_X0_34 rfl ?_
      rw [nI_clamp (by omega)]
      refine q_if_eq 34 dX0_ruledOut_22 (by decide) (fun h3 => ?_) (fun h3 => ?_)
      · refine q_aload_n dX0_ruledOut_34 rfl ?_
        refine z_get 1 dX0_ruledOut_35 (by first | assumption | decide) (sh_17 _ _ _) rfl (by decide) fl_X0_15 rfl ?_
        refine q_iload_n dX0_ruledOut_38 rfl ?_
        refine z_lald dX0_ruledOut_39 (by first | assumption | decide) rfl (by assumption) ?_
        refine q_ldc2 dX0_ruledOut_40 cn_X0_54 ?_
        refine q_lxor dX0_ruledOut_43 ?_
        refine q_land dX0_ruledOut_44 ?_
        rw [nI_clamp (by omega)]
        refine z_lret dX0_ruledOut_45 rfl ⟨rfl, rfl, _, rfl, fun j hj => ?_⟩
        rw [lb_and, lb_not _ hj]
        cases lb (ta 18 f w) j <;> cases lb (ta 19 f w) j <;> simp [h3]
      · refine q_aload_n dX0_ruledOut_25 rfl ?_
        refine z_get 1 dX0_ruledOut_26 (by first | assumption | decide) (sh_17 _ _ _) rfl (by decide) fl_X0_15 rfl ?_
        refine q_iload_n dX0_ruledOut_29 rfl ?_
        refine z_lald dX0_ruledOut_30 (by first | assumption | decide) rfl (by assumption) ?_
        refine q_goto 44 dX0_ruledOut_31 (by decide) ?_
        refine q_land dX0_ruledOut_44 ?_
        rw [nI_clamp (by omega)]
        refine z_lret dX0_ruledOut_45 rfl ⟨rfl, rfl, _, rfl, fun j hj => ?_⟩
        rw [lb_and]
        cases lb (ta 18 f w) j <;> cases lb (ta 19 f w) j <;> simp [h3]
    · exact absurd (nI_lt (b := 125) (by omega) (by omega)) h2
set_option maxRecDepth 100000 in
set_option maxHeartbeats 4000000 in
theorem c_Formula_notJudged (sg : zI) (ta : zJ) (f w : Nat) (hf : f < cnt 17) (hw : w < 125) : zP yX0_notJudged mX0_notJudged 0 [.ref (nm 17 f), .int (nI w)] sg ta (fun v s t => s = sg ∧ t = ta ∧ ∃ x, v = some (.long x) ∧ ∀ j, j < 64 → lb x j = !lb (ta 18 f w) j) := by
  have hf2 := cnt18 hf
  have hin : vp_in (nI w) 125 := vp_in_nI (by omega) (by omega)
  refine zP_of (lv := [some (.ref (nm 17 f)), some (.int (nI w))]) (by decide +kernel) rfl (fun h => by cases h) rfl (Nat.le_of_ble_eq_true rfl) ?_
  refine q_iload_n dX0_notJudged_0 rfl ?_
  refine q_if_lt 10 dX0_notJudged_1 (by decide) (fun h => ?_) (fun h => ?_)
  · exact absurd h (nI_pos (by omega))
  · refine q_iload_n dX0_notJudged_4 rfl ?_
    refine q_bipush (v := 125) dX0_notJudged_5 rfl ?_
    refine q_icmp_lt 14 dX0_notJudged_7 (by decide) (fun h2 => ?_) (fun h2 => ?_)
    · refine q_aload_n dX0_notJudged_14 rfl ?_
      refine z_get 0 dX0_notJudged_15 (by first | assumption | decide) (sh_17 _ _ _) rfl (by decide) fl_X0_9 rfl ?_
      refine q_iload_n dX0_notJudged_18 rfl ?_
      refine z_lald dX0_notJudged_19 (by first | assumption | decide) rfl (by assumption) ?_
      refine q_ldc2 dX0_notJudged_20 cn_X0_54 ?_
      refine q_lxor dX0_notJudged_23 ?_
      rw [nI_clamp (by omega)]
      exact z_lret dX0_notJudged_24 rfl ⟨rfl, rfl, _, rfl, fun j hj => lb_not _ hj⟩
    · exact absurd (nI_lt (b := 125) (by omega) (by omega)) h2
set_option maxRecDepth 100000 in
set_option maxHeartbeats 4000000 in
theorem c_Formula_hasSecondTerm (sg : zI) (ta : zJ) (f : Nat) (hf : f < cnt 17) : zP yX0_hasSecondTerm mX0_hasSecondTerm 0 [.ref (nm 17 f)] sg ta (pI (bC (¬ sg 17 f 2 = 2 ∧ ¬ sg 17 f 2 = 5)) sg ta) := by
  refine zP_of (lv := [some (.ref (nm 17 f))]) (by decide +kernel) rfl (fun h => by cases h) rfl (Nat.le_of_ble_eq_true rfl) ?_
  refine q_aload_n dX0_hasSecondTerm_0 rfl ?_
  refine z_get 2 dX0_hasSecondTerm_1 (by first | assumption | decide) (sh_17 _ _ _) rfl (by decide) fl_X0_18 rfl ?_
  refine q_iconst (v := 2) dX0_hasSecondTerm_4 rfl ?_
  refine q_icmp_eq 20 dX0_hasSecondTerm_5 (by decide) (fun h => ?_) (fun h => ?_)
  · refine q_iconst (v := 0) dX0_hasSecondTerm_20 rfl ?_
    exact z_zret dX0_hasSecondTerm_21 rfl (Or.inl rfl) ⟨by rw [bC_f (fun q => q.1 h)], rfl, rfl⟩
  · refine q_aload_n dX0_hasSecondTerm_8 rfl ?_
    refine z_get 2 dX0_hasSecondTerm_9 (by first | assumption | decide) (sh_17 _ _ _) rfl (by decide) fl_X0_18 rfl ?_
    refine q_iconst (v := 5) dX0_hasSecondTerm_12 rfl ?_
    refine q_icmp_eq 20 dX0_hasSecondTerm_13 (by decide) (fun h2 => ?_) (fun h2 => ?_)
    · refine q_iconst (v := 0) dX0_hasSecondTerm_20 rfl ?_
      exact z_zret dX0_hasSecondTerm_21 rfl (Or.inl rfl) ⟨by rw [bC_f (fun q => q.2 h2)], rfl, rfl⟩
    · refine q_iconst (v := 1) dX0_hasSecondTerm_16 rfl ?_
      refine q_goto 21 dX0_hasSecondTerm_17 (by decide) ?_
      exact z_zret dX0_hasSecondTerm_21 rfl (Or.inr rfl) ⟨by rw [bC_t ⟨h, h2⟩], rfl, rfl⟩
set_option maxRecDepth 100000 in
set_option maxHeartbeats 4000000 in
theorem c_Formula_isAboutMachine (sg : zI) (ta : zJ) (f : Nat) (x : Int32) (hf : f < cnt 17) : zP yX0_isAboutMachine mX0_isAboutMachine 0 [.ref (nm 17 f), .int x] sg ta (pI (bC (sg 17 f 2 = 2 ∧ sg 17 f 4 = x)) sg ta) := by
  refine zP_of (lv := [some (.ref (nm 17 f)), some (.int x)]) (by decide +kernel) rfl (fun h => by cases h) rfl (Nat.le_of_ble_eq_true rfl) ?_
  refine q_aload_n dX0_isAboutMachine_0 rfl ?_
  refine z_get 2 dX0_isAboutMachine_1 (by first | assumption | decide) (sh_17 _ _ _) rfl (by decide) fl_X0_18 rfl ?_
  refine q_iconst (v := 2) dX0_isAboutMachine_4 rfl ?_
  refine q_icmp_ne 20 dX0_isAboutMachine_5 (by decide) (fun h => ?_) (fun h => ?_)
  · refine q_iconst (v := 0) dX0_isAboutMachine_20 rfl ?_
    exact z_zret dX0_isAboutMachine_21 rfl (Or.inl rfl) ⟨by rw [bC_f (fun q => h q.1)], rfl, rfl⟩
  · refine q_aload_n dX0_isAboutMachine_8 rfl ?_
    refine z_get 4 dX0_isAboutMachine_9 (by first | assumption | decide) (sh_17 _ _ _) rfl (by decide) fl_X0_25 rfl ?_
    refine q_iload_n dX0_isAboutMachine_12 rfl ?_
    refine q_icmp_ne 20 dX0_isAboutMachine_13 (by decide) (fun h2 => ?_) (fun h2 => ?_)
    · refine q_iconst (v := 0) dX0_isAboutMachine_20 rfl ?_
      exact z_zret dX0_isAboutMachine_21 rfl (Or.inl rfl) ⟨by rw [bC_f (fun q => h2 q.2)], rfl, rfl⟩
    · refine q_iconst (v := 1) dX0_isAboutMachine_16 rfl ?_
      refine q_goto 21 dX0_isAboutMachine_17 (by decide) ?_
      exact z_zret dX0_isAboutMachine_21 rfl (Or.inr rfl) ⟨by rw [bC_t ⟨h, h2⟩], rfl, rfl⟩
def abT (sg : zI) (f : Nat) (x : Int32) : Prop := sg 17 f 3 = x ∨ ((¬ sg 17 f 2 = 2 ∧ ¬ sg 17 f 2 = 5) ∧ sg 17 f 4 = x) ∨ (sg 17 f 2 = 6 ∧ (sg 17 f 5 = x ∨ sg 17 f 6 = x))
set_option maxRecDepth 100000 in
set_option maxHeartbeats 4000000 in
theorem c_Formula_isAboutTerm (sg : zI) (ta : zJ) (f : Nat) (x : Int32) (hf : f < cnt 17) : zP yX0_isAboutTerm mX0_isAboutTerm 1 [.ref (nm 17 f), .int x] sg ta (pI (bC (abT sg f x)) sg ta) := by
  have yes : abT sg f x → Zq mX0_isAboutTerm 1 (pI (bC (abT sg f x)) sg ta) sg ta 48 [some (.ref (nm 17 f)), some (.int x)] [] := by
    intro q
    refine q_iconst (v := 1) dX0_isAboutTerm_48 rfl ?_
    refine q_goto 53 dX0_isAboutTerm_49 (by decide) ?_
    exact z_zret dX0_isAboutTerm_53 rfl (Or.inr rfl) ⟨by rw [bC_t q], rfl, rfl⟩
  have no : ¬ abT sg f x → Zq mX0_isAboutTerm 1 (pI (bC (abT sg f x)) sg ta) sg ta 52 [some (.ref (nm 17 f)), some (.int x)] [] := by
    intro q
    refine q_iconst (v := 0) dX0_isAboutTerm_52 rfl ?_
    exact z_zret dX0_isAboutTerm_53 rfl (Or.inl rfl) ⟨by rw [bC_f q], rfl, rfl⟩
  have third : ¬ sg 17 f 3 = x → ¬ ((¬ sg 17 f 2 = 2 ∧ ¬ sg 17 f 2 = 5) ∧ sg 17 f 4 = x) → Zq mX0_isAboutTerm 1 (pI (bC (abT sg f x)) sg ta) sg ta 23 [some (.ref (nm 17 f)), some (.int x)] [] := by
    intro n1 n2
    refine q_aload_n dX0_isAboutTerm_23 rfl ?_
    refine z_get 2 dX0_isAboutTerm_24 (by first | assumption | decide) (sh_17 _ _ _) rfl (by decide) fl_X0_18 rfl ?_
    refine q_bipush (v := 6) dX0_isAboutTerm_27 rfl ?_
    refine q_icmp_ne 52 dX0_isAboutTerm_29 (by decide) (fun h => ?_) (fun h => ?_)
    · exact no (fun q => q.elim n1 (fun q => q.elim n2 (fun q => h q.1)))
    · refine q_aload_n dX0_isAboutTerm_32 rfl ?_
      refine z_get 5 dX0_isAboutTerm_33 (by first | assumption | decide) (sh_17 _ _ _) rfl (by decide) fl_X0_28 rfl ?_
      refine q_iload_n dX0_isAboutTerm_36 rfl ?_
      refine q_icmp_eq 48 dX0_isAboutTerm_37 (by decide) (fun h2 => ?_) (fun h2 => ?_)
      · exact yes (Or.inr (Or.inr ⟨h, Or.inl h2⟩))
      · refine q_aload_n dX0_isAboutTerm_40 rfl ?_
        refine z_get 6 dX0_isAboutTerm_41 (by first | assumption | decide) (sh_17 _ _ _) rfl (by decide) fl_X0_31 rfl ?_
        refine q_iload_n dX0_isAboutTerm_44 rfl ?_
        refine q_icmp_ne 52 dX0_isAboutTerm_45 (by decide) (fun h3 => ?_) (fun h3 => ?_)
        · exact no (fun q => q.elim n1 (fun q => q.elim n2 (fun q => q.2.elim h2 h3)))
        · exact yes (Or.inr (Or.inr ⟨h, Or.inr h3⟩))
  refine zP_of (lv := [some (.ref (nm 17 f)), some (.int x)]) (by decide +kernel) rfl (fun h => by cases h) rfl (Nat.le_of_ble_eq_true rfl) ?_
  refine q_aload_n dX0_isAboutTerm_0 rfl ?_
  refine z_get 3 dX0_isAboutTerm_1 (by first | assumption | decide) (sh_17 _ _ _) rfl (by decide) fl_X0_22 rfl ?_
  refine q_iload_n dX0_isAboutTerm_4 rfl ?_
  refine q_icmp_eq 48 dX0_isAboutTerm_5 (by decide) (fun h => ?_) (fun h => ?_)
  · exact yes (Or.inl h)
  · refine q_aload_n dX0_isAboutTerm_8 rfl ?_
    refine z_callV (c_Formula_hasSecondTerm sg ta f hf) kV_X0_56 dX0_isAboutTerm_9 (by first | assumption | decide) (sh_17 _ _ _) rfl rfl rfl (by omega) (Nat.le_of_ble_eq_true rfl) (Nat.le_refl _) (Nat.le_refl _) rfl (fun v sg2 ta2 h => ?_)
    obtain ⟨rfl, rfl, rfl⟩ := h
    dsimp only [Option.toList, List.cons_append, List.nil_append]
    refine q_if_eq 23 dX0_isAboutTerm_12 (by decide) (fun h2 => ?_) (fun h2 => ?_)
    · exact third h (fun q => bC_z.mp h2 q.1)
    · refine q_aload_n dX0_isAboutTerm_15 rfl ?_
      refine z_get 4 dX0_isAboutTerm_16 (by first | assumption | decide) (sh_17 _ _ _) rfl (by decide) fl_X0_25 rfl ?_
      refine q_iload_n dX0_isAboutTerm_19 rfl ?_
      refine q_icmp_eq 48 dX0_isAboutTerm_20 (by decide) (fun h3 => ?_) (fun h3 => ?_)
      · exact yes (Or.inr (Or.inl ⟨bC_nz.mp h2, h3⟩))
      · exact third h (fun q => h3 q.2)
end
section
/-- a row holds a list of letters -/
def RowHas (sg : zI) (r : Nat) (l : List Int32) : Prop := sg 13 r 1 = nI l.length ∧ ∀ j, j < l.length → l[j]? = some (sg 14 r j)
/-- what a part is: a letter, or a text's letters -/
noncomputable def splP (L S row : Nat → Int32) (x : Int32) : List Int32 := @ite _ (x - 8 < 0) (Classical.propDecidable _) [x] ((List.range (L (x - 8).toNatClampNeg).toNatClampNeg).map (fun i => row ((S (x - 8).toNatClampNeg).toNatClampNeg + i)))
noncomputable def spl (p L S row : Nat → Int32) : Nat → List Int32
  | 0 => []
  | k + 1 => spl p L S row k ++ splP L S row (p k)
def PartOk (L S : Nat → Int32) (x : Int32) : Prop := x - 8 < 0 ∨ ∃ t l s : Nat, x - 8 = nI t ∧ t < 4 ∧ L t = nI l ∧ l ≤ 5 ∧ S t = nI s ∧ s + l ≤ 20
theorem splP_t {L S row : Nat → Int32} {x : Int32} {t l s : Nat} (h : x - 8 = nI t) (ht : t < 4) (hl : L t = nI l) (hl5 : l ≤ 5) (hs : S t = nI s) (hsl : s + l ≤ 20) : splP L S row x = (List.range l).map (fun i => row (s + i)) := by
  unfold splP
  rw [if_neg (by rw [h]; exact nI_pos (by omega)), h, nI_clamp (by omega), hl, hs, nI_clamp (by omega), nI_clamp (by omega)]
theorem splP_l {L S row : Nat → Int32} {x : Int32} (h : x - 8 < 0) : splP L S row x = [x] := by unfold splP; rw [if_pos h]
theorem splP_len {L S row : Nat → Int32} {x : Int32} (h : PartOk L S x) : (splP L S row x).length ≤ 5 := by
  rcases h with h | ⟨t, l, s, h1, h2, h3, h4, h5, h6⟩
  · rw [splP_l h]; simp
  · rw [splP_t h1 h2 h3 h4 h5 h6]; simpa using h4
theorem spl_len {p L S row : Nat → Int32} : ∀ n, (∀ j, j < n → PartOk L S (p j)) → (spl p L S row n).length ≤ 5 * n
  | 0, _ => by simp [spl]
  | n + 1, h => by
    have h1 := spl_len n (fun j hj => h j (by omega)) (row := row)
    have h2 := splP_len (row := row) (h n (by omega))
    simp only [spl, List.length_append]
    omega
/-- all but one row stays -/
def rowOnly (r : Nat) (sg s : zI) : Prop := ∀ K i, ¬ (K = 13 ∧ i = r) → ¬ (K = 14 ∧ i = r) → s K i = sg K i
theorem RowHas_push {sg : zI} {r : Nat} {l : List Int32} {x : Int32} (h : RowHas sg r l) : RowHas (up3 (up3 sg 14 r l.length x) 13 r 1 (nI (l.length + 1))) r (l ++ [x]) := by
  refine ⟨by rw [up3_get, if_pos ⟨rfl, rfl, rfl⟩]; simp, fun j hj => ?_⟩
  rw [up3_off (by omega), up3_get]
  by_cases hjl : j < l.length
  · rw [List.getElem?_append_left hjl, if_neg (by omega)]
    exact h.2 j hjl
  · have : j = l.length := by simp at hj; omega
    subst this
    rw [if_pos ⟨rfl, rfl, rfl⟩]
    simp
theorem RowHas_add {sg : zI} {r : Nat} {l : List Int32} {b : Nat → Int32} {f c : Nat} (h : RowHas sg r l) : RowHas (up3 (upR sg 14 r (rAdd (sg 14 r) l.length b f c)) 13 r 1 (nI (l.length + c))) r (l ++ (List.range c).map (fun i => b (f + i))) := by
  refine ⟨by rw [up3_get, if_pos ⟨rfl, rfl, rfl⟩]; simp, fun j hj => ?_⟩
  rw [up3_off (by omega)]
  have e : upR sg 14 r (rAdd (sg 14 r) l.length b f c) 14 r = rAdd (sg 14 r) l.length b f c := by simp [upR]
  rw [e]
  unfold rAdd
  by_cases hjl : j < l.length
  · rw [List.getElem?_append_left hjl, if_neg (by omega)]
    exact h.2 j hjl
  · have h2 : j - l.length < c := by simp at hj; omega
    rw [List.getElem?_append_right (by omega), if_pos (by omega)]
    simp [h2]
theorem rowOnly_push {sg s : zI} {r n : Nat} {x y : Int32} (h : rowOnly r sg s) : rowOnly r sg (up3 (up3 s 14 r n x) 13 r 1 y) := fun K i h1 h2 => by rw [up3_off h1, up3_off h2]; exact h K i h1 h2
theorem rowOnly_add {sg s : zI} {r : Nat} {q : Nat → Int32} {y : Int32} (h : rowOnly r sg s) : rowOnly r sg (up3 (upR s 14 r q) 13 r 1 y) := fun K i h1 h2 => by
  rw [up3_off h1]
  simp only [upR, if_neg h2]
  exact h K i h1 h2
theorem rowOnly_trans {sg s s2 : zI} {r : Nat} (h : rowOnly r sg s) (h2 : rowOnly r s s2) : rowOnly r sg s2 := fun K i a b => (h2 K i a b).trans (h K i a b)
set_option maxRecDepth 100000 in
set_option maxHeartbeats 4000000 in
theorem c_Row_write (sg : zI) (ta : zJ) (r i w n : Nat) (hr : r < cnt 13) (hi : i < cnt 11) (hw : w < cnt 3) (hn : sg 11 i 1 = nI n) (hn6 : n ≤ 6) (hp : ∀ j, j < n → PartOk (sg 4 w) (sg 5 w) (sg 12 i j)) : zP yX3_write mX3_write 1 [.ref (nm 13 r), .ref (nm 11 i), .ref (nm 3 w)] sg ta (fun v s t => v = none ∧ t = ta ∧ RowHas s r (spl (sg 12 i) (sg 4 w) (sg 5 w) (sg 6 w) n) ∧ rowOnly r sg s) := by
  have hi2 := cnt12 hi
  have hw4 := cnt4 hw
  have hw5 := cnt5 hw
  have hw6 := cnt6 hw
  refine zP_of (lv := [some (.ref (nm 13 r)), some (.ref (nm 11 i)), some (.ref (nm 3 w)), none, none]) (by decide +kernel) rfl (fun h => by cases h) rfl (Nat.le_of_ble_eq_true rfl) ?_
  have loop : ∀ k j : Nat, ∀ z : Option Value, ∀ s : zI, j + k = n → RowHas s r (spl (sg 12 i) (sg 4 w) (sg 5 w) (sg 6 w) j) → rowOnly r sg s → Zq mX3_write 1 (fun v s t => v = none ∧ t = ta ∧ RowHas s r (spl (sg 12 i) (sg 4 w) (sg 5 w) (sg 6 w) n) ∧ rowOnly r sg s) s ta 7 [some (.ref (nm 13 r)), some (.ref (nm 11 i)), some (.ref (nm 3 w)), some (.int (nI j)), z] [] := by
    intro k
    induction k with
    | zero =>
      intro j z s hj hR hO
      have hn2 : s 11 i 1 = nI n := by rw [hO 11 i (by omega) (by omega)]; exact hn
      refine q_iload_n dX3_write_7 rfl ?_
      refine q_aload_n dX3_write_8 rfl ?_
      refine z_get 1 dX3_write_9 (by first | assumption | decide) (sh_11 _ _ _) rfl (by decide) fl_X3_19 rfl ?_
      rw [hn2]
      refine q_icmp_ge 82 dX3_write_12 (by decide) (fun h => ?_) (fun h => ?_)
      · exact z_vret dX3_write_82 rfl ⟨rfl, rfl, by rw [show n = j by omega]; exact hR, hO⟩
      · exact absurd (nI_le (by omega) (by omega)) h
    | succ k ih =>
      intro j z s hj hR hO
      have hn2 : s 11 i 1 = nI n := by rw [hO 11 i (by omega) (by omega)]; exact hn
      have e12 : s 12 i = sg 12 i := hO 12 i (by omega) (by omega)
      have e4 : s 4 w = sg 4 w := hO 4 w (by omega) (by omega)
      have e5 : s 5 w = sg 5 w := hO 5 w (by omega) (by omega)
      have e6 : s 6 w = sg 6 w := hO 6 w (by omega) (by omega)
      have hl := spl_len (row := sg 6 w) j (fun q hq => hp q (by omega))
      have hpj := hp j (by omega)
      refine q_iload_n dX3_write_7 rfl ?_
      refine q_aload_n dX3_write_8 rfl ?_
      refine z_get 1 dX3_write_9 (by first | assumption | decide) (sh_11 _ _ _) rfl (by decide) fl_X3_19 rfl ?_
      rw [hn2]
      refine q_icmp_ge 82 dX3_write_12 (by decide) (fun h => ?_) (fun h => ?_)
      · exact absurd h (nI_ge (by omega) (by omega))
      · refine q_aload_n dX3_write_15 rfl ?_
        refine z_get 0 dX3_write_16 (by first | assumption | decide) (sh_11 _ _ _) rfl (by decide) fl_X3_22 rfl ?_
        refine q_iload_n dX3_write_19 rfl ?_
        refine z_iald dX3_write_20 (by first | assumption | decide) rfl (vp_in_nI (n := j) (by omega) (by omega)) ?_
        refine q_bipush (v := 8) dX3_write_21 rfl ?_
        refine q_isub dX3_write_23 ?_
        refine q_istore dX3_write_24 (Nat.le_of_ble_eq_true rfl) rfl ?_
        dsimp only [List.set]
        refine q_iload dX3_write_26 rfl ?_
        rw [nI_clamp (by omega), e12]
        refine q_if_ge 44 dX3_write_28 (by decide) (fun h1 => ?_) (fun h1 => ?_)
        · have hx : ∃ t l q : Nat, sg 12 i j - 8 = nI t ∧ t < 4 ∧ sg 4 w t = nI l ∧ l ≤ 5 ∧ sg 5 w t = nI q ∧ q + l ≤ 20 := by
            rcases hpj with g | g
            · exact absurd g (Int32.not_lt.mpr h1)
            · exact g
          obtain ⟨t, l, q, g1, g2, g3, g4, g5, g6⟩ := hx
          rw [g1]
          refine q_iload dX3_write_44 rfl ?_
          refine q_aload_n dX3_write_46 rfl ?_
          refine z_get 1 dX3_write_47 (by first | assumption | decide) (sh_3 _ _ _) rfl (by decide) fl_X3_29 rfl ?_
          refine z_alen dX3_write_50 (by first | assumption | decide) rfl (fun _ => rfl) rfl ?_
          refine q_icmp_ge 76 dX3_write_51 (by decide) (fun h2 => ?_) (fun h2 => ?_)
          · exact absurd ((nI_leI (a := 4) (by omega) (by omega)).mp h2) (by omega)
          · have hin : vp_in (nI t) 4 := vp_in_nI g2 (by omega)
            refine q_aload_n dX3_write_54 rfl ?_
            refine q_aload_n dX3_write_55 rfl ?_
            refine z_get 3 dX3_write_56 (by first | assumption | decide) (sh_3 _ _ _) rfl (by decide) fl_X3_34 rfl ?_
            refine q_aload_n dX3_write_59 rfl ?_
            refine z_get 2 dX3_write_60 (by first | assumption | decide) (sh_3 _ _ _) rfl (by decide) fl_X3_37 rfl ?_
            refine q_iload dX3_write_63 rfl ?_
            refine z_iald dX3_write_65 (by first | assumption | decide) rfl (by assumption) ?_
            refine q_aload_n dX3_write_66 rfl ?_
            refine z_get 1 dX3_write_67 (by first | assumption | decide) (sh_3 _ _ _) rfl (by decide) fl_X3_29 rfl ?_
            refine q_iload dX3_write_70 rfl ?_
            refine z_iald dX3_write_72 (by first | assumption | decide) rfl (by assumption) ?_
            rw [nI_clamp (by omega), e4, e5, g3, g5]
            refine z_callV (c_Row_addRow s ta r _ w q l hr hw6 hR.1 (by omega) g6) kV_X3_40 dX3_write_73 (by first | assumption | decide) (sh_13 _ _ _) rfl rfl rfl (by omega) (Nat.le_of_ble_eq_true rfl) (Nat.le_refl _) (Nat.le_refl _) rfl (fun v s2 ta2 h => ?_)
            obtain ⟨rfl, rfl, rfl⟩ := h
            dsimp only [Option.toList, List.cons_append, List.nil_append]
            refine q_iinc dX3_write_76 rfl (Nat.le_of_ble_eq_true rfl) rfl ?_
            dsimp only [List.set]
            refine q_goto 7 dX3_write_79 (by decide) ?_
            rw [nI_inc, e6]
            refine ih (j + 1) _ _ (by omega) ?_ (rowOnly_add hO)
            show RowHas _ r (spl (sg 12 i) (sg 4 w) (sg 5 w) (sg 6 w) j ++ splP (sg 4 w) (sg 5 w) (sg 6 w) (sg 12 i j))
            rw [splP_t g1 g2 g3 g4 g5 g6]
            exact RowHas_add hR
        · have h8 : sg 12 i j - 8 < 0 := Int32.not_le.mp h1
          refine q_aload_n dX3_write_31 rfl ?_
          refine q_aload_n dX3_write_32 rfl ?_
          refine z_get 0 dX3_write_33 (by first | assumption | decide) (sh_11 _ _ _) rfl (by decide) fl_X3_22 rfl ?_
          refine q_iload_n dX3_write_36 rfl ?_
          refine z_iald dX3_write_37 (by first | assumption | decide) rfl (vp_in_nI (n := j) (by omega) (by omega)) ?_
          rw [nI_clamp (by omega), e12]
          refine z_callV (c_Row_addLetter s ta r _ _ hr hR.1 (by omega)) kV_X3_25 dX3_write_38 (by first | assumption | decide) (sh_13 _ _ _) rfl rfl rfl (by omega) (Nat.le_of_ble_eq_true rfl) (Nat.le_refl _) (Nat.le_refl _) rfl (fun v s2 ta2 h => ?_)
          obtain ⟨rfl, rfl, rfl⟩ := h
          dsimp only [Option.toList, List.cons_append, List.nil_append]
          refine q_goto 76 dX3_write_41 (by decide) ?_
          refine q_iinc dX3_write_76 rfl (Nat.le_of_ble_eq_true rfl) rfl ?_
          dsimp only [List.set]
          refine q_goto 7 dX3_write_79 (by decide) ?_
          rw [nI_inc]
          refine ih (j + 1) _ _ (by omega) ?_ (rowOnly_push hO)
          show RowHas _ r (spl (sg 12 i) (sg 4 w) (sg 5 w) (sg 6 w) j ++ splP (sg 4 w) (sg 5 w) (sg 6 w) (sg 12 i j))
          rw [splP_l h8]
          exact RowHas_push hR
  refine q_aload_n dX3_write_0 rfl ?_
  refine q_iconst (v := 0) dX3_write_1 rfl ?_
  refine z_puti 1 dX3_write_2 (by first | assumption | decide) (sh_13 _ _ _) rfl (by decide) fl_X3_15 rfl pfI (Nat.le_of_ble_eq_true rfl) rfl ?_
  refine q_iconst (v := 0) dX3_write_5 rfl ?_
  refine s_istore_n 3 dX3_write_6 rfl (Nat.le_of_ble_eq_true rfl) rfl ?_
  dsimp only [List.set]
  refine loop n 0 none _ (by omega) ⟨by rw [up3_get, if_pos ⟨rfl, rfl, rfl⟩]; rfl, fun j hj => absurd hj (Nat.not_lt_zero j)⟩ ?_
  intro K i' h1 h2
  rw [up3_off h1]
end
section
/-! Way -/
def psum (v : Nat → Nat) : Nat → Nat
  | 0 => 0
  | t + 1 => psum v t + v t
theorem psum_le {v : Nat → Nat} {n : Nat} (h : ∀ t, t < n → v t ≤ 5) : ∀ t, t ≤ n → psum v t ≤ 5 * t
  | 0, _ => by simp [psum]
  | t + 1, ht => by
    have := psum_le h t (by omega)
    have := h t (by omega)
    simp only [psum]; omega
/-- what layOut leaves: all but starts, total, count -/
def wayOnly (i : Nat) (sg s : zI) : Prop := (∀ K j, ¬ (K = 3 ∧ j = i) → ¬ (K = 5 ∧ j = i) → s K j = sg K j) ∧ s 3 i 5 = sg 3 i 5
set_option maxRecDepth 100000 in
set_option maxHeartbeats 4000000 in
theorem c_Way_layOut (sg : zI) (ta : zJ) (i nT A : Nat) (v : Nat → Nat) (hi : i < cnt 3) (hT : sg 1 0 2 = nI nT) (hT4 : nT ≤ 4) (hA : sg 1 0 1 = nI A) (hv : ∀ t, t < nT → sg 4 i t = nI (v t)) (hv5 : ∀ t, t < nT → v t ≤ 5) : zP yX6_layOut mX6_layOut 0 [.ref (nm 3 i)] sg ta (fun x s t => x = none ∧ t = ta ∧ wayOnly i sg s ∧ s 3 i 4 = nI (psum v nT) ∧ s 3 i 6 = nI (A ^ psum v nT) ∧ ∀ u, u < nT → s 5 i u = nI (psum v u)) := by
  have hi4 := cnt4 hi
  have hi5 := cnt5 hi
  have hps := psum_le hv5
  refine zP_of (lv := [some (.ref (nm 3 i)), none]) (by decide +kernel) rfl (fun h => by cases h) rfl (Nat.le_of_ble_eq_true rfl) ?_
  have loop2 : ∀ k j : Nat, ∀ s : zI, j + k = psum v nT → wayOnly i sg s → s 3 i 4 = nI (psum v nT) → s 3 i 6 = nI (A ^ j) → (∀ u, u < nT → s 5 i u = nI (psum v u)) → Zq mX6_layOut 0 (fun x s t => x = none ∧ t = ta ∧ wayOnly i sg s ∧ s 3 i 4 = nI (psum v nT) ∧ s 3 i 6 = nI (A ^ psum v nT) ∧ ∀ u, u < nT → s 5 i u = nI (psum v u)) s ta 56 [some (.ref (nm 3 i)), some (.int (nI j))] [] := by
    intro k
    induction k with
    | zero =>
      intro j s hj hO h4 h6 h5
      refine q_iload_n dX6_layOut_56 rfl ?_
      refine q_aload_n dX6_layOut_57 rfl ?_
      refine z_get 4 dX6_layOut_58 (by first | assumption | decide) (sh_3 _ _ _) rfl (by decide) fl_X6_41 rfl ?_
      rw [h4]
      refine q_icmp_ge 86 dX6_layOut_61 (by decide) (fun h => ?_) (fun h => ?_)
      · exact z_vret dX6_layOut_86 rfl ⟨rfl, rfl, hO, h4, by rw [h6, show j = psum v nT by omega], h5⟩
      · exact absurd (nI_le (by omega) (by have := hps nT (by omega); omega)) h
    | succ k ih =>
      intro j s hj hO h4 h6 h5
      have hb := hps nT (by omega)
      refine q_iload_n dX6_layOut_56 rfl ?_
      refine q_aload_n dX6_layOut_57 rfl ?_
      refine z_get 4 dX6_layOut_58 (by first | assumption | decide) (sh_3 _ _ _) rfl (by decide) fl_X6_41 rfl ?_
      rw [h4]
      refine q_icmp_ge 86 dX6_layOut_61 (by decide) (fun h => ?_) (fun h => ?_)
      · exact absurd h (nI_ge (by omega) (by omega))
      · refine q_aload_n dX6_layOut_64 rfl ?_
        refine q_dup dX6_layOut_65 rfl ?_
        refine z_get 6 dX6_layOut_66 (by first | assumption | decide) (sh_3 _ _ _) rfl (by decide) fl_X6_21 rfl ?_
        refine q_aload_n dX6_layOut_69 rfl ?_
        refine z_get 0 dX6_layOut_70 (by first | assumption | decide) (sh_3 _ _ _) rfl (by decide) fl_X6_25 rfl ?_
        refine z_get 1 dX6_layOut_73 (by first | assumption | decide) (sh_1 _ _ _) rfl (by decide) fl_X6_49 rfl ?_
        rw [h6, hO.1 1 0 (by omega) (by omega), hA]
        refine q_imul dX6_layOut_76 ?_
        rw [pk_mul, ← Nat.pow_succ]
        refine z_puti 6 dX6_layOut_77 (by first | assumption | decide) (sh_3 _ _ _) rfl (by decide) fl_X6_21 rfl pfI (Nat.le_of_ble_eq_true rfl) rfl ?_
        refine q_iinc dX6_layOut_80 rfl (Nat.le_of_ble_eq_true rfl) rfl ?_
        dsimp only [List.set]
        refine q_goto 56 dX6_layOut_83 (by decide) ?_
        rw [nI_inc]
        refine ih (j + 1) _ (by omega) ⟨fun K q a b => by rw [up3_off a]; exact hO.1 K q a b, by rw [up3_get, if_neg (by omega)]; exact hO.2⟩ ?_ ?_ ?_
        · rw [up3_get, if_neg (by omega)]; exact h4
        · rw [up3_get, if_pos ⟨rfl, rfl, rfl⟩]
        · intro u hu
          rw [up3_off (by omega)]
          exact h5 u hu
  have loop1 : ∀ k j : Nat, ∀ s : zI, j + k = nT → wayOnly i sg s → s 3 i 4 = nI (psum v j) → (∀ u, u < j → s 5 i u = nI (psum v u)) → Zq mX6_layOut 0 (fun x s t => x = none ∧ t = ta ∧ wayOnly i sg s ∧ s 3 i 4 = nI (psum v nT) ∧ s 3 i 6 = nI (A ^ psum v nT) ∧ ∀ u, u < nT → s 5 i u = nI (psum v u)) s ta 7 [some (.ref (nm 3 i)), some (.int (nI j))] [] := by
    intro k
    induction k with
    | zero =>
      intro j s hj hO h4 h5
      refine q_iload_n dX6_layOut_7 rfl ?_
      refine q_aload_n dX6_layOut_8 rfl ?_
      refine z_get 0 dX6_layOut_9 (by first | assumption | decide) (sh_3 _ _ _) rfl (by decide) fl_X6_25 rfl ?_
      refine z_get 2 dX6_layOut_12 (by first | assumption | decide) (sh_1 _ _ _) rfl (by decide) fl_X6_44 rfl ?_
      rw [hO.1 1 0 (by omega) (by omega), hT]
      refine q_icmp_ge 49 dX6_layOut_15 (by decide) (fun h => ?_) (fun h => ?_)
      · have ej : j = nT := by omega
        subst ej
        refine q_aload_n dX6_layOut_49 rfl ?_
        refine q_iconst (v := 1) dX6_layOut_50 rfl ?_
        refine z_puti 6 dX6_layOut_51 (by first | assumption | decide) (sh_3 _ _ _) rfl (by decide) fl_X6_21 rfl pfI (Nat.le_of_ble_eq_true rfl) rfl ?_
        refine q_iconst (v := 0) dX6_layOut_54 rfl ?_
        refine s_istore_n 1 dX6_layOut_55 rfl (Nat.le_of_ble_eq_true rfl) rfl ?_
        dsimp only [List.set]
        refine loop2 (psum v j) 0 _ (by omega) ⟨fun K q a b => by rw [up3_off a]; exact hO.1 K q a b, by rw [up3_get, if_neg (by omega)]; exact hO.2⟩ ?_ ?_ ?_
        · rw [up3_get, if_neg (by omega)]; exact h4
        · rw [up3_get, if_pos ⟨rfl, rfl, rfl⟩]; rfl
        · intro u hu
          rw [up3_off (by omega)]
          exact h5 u hu
      · exact absurd (nI_le (by omega) (by omega)) h
    | succ k ih =>
      intro j s hj hO h4 h5
      refine q_iload_n dX6_layOut_7 rfl ?_
      refine q_aload_n dX6_layOut_8 rfl ?_
      refine z_get 0 dX6_layOut_9 (by first | assumption | decide) (sh_3 _ _ _) rfl (by decide) fl_X6_25 rfl ?_
      refine z_get 2 dX6_layOut_12 (by first | assumption | decide) (sh_1 _ _ _) rfl (by decide) fl_X6_44 rfl ?_
      rw [hO.1 1 0 (by omega) (by omega), hT]
      refine q_icmp_ge 49 dX6_layOut_15 (by decide) (fun h => ?_) (fun h => ?_)
      · exact absurd h (nI_ge (by omega) (by omega))
      · refine q_aload_n dX6_layOut_18 rfl ?_
        refine z_get 2 dX6_layOut_19 (by first | assumption | decide) (sh_3 _ _ _) rfl (by decide) fl_X6_15 rfl ?_
        refine q_iload_n dX6_layOut_22 rfl ?_
        refine q_aload_n dX6_layOut_23 rfl ?_
        refine z_get 4 dX6_layOut_24 (by first | assumption | decide) (sh_3 _ _ _) rfl (by decide) fl_X6_41 rfl ?_
        refine z_iast dX6_layOut_27 (by first | assumption | decide) (fun _ _ => rfl) (vp_in_nI (n := j) (by omega) (by omega)) ?_
        rw [nI_clamp (by omega), h4]
        refine q_aload_n dX6_layOut_28 rfl ?_
        refine q_dup dX6_layOut_29 rfl ?_
        refine z_get 4 dX6_layOut_30 (by first | assumption | decide) (sh_3 _ _ _) rfl (by decide) fl_X6_41 rfl ?_
        refine q_aload_n dX6_layOut_33 rfl ?_
        refine z_get 1 dX6_layOut_34 (by first | assumption | decide) (sh_3 _ _ _) rfl (by decide) fl_X6_9 rfl ?_
        refine q_iload_n dX6_layOut_37 rfl ?_
        refine z_iald dX6_layOut_38 (by first | assumption | decide) rfl (vp_in_nI (n := j) (by omega) (by omega)) ?_
        have e3 : up3 s 5 i j (nI (psum v j)) 3 i 4 = nI (psum v j) := by rw [up3_off (by omega)]; exact h4
        have e4 : up3 s 5 i j (nI (psum v j)) 4 i j = nI (v j) := by rw [up3_off (by omega), hO.1 4 i (by omega) (by omega)]; exact hv j (by omega)
        rw [nI_clamp (by omega), e4, e3]
        refine q_iadd dX6_layOut_39 ?_
        rw [nI_add]
        refine z_puti 4 dX6_layOut_40 (by first | assumption | decide) (sh_3 _ _ _) rfl (by decide) fl_X6_41 rfl pfI (Nat.le_of_ble_eq_true rfl) rfl ?_
        refine q_iinc dX6_layOut_43 rfl (Nat.le_of_ble_eq_true rfl) rfl ?_
        dsimp only [List.set]
        refine q_goto 7 dX6_layOut_46 (by decide) ?_
        rw [nI_inc]
        refine ih (j + 1) _ (by omega) ⟨fun K q a b => by rw [up3_off a, up3_off b]; exact hO.1 K q a b, by rw [up3_get, if_neg (by omega), up3_off (by omega)]; exact hO.2⟩ ?_ ?_
        · rw [up3_get, if_pos ⟨rfl, rfl, rfl⟩]; rfl
        · intro u hu
          rw [up3_off (by omega), up3_get]
          by_cases hu2 : u = j
          · subst hu2; rw [if_pos ⟨rfl, rfl, rfl⟩]
          · rw [if_neg (by omega)]; exact h5 u (by omega)
  refine q_aload_n dX6_layOut_0 rfl ?_
  refine q_iconst (v := 0) dX6_layOut_1 rfl ?_
  refine z_puti 4 dX6_layOut_2 (by first | assumption | decide) (sh_3 _ _ _) rfl (by decide) fl_X6_41 rfl pfI (Nat.le_of_ble_eq_true rfl) rfl ?_
  refine q_iconst (v := 0) dX6_layOut_5 rfl ?_
  refine s_istore_n 1 dX6_layOut_6 rfl (Nat.le_of_ble_eq_true rfl) rfl ?_
  dsimp only [List.set]
  refine loop1 nT 0 _ (by omega) ⟨fun K q a b => by rw [up3_off a], by rw [up3_get, if_neg (by omega)]⟩ ?_ (fun u hu => absurd hu (by omega))
  rw [up3_get, if_pos ⟨rfl, rfl, rfl⟩]; rfl
end
section
/-! THE WAYS: vectors of digits in order; digit t of n ones is of 0 .. mo t, the last one goes round first -/
def kAll (mo : Nat → Nat) : Nat → Nat
  | 0 => 1
  | n + 1 => kAll mo n * (mo n + 1)
def vec (mo : Nat → Nat) : Nat → Nat → Nat → Nat
  | 0, _, _ => 0
  | n + 1, k, t => if t = n then k % (mo n + 1) else vec mo n (k / (mo n + 1)) t
def rk (mo v : Nat → Nat) : Nat → Nat
  | 0 => 0
  | n + 1 => rk mo v n * (mo n + 1) + v n
theorem kAll_pos (mo : Nat → Nat) : ∀ n, 0 < kAll mo n
  | 0 => by simp [kAll]
  | n + 1 => by simp only [kAll]; exact Nat.mul_pos (kAll_pos mo n) (by omega)
theorem vec_le (mo : Nat → Nat) : ∀ n k t, t < n → vec mo n k t ≤ mo t
  | 0, _, _, h => by omega
  | n + 1, k, t, h => by
    simp only [vec]
    by_cases ht : t = n
    · subst ht; rw [if_pos rfl]; have := Nat.mod_lt k (show 0 < mo t + 1 by omega); omega
    · rw [if_neg ht]; exact vec_le mo n _ t (by omega)
theorem vec_big (mo : Nat → Nat) : ∀ n k t, n ≤ t → vec mo n k t = 0
  | 0, _, _, _ => rfl
  | n + 1, k, t, h => by
    simp only [vec]
    rw [if_neg (by omega)]
    exact vec_big mo n _ t (by omega)
theorem rk_congr {mo v w : Nat → Nat} : ∀ n, (∀ t, t < n → v t = w t) → rk mo v n = rk mo w n
  | 0, _ => rfl
  | n + 1, h => by simp only [rk]; rw [rk_congr n (fun t ht => h t (by omega)), h n (by omega)]
theorem rk_vec (mo : Nat → Nat) : ∀ n k, k < kAll mo n → rk mo (vec mo n k) n = k
  | 0, k, h => by simp only [kAll] at h; simp only [rk]; omega
  | n + 1, k, h => by
    simp only [kAll] at h
    have hq : k / (mo n + 1) < kAll mo n := Nat.div_lt_of_lt_mul (by rw [Nat.mul_comm]; exact h)
    have h1 := rk_vec mo n _ hq
    have h2 : rk mo (vec mo (n + 1) k) n = rk mo (vec mo n (k / (mo n + 1))) n := rk_congr n (fun t ht => by simp only [vec]; rw [if_neg (by omega)])
    simp only [rk]
    rw [h2, h1]
    simp only [vec, if_true]
    have := Nat.div_add_mod k (mo n + 1)
    rw [Nat.mul_comm] at this
    exact this
theorem rk_inj {mo v w : Nat → Nat} : ∀ n, (∀ t, t < n → v t ≤ mo t) → (∀ t, t < n → w t ≤ mo t) → rk mo v n = rk mo w n → ∀ t, t < n → v t = w t
  | 0, _, _, _, t, h => by omega
  | n + 1, hv, hw, h, t, ht => by
    simp only [rk] at h
    have h1 := hv n (by omega)
    have h2 := hw n (by omega)
    have hm : ∀ a b c : Nat, b < c → (a * c + b) / c = a := fun a b c hb => by
      rw [Nat.mul_comm, Nat.mul_add_div (by omega), Nat.div_eq_of_lt hb, Nat.add_zero]
    have e1 : rk mo v n = rk mo w n := by
      rw [← hm (rk mo v n) (v n) (mo n + 1) (by omega), h, hm (rk mo w n) (w n) (mo n + 1) (by omega)]
    by_cases htn : t = n
    · subst htn; rw [e1] at h; omega
    · exact rk_inj n (fun t ht => hv t (by omega)) (fun t ht => hw t (by omega)) e1 t (by omega)
theorem rk_lt {mo v : Nat → Nat} : ∀ n, (∀ t, t < n → v t ≤ mo t) → rk mo v n < kAll mo n
  | 0, _ => by simp [rk, kAll]
  | n + 1, hv => by
    have h1 := rk_lt n (fun t ht => hv t (by omega))
    have h2 := hv n (by omega)
    simp only [rk, kAll]
    have h3 : (rk mo v n + 1) * (mo n + 1) ≤ kAll mo n * (mo n + 1) := Nat.mul_le_mul_right _ h1
    rw [Nat.add_mul] at h3
    omega
/-- the next vector: the last place that isn't full goes up, those behind it go to 0 -/
theorem rk_next {mo v w : Nat → Nat} {t : Nat} : ∀ n, t < n → v t < mo t → w t = v t + 1 → (∀ u, u < t → w u = v u) → (∀ u, t < u → u < n → v u = mo u ∧ w u = 0) → rk mo w n = rk mo v n + 1
  | 0, h, _, _, _, _ => by omega
  | n + 1, h, h1, h2, h3, h4 => by
    simp only [rk]
    by_cases htn : t = n
    · subst htn
      rw [rk_congr (v := w) (w := v) t h3, h2]
      omega
    · have ih := rk_next n (by omega) h1 h2 h3 (fun u a b => h4 u a (by omega))
      have h5 := h4 n (by omega) (by omega)
      rw [ih, h5.1, h5.2, Nat.add_mul]
      omega
theorem rk_full {mo v : Nat → Nat} : ∀ n, (∀ u, u < n → v u = mo u) → rk mo v n + 1 = kAll mo n
  | 0, _ => rfl
  | n + 1, h => by
    have ih := rk_full n (fun u hu => h u (by omega))
    simp only [rk, kAll]
    rw [← ih, h n (by omega), Nat.add_mul]
    omega
theorem rk_zero {mo : Nat → Nat} {v : Nat → Nat} : ∀ n, (∀ u, u < n → v u = 0) → rk mo v n = 0
  | 0, _ => rfl
  | n + 1, h => by simp only [rk]; rw [rk_zero n (fun u hu => h u (by omega)), h n (by omega)]; simp
theorem vec_zero (mo : Nat → Nat) (n t : Nat) : vec mo n 0 t = 0 := by
  induction n generalizing t with
  | zero => rfl
  | succ n ih => simp only [vec, Nat.zero_mod, Nat.zero_div, ih]; split <;> rfl
/-- the vector behind the k-th -/
theorem vec_next {mo w : Nat → Nat} {n k t : Nat} (hk : k < kAll mo n) (ht : t < n) (h1 : vec mo n k t < mo t) (h2 : w t = vec mo n k t + 1) (h3 : ∀ u, u < t → w u = vec mo n k u) (h4 : ∀ u, t < u → u < n → vec mo n k u = mo u ∧ w u = 0) : k + 1 < kAll mo n ∧ ∀ u, u < n → w u = vec mo n (k + 1) u := by
  have hr := rk_next n ht h1 h2 h3 h4
  rw [rk_vec mo n k hk] at hr
  have hw : ∀ u, u < n → w u ≤ mo u := by
    intro u hu
    rcases Nat.lt_trichotomy u t with g | g | g
    · rw [h3 u g]; exact vec_le mo n k u hu
    · subst g; omega
    · rw [(h4 u g hu).2]; omega
  have hl := rk_lt n hw
  rw [hr] at hl
  exact ⟨hl, rk_inj n hw (fun u hu => vec_le mo n (k + 1) u hu) (by rw [hr, rk_vec mo n (k + 1) hl])⟩
theorem vec_last {mo : Nat → Nat} {n k : Nat} (hk : k < kAll mo n) (h : ∀ u, u < n → vec mo n k u = mo u) : k + 1 = kAll mo n := by
  have := rk_full n h
  rwa [rk_vec mo n k hk] at this
/-! sums -/
def sumN (f : Nat → Nat) : Nat → Nat
  | 0 => 0
  | n + 1 => sumN f n + f n
theorem sumN_congr {f g : Nat → Nat} : ∀ n, (∀ k, k < n → f k = g k) → sumN f n = sumN g n
  | 0, _ => rfl
  | n + 1, h => by simp only [sumN]; rw [sumN_congr n (fun k hk => h k (by omega)), h n (by omega)]
theorem sumN_add (f : Nat → Nat) (a : Nat) : ∀ b, sumN f (a + b) = sumN f a + sumN (fun r => f (a + r)) b
  | 0 => rfl
  | b + 1 => by rw [← Nat.add_assoc]; simp only [sumN]; rw [sumN_add f a b]; omega
theorem sumN_mulL (f : Nat → Nat) (c : Nat) : ∀ n, sumN (fun k => c * f k) n = c * sumN f n
  | 0 => rfl
  | n + 1 => by simp only [sumN]; rw [sumN_mulL f c n, Nat.mul_add]
theorem sumN_mulR (f : Nat → Nat) (c : Nat) : ∀ n, sumN (fun k => f k * c) n = sumN f n * c
  | 0 => by simp [sumN]
  | n + 1 => by simp only [sumN]; rw [sumN_mulR f c n, Nat.add_mul]
theorem sumN_prod (f : Nat → Nat) (c : Nat) : ∀ m, sumN f (m * c) = sumN (fun q => sumN (fun r => f (q * c + r)) c) m
  | 0 => by simp [sumN]
  | m + 1 => by rw [Nat.add_mul, Nat.one_mul, sumN_add, sumN_prod f c m]; rfl
theorem sumN_mono (f : Nat → Nat) {a b : Nat} (h : a ≤ b) : sumN f a ≤ sumN f b := by
  obtain ⟨c, rfl⟩ : ∃ c, b = a + c := ⟨b - a, by omega⟩
  rw [sumN_add]; omega
theorem sumN_pow (A : Nat) : ∀ m, sumN (fun r => A ^ r) (m + 1) = rowsN A m
  | 0 => by simp [sumN, rowsN]
  | m + 1 => by rw [sumN, sumN_pow A m]; rfl
theorem psum_congr {v w : Nat → Nat} : ∀ n, (∀ t, t < n → v t = w t) → psum v n = psum w n
  | 0, _ => rfl
  | n + 1, h => by simp only [psum]; rw [psum_congr n (fun t ht => h t (by omega)), h n (by omega)]
/-- how many letters the texts of the k-th lengths have, how many ways these are, the number of the first -/
def wTot (mo : Nat → Nat) (nT k : Nat) : Nat := psum (vec mo nT k) nT
def wFst (A : Nat) (mo : Nat → Nat) (nT k : Nat) : Nat := sumN (fun j => A ^ wTot mo nT j) k
def wSize (A : Nat) (mo : Nat → Nat) : Nat → Nat
  | 0 => 1
  | n + 1 => wSize A mo n * rowsN A (mo n)
theorem wTot_succ (mo : Nat → Nat) (n q r : Nat) (hr : r < mo n + 1) : wTot mo (n + 1) (q * (mo n + 1) + r) = wTot mo n q + r := by
  unfold wTot
  simp only [psum]
  have e1 : (q * (mo n + 1) + r) / (mo n + 1) = q := by
    rw [Nat.mul_comm, Nat.mul_add_div (by omega), Nat.div_eq_of_lt hr, Nat.add_zero]
  have e2 : (q * (mo n + 1) + r) % (mo n + 1) = r := by
    rw [Nat.mul_comm, Nat.mul_add_mod, Nat.mod_eq_of_lt hr]
  have e3 : vec mo (n + 1) (q * (mo n + 1) + r) n = r := by simp only [vec, if_true]; exact e2
  rw [e3]
  congr 1
  refine psum_congr n (fun t ht => ?_)
  simp only [vec]
  rw [if_neg (by omega), e1]
theorem wFst_all (A : Nat) (mo : Nat → Nat) : ∀ n, wFst A mo n (kAll mo n) = wSize A mo n
  | 0 => by simp [wFst, kAll, wSize, sumN, wTot, psum]
  | n + 1 => by
    unfold wFst
    simp only [kAll, wSize]
    rw [sumN_prod, ← wFst_all A mo n, ← sumN_pow, wFst, ← sumN_mulR]
    refine sumN_congr _ (fun q _ => ?_)
    rw [← sumN_mulL]
    refine sumN_congr _ (fun r hr => ?_)
    rw [wTot_succ mo n q r hr, Nat.pow_add]
theorem wFst_s (A : Nat) (mo : Nat → Nat) (nT k : Nat) : wFst A mo nT (k + 1) = wFst A mo nT k + A ^ wTot mo nT k := rfl
theorem wFst_le (A : Nat) (mo : Nat → Nat) (nT : Nat) {k : Nat} (h : k ≤ kAll mo nT) : wFst A mo nT k ≤ wSize A mo nT := by
  rw [← wFst_all]; exact sumN_mono _ h
theorem wFst_mono (A : Nat) (mo : Nat → Nat) (nT : Nat) {k j : Nat} (h : k ≤ j) : wFst A mo nT k ≤ wFst A mo nT j := sumN_mono _ h
/-- way w has the k-th lengths -/
def wIn (A : Nat) (mo : Nat → Nat) (nT w k : Nat) : Prop := k < kAll mo nT ∧ wFst A mo nT k ≤ w ∧ w < wFst A mo nT (k + 1)
theorem wIn_ex0 (A : Nat) (mo : Nat → Nat) (nT w : Nat) : ∀ K, w < wFst A mo nT K → ∃ k, k < K ∧ wFst A mo nT k ≤ w ∧ w < wFst A mo nT (k + 1)
  | 0, h => by simp [wFst, sumN] at h
  | K + 1, h => by
    by_cases h2 : w < wFst A mo nT K
    · obtain ⟨k, a, b⟩ := wIn_ex0 A mo nT w K h2
      exact ⟨k, by omega, b⟩
    · exact ⟨K, by omega, by omega, h⟩
theorem wIn_ex {A : Nat} {mo : Nat → Nat} {nT w : Nat} (h : w < wSize A mo nT) : ∃ k, wIn A mo nT w k := by
  rw [← wFst_all] at h
  obtain ⟨k, a, b⟩ := wIn_ex0 A mo nT w _ h
  exact ⟨k, a, b⟩
theorem wIn_uni {A : Nat} {mo : Nat → Nat} {nT w k j : Nat} (h : wIn A mo nT w k) (h2 : wIn A mo nT w j) : k = j := by
  rcases Nat.lt_trichotomy k j with g | g | g
  · have := wFst_mono A mo nT (show k + 1 ≤ j from g)
    have := h.2.2; have := h2.2.1; omega
  · exact g
  · have := wFst_mono A mo nT (show j + 1 ≤ k from g)
    have := h2.2.2; have := h.2.1; omega
noncomputable def kOf (A : Nat) (mo : Nat → Nat) (nT w : Nat) : Nat := @dite Nat (∃ k, wIn A mo nT w k) (Classical.propDecidable _) (fun h => Classical.choose h) (fun _ => 0)
theorem kOf_in {A : Nat} {mo : Nat → Nat} {nT w : Nat} (h : w < wSize A mo nT) : wIn A mo nT w (kOf A mo nT w) := by
  unfold kOf
  rw [dif_pos (wIn_ex h)]
  exact Classical.choose_spec (wIn_ex h)
theorem kOf_eq {A : Nat} {mo : Nat → Nat} {nT w k : Nat} (h : wIn A mo nT w k) : kOf A mo nT w = k := by
  have hs : w < wSize A mo nT := Nat.lt_of_lt_of_le h.2.2 (wFst_le A mo nT h.1)
  exact wIn_uni (kOf_in hs) h
/-- the letters of way w, one behind the other -/
noncomputable def wLet (A : Nat) (mo : Nat → Nat) (nT w : Nat) : Nat → Nat := vec (fun _ => A - 1) (wTot mo nT (kOf A mo nT w)) (w - wFst A mo nT (kOf A mo nT w))
end
