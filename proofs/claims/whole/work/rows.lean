section
-- ===== PART A: goes FIRST, ahead of the names: the tables' words, and 'selects' of the private methods out of them =====
/-- a private method of a class that the tables say can be made, by its rows of tables_1 -/
def lw_okq (q : MethodName × Nat) : Prop := (q.1.cls ≠ "java/lang/invoke/MethodHandle" ∧ q.1.cls ≠ "java/lang/invoke/VarHandle") ∧ Cond.instantiable q.1.cls q.2 ∈ tables_1 ∧ Cond.privateMethod q.1 ∈ tables_1 ∧ Cond.instanceMethod q.1 ∈ tables_1
theorem lw_p0 : lw_okq (⟨"TextSolver", "dropWays", "()V"⟩, 13) := ⟨⟨by decide +kernel, by decide +kernel⟩, List.mem_of_getElem? (i := 15) (by decide +kernel), List.mem_of_getElem? (i := 254) (by decide +kernel), List.mem_of_getElem? (i := 255) (by decide +kernel)⟩
theorem lw_p1 : lw_okq (⟨"TextSolver$Way", "layOut", "()V"⟩, 7) := ⟨⟨by decide +kernel, by decide +kernel⟩, List.mem_of_getElem? (i := 49) (by decide +kernel), List.mem_of_getElem? (i := 265) (by decide +kernel), List.mem_of_getElem? (i := 266) (by decide +kernel)⟩
theorem lw_p2 : lw_okq (⟨"TextSolver", "dropFindings", "()V"⟩, 13) := ⟨⟨by decide +kernel, by decide +kernel⟩, List.mem_of_getElem? (i := 15) (by decide +kernel), List.mem_of_getElem? (i := 276) (by decide +kernel), List.mem_of_getElem? (i := 277) (by decide +kernel)⟩
theorem lw_p3 : lw_okq (⟨"TextSolver$Space", "rowsUpTo", "(I)I"⟩, 4) := ⟨⟨by decide +kernel, by decide +kernel⟩, List.mem_of_getElem? (i := 23) (by decide +kernel), List.mem_of_getElem? (i := 288) (by decide +kernel), List.mem_of_getElem? (i := 289) (by decide +kernel)⟩
theorem lw_p4 : lw_okq (⟨"TextSolver", "isTerm", "(I)Z"⟩, 13) := ⟨⟨by decide +kernel, by decide +kernel⟩, List.mem_of_getElem? (i := 15) (by decide +kernel), List.mem_of_getElem? (i := 308) (by decide +kernel), List.mem_of_getElem? (i := 309) (by decide +kernel)⟩
theorem lw_p5 : lw_okq (⟨"TextSolver", "isMachine", "(I)Z"⟩, 13) := ⟨⟨by decide +kernel, by decide +kernel⟩, List.mem_of_getElem? (i := 15) (by decide +kernel), List.mem_of_getElem? (i := 345) (by decide +kernel), List.mem_of_getElem? (i := 346) (by decide +kernel)⟩
theorem lw_p6 : lw_okq (⟨"TextSolver", "dropFindingsOfMachine", "(I)V"⟩, 13) := ⟨⟨by decide +kernel, by decide +kernel⟩, List.mem_of_getElem? (i := 15) (by decide +kernel), List.mem_of_getElem? (i := 361) (by decide +kernel), List.mem_of_getElem? (i := 362) (by decide +kernel)⟩
theorem lw_p7 : lw_okq (⟨"TextSolver", "areOthersKnown", "(IIII)Z"⟩, 13) := ⟨⟨by decide +kernel, by decide +kernel⟩, List.mem_of_getElem? (i := 15) (by decide +kernel), List.mem_of_getElem? (i := 388) (by decide +kernel), List.mem_of_getElem? (i := 389) (by decide +kernel)⟩
theorem lw_p8 : lw_okq (⟨"TextSolver", "isFormula", "(I)Z"⟩, 13) := ⟨⟨by decide +kernel, by decide +kernel⟩, List.mem_of_getElem? (i := 15) (by decide +kernel), List.mem_of_getElem? (i := 404) (by decide +kernel), List.mem_of_getElem? (i := 405) (by decide +kernel)⟩
theorem lw_p9 : lw_okq (⟨"TextSolver", "takeInHand", "(I)I"⟩, 13) := ⟨⟨by decide +kernel, by decide +kernel⟩, List.mem_of_getElem? (i := 15) (by decide +kernel), List.mem_of_getElem? (i := 416) (by decide +kernel), List.mem_of_getElem? (i := 417) (by decide +kernel)⟩
theorem lw_p10 : lw_okq (⟨"TextSolver", "countingFormulas", "()I"⟩, 13) := ⟨⟨by decide +kernel, by decide +kernel⟩, List.mem_of_getElem? (i := 15) (by decide +kernel), List.mem_of_getElem? (i := 420) (by decide +kernel), List.mem_of_getElem? (i := 421) (by decide +kernel)⟩
theorem lw_p11 : lw_okq (⟨"TextSolver", "modelsIn", "(II)J"⟩, 13) := ⟨⟨by decide +kernel, by decide +kernel⟩, List.mem_of_getElem? (i := 15) (by decide +kernel), List.mem_of_getElem? (i := 424) (by decide +kernel), List.mem_of_getElem? (i := 425) (by decide +kernel)⟩
theorem lw_p12 : lw_okq (⟨"TextSolver", "waysIn", "(I)J"⟩, 13) := ⟨⟨by decide +kernel, by decide +kernel⟩, List.mem_of_getElem? (i := 15) (by decide +kernel), List.mem_of_getElem? (i := 428) (by decide +kernel), List.mem_of_getElem? (i := 429) (by decide +kernel)⟩
theorem lw_p13 : lw_okq (⟨"TextSolver", "isModel", "(II)Z"⟩, 13) := ⟨⟨by decide +kernel, by decide +kernel⟩, List.mem_of_getElem? (i := 15) (by decide +kernel), List.mem_of_getElem? (i := 445) (by decide +kernel), List.mem_of_getElem? (i := 446) (by decide +kernel)⟩
theorem lw_p14 : lw_okq (⟨"TextSolver$Judge", "termAt", "(I)LTextSolver$Term;"⟩, 7) := ⟨⟨by decide +kernel, by decide +kernel⟩, List.mem_of_getElem? (i := 88) (by decide +kernel), List.mem_of_getElem? (i := 477) (by decide +kernel), List.mem_of_getElem? (i := 478) (by decide +kernel)⟩
theorem lw_p15 : lw_okq (⟨"TextSolver$Row", "addLetter", "(I)V"⟩, 2) := ⟨⟨by decide +kernel, by decide +kernel⟩, List.mem_of_getElem? (i := 110) (by decide +kernel), List.mem_of_getElem? (i := 493) (by decide +kernel), List.mem_of_getElem? (i := 494) (by decide +kernel)⟩
def lw_privs_1 : List (MethodName × Nat) := [(⟨"TextSolver", "dropWays", "()V"⟩, 13), (⟨"TextSolver$Way", "layOut", "()V"⟩, 7), (⟨"TextSolver", "dropFindings", "()V"⟩, 13), (⟨"TextSolver$Space", "rowsUpTo", "(I)I"⟩, 4), (⟨"TextSolver", "isTerm", "(I)Z"⟩, 13), (⟨"TextSolver", "isMachine", "(I)Z"⟩, 13), (⟨"TextSolver", "dropFindingsOfMachine", "(I)V"⟩, 13), (⟨"TextSolver", "areOthersKnown", "(IIII)Z"⟩, 13), (⟨"TextSolver", "isFormula", "(I)Z"⟩, 13), (⟨"TextSolver", "takeInHand", "(I)I"⟩, 13), (⟨"TextSolver", "countingFormulas", "()I"⟩, 13), (⟨"TextSolver", "modelsIn", "(II)J"⟩, 13), (⟨"TextSolver", "waysIn", "(I)J"⟩, 13), (⟨"TextSolver", "isModel", "(II)Z"⟩, 13), (⟨"TextSolver$Judge", "termAt", "(I)LTextSolver$Term;"⟩, 7), (⟨"TextSolver$Row", "addLetter", "(I)V"⟩, 2)]
theorem lw_r1 : ∀ q ∈ lw_privs_1, lw_okq q := List.forall_mem_cons.mpr ⟨lw_p0, List.forall_mem_cons.mpr ⟨lw_p1, List.forall_mem_cons.mpr ⟨lw_p2, List.forall_mem_cons.mpr ⟨lw_p3, List.forall_mem_cons.mpr ⟨lw_p4, List.forall_mem_cons.mpr ⟨lw_p5, List.forall_mem_cons.mpr ⟨lw_p6, List.forall_mem_cons.mpr ⟨lw_p7, List.forall_mem_cons.mpr ⟨lw_p8, List.forall_mem_cons.mpr ⟨lw_p9, List.forall_mem_cons.mpr ⟨lw_p10, List.forall_mem_cons.mpr ⟨lw_p11, List.forall_mem_cons.mpr ⟨lw_p12, List.forall_mem_cons.mpr ⟨lw_p13, List.forall_mem_cons.mpr ⟨lw_p14, List.forall_mem_cons.mpr ⟨lw_p15, fun _ h => absurd h List.not_mem_nil⟩⟩⟩⟩⟩⟩⟩⟩⟩⟩⟩⟩⟩⟩⟩⟩
theorem lw_p16 : lw_okq (⟨"TextSolver$Row", "addRow", "([III)V"⟩, 2) := ⟨⟨by decide +kernel, by decide +kernel⟩, List.mem_of_getElem? (i := 110) (by decide +kernel), List.mem_of_getElem? (i := 497) (by decide +kernel), List.mem_of_getElem? (i := 498) (by decide +kernel)⟩
theorem lw_p17 : lw_okq (⟨"TextSolver$Row", "agrees", "(ILTextSolver$Row;II)Z"⟩, 2) := ⟨⟨by decide +kernel, by decide +kernel⟩, List.mem_of_getElem? (i := 110) (by decide +kernel), List.mem_of_getElem? (i := 506) (by decide +kernel), List.mem_of_getElem? (i := 507) (by decide +kernel)⟩
theorem lw_p18 : lw_okq (⟨"TextSolver$Judge", "machineAt", "(I)LTextSolver$Machine;"⟩, 7) := ⟨⟨by decide +kernel, by decide +kernel⟩, List.mem_of_getElem? (i := 88) (by decide +kernel), List.mem_of_getElem? (i := 510) (by decide +kernel), List.mem_of_getElem? (i := 511) (by decide +kernel)⟩
theorem lw_p19 : lw_okq (⟨"TextSolver", "hasModel", "(I)Z"⟩, 13) := ⟨⟨by decide +kernel, by decide +kernel⟩, List.mem_of_getElem? (i := 15) (by decide +kernel), List.mem_of_getElem? (i := 590) (by decide +kernel), List.mem_of_getElem? (i := 591) (by decide +kernel)⟩
theorem lw_p20 : lw_okq (⟨"TextSolver", "areLengthsFit", "()Z"⟩, 13) := ⟨⟨by decide +kernel, by decide +kernel⟩, List.mem_of_getElem? (i := 15) (by decide +kernel), List.mem_of_getElem? (i := 609) (by decide +kernel), List.mem_of_getElem? (i := 610) (by decide +kernel)⟩
theorem lw_p21 : lw_okq (⟨"TextSolver", "isLengthFit", "(LTextSolver$Formula;)Z"⟩, 13) := ⟨⟨by decide +kernel, by decide +kernel⟩, List.mem_of_getElem? (i := 15) (by decide +kernel), List.mem_of_getElem? (i := 613) (by decide +kernel), List.mem_of_getElem? (i := 614) (by decide +kernel)⟩
theorem lw_p22 : lw_okq (⟨"TextSolverModel", "changed", "()V"⟩, 32) := ⟨⟨by decide +kernel, by decide +kernel⟩, List.mem_of_getElem? (i := 632) (by decide +kernel), List.mem_of_getElem? (i := 743) (by decide +kernel), List.mem_of_getElem? (i := 744) (by decide +kernel)⟩
theorem lw_p23 : lw_okq (⟨"TextSolverModel", "isTerm", "(I)Z"⟩, 32) := ⟨⟨by decide +kernel, by decide +kernel⟩, List.mem_of_getElem? (i := 632) (by decide +kernel), List.mem_of_getElem? (i := 775) (by decide +kernel), List.mem_of_getElem? (i := 776) (by decide +kernel)⟩
theorem lw_p24 : lw_okq (⟨"TextSolverModel", "take", "(I)Z"⟩, 32) := ⟨⟨by decide +kernel, by decide +kernel⟩, List.mem_of_getElem? (i := 632) (by decide +kernel), List.mem_of_getElem? (i := 791) (by decide +kernel), List.mem_of_getElem? (i := 792) (by decide +kernel)⟩
theorem lw_p25 : lw_okq (⟨"TextSolverModel", "stayAll", "()V"⟩, 32) := ⟨⟨by decide +kernel, by decide +kernel⟩, List.mem_of_getElem? (i := 632) (by decide +kernel), List.mem_of_getElem? (i := 795) (by decide +kernel), List.mem_of_getElem? (i := 796) (by decide +kernel)⟩
theorem lw_p26 : lw_okq (⟨"TextSolverModel", "search", "(I)I"⟩, 32) := ⟨⟨by decide +kernel, by decide +kernel⟩, List.mem_of_getElem? (i := 632) (by decide +kernel), List.mem_of_getElem? (i := 799) (by decide +kernel), List.mem_of_getElem? (i := 800) (by decide +kernel)⟩
theorem lw_p27 : lw_okq (⟨"TextSolverModel", "first", "()V"⟩, 32) := ⟨⟨by decide +kernel, by decide +kernel⟩, List.mem_of_getElem? (i := 632) (by decide +kernel), List.mem_of_getElem? (i := 803) (by decide +kernel), List.mem_of_getElem? (i := 804) (by decide +kernel)⟩
theorem lw_p28 : lw_okq (⟨"TextSolverModel", "isModel", "()Z"⟩, 32) := ⟨⟨by decide +kernel, by decide +kernel⟩, List.mem_of_getElem? (i := 632) (by decide +kernel), List.mem_of_getElem? (i := 807) (by decide +kernel), List.mem_of_getElem? (i := 808) (by decide +kernel)⟩
theorem lw_p29 : lw_okq (⟨"TextSolverModel", "is", "(I)Z"⟩, 32) := ⟨⟨by decide +kernel, by decide +kernel⟩, List.mem_of_getElem? (i := 632) (by decide +kernel), List.mem_of_getElem? (i := 811) (by decide +kernel), List.mem_of_getElem? (i := 812) (by decide +kernel)⟩
theorem lw_p30 : lw_okq (⟨"TextSolverModel", "spell", "(II)V"⟩, 32) := ⟨⟨by decide +kernel, by decide +kernel⟩, List.mem_of_getElem? (i := 632) (by decide +kernel), List.mem_of_getElem? (i := 815) (by decide +kernel), List.mem_of_getElem? (i := 816) (by decide +kernel)⟩
theorem lw_p31 : lw_okq (⟨"TextSolverModel", "isSame", "()Z"⟩, 32) := ⟨⟨by decide +kernel, by decide +kernel⟩, List.mem_of_getElem? (i := 632) (by decide +kernel), List.mem_of_getElem? (i := 819) (by decide +kernel), List.mem_of_getElem? (i := 820) (by decide +kernel)⟩
def lw_privs_2 : List (MethodName × Nat) := [(⟨"TextSolver$Row", "addRow", "([III)V"⟩, 2), (⟨"TextSolver$Row", "agrees", "(ILTextSolver$Row;II)Z"⟩, 2), (⟨"TextSolver$Judge", "machineAt", "(I)LTextSolver$Machine;"⟩, 7), (⟨"TextSolver", "hasModel", "(I)Z"⟩, 13), (⟨"TextSolver", "areLengthsFit", "()Z"⟩, 13), (⟨"TextSolver", "isLengthFit", "(LTextSolver$Formula;)Z"⟩, 13), (⟨"TextSolverModel", "changed", "()V"⟩, 32), (⟨"TextSolverModel", "isTerm", "(I)Z"⟩, 32), (⟨"TextSolverModel", "take", "(I)Z"⟩, 32), (⟨"TextSolverModel", "stayAll", "()V"⟩, 32), (⟨"TextSolverModel", "search", "(I)I"⟩, 32), (⟨"TextSolverModel", "first", "()V"⟩, 32), (⟨"TextSolverModel", "isModel", "()Z"⟩, 32), (⟨"TextSolverModel", "is", "(I)Z"⟩, 32), (⟨"TextSolverModel", "spell", "(II)V"⟩, 32), (⟨"TextSolverModel", "isSame", "()Z"⟩, 32)]
theorem lw_r2 : ∀ q ∈ lw_privs_2, lw_okq q := List.forall_mem_cons.mpr ⟨lw_p16, List.forall_mem_cons.mpr ⟨lw_p17, List.forall_mem_cons.mpr ⟨lw_p18, List.forall_mem_cons.mpr ⟨lw_p19, List.forall_mem_cons.mpr ⟨lw_p20, List.forall_mem_cons.mpr ⟨lw_p21, List.forall_mem_cons.mpr ⟨lw_p22, List.forall_mem_cons.mpr ⟨lw_p23, List.forall_mem_cons.mpr ⟨lw_p24, List.forall_mem_cons.mpr ⟨lw_p25, List.forall_mem_cons.mpr ⟨lw_p26, List.forall_mem_cons.mpr ⟨lw_p27, List.forall_mem_cons.mpr ⟨lw_p28, List.forall_mem_cons.mpr ⟨lw_p29, List.forall_mem_cons.mpr ⟨lw_p30, List.forall_mem_cons.mpr ⟨lw_p31, fun _ h => absurd h List.not_mem_nil⟩⟩⟩⟩⟩⟩⟩⟩⟩⟩⟩⟩⟩⟩⟩⟩
theorem lw_p32 : lw_okq (⟨"TextSolverModel", "isTaken", "(II)Z"⟩, 32) := ⟨⟨by decide +kernel, by decide +kernel⟩, List.mem_of_getElem? (i := 632) (by decide +kernel), List.mem_of_getElem? (i := 823) (by decide +kernel), List.mem_of_getElem? (i := 824) (by decide +kernel)⟩
theorem lw_p33 : lw_okq (⟨"TextSolverModel", "isBefore", "()Z"⟩, 32) := ⟨⟨by decide +kernel, by decide +kernel⟩, List.mem_of_getElem? (i := 632) (by decide +kernel), List.mem_of_getElem? (i := 827) (by decide +kernel), List.mem_of_getElem? (i := 828) (by decide +kernel)⟩
theorem lw_p34 : lw_okq (⟨"TextSolverModel", "found", "(II)I"⟩, 32) := ⟨⟨by decide +kernel, by decide +kernel⟩, List.mem_of_getElem? (i := 632) (by decide +kernel), List.mem_of_getElem? (i := 831) (by decide +kernel), List.mem_of_getElem? (i := 832) (by decide +kernel)⟩
theorem lw_p35 : lw_okq (⟨"TextSolverModel", "isSum", "(II)Z"⟩, 32) := ⟨⟨by decide +kernel, by decide +kernel⟩, List.mem_of_getElem? (i := 632) (by decide +kernel), List.mem_of_getElem? (i := 835) (by decide +kernel), List.mem_of_getElem? (i := 836) (by decide +kernel)⟩
theorem lw_p36 : lw_okq (⟨"TextSolverModel", "isReplaced", "()Z"⟩, 32) := ⟨⟨by decide +kernel, by decide +kernel⟩, List.mem_of_getElem? (i := 632) (by decide +kernel), List.mem_of_getElem? (i := 839) (by decide +kernel), List.mem_of_getElem? (i := 840) (by decide +kernel)⟩
theorem lw_p37 : lw_okq (⟨"TextSolverModel", "make", "(III)V"⟩, 32) := ⟨⟨by decide +kernel, by decide +kernel⟩, List.mem_of_getElem? (i := 632) (by decide +kernel), List.mem_of_getElem? (i := 843) (by decide +kernel), List.mem_of_getElem? (i := 844) (by decide +kernel)⟩
theorem lw_p38 : lw_okq (⟨"TextSolverModel", "next", "()Z"⟩, 32) := ⟨⟨by decide +kernel, by decide +kernel⟩, List.mem_of_getElem? (i := 632) (by decide +kernel), List.mem_of_getElem? (i := 847) (by decide +kernel), List.mem_of_getElem? (i := 848) (by decide +kernel)⟩
theorem lw_p39 : lw_okq (⟨"TextSolverModel", "nextLetters", "()Z"⟩, 32) := ⟨⟨by decide +kernel, by decide +kernel⟩, List.mem_of_getElem? (i := 632) (by decide +kernel), List.mem_of_getElem? (i := 851) (by decide +kernel), List.mem_of_getElem? (i := 852) (by decide +kernel)⟩
theorem lw_p40 : lw_okq (⟨"TextSolverModel", "nextLengths", "()Z"⟩, 32) := ⟨⟨by decide +kernel, by decide +kernel⟩, List.mem_of_getElem? (i := 632) (by decide +kernel), List.mem_of_getElem? (i := 855) (by decide +kernel), List.mem_of_getElem? (i := 856) (by decide +kernel)⟩
theorem lw_p41 : lw_okq (⟨"TextSolverModel", "lengthOf", "(I)I"⟩, 32) := ⟨⟨by decide +kernel, by decide +kernel⟩, List.mem_of_getElem? (i := 632) (by decide +kernel), List.mem_of_getElem? (i := 891) (by decide +kernel), List.mem_of_getElem? (i := 892) (by decide +kernel)⟩
def lw_privs_3 : List (MethodName × Nat) := [(⟨"TextSolverModel", "isTaken", "(II)Z"⟩, 32), (⟨"TextSolverModel", "isBefore", "()Z"⟩, 32), (⟨"TextSolverModel", "found", "(II)I"⟩, 32), (⟨"TextSolverModel", "isSum", "(II)Z"⟩, 32), (⟨"TextSolverModel", "isReplaced", "()Z"⟩, 32), (⟨"TextSolverModel", "make", "(III)V"⟩, 32), (⟨"TextSolverModel", "next", "()Z"⟩, 32), (⟨"TextSolverModel", "nextLetters", "()Z"⟩, 32), (⟨"TextSolverModel", "nextLengths", "()Z"⟩, 32), (⟨"TextSolverModel", "lengthOf", "(I)I"⟩, 32)]
theorem lw_r3 : ∀ q ∈ lw_privs_3, lw_okq q := List.forall_mem_cons.mpr ⟨lw_p32, List.forall_mem_cons.mpr ⟨lw_p33, List.forall_mem_cons.mpr ⟨lw_p34, List.forall_mem_cons.mpr ⟨lw_p35, List.forall_mem_cons.mpr ⟨lw_p36, List.forall_mem_cons.mpr ⟨lw_p37, List.forall_mem_cons.mpr ⟨lw_p38, List.forall_mem_cons.mpr ⟨lw_p39, List.forall_mem_cons.mpr ⟨lw_p40, List.forall_mem_cons.mpr ⟨lw_p41, fun _ h => absurd h List.not_mem_nil⟩⟩⟩⟩⟩⟩⟩⟩⟩⟩
def lw_privs : List (MethodName × Nat) := lw_privs_1 ++ (lw_privs_2 ++ (lw_privs_3))
def lw_tbl : List Cond := k2_sels lw_privs ++ tables_1
theorem lw_privs_ok : ∀ q ∈ lw_privs, lw_okq q := by
  show ∀ q ∈ lw_privs_1 ++ (lw_privs_2 ++ (lw_privs_3)), lw_okq q
  exact List.forall_mem_append.mpr ⟨lw_r1, List.forall_mem_append.mpr ⟨lw_r2, lw_r3⟩⟩
end
section
/-! ===== BEGIN words of one list among another's, by their places ===== -/
theorem goodIn_r {big : List Cond} (ws : List Cond) (ps : List Nat) (hp : ws = ps.filterMap (fun i => big[i]?)) (h : ws.all goodWord = true) : GoodIn big ws := by
  intro w hw
  have h1 := List.all_eq_true.mp h w hw
  rw [hp] at hw
  obtain ⟨i, -, hi⟩ := List.mem_filterMap.mp hw
  have hm : w ∈ big := by first | exact List.mem_of_getElem? hi | exact List.getElem?_mem hi
  exact ⟨hm, good_of_word h1⟩
theorem goodIn_app {big a b : List Cond} (ha : GoodIn big a) (hb : GoodIn big b) : GoodIn big (a ++ b) := fun w h => (List.mem_append.mp h).elim (ha w) (hb w)
theorem goodIn_ca {big a b : List Cond} {c : Cond} (ha : GoodIn big (c :: a)) (hb : GoodIn big b) : GoodIn big (c :: (a ++ b)) := fun w h => (List.mem_cons.mp h).elim (fun e => ha w (List.mem_cons.mpr (Or.inl e))) (fun h => (List.mem_append.mp h).elim (fun h => ha w (List.mem_cons.mpr (Or.inr h))) (hb w))
theorem goodIn_sub {big ws : List Cond} (hm : ∀ w ∈ ws, w ∈ big) (h : ws.all goodWord = true) : GoodIn big ws := fun w hw => ⟨hm w hw, good_of_word (List.all_eq_true.mp h w hw)⟩
/-! ===== END ===== -/

/-! ===== BEGIN printed: names, fields, word lists, decode rows ===== -/
def RX0 : String := "TextSolver$Formula"
def TX0 : u_T := fun k => match k with
  | 0 => ("TextSolver$Formula", "judged", "[J", true)
  | 1 => ("TextSolver$Formula", "so", "[J", true)
  | 2 => ("TextSolver$Formula", "kind", "I", false)
  | 3 => ("TextSolver$Formula", "a", "I", false)
  | 4 => ("TextSolver$Formula", "b", "I", false)
  | 5 => ("TextSolver$Formula", "c", "I", false)
  | 6 => ("TextSolver$Formula", "d", "I", false)
  | 7 => ("TextSolver$Formula", "isDenied", "Z", false)
  | _ => ("TextSolver$Formula", "isLeftOut", "Z", false)
def tyX0 : Nat → FieldType := fun k => match k with
  | 0 => .array .long
  | 1 => .array .long
  | 2 => .int
  | 3 => .int
  | 4 => .int
  | 5 => .int
  | 6 => .int
  | 7 => .boolean
  | _ => .boolean
abbrev wsX00 : List Cond := u_ws RX0 TX0 9
theorem nmX0 : ∀ a, a < 9 → ∀ b, b < 9 → a ≠ b → (TX0 a).2.1 ≠ (TX0 b).2.1 := by decide +kernel
theorem tyX0_ok : ∀ k, k < 9 → parseFieldDescriptor (TX0 k).2.2.1 = some (tyX0 k) := by decide +kernel
abbrev cX0_init : ByteArray := prog_2_method_1_code
def yX0_init : MethodName := ⟨RX0, "<init>", "()V"⟩
abbrev cX0_restart : ByteArray := prog_2_method_2_code
def yX0_restart : MethodName := ⟨RX0, "restart", "(IIIII)V"⟩
abbrev cX0_forget : ByteArray := prog_2_method_3_code
def yX0_forget : MethodName := ⟨RX0, "forget", "()V"⟩
abbrev cX0_isJudged : ByteArray := prog_2_method_4_code
def yX0_isJudged : MethodName := ⟨RX0, "isJudged", "(I)Z"⟩
abbrev cX0_isSoIn : ByteArray := prog_2_method_5_code
def yX0_isSoIn : MethodName := ⟨RX0, "isSoIn", "(I)Z"⟩
abbrev cX0_isBit : ByteArray := prog_2_method_6_code
def yX0_isBit : MethodName := ⟨RX0, "isBit", "([JI)Z"⟩
abbrev cX0_keep : ByteArray := prog_2_method_7_code
def yX0_keep : MethodName := ⟨RX0, "keep", "(IZ)V"⟩
abbrev cX0_ruledOut : ByteArray := prog_2_method_8_code
def yX0_ruledOut : MethodName := ⟨RX0, "ruledOut", "(I)J"⟩
abbrev cX0_notJudged : ByteArray := prog_2_method_9_code
def yX0_notJudged : MethodName := ⟨RX0, "notJudged", "(I)J"⟩
abbrev cX0_hasSecondTerm : ByteArray := prog_2_method_10_code
def yX0_hasSecondTerm : MethodName := ⟨RX0, "hasSecondTerm", "()Z"⟩
abbrev cX0_isAboutTerm : ByteArray := prog_2_method_11_code
def yX0_isAboutTerm : MethodName := ⟨RX0, "isAboutTerm", "(I)Z"⟩
abbrev cX0_isAboutMachine : ByteArray := prog_2_method_12_code
def yX0_isAboutMachine : MethodName := ⟨RX0, "isAboutMachine", "(I)Z"⟩
def RX1 : String := "TextSolver$Judge"
def TX1 : u_T := fun k => match k with
  | 0 => ("TextSolver$Judge", "terms", "[LTextSolver$Term;", true)
  | 1 => ("TextSolver$Judge", "machines", "[LTextSolver$Machine;", true)
  | 2 => ("TextSolver$Judge", "nothing", "LTextSolver$Term;", true)
  | 3 => ("TextSolver$Judge", "a", "LTextSolver$Row;", true)
  | 4 => ("TextSolver$Judge", "b", "LTextSolver$Row;", true)
  | 5 => ("TextSolver$Judge", "c", "LTextSolver$Row;", true)
  | _ => ("TextSolver$Judge", "d", "LTextSolver$Row;", true)
def tyX1 : Nat → FieldType := fun k => match k with
  | 0 => .array (.object "TextSolver$Term")
  | 1 => .array (.object "TextSolver$Machine")
  | 2 => .object "TextSolver$Term"
  | 3 => .object "TextSolver$Row"
  | 4 => .object "TextSolver$Row"
  | 5 => .object "TextSolver$Row"
  | _ => .object "TextSolver$Row"
abbrev wsX10 : List Cond := u_ws RX1 TX1 7
theorem nmX1 : ∀ a, a < 7 → ∀ b, b < 7 → a ≠ b → (TX1 a).2.1 ≠ (TX1 b).2.1 := by decide +kernel
theorem tyX1_ok : ∀ k, k < 7 → parseFieldDescriptor (TX1 k).2.2.1 = some (tyX1 k) := by decide +kernel
abbrev cX1_init : ByteArray := prog_3_method_1_code
def yX1_init : MethodName := ⟨RX1, "<init>", "([LTextSolver$Term;[LTextSolver$Machine;)V"⟩
abbrev cX1_termAt : ByteArray := prog_3_method_2_code
def yX1_termAt : MethodName := ⟨RX1, "termAt", "(I)LTextSolver$Term;"⟩
abbrev cX1_machineAt : ByteArray := prog_3_method_3_code
def yX1_machineAt : MethodName := ⟨RX1, "machineAt", "(I)LTextSolver$Machine;"⟩
abbrev cX1_isLonger : ByteArray := prog_3_method_4_code
def yX1_isLonger : MethodName := ⟨RX1, "isLonger", "(LTextSolver$Formula;[I)Z"⟩
abbrev cX1_isOneLength : ByteArray := prog_3_method_5_code
def yX1_isOneLength : MethodName := ⟨RX1, "isOneLength", "(LTextSolver$Formula;[I)Z"⟩
abbrev cX1_isSo : ByteArray := prog_3_method_6_code
def yX1_isSo : MethodName := ⟨RX1, "isSo", "(LTextSolver$Formula;LTextSolver$Way;)Z"⟩
def RX2 : String := "TextSolver$Machine"
def TX2 : u_T := fun k => match k with
  | 0 => ("TextSolver$Machine", "steps", "[I", true)
  | 1 => ("TextSolver$Machine", "states", "I", false)
  | _ => ("TextSolver$Machine", "goodStates", "I", false)
def tyX2 : Nat → FieldType := fun k => match k with
  | 0 => .array .int
  | 1 => .int
  | _ => .int
abbrev wsX20 : List Cond := u_ws RX2 TX2 3
theorem nmX2 : ∀ a, a < 3 → ∀ b, b < 3 → a ≠ b → (TX2 a).2.1 ≠ (TX2 b).2.1 := by decide +kernel
theorem tyX2_ok : ∀ k, k < 3 → parseFieldDescriptor (TX2 k).2.2.1 = some (tyX2 k) := by decide +kernel
abbrev cX2_init : ByteArray := prog_4_method_1_code
def yX2_init : MethodName := ⟨RX2, "<init>", "()V"⟩
abbrev cX2_restart : ByteArray := prog_4_method_2_code
def yX2_restart : MethodName := ⟨RX2, "restart", "(I)V"⟩
abbrev cX2_isState : ByteArray := prog_4_method_3_code
def yX2_isState : MethodName := ⟨RX2, "isState", "(I)Z"⟩
abbrev cX2_next : ByteArray := prog_4_method_4_code
def yX2_next : MethodName := ⟨RX2, "next", "(II)I"⟩
abbrev cX2_lead : ByteArray := prog_4_method_5_code
def yX2_lead : MethodName := ⟨RX2, "lead", "(III)V"⟩
abbrev cX2_isGood : ByteArray := prog_4_method_6_code
def yX2_isGood : MethodName := ⟨RX2, "isGood", "(I)Z"⟩
abbrev cX2_setGood : ByteArray := prog_4_method_7_code
def yX2_setGood : MethodName := ⟨RX2, "setGood", "(IZ)V"⟩
abbrev cX2_takes : ByteArray := prog_4_method_8_code
def yX2_takes : MethodName := ⟨RX2, "takes", "(LTextSolver$Row;)Z"⟩
abbrev cX2_shortestWith : ByteArray := prog_4_method_9_code
def yX2_shortestWith : MethodName := ⟨RX2, "shortestWith", "(LTextSolver$Machine;I)I"⟩
def RX3 : String := "TextSolver$Row"
def TX3 : u_T := fun k => match k with
  | 0 => ("TextSolver$Row", "letters", "[I", true)
  | _ => ("TextSolver$Row", "size", "I", false)
def tyX3 : Nat → FieldType := fun k => match k with
  | 0 => .array .int
  | _ => .int
abbrev wsX30 : List Cond := u_ws RX3 TX3 2
theorem nmX3 : ∀ a, a < 2 → ∀ b, b < 2 → a ≠ b → (TX3 a).2.1 ≠ (TX3 b).2.1 := by decide +kernel
theorem tyX3_ok : ∀ k, k < 2 → parseFieldDescriptor (TX3 k).2.2.1 = some (tyX3 k) := by decide +kernel
abbrev cX3_init : ByteArray := prog_5_method_1_code
def yX3_init : MethodName := ⟨RX3, "<init>", "()V"⟩
abbrev cX3_write : ByteArray := prog_5_method_2_code
def yX3_write : MethodName := ⟨RX3, "write", "(LTextSolver$Term;LTextSolver$Way;)V"⟩
abbrev cX3_addLetter : ByteArray := prog_5_method_3_code
def yX3_addLetter : MethodName := ⟨RX3, "addLetter", "(I)V"⟩
abbrev cX3_addRow : ByteArray := prog_5_method_4_code
def yX3_addRow : MethodName := ⟨RX3, "addRow", "([III)V"⟩
abbrev cX3_agrees : ByteArray := prog_5_method_5_code
def yX3_agrees : MethodName := ⟨RX3, "agrees", "(ILTextSolver$Row;II)Z"⟩
abbrev cX3_isSame : ByteArray := prog_5_method_6_code
def yX3_isSame : MethodName := ⟨RX3, "isSame", "(LTextSolver$Row;)Z"⟩
abbrev cX3_placeOf : ByteArray := prog_5_method_7_code
def yX3_placeOf : MethodName := ⟨RX3, "placeOf", "(LTextSolver$Row;)I"⟩
abbrev cX3_isBefore : ByteArray := prog_5_method_8_code
def yX3_isBefore : MethodName := ⟨RX3, "isBefore", "(LTextSolver$Row;)Z"⟩
abbrev cX3_hasSum : ByteArray := prog_5_method_9_code
def yX3_hasSum : MethodName := ⟨RX3, "hasSum", "(II)Z"⟩
abbrev cX3_isReplaced : ByteArray := prog_5_method_10_code
def yX3_isReplaced : MethodName := ⟨RX3, "isReplaced", "(LTextSolver$Row;IILTextSolver$Row;)Z"⟩
def RX4 : String := "TextSolver$Space"
def TX4 : u_T := fun k => match k with
  | 0 => ("TextSolver$Space", "mosts", "[I", true)
  | 1 => ("TextSolver$Space", "letters", "I", false)
  | 2 => ("TextSolver$Space", "texts", "I", false)
  | _ => ("TextSolver$Space", "size", "I", false)
def tyX4 : Nat → FieldType := fun k => match k with
  | 0 => .array .int
  | 1 => .int
  | 2 => .int
  | _ => .int
abbrev wsX40 : List Cond := u_ws RX4 TX4 4
theorem nmX4 : ∀ a, a < 4 → ∀ b, b < 4 → a ≠ b → (TX4 a).2.1 ≠ (TX4 b).2.1 := by decide +kernel
theorem tyX4_ok : ∀ k, k < 4 → parseFieldDescriptor (TX4 k).2.2.1 = some (tyX4 k) := by decide +kernel
abbrev cX4_init : ByteArray := prog_6_method_1_code
def yX4_init : MethodName := ⟨RX4, "<init>", "()V"⟩
abbrev cX4_restart : ByteArray := prog_6_method_2_code
def yX4_restart : MethodName := ⟨RX4, "restart", "(I)V"⟩
abbrev cX4_isLetter : ByteArray := prog_6_method_3_code
def yX4_isLetter : MethodName := ⟨RX4, "isLetter", "(I)Z"⟩
abbrev cX4_isText : ByteArray := prog_6_method_4_code
def yX4_isText : MethodName := ⟨RX4, "isText", "(I)Z"⟩
abbrev cX4_hasRoomFor : ByteArray := prog_6_method_5_code
def yX4_hasRoomFor : MethodName := ⟨RX4, "hasRoomFor", "(I)Z"⟩
abbrev cX4_add : ByteArray := prog_6_method_6_code
def yX4_add : MethodName := ⟨RX4, "add", "(I)V"⟩
abbrev cX4_rowsUpTo : ByteArray := prog_6_method_7_code
def yX4_rowsUpTo : MethodName := ⟨RX4, "rowsUpTo", "(I)I"⟩
abbrev cX4_lengthWays : ByteArray := prog_6_method_8_code
def yX4_lengthWays : MethodName := ⟨RX4, "lengthWays", "()I"⟩
def RX5 : String := "TextSolver$Term"
def TX5 : u_T := fun k => match k with
  | 0 => ("TextSolver$Term", "parts", "[I", true)
  | _ => ("TextSolver$Term", "size", "I", false)
def tyX5 : Nat → FieldType := fun k => match k with
  | 0 => .array .int
  | _ => .int
abbrev wsX50 : List Cond := u_ws RX5 TX5 2
theorem nmX5 : ∀ a, a < 2 → ∀ b, b < 2 → a ≠ b → (TX5 a).2.1 ≠ (TX5 b).2.1 := by decide +kernel
theorem tyX5_ok : ∀ k, k < 2 → parseFieldDescriptor (TX5 k).2.2.1 = some (tyX5 k) := by decide +kernel
abbrev cX5_init : ByteArray := prog_7_method_1_code
def yX5_init : MethodName := ⟨RX5, "<init>", "()V"⟩
abbrev cX5_restart : ByteArray := prog_7_method_2_code
def yX5_restart : MethodName := ⟨RX5, "restart", "()V"⟩
abbrev cX5_add : ByteArray := prog_7_method_3_code
def yX5_add : MethodName := ⟨RX5, "add", "(I)Z"⟩
abbrev cX5_lengthWith : ByteArray := prog_7_method_4_code
def yX5_lengthWith : MethodName := ⟨RX5, "lengthWith", "([I)I"⟩
def RX6 : String := "TextSolver$Way"
def TX6 : u_T := fun k => match k with
  | 0 => ("TextSolver$Way", "space", "LTextSolver$Space;", true)
  | 1 => ("TextSolver$Way", "lengths", "[I", true)
  | 2 => ("TextSolver$Way", "starts", "[I", true)
  | 3 => ("TextSolver$Way", "row", "[I", true)
  | 4 => ("TextSolver$Way", "total", "I", false)
  | 5 => ("TextSolver$Way", "first", "I", false)
  | _ => ("TextSolver$Way", "count", "I", false)
def tyX6 : Nat → FieldType := fun k => match k with
  | 0 => .object "TextSolver$Space"
  | 1 => .array .int
  | 2 => .array .int
  | 3 => .array .int
  | 4 => .int
  | 5 => .int
  | _ => .int
abbrev wsX60 : List Cond := u_ws RX6 TX6 7
theorem nmX6 : ∀ a, a < 7 → ∀ b, b < 7 → a ≠ b → (TX6 a).2.1 ≠ (TX6 b).2.1 := by decide +kernel
theorem tyX6_ok : ∀ k, k < 7 → parseFieldDescriptor (TX6 k).2.2.1 = some (tyX6 k) := by decide +kernel
abbrev cX6_init : ByteArray := prog_8_method_1_code
def yX6_init : MethodName := ⟨RX6, "<init>", "(LTextSolver$Space;)V"⟩
abbrev cX6_restart : ByteArray := prog_8_method_2_code
def yX6_restart : MethodName := ⟨RX6, "restart", "()V"⟩
abbrev cX6_layOut : ByteArray := prog_8_method_3_code
def yX6_layOut : MethodName := ⟨RX6, "layOut", "()V"⟩
abbrev cX6_goToNextLengths : ByteArray := prog_8_method_4_code
def yX6_goToNextLengths : MethodName := ⟨RX6, "goToNextLengths", "()V"⟩
abbrev cX6_goTo : ByteArray := prog_8_method_5_code
def yX6_goTo : MethodName := ⟨RX6, "goTo", "(I)V"⟩
abbrev cX6_lengthOf : ByteArray := prog_8_method_6_code
def yX6_lengthOf : MethodName := ⟨RX6, "lengthOf", "(I)I"⟩
abbrev cX6_letterOf : ByteArray := prog_8_method_7_code
def yX6_letterOf : MethodName := ⟨RX6, "letterOf", "(II)I"⟩
def RX7 : String := "TextSolver"
def TX7 : u_T := fun k => match k with
  | 0 => ("TextSolver", "space", "LTextSolver$Space;", true)
  | 1 => ("TextSolver", "tried", "LTextSolver$Way;", true)
  | 2 => ("TextSolver", "atHand", "LTextSolver$Way;", true)
  | 3 => ("TextSolver", "terms", "[LTextSolver$Term;", true)
  | 4 => ("TextSolver", "machines", "[LTextSolver$Machine;", true)
  | 5 => ("TextSolver", "formulas", "[LTextSolver$Formula;", true)
  | 6 => ("TextSolver", "judge", "LTextSolver$Judge;", true)
  | 7 => ("TextSolver", "termCount", "I", false)
  | 8 => ("TextSolver", "machineCount", "I", false)
  | 9 => ("TextSolver", "formulaCount", "I", false)
  | 10 => ("TextSolver", "isModelAtHand", "Z", false)
  | 11 => ("TextSolver", "isCoreFound", "Z", false)
  | _ => ("TextSolver", "coreMembers", "I", false)
def tyX7 : Nat → FieldType := fun k => match k with
  | 0 => .object "TextSolver$Space"
  | 1 => .object "TextSolver$Way"
  | 2 => .object "TextSolver$Way"
  | 3 => .array (.object "TextSolver$Term")
  | 4 => .array (.object "TextSolver$Machine")
  | 5 => .array (.object "TextSolver$Formula")
  | 6 => .object "TextSolver$Judge"
  | 7 => .int
  | 8 => .int
  | 9 => .int
  | 10 => .boolean
  | 11 => .boolean
  | _ => .int
abbrev wsX70 : List Cond := u_ws RX7 TX7 13
theorem nmX7 : ∀ a, a < 13 → ∀ b, b < 13 → a ≠ b → (TX7 a).2.1 ≠ (TX7 b).2.1 := by decide +kernel
theorem tyX7_ok : ∀ k, k < 13 → parseFieldDescriptor (TX7 k).2.2.1 = some (tyX7 k) := by decide +kernel
abbrev cX7_init : ByteArray := prog_1_method_1_code
def yX7_init : MethodName := ⟨RX7, "<init>", "()V"⟩
abbrev cX7_clear : ByteArray := prog_1_method_2_code
def yX7_clear : MethodName := ⟨RX7, "clear", "(I)I"⟩
abbrev cX7_text : ByteArray := prog_1_method_3_code
def yX7_text : MethodName := ⟨RX7, "text", "(I)I"⟩
abbrev cX7_term : ByteArray := prog_1_method_4_code
def yX7_term : MethodName := ⟨RX7, "term", "()I"⟩
abbrev cX7_part : ByteArray := prog_1_method_5_code
def yX7_part : MethodName := ⟨RX7, "part", "(II)I"⟩
abbrev cX7_machine : ByteArray := prog_1_method_6_code
def yX7_machine : MethodName := ⟨RX7, "machine", "(I)I"⟩
abbrev cX7_step : ByteArray := prog_1_method_7_code
def yX7_step : MethodName := ⟨RX7, "step", "(IIII)I"⟩
abbrev cX7_good : ByteArray := prog_1_method_8_code
def yX7_good : MethodName := ⟨RX7, "good", "(IIZ)I"⟩
abbrev cX7_formula : ByteArray := prog_1_method_9_code
def yX7_formula : MethodName := ⟨RX7, "formula", "(IIIII)I"⟩
abbrev cX7_deny : ByteArray := prog_1_method_10_code
def yX7_deny : MethodName := ⟨RX7, "deny", "(IZ)I"⟩
abbrev cX7_leave : ByteArray := prog_1_method_11_code
def yX7_leave : MethodName := ⟨RX7, "leave", "(IZ)I"⟩
abbrev cX7_solve : ByteArray := prog_1_method_12_code
def yX7_solve : MethodName := ⟨RX7, "solve", "()I"⟩
abbrev cX7_model : ByteArray := prog_1_method_13_code
def yX7_model : MethodName := ⟨RX7, "model", "(I)I"⟩
abbrev cX7_models : ByteArray := prog_1_method_14_code
def yX7_models : MethodName := ⟨RX7, "models", "()I"⟩
abbrev cX7_length : ByteArray := prog_1_method_15_code
def yX7_length : MethodName := ⟨RX7, "length", "(I)I"⟩
abbrev cX7_letter : ByteArray := prog_1_method_16_code
def yX7_letter : MethodName := ⟨RX7, "letter", "(II)I"⟩
abbrev cX7_holds : ByteArray := prog_1_method_17_code
def yX7_holds : MethodName := ⟨RX7, "holds", "(I)I"⟩
abbrev cX7_core : ByteArray := prog_1_method_18_code
def yX7_core : MethodName := ⟨RX7, "core", "()I"⟩
abbrev cX7_inCore : ByteArray := prog_1_method_19_code
def yX7_inCore : MethodName := ⟨RX7, "inCore", "(I)I"⟩
abbrev cX7_spans : ByteArray := prog_1_method_20_code
def yX7_spans : MethodName := ⟨RX7, "spans", "()I"⟩
abbrev cX7_meet : ByteArray := prog_1_method_21_code
def yX7_meet : MethodName := ⟨RX7, "meet", "(II)I"⟩
abbrev cX7_told : ByteArray := prog_1_method_22_code
def yX7_told : MethodName := ⟨RX7, "told", "(I)I"⟩
abbrev cX7_asNumber : ByteArray := prog_1_method_23_code
def yX7_asNumber : MethodName := ⟨RX7, "asNumber", "(Z)I"⟩
abbrev cX7_isIn : ByteArray := prog_1_method_24_code
def yX7_isIn : MethodName := ⟨RX7, "isIn", "(II)Z"⟩
abbrev cX7_isTerm : ByteArray := prog_1_method_25_code
def yX7_isTerm : MethodName := ⟨RX7, "isTerm", "(I)Z"⟩
abbrev cX7_isMachine : ByteArray := prog_1_method_26_code
def yX7_isMachine : MethodName := ⟨RX7, "isMachine", "(I)Z"⟩
abbrev cX7_isFormula : ByteArray := prog_1_method_27_code
def yX7_isFormula : MethodName := ⟨RX7, "isFormula", "(I)Z"⟩
abbrev cX7_areOthersKnown : ByteArray := prog_1_method_28_code
def yX7_areOthersKnown : MethodName := ⟨RX7, "areOthersKnown", "(IIII)Z"⟩
abbrev cX7_areNumbersInside : ByteArray := prog_1_method_29_code
def yX7_areNumbersInside : MethodName := ⟨RX7, "areNumbersInside", "(III)Z"⟩
abbrev cX7_dropFindings : ByteArray := prog_1_method_30_code
def yX7_dropFindings : MethodName := ⟨RX7, "dropFindings", "()V"⟩
abbrev cX7_dropFindingsOfMachine : ByteArray := prog_1_method_31_code
def yX7_dropFindingsOfMachine : MethodName := ⟨RX7, "dropFindingsOfMachine", "(I)V"⟩
abbrev cX7_dropWays : ByteArray := prog_1_method_32_code
def yX7_dropWays : MethodName := ⟨RX7, "dropWays", "()V"⟩
abbrev cX7_takeInHand : ByteArray := prog_1_method_33_code
def yX7_takeInHand : MethodName := ⟨RX7, "takeInHand", "(I)I"⟩
abbrev cX7_countingFormulas : ByteArray := prog_1_method_34_code
def yX7_countingFormulas : MethodName := ⟨RX7, "countingFormulas", "()I"⟩
abbrev cX7_waysIn : ByteArray := prog_1_method_35_code
def yX7_waysIn : MethodName := ⟨RX7, "waysIn", "(I)J"⟩
abbrev cX7_modelsIn : ByteArray := prog_1_method_36_code
def yX7_modelsIn : MethodName := ⟨RX7, "modelsIn", "(II)J"⟩
abbrev cX7_isModel : ByteArray := prog_1_method_37_code
def yX7_isModel : MethodName := ⟨RX7, "isModel", "(II)Z"⟩
abbrev cX7_hasModel : ByteArray := prog_1_method_38_code
def yX7_hasModel : MethodName := ⟨RX7, "hasModel", "(I)Z"⟩
abbrev cX7_placeOfBit : ByteArray := prog_1_method_39_code
def yX7_placeOfBit : MethodName := ⟨RX7, "placeOfBit", "(JI)I"⟩
abbrev cX7_areLengthsFit : ByteArray := prog_1_method_40_code
def yX7_areLengthsFit : MethodName := ⟨RX7, "areLengthsFit", "()Z"⟩
abbrev cX7_isLengthFit : ByteArray := prog_1_method_41_code
def yX7_isLengthFit : MethodName := ⟨RX7, "isLengthFit", "(LTextSolver$Formula;)Z"⟩
def RX8 : String := "TextSolverModel"
def TX8 : u_T := fun k => match k with
  | 0 => ("TextSolverModel", "letters", "I", false)
  | 1 => ("TextSolverModel", "texts", "I", false)
  | 2 => ("TextSolverModel", "most", "[I", true)
  | 3 => ("TextSolverModel", "space", "I", false)
  | 4 => ("TextSolverModel", "terms", "I", false)
  | 5 => ("TextSolverModel", "parts", "[I", true)
  | 6 => ("TextSolverModel", "part", "[I", true)
  | 7 => ("TextSolverModel", "machines", "I", false)
  | 8 => ("TextSolverModel", "states", "[I", true)
  | 9 => ("TextSolverModel", "step", "[I", true)
  | 10 => ("TextSolverModel", "good", "[Z", true)
  | 11 => ("TextSolverModel", "formulas", "I", false)
  | 12 => ("TextSolverModel", "kind", "[I", true)
  | 13 => ("TextSolverModel", "a", "[I", true)
  | 14 => ("TextSolverModel", "b", "[I", true)
  | 15 => ("TextSolverModel", "c", "[I", true)
  | 16 => ("TextSolverModel", "d", "[I", true)
  | 17 => ("TextSolverModel", "denied", "[Z", true)
  | 18 => ("TextSolverModel", "out", "[Z", true)
  | 19 => ("TextSolverModel", "isAtHand", "Z", false)
  | 20 => ("TextSolverModel", "handLength", "[I", true)
  | 21 => ("TextSolverModel", "handLetter", "[I", true)
  | 22 => ("TextSolverModel", "isCore", "Z", false)
  | 23 => ("TextSolverModel", "core", "[Z", true)
  | 24 => ("TextSolverModel", "length", "[I", true)
  | 25 => ("TextSolverModel", "letter", "[I", true)
  | 26 => ("TextSolverModel", "row", "[I", true)
  | 27 => ("TextSolverModel", "many", "[I", true)
  | 28 => ("TextSolverModel", "made", "[I", true)
  | 29 => ("TextSolverModel", "madeMany", "I", false)
  | 30 => ("TextSolverModel", "gone", "[Z", true)
  | _ => ("TextSolverModel", "far", "[I", true)
def tyX8 : Nat → FieldType := fun k => match k with
  | 0 => .int
  | 1 => .int
  | 2 => .array .int
  | 3 => .int
  | 4 => .int
  | 5 => .array .int
  | 6 => .array .int
  | 7 => .int
  | 8 => .array .int
  | 9 => .array .int
  | 10 => .array .boolean
  | 11 => .int
  | 12 => .array .int
  | 13 => .array .int
  | 14 => .array .int
  | 15 => .array .int
  | 16 => .array .int
  | 17 => .array .boolean
  | 18 => .array .boolean
  | 19 => .boolean
  | 20 => .array .int
  | 21 => .array .int
  | 22 => .boolean
  | 23 => .array .boolean
  | 24 => .array .int
  | 25 => .array .int
  | 26 => .array .int
  | 27 => .array .int
  | 28 => .array .int
  | 29 => .int
  | 30 => .array .boolean
  | _ => .array .int
abbrev wsX80 : List Cond := u_ws RX8 TX8 32
theorem nmX8 : ∀ a, a < 32 → ∀ b, b < 32 → a ≠ b → (TX8 a).2.1 ≠ (TX8 b).2.1 := by decide +kernel
theorem tyX8_ok : ∀ k, k < 32 → parseFieldDescriptor (TX8 k).2.2.1 = some (tyX8 k) := by decide +kernel
abbrev cX8_init : ByteArray := prog_10_method_1_code
def yX8_init : MethodName := ⟨RX8, "<init>", "()V"⟩
abbrev cX8_in : ByteArray := prog_10_method_2_code
def yX8_in : MethodName := ⟨RX8, "in", "(III)Z"⟩
abbrev cX8_changed : ByteArray := prog_10_method_3_code
def yX8_changed : MethodName := ⟨RX8, "changed", "()V"⟩
abbrev cX8_clear : ByteArray := prog_10_method_4_code
def yX8_clear : MethodName := ⟨RX8, "clear", "(I)I"⟩
abbrev cX8_text : ByteArray := prog_10_method_5_code
def yX8_text : MethodName := ⟨RX8, "text", "(I)I"⟩
abbrev cX8_term : ByteArray := prog_10_method_6_code
def yX8_term : MethodName := ⟨RX8, "term", "()I"⟩
abbrev cX8_part : ByteArray := prog_10_method_7_code
def yX8_part : MethodName := ⟨RX8, "part", "(II)I"⟩
abbrev cX8_machine : ByteArray := prog_10_method_8_code
def yX8_machine : MethodName := ⟨RX8, "machine", "(I)I"⟩
abbrev cX8_step : ByteArray := prog_10_method_9_code
def yX8_step : MethodName := ⟨RX8, "step", "(IIII)I"⟩
abbrev cX8_good : ByteArray := prog_10_method_10_code
def yX8_good : MethodName := ⟨RX8, "good", "(IIZ)I"⟩
abbrev cX8_isTerm : ByteArray := prog_10_method_11_code
def yX8_isTerm : MethodName := ⟨RX8, "isTerm", "(I)Z"⟩
abbrev cX8_formula : ByteArray := prog_10_method_12_code
def yX8_formula : MethodName := ⟨RX8, "formula", "(IIIII)I"⟩
abbrev cX8_deny : ByteArray := prog_10_method_13_code
def yX8_deny : MethodName := ⟨RX8, "deny", "(IZ)I"⟩
abbrev cX8_leave : ByteArray := prog_10_method_14_code
def yX8_leave : MethodName := ⟨RX8, "leave", "(IZ)I"⟩
abbrev cX8_spell : ByteArray := prog_10_method_15_code
def yX8_spell : MethodName := ⟨RX8, "spell", "(II)V"⟩
abbrev cX8_found : ByteArray := prog_10_method_16_code
def yX8_found : MethodName := ⟨RX8, "found", "(II)I"⟩
abbrev cX8_isTaken : ByteArray := prog_10_method_17_code
def yX8_isTaken : MethodName := ⟨RX8, "isTaken", "(II)Z"⟩
abbrev cX8_make : ByteArray := prog_10_method_18_code
def yX8_make : MethodName := ⟨RX8, "make", "(III)V"⟩
abbrev cX8_isReplaced : ByteArray := prog_10_method_19_code
def yX8_isReplaced : MethodName := ⟨RX8, "isReplaced", "()Z"⟩
abbrev cX8_isSame : ByteArray := prog_10_method_20_code
def yX8_isSame : MethodName := ⟨RX8, "isSame", "()Z"⟩
abbrev cX8_isBefore : ByteArray := prog_10_method_21_code
def yX8_isBefore : MethodName := ⟨RX8, "isBefore", "()Z"⟩
abbrev cX8_isSum : ByteArray := prog_10_method_22_code
def yX8_isSum : MethodName := ⟨RX8, "isSum", "(II)Z"⟩
abbrev cX8_is : ByteArray := prog_10_method_23_code
def yX8_is : MethodName := ⟨RX8, "is", "(I)Z"⟩
abbrev cX8_first : ByteArray := prog_10_method_24_code
def yX8_first : MethodName := ⟨RX8, "first", "()V"⟩
abbrev cX8_nextLetters : ByteArray := prog_10_method_25_code
def yX8_nextLetters : MethodName := ⟨RX8, "nextLetters", "()Z"⟩
abbrev cX8_nextLengths : ByteArray := prog_10_method_26_code
def yX8_nextLengths : MethodName := ⟨RX8, "nextLengths", "()Z"⟩
abbrev cX8_next : ByteArray := prog_10_method_27_code
def yX8_next : MethodName := ⟨RX8, "next", "()Z"⟩
abbrev cX8_isModel : ByteArray := prog_10_method_28_code
def yX8_isModel : MethodName := ⟨RX8, "isModel", "()Z"⟩
abbrev cX8_search : ByteArray := prog_10_method_29_code
def yX8_search : MethodName := ⟨RX8, "search", "(I)I"⟩
abbrev cX8_stayAll : ByteArray := prog_10_method_30_code
def yX8_stayAll : MethodName := ⟨RX8, "stayAll", "()V"⟩
abbrev cX8_take : ByteArray := prog_10_method_31_code
def yX8_take : MethodName := ⟨RX8, "take", "(I)Z"⟩
abbrev cX8_solve : ByteArray := prog_10_method_32_code
def yX8_solve : MethodName := ⟨RX8, "solve", "()I"⟩
abbrev cX8_model : ByteArray := prog_10_method_33_code
def yX8_model : MethodName := ⟨RX8, "model", "(I)I"⟩
abbrev cX8_models : ByteArray := prog_10_method_34_code
def yX8_models : MethodName := ⟨RX8, "models", "()I"⟩
abbrev cX8_length : ByteArray := prog_10_method_35_code
def yX8_length : MethodName := ⟨RX8, "length", "(I)I"⟩
abbrev cX8_letter : ByteArray := prog_10_method_36_code
def yX8_letter : MethodName := ⟨RX8, "letter", "(II)I"⟩
abbrev cX8_holds : ByteArray := prog_10_method_37_code
def yX8_holds : MethodName := ⟨RX8, "holds", "(I)I"⟩
abbrev cX8_core : ByteArray := prog_10_method_38_code
def yX8_core : MethodName := ⟨RX8, "core", "()I"⟩
abbrev cX8_inCore : ByteArray := prog_10_method_39_code
def yX8_inCore : MethodName := ⟨RX8, "inCore", "(I)I"⟩
abbrev cX8_lengthOf : ByteArray := prog_10_method_40_code
def yX8_lengthOf : MethodName := ⟨RX8, "lengthOf", "(I)I"⟩
abbrev cX8_spans : ByteArray := prog_10_method_41_code
def yX8_spans : MethodName := ⟨RX8, "spans", "()I"⟩
abbrev cX8_meet : ByteArray := prog_10_method_42_code
def yX8_meet : MethodName := ⟨RX8, "meet", "(II)I"⟩
abbrev cX8_told : ByteArray := prog_10_method_43_code
def yX8_told : MethodName := ⟨RX8, "told", "(I)I"⟩
def RJ6 : String := "java/lang/Integer"
def TJ6 : u_T := fun k => match k with
  | _ => ("", "", "", false)
def tyJ6 : Nat → FieldType := fun k => match k with
  | _ => .int
abbrev wsJ60 : List Cond := u_ws RJ6 TJ6 0
theorem nmJ6 : ∀ a, a < 0 → ∀ b, b < 0 → a ≠ b → (TJ6 a).2.1 ≠ (TJ6 b).2.1 := by decide +kernel
theorem tyJ6_ok : ∀ k, k < 0 → parseFieldDescriptor (TJ6 k).2.2.1 = some (tyJ6 k) := by decide +kernel
abbrev cJ6_bitCount_0f7a4 : ByteArray := prog_11_method_49_code
def yJ6_bitCount_0f7a4 : MethodName := ⟨RJ6, "bitCount", "(I)I"⟩
def RJ13 : String := "java/lang/Long"
def TJ13 : u_T := fun k => match k with
  | _ => ("", "", "", false)
def tyJ13 : Nat → FieldType := fun k => match k with
  | _ => .int
abbrev wsJ130 : List Cond := u_ws RJ13 TJ13 0
theorem nmJ13 : ∀ a, a < 0 → ∀ b, b < 0 → a ≠ b → (TJ13 a).2.1 ≠ (TJ13 b).2.1 := by decide +kernel
theorem tyJ13_ok : ∀ k, k < 0 → parseFieldDescriptor (TJ13 k).2.2.1 = some (tyJ13 k) := by decide +kernel
abbrev cJ13_bitCount_95d88 : ByteArray := prog_12_method_50_code
def yJ13_bitCount_95d88 : MethodName := ⟨RJ13, "bitCount", "(J)I"⟩
def RJ9 : String := "java/lang/Math"
def TJ9 : u_T := fun k => match k with
  | _ => ("", "", "", false)
def tyJ9 : Nat → FieldType := fun k => match k with
  | _ => .int
abbrev wsJ90 : List Cond := u_ws RJ9 TJ9 0
theorem nmJ9 : ∀ a, a < 0 → ∀ b, b < 0 → a ≠ b → (TJ9 a).2.1 ≠ (TJ9 b).2.1 := by decide +kernel
theorem tyJ9_ok : ∀ k, k < 0 → parseFieldDescriptor (TJ9 k).2.2.1 = some (tyJ9 k) := by decide +kernel
abbrev cJ9_floorMod_7cf53 : ByteArray := prog_13_method_50_code
def yJ9_floorMod_7cf53 : MethodName := ⟨RJ9, "floorMod", "(II)I"⟩
def RJ7 : String := "java/util/Arrays"
def TJ7 : u_T := fun k => match k with
  | _ => ("", "", "", false)
def tyJ7 : Nat → FieldType := fun k => match k with
  | _ => .int
abbrev wsJ70 : List Cond := u_ws RJ7 TJ7 0
theorem nmJ7 : ∀ a, a < 0 → ∀ b, b < 0 → a ≠ b → (TJ7 a).2.1 ≠ (TJ7 b).2.1 := by decide +kernel
theorem tyJ7_ok : ∀ k, k < 0 → parseFieldDescriptor (TJ7 k).2.2.1 = some (tyJ7 k) := by decide +kernel
abbrev cJ7_fill_d0a16 : ByteArray := prog_14_method_101_code
def yJ7_fill_d0a16 : MethodName := ⟨RJ7, "fill", "([JJ)V"⟩
abbrev cJ7_fill_53178 : ByteArray := prog_14_method_103_code
def yJ7_fill_53178 : MethodName := ⟨RJ7, "fill", "([II)V"⟩
def RL : String := "TextSolverLaw"
abbrev cL_law : ByteArray := code
def yL_law : MethodName := ⟨RL, "law", "([I)Z"⟩
abbrev vwCl : List vw_C := [(RX0, TX0, 9), (RX1, TX1, 7), (RX2, TX2, 3), (RX3, TX3, 2), (RX4, TX4, 4), (RX5, TX5, 2), (RX6, TX6, 7), (RX7, TX7, 13), (RX8, TX8, 32)]
end
section
/-! methods: class, code, locals, answer, whether a constructor -/
abbrev zM : Type := String × ByteArray × Nat × Option FieldType × Bool
def zown (M : zM) : String := M.1
def zcc (M : zM) : ByteArray := M.2.1
def znl (M : zM) : Nat := M.2.2.1
def zret (M : zM) : Option FieldType := M.2.2.2.1
def zini (M : zM) : Bool := M.2.2.2.2
def mX0_init : zM := (RX0, cX0_init, 1, none, true)
def mJ7_fill_d0a16 : zM := (RJ7, cJ7_fill_d0a16, 5, none, false)
def mX0_forget : zM := (RX0, cX0_forget, 1, none, false)
def mX0_restart : zM := (RX0, cX0_restart, 6, none, false)
def mX0_isBit : zM := (RX0, cX0_isBit, 3, (some .boolean), false)
def mX0_isJudged : zM := (RX0, cX0_isJudged, 2, (some .boolean), false)
def mX0_isSoIn : zM := (RX0, cX0_isSoIn, 2, (some .boolean), false)
def mX0_keep : zM := (RX0, cX0_keep, 4, none, false)
def mX0_ruledOut : zM := (RX0, cX0_ruledOut, 2, (some .long), false)
def mX0_notJudged : zM := (RX0, cX0_notJudged, 2, (some .long), false)
def mX0_hasSecondTerm : zM := (RX0, cX0_hasSecondTerm, 1, (some .boolean), false)
def mX0_isAboutTerm : zM := (RX0, cX0_isAboutTerm, 2, (some .boolean), false)
def mX0_isAboutMachine : zM := (RX0, cX0_isAboutMachine, 2, (some .boolean), false)
def mX5_init : zM := (RX5, cX5_init, 1, none, true)
def mX3_init : zM := (RX3, cX3_init, 1, none, true)
def mX1_init : zM := (RX1, cX1_init, 3, none, true)
def mX1_termAt : zM := (RX1, cX1_termAt, 2, (some (.object "TextSolver$Term")), false)
def mX1_machineAt : zM := (RX1, cX1_machineAt, 2, (some (.object "TextSolver$Machine")), false)
def mX5_lengthWith : zM := (RX5, cX5_lengthWith, 5, (some .int), false)
def mX1_isLonger : zM := (RX1, cX1_isLonger, 4, (some .boolean), false)
def mX1_isOneLength : zM := (RX1, cX1_isOneLength, 3, (some .boolean), false)
def mX3_addLetter : zM := (RX3, cX3_addLetter, 2, none, false)
def mX3_addRow : zM := (RX3, cX3_addRow, 5, none, false)
def mX3_write : zM := (RX3, cX3_write, 5, none, false)
def mX3_agrees : zM := (RX3, cX3_agrees, 6, (some .boolean), false)
def mX3_isSame : zM := (RX3, cX3_isSame, 2, (some .boolean), false)
def mX2_next : zM := (RX2, cX2_next, 4, (some .int), false)
def mX2_isGood : zM := (RX2, cX2_isGood, 2, (some .boolean), false)
def mX2_takes : zM := (RX2, cX2_takes, 4, (some .boolean), false)
def mX3_isBefore : zM := (RX3, cX3_isBefore, 3, (some .boolean), false)
def mX3_placeOf : zM := (RX3, cX3_placeOf, 3, (some .int), false)
def mJ9_floorMod_7cf53 : zM := (RJ9, cJ9_floorMod_7cf53, 3, (some .int), false)
def mX3_hasSum : zM := (RX3, cX3_hasSum, 5, (some .boolean), false)
def mX3_isReplaced : zM := (RX3, cX3_isReplaced, 6, (some .boolean), false)
def mX1_isSo : zM := (RX1, cX1_isSo, 5, (some .boolean), false)
def mX2_init : zM := (RX2, cX2_init, 1, none, true)
def mJ7_fill_53178 : zM := (RJ7, cJ7_fill_53178, 4, none, false)
def mX2_restart : zM := (RX2, cX2_restart, 2, none, false)
def mX2_isState : zM := (RX2, cX2_isState, 2, (some .boolean), false)
def mX2_lead : zM := (RX2, cX2_lead, 5, none, false)
def mX2_setGood : zM := (RX2, cX2_setGood, 3, none, false)
def mX2_shortestWith : zM := (RX2, cX2_shortestWith, 12, (some .int), false)
def mX4_init : zM := (RX4, cX4_init, 1, none, true)
def mX4_restart : zM := (RX4, cX4_restart, 2, none, false)
def mX4_isLetter : zM := (RX4, cX4_isLetter, 2, (some .boolean), false)
def mX4_isText : zM := (RX4, cX4_isText, 2, (some .boolean), false)
def mX4_rowsUpTo : zM := (RX4, cX4_rowsUpTo, 5, (some .int), false)
def mX4_hasRoomFor : zM := (RX4, cX4_hasRoomFor, 2, (some .boolean), false)
def mX4_add : zM := (RX4, cX4_add, 2, none, false)
def mX4_lengthWays : zM := (RX4, cX4_lengthWays, 3, (some .int), false)
def mX5_restart : zM := (RX5, cX5_restart, 1, none, false)
def mX5_add : zM := (RX5, cX5_add, 2, (some .boolean), false)
def mX6_init : zM := (RX6, cX6_init, 2, none, true)
def mX6_layOut : zM := (RX6, cX6_layOut, 2, none, false)
def mX6_restart : zM := (RX6, cX6_restart, 1, none, false)
def mX6_goToNextLengths : zM := (RX6, cX6_goToNextLengths, 2, none, false)
def mX6_goTo : zM := (RX6, cX6_goTo, 4, none, false)
def mX6_lengthOf : zM := (RX6, cX6_lengthOf, 2, (some .int), false)
def mX6_letterOf : zM := (RX6, cX6_letterOf, 3, (some .int), false)
def mX7_init : zM := (RX7, cX7_init, 2, none, true)
def mX7_dropWays : zM := (RX7, cX7_dropWays, 2, none, false)
def mX7_dropFindings : zM := (RX7, cX7_dropFindings, 1, none, false)
def mX7_clear : zM := (RX7, cX7_clear, 3, (some .int), false)
def mX7_text : zM := (RX7, cX7_text, 2, (some .int), false)
def mX7_term : zM := (RX7, cX7_term, 1, (some .int), false)
def mX7_isTerm : zM := (RX7, cX7_isTerm, 2, (some .boolean), false)
def mX7_part : zM := (RX7, cX7_part, 4, (some .int), false)
def mX7_machine : zM := (RX7, cX7_machine, 2, (some .int), false)
def mX7_isMachine : zM := (RX7, cX7_isMachine, 2, (some .boolean), false)
def mX7_dropFindingsOfMachine : zM := (RX7, cX7_dropFindingsOfMachine, 3, none, false)
def mX7_step : zM := (RX7, cX7_step, 7, (some .int), false)
def mX7_asNumber : zM := (RX7, cX7_asNumber, 1, (some .int), false)
def mX7_good : zM := (RX7, cX7_good, 6, (some .int), false)
def mX7_areOthersKnown : zM := (RX7, cX7_areOthersKnown, 5, (some .boolean), false)
def mX7_areNumbersInside : zM := (RX7, cX7_areNumbersInside, 3, (some .boolean), false)
def mX7_formula : zM := (RX7, cX7_formula, 6, (some .int), false)
def mX7_isFormula : zM := (RX7, cX7_isFormula, 2, (some .boolean), false)
def mX7_deny : zM := (RX7, cX7_deny, 4, (some .int), false)
def mX7_leave : zM := (RX7, cX7_leave, 4, (some .int), false)
def mX7_countingFormulas : zM := (RX7, cX7_countingFormulas, 3, (some .int), false)
def mX7_waysIn : zM := (RX7, cX7_waysIn, 3, (some .long), false)
def mX7_isIn : zM := (RX7, cX7_isIn, 2, (some .boolean), false)
def mX7_isModel : zM := (RX7, cX7_isModel, 5, (some .boolean), false)
def mX7_modelsIn : zM := (RX7, cX7_modelsIn, 8, (some .long), false)
def mJ13_bitCount_95d88 : zM := (RJ13, cJ13_bitCount_95d88, 2, (some .int), false)
def mX7_placeOfBit : zM := (RX7, cX7_placeOfBit, 7, (some .int), false)
def mX7_takeInHand : zM := (RX7, cX7_takeInHand, 8, (some .int), false)
def mX7_solve : zM := (RX7, cX7_solve, 1, (some .int), false)
def mX7_model : zM := (RX7, cX7_model, 2, (some .int), false)
def mX7_models : zM := (RX7, cX7_models, 4, (some .int), false)
def mX7_length : zM := (RX7, cX7_length, 2, (some .int), false)
def mX7_letter : zM := (RX7, cX7_letter, 3, (some .int), false)
def mX7_holds : zM := (RX7, cX7_holds, 2, (some .int), false)
def mX7_hasModel : zM := (RX7, cX7_hasModel, 3, (some .boolean), false)
def mJ6_bitCount_0f7a4 : zM := (RJ6, cJ6_bitCount_0f7a4, 1, (some .int), false)
def mX7_core : zM := (RX7, cX7_core, 4, (some .int), false)
def mX7_inCore : zM := (RX7, cX7_inCore, 2, (some .int), false)
def mX7_isLengthFit : zM := (RX7, cX7_isLengthFit, 2, (some .boolean), false)
def mX7_areLengthsFit : zM := (RX7, cX7_areLengthsFit, 3, (some .boolean), false)
def mX7_spans : zM := (RX7, cX7_spans, 4, (some .int), false)
def mX7_meet : zM := (RX7, cX7_meet, 3, (some .int), false)
def mX7_told : zM := (RX7, cX7_told, 2, (some .int), false)
def mX8_init : zM := (RX8, cX8_init, 1, none, true)
def mX8_in : zM := (RX8, cX8_in, 3, (some .boolean), false)
def mX8_changed : zM := (RX8, cX8_changed, 1, none, false)
def mX8_clear : zM := (RX8, cX8_clear, 3, (some .int), false)
def mX8_text : zM := (RX8, cX8_text, 5, (some .int), false)
def mX8_term : zM := (RX8, cX8_term, 1, (some .int), false)
def mX8_part : zM := (RX8, cX8_part, 3, (some .int), false)
def mX8_machine : zM := (RX8, cX8_machine, 3, (some .int), false)
def mX8_step : zM := (RX8, cX8_step, 7, (some .int), false)
def mX8_good : zM := (RX8, cX8_good, 5, (some .int), false)
def mX8_isTerm : zM := (RX8, cX8_isTerm, 2, (some .boolean), false)
def mX8_formula : zM := (RX8, cX8_formula, 8, (some .int), false)
def mX8_deny : zM := (RX8, cX8_deny, 4, (some .int), false)
def mX8_leave : zM := (RX8, cX8_leave, 4, (some .int), false)
def mX8_spell : zM := (RX8, cX8_spell, 7, none, false)
def mX8_found : zM := (RX8, cX8_found, 6, (some .int), false)
def mX8_isTaken : zM := (RX8, cX8_isTaken, 5, (some .boolean), false)
def mX8_make : zM := (RX8, cX8_make, 5, none, false)
def mX8_isReplaced : zM := (RX8, cX8_isReplaced, 4, (some .boolean), false)
def mX8_isSame : zM := (RX8, cX8_isSame, 3, (some .boolean), false)
def mX8_isBefore : zM := (RX8, cX8_isBefore, 2, (some .boolean), false)
def mX8_isSum : zM := (RX8, cX8_isSum, 6, (some .boolean), false)
def mX8_is : zM := (RX8, cX8_is, 2, (some .boolean), false)
def mX8_first : zM := (RX8, cX8_first, 2, none, false)
def mX8_nextLetters : zM := (RX8, cX8_nextLetters, 3, (some .boolean), false)
def mX8_nextLengths : zM := (RX8, cX8_nextLengths, 2, (some .boolean), false)
def mX8_next : zM := (RX8, cX8_next, 1, (some .boolean), false)
def mX8_isModel : zM := (RX8, cX8_isModel, 2, (some .boolean), false)
def mX8_search : zM := (RX8, cX8_search, 4, (some .int), false)
def mX8_stayAll : zM := (RX8, cX8_stayAll, 2, none, false)
def mX8_take : zM := (RX8, cX8_take, 3, (some .boolean), false)
def mX8_solve : zM := (RX8, cX8_solve, 1, (some .int), false)
def mX8_model : zM := (RX8, cX8_model, 2, (some .int), false)
def mX8_models : zM := (RX8, cX8_models, 1, (some .int), false)
def mX8_length : zM := (RX8, cX8_length, 2, (some .int), false)
def mX8_letter : zM := (RX8, cX8_letter, 3, (some .int), false)
def mX8_holds : zM := (RX8, cX8_holds, 3, (some .int), false)
def mX8_core : zM := (RX8, cX8_core, 3, (some .int), false)
def mX8_inCore : zM := (RX8, cX8_inCore, 2, (some .int), false)
def mX8_lengthOf : zM := (RX8, cX8_lengthOf, 5, (some .int), false)
def mX8_spans : zM := (RX8, cX8_spans, 6, (some .int), false)
def mX8_meet : zM := (RX8, cX8_meet, 7, (some .int), false)
def mX8_told : zM := (RX8, cX8_told, 2, (some .int), false)
def mL_law : zM := (RL, cL_law, 4, (some .boolean), false)
end
section
/-! the tables' words that are good, and each by its place -/
def TB : List Cond := lw_tbl.filter goodWord
theorem TB_in {w : Cond} (h : w ∈ TB) : w ∈ lw_tbl := (List.mem_filter.mp h).1
theorem tb_1 {w : Cond} (i : Nat) (h : tables_1_1[i]? = some w) (hg : goodWord w = true) : w ∈ TB := List.mem_filter.mpr ⟨List.mem_append_right _ (List.mem_append_left _ (List.mem_of_getElem? h)), hg⟩
theorem tb_2 {w : Cond} (i : Nat) (h : tables_1_2[i]? = some w) (hg : goodWord w = true) : w ∈ TB := List.mem_filter.mpr ⟨List.mem_append_right _ (List.mem_append_right _ (List.mem_append_left _ (List.mem_of_getElem? h))), hg⟩
theorem tb_3 {w : Cond} (i : Nat) (h : tables_1_3[i]? = some w) (hg : goodWord w = true) : w ∈ TB := List.mem_filter.mpr ⟨List.mem_append_right _ (List.mem_append_right _ (List.mem_append_right _ (List.mem_append_left _ (List.mem_of_getElem? h)))), hg⟩
theorem tb_4 {w : Cond} (i : Nat) (h : tables_1_4[i]? = some w) (hg : goodWord w = true) : w ∈ TB := List.mem_filter.mpr ⟨List.mem_append_right _ (List.mem_append_right _ (List.mem_append_right _ (List.mem_append_right _ (List.mem_of_getElem? h)))), hg⟩
theorem tp_1 {q : MethodName × Nat} (i : Nat) (h : lw_privs_1[i]? = some q) : Cond.selects q.1.cls q.1 q.1 ∈ TB := List.mem_filter.mpr ⟨List.mem_append_left _ (List.mem_map.mpr ⟨q, List.mem_append_left _ (List.mem_of_getElem? h), rfl⟩), rfl⟩
theorem tp_2 {q : MethodName × Nat} (i : Nat) (h : lw_privs_2[i]? = some q) : Cond.selects q.1.cls q.1 q.1 ∈ TB := List.mem_filter.mpr ⟨List.mem_append_left _ (List.mem_map.mpr ⟨q, List.mem_append_right _ (List.mem_append_left _ (List.mem_of_getElem? h)), rfl⟩), rfl⟩
theorem tp_3 {q : MethodName × Nat} (i : Nat) (h : lw_privs_3[i]? = some q) : Cond.selects q.1.cls q.1 q.1 ∈ TB := List.mem_filter.mpr ⟨List.mem_append_left _ (List.mem_map.mpr ⟨q, List.mem_append_right _ (List.mem_append_right _ (List.mem_of_getElem? h)), rfl⟩), rfl⟩
theorem cl_L_7 : Cond.classLink RL 7 RX7 ∈ TB := tb_1 14 rfl rfl
theorem it_RX7 : Cond.instantiable RX7 13 ∈ TB := tb_1 15 rfl rfl
theorem in_RX7 : Cond.initialized RX7 ∈ TB := tb_1 1 rfl rfl
theorem cl_L_10 : Cond.classLink RL 10 RX8 ∈ TB := tb_3 151 rfl rfl
theorem it_RX8 : Cond.instantiable RX8 32 ∈ TB := tb_3 152 rfl rfl
theorem in_RX8 : Cond.initialized RX8 ∈ TB := tb_1 9 rfl rfl
theorem ml_L_9 : Cond.methodLink RL 9 yX7_init ∈ TB := tb_1 16 rfl rfl
theorem im_yX7_init : Cond.instanceMethod yX7_init ∈ TB := tb_1 17 rfl rfl
theorem co_yX7_init : Cond.code yX7_init cX7_init 2 none ∈ TB := tb_1 18 rfl rfl
theorem ml_X7_3 : Cond.methodLink RX7 3 objectInit ∈ TB := tb_1 19 rfl rfl
theorem im_objectInit : Cond.instanceMethod objectInit ∈ TB := tb_1 20 rfl rfl
theorem co_objectInit : Cond.code objectInit ⟨#[0xb1]⟩ 1 none ∈ TB := tb_1 21 rfl rfl
theorem cl_X7_9 : Cond.classLink RX7 9 RX4 ∈ TB := tb_1 22 rfl rfl
theorem it_RX4 : Cond.instantiable RX4 4 ∈ TB := tb_1 23 rfl rfl
theorem in_RX4 : Cond.initialized RX4 ∈ TB := tb_1 2 rfl rfl
theorem fl_X7_12 : Cond.fieldLink RX7 12 "TextSolver" "space" "LTextSolver$Space;" ∈ TB := tb_1 205 rfl rfl
theorem cl_X7_16 : Cond.classLink RX7 16 RX6 ∈ TB := tb_1 48 rfl rfl
theorem it_RX6 : Cond.instantiable RX6 7 ∈ TB := tb_1 49 rfl rfl
theorem in_RX6 : Cond.initialized RX6 ∈ TB := tb_1 3 rfl rfl
theorem fl_X7_21 : Cond.fieldLink RX7 21 "TextSolver" "tried" "LTextSolver$Way;" ∈ TB := tb_1 206 rfl rfl
theorem fl_X7_25 : Cond.fieldLink RX7 25 "TextSolver" "atHand" "LTextSolver$Way;" ∈ TB := tb_1 207 rfl rfl
theorem cl_X7_28 : Cond.classLink RX7 28 RX5 ∈ TB := tb_1 81 rfl rfl
theorem fl_X7_30 : Cond.fieldLink RX7 30 "TextSolver" "terms" "[LTextSolver$Term;" ∈ TB := tb_1 208 rfl rfl
theorem cl_X7_34 : Cond.classLink RX7 34 RX2 ∈ TB := tb_1 83 rfl rfl
theorem fl_X7_36 : Cond.fieldLink RX7 36 "TextSolver" "machines" "[LTextSolver$Machine;" ∈ TB := tb_1 209 rfl rfl
theorem cl_X7_40 : Cond.classLink RX7 40 RX0 ∈ TB := tb_1 85 rfl rfl
theorem fl_X7_42 : Cond.fieldLink RX7 42 "TextSolver" "formulas" "[LTextSolver$Formula;" ∈ TB := tb_1 210 rfl rfl
theorem cl_X7_46 : Cond.classLink RX7 46 RX1 ∈ TB := tb_1 87 rfl rfl
theorem it_RX1 : Cond.instantiable RX1 7 ∈ TB := tb_1 88 rfl rfl
theorem in_RX1 : Cond.initialized RX1 ∈ TB := tb_1 4 rfl rfl
theorem fl_X7_51 : Cond.fieldLink RX7 51 "TextSolver" "judge" "LTextSolver$Judge;" ∈ TB := tb_1 211 rfl rfl
theorem it_RX5 : Cond.instantiable RX5 2 ∈ TB := tb_1 94 rfl rfl
theorem in_RX5 : Cond.initialized RX5 ∈ TB := tb_1 5 rfl rfl
theorem it_RX2 : Cond.instantiable RX2 3 ∈ TB := tb_1 148 rfl rfl
theorem in_RX2 : Cond.initialized RX2 ∈ TB := tb_1 7 rfl rfl
theorem it_RX0 : Cond.instantiable RX0 9 ∈ TB := tb_1 163 rfl rfl
theorem in_RX0 : Cond.initialized RX0 ∈ TB := tb_1 8 rfl rfl
theorem im_yX4_init : Cond.instanceMethod yX4_init ∈ TB := tb_1 25 rfl rfl
theorem co_yX4_init : Cond.code yX4_init cX4_init 1 none ∈ TB := tb_1 26 rfl rfl
theorem ml_X4_3 : Cond.methodLink RX4 3 objectInit ∈ TB := tb_1 27 rfl rfl
theorem ac_int : Cond.arrayClass .int ∈ TB := tb_1 47 rfl rfl
theorem fl_X4_9 : Cond.fieldLink RX4 9 "TextSolver$Space" "mosts" "[I" ∈ TB := tb_1 28 rfl rfl
theorem fl_X4_15 : Cond.fieldLink RX4 15 "TextSolver$Space" "letters" "I" ∈ TB := tb_1 30 rfl rfl
theorem fl_X4_19 : Cond.fieldLink RX4 19 "TextSolver$Space" "size" "I" ∈ TB := tb_1 36 rfl rfl
theorem ml_X7_18 : Cond.methodLink RX7 18 yX6_init ∈ TB := tb_1 50 rfl rfl
theorem im_yX6_init : Cond.instanceMethod yX6_init ∈ TB := tb_1 51 rfl rfl
theorem co_yX6_init : Cond.code yX6_init cX6_init 2 none ∈ TB := tb_1 52 rfl rfl
theorem ml_X6_3 : Cond.methodLink RX6 3 objectInit ∈ TB := tb_1 53 rfl rfl
theorem fl_X6_9 : Cond.fieldLink RX6 9 "TextSolver$Way" "lengths" "[I" ∈ TB := tb_1 55 rfl rfl
theorem fl_X6_15 : Cond.fieldLink RX6 15 "TextSolver$Way" "starts" "[I" ∈ TB := tb_1 59 rfl rfl
theorem fl_X6_18 : Cond.fieldLink RX6 18 "TextSolver$Way" "row" "[I" ∈ TB := tb_1 61 rfl rfl
theorem fl_X6_21 : Cond.fieldLink RX6 21 "TextSolver$Way" "count" "I" ∈ TB := tb_1 65 rfl rfl
theorem fl_X6_25 : Cond.fieldLink RX6 25 "TextSolver$Way" "space" "LTextSolver$Space;" ∈ TB := tb_1 54 rfl rfl
theorem ml_X7_48 : Cond.methodLink RX7 48 yX1_init ∈ TB := tb_1 89 rfl rfl
theorem im_yX1_init : Cond.instanceMethod yX1_init ∈ TB := tb_1 90 rfl rfl
theorem co_yX1_init : Cond.code yX1_init cX1_init 3 none ∈ TB := tb_1 91 rfl rfl
theorem ml_X1_3 : Cond.methodLink RX1 3 objectInit ∈ TB := tb_1 92 rfl rfl
theorem cl_X1_9 : Cond.classLink RX1 9 RX5 ∈ TB := tb_1 93 rfl rfl
theorem fl_X1_12 : Cond.fieldLink RX1 12 "TextSolver$Judge" "nothing" "LTextSolver$Term;" ∈ TB := tb_1 127 rfl rfl
theorem cl_X1_18 : Cond.classLink RX1 18 RX3 ∈ TB := tb_1 109 rfl rfl
theorem it_RX3 : Cond.instantiable RX3 2 ∈ TB := tb_1 110 rfl rfl
theorem in_RX3 : Cond.initialized RX3 ∈ TB := tb_1 6 rfl rfl
theorem fl_X1_21 : Cond.fieldLink RX1 21 "TextSolver$Judge" "a" "LTextSolver$Row;" ∈ TB := tb_1 128 rfl rfl
theorem fl_X1_25 : Cond.fieldLink RX1 25 "TextSolver$Judge" "b" "LTextSolver$Row;" ∈ TB := tb_1 129 rfl rfl
theorem fl_X1_28 : Cond.fieldLink RX1 28 "TextSolver$Judge" "c" "LTextSolver$Row;" ∈ TB := tb_1 130 rfl rfl
theorem fl_X1_31 : Cond.fieldLink RX1 31 "TextSolver$Judge" "d" "LTextSolver$Row;" ∈ TB := tb_1 131 rfl rfl
theorem fl_X1_34 : Cond.fieldLink RX1 34 "TextSolver$Judge" "terms" "[LTextSolver$Term;" ∈ TB := tb_1 125 rfl rfl
theorem fl_X1_38 : Cond.fieldLink RX1 38 "TextSolver$Judge" "machines" "[LTextSolver$Machine;" ∈ TB := tb_1 126 rfl rfl
theorem im_yX5_init : Cond.instanceMethod yX5_init ∈ TB := tb_1 96 rfl rfl
theorem co_yX5_init : Cond.code yX5_init cX5_init 1 none ∈ TB := tb_1 97 rfl rfl
theorem ml_X5_3 : Cond.methodLink RX5 3 objectInit ∈ TB := tb_1 98 rfl rfl
theorem fl_X5_9 : Cond.fieldLink RX5 9 "TextSolver$Term" "parts" "[I" ∈ TB := tb_1 99 rfl rfl
theorem im_yX3_init : Cond.instanceMethod yX3_init ∈ TB := tb_1 112 rfl rfl
theorem co_yX3_init : Cond.code yX3_init cX3_init 1 none ∈ TB := tb_1 113 rfl rfl
theorem ml_X3_3 : Cond.methodLink RX3 3 objectInit ∈ TB := tb_1 114 rfl rfl
theorem fl_X3_9 : Cond.fieldLink RX3 9 "TextSolver$Row" "letters" "[I" ∈ TB := tb_1 115 rfl rfl
theorem im_yX2_init : Cond.instanceMethod yX2_init ∈ TB := tb_1 150 rfl rfl
theorem co_yX2_init : Cond.code yX2_init cX2_init 1 none ∈ TB := tb_1 151 rfl rfl
theorem ml_X2_3 : Cond.methodLink RX2 3 objectInit ∈ TB := tb_1 152 rfl rfl
theorem fl_X2_9 : Cond.fieldLink RX2 9 "TextSolver$Machine" "steps" "[I" ∈ TB := tb_1 153 rfl rfl
theorem fl_X2_15 : Cond.fieldLink RX2 15 "TextSolver$Machine" "states" "I" ∈ TB := tb_1 154 rfl rfl
theorem im_yX0_init : Cond.instanceMethod yX0_init ∈ TB := tb_1 165 rfl rfl
theorem co_yX0_init : Cond.code yX0_init cX0_init 1 none ∈ TB := tb_1 166 rfl rfl
theorem ml_X0_3 : Cond.methodLink RX0 3 objectInit ∈ TB := tb_1 167 rfl rfl
theorem ac_long : Cond.arrayClass .long ∈ TB := tb_1 204 rfl rfl
theorem fl_X0_9 : Cond.fieldLink RX0 9 "TextSolver$Formula" "judged" "[J" ∈ TB := tb_1 168 rfl rfl
theorem fl_X0_15 : Cond.fieldLink RX0 15 "TextSolver$Formula" "so" "[J" ∈ TB := tb_1 169 rfl rfl
theorem ml_L_12 : Cond.methodLink RL 12 yX8_init ∈ TB := tb_3 153 rfl rfl
theorem im_yX8_init : Cond.instanceMethod yX8_init ∈ TB := tb_3 154 rfl rfl
theorem co_yX8_init : Cond.code yX8_init cX8_init 1 none ∈ TB := tb_3 155 rfl rfl
theorem ml_X8_1 : Cond.methodLink RX8 1 objectInit ∈ TB := tb_3 156 rfl rfl
theorem fl_X8_7 : Cond.fieldLink RX8 7 "TextSolverModel" "letters" "I" ∈ TB := tb_3 157 rfl rfl
theorem fl_X8_13 : Cond.fieldLink RX8 13 "TextSolverModel" "most" "[I" ∈ TB := tb_3 159 rfl rfl
theorem fl_X8_17 : Cond.fieldLink RX8 17 "TextSolverModel" "space" "I" ∈ TB := tb_3 160 rfl rfl
theorem fl_X8_20 : Cond.fieldLink RX8 20 "TextSolverModel" "parts" "[I" ∈ TB := tb_3 162 rfl rfl
theorem fl_X8_23 : Cond.fieldLink RX8 23 "TextSolverModel" "part" "[I" ∈ TB := tb_3 163 rfl rfl
theorem fl_X8_26 : Cond.fieldLink RX8 26 "TextSolverModel" "states" "[I" ∈ TB := tb_3 165 rfl rfl
theorem fl_X8_29 : Cond.fieldLink RX8 29 "TextSolverModel" "step" "[I" ∈ TB := tb_3 166 rfl rfl
theorem ac_boolean : Cond.arrayClass .boolean ∈ TB := tb_4 14 rfl rfl
theorem fl_X8_32 : Cond.fieldLink RX8 32 "TextSolverModel" "good" "[Z" ∈ TB := tb_3 167 rfl rfl
theorem fl_X8_36 : Cond.fieldLink RX8 36 "TextSolverModel" "kind" "[I" ∈ TB := tb_3 169 rfl rfl
theorem fl_X8_39 : Cond.fieldLink RX8 39 "TextSolverModel" "a" "[I" ∈ TB := tb_3 170 rfl rfl
theorem fl_X8_42 : Cond.fieldLink RX8 42 "TextSolverModel" "b" "[I" ∈ TB := tb_3 171 rfl rfl
theorem fl_X8_45 : Cond.fieldLink RX8 45 "TextSolverModel" "c" "[I" ∈ TB := tb_3 172 rfl rfl
theorem fl_X8_48 : Cond.fieldLink RX8 48 "TextSolverModel" "d" "[I" ∈ TB := tb_3 173 rfl rfl
theorem fl_X8_51 : Cond.fieldLink RX8 51 "TextSolverModel" "denied" "[Z" ∈ TB := tb_3 174 rfl rfl
theorem fl_X8_54 : Cond.fieldLink RX8 54 "TextSolverModel" "out" "[Z" ∈ TB := tb_3 175 rfl rfl
theorem fl_X8_57 : Cond.fieldLink RX8 57 "TextSolverModel" "handLength" "[I" ∈ TB := tb_3 177 rfl rfl
theorem fl_X8_60 : Cond.fieldLink RX8 60 "TextSolverModel" "handLetter" "[I" ∈ TB := tb_3 178 rfl rfl
theorem fl_X8_63 : Cond.fieldLink RX8 63 "TextSolverModel" "core" "[Z" ∈ TB := tb_3 180 rfl rfl
theorem fl_X8_66 : Cond.fieldLink RX8 66 "TextSolverModel" "length" "[I" ∈ TB := tb_3 181 rfl rfl
theorem fl_X8_69 : Cond.fieldLink RX8 69 "TextSolverModel" "letter" "[I" ∈ TB := tb_3 182 rfl rfl
theorem fl_X8_72 : Cond.fieldLink RX8 72 "TextSolverModel" "row" "[I" ∈ TB := tb_3 183 rfl rfl
theorem fl_X8_75 : Cond.fieldLink RX8 75 "TextSolverModel" "many" "[I" ∈ TB := tb_3 184 rfl rfl
theorem fl_X8_78 : Cond.fieldLink RX8 78 "TextSolverModel" "made" "[I" ∈ TB := tb_3 185 rfl rfl
theorem fl_X8_81 : Cond.fieldLink RX8 81 "TextSolverModel" "gone" "[Z" ∈ TB := tb_3 187 rfl rfl
theorem fl_X8_84 : Cond.fieldLink RX8 84 "TextSolverModel" "far" "[I" ∈ TB := tb_3 188 rfl rfl
theorem ml_L_13 : Cond.methodLink RL 13 yX7_clear ∈ TB := tb_2 5 rfl rfl
theorem im_yX7_clear : Cond.instanceMethod yX7_clear ∈ TB := tb_2 6 rfl rfl
theorem se_yX7_clear : Cond.selects RX7 yX7_clear yX7_clear ∈ TB := tb_2 7 rfl rfl
theorem co_yX7_clear : Cond.code yX7_clear cX7_clear 3 (some .int) ∈ TB := tb_2 8 rfl rfl
theorem fl_X7_58 : Cond.fieldLink RX7 58 "TextSolver" "formulaCount" "I" ∈ TB := tb_1 214 rfl rfl
theorem fl_X7_66 : Cond.fieldLink RX7 66 "TextSolver" "termCount" "I" ∈ TB := tb_1 212 rfl rfl
theorem fl_X7_69 : Cond.fieldLink RX7 69 "TextSolver" "machineCount" "I" ∈ TB := tb_1 213 rfl rfl
theorem ml_X7_62 : Cond.methodLink RX7 62 yX4_restart ∈ TB := tb_2 9 rfl rfl
theorem im_yX4_restart : Cond.instanceMethod yX4_restart ∈ TB := tb_2 10 rfl rfl
theorem se_yX4_restart : Cond.selects RX4 yX4_restart yX4_restart ∈ TB := tb_2 11 rfl rfl
theorem co_yX4_restart : Cond.code yX4_restart cX4_restart 2 none ∈ TB := tb_2 12 rfl rfl
theorem fl_X4_22 : Cond.fieldLink RX4 22 "TextSolver$Space" "texts" "I" ∈ TB := tb_1 33 rfl rfl
theorem ml_X7_72 : Cond.methodLink RX7 72 yX7_dropWays ∈ TB := tb_2 13 rfl rfl
theorem im_yX7_dropWays : Cond.instanceMethod yX7_dropWays ∈ TB := tb_2 15 rfl rfl
theorem se_yX7_dropWays : Cond.selects RX7 yX7_dropWays yX7_dropWays ∈ TB := tp_1 (q := lw_privs_1[0]) 0 rfl
theorem co_yX7_dropWays : Cond.code yX7_dropWays cX7_dropWays 2 none ∈ TB := tb_2 16 rfl rfl
theorem ml_X7_208 : Cond.methodLink RX7 208 yX6_restart ∈ TB := tb_2 17 rfl rfl
theorem im_yX6_restart : Cond.instanceMethod yX6_restart ∈ TB := tb_2 18 rfl rfl
theorem se_yX6_restart : Cond.selects RX6 yX6_restart yX6_restart ∈ TB := tb_2 19 rfl rfl
theorem co_yX6_restart : Cond.code yX6_restart cX6_restart 1 none ∈ TB := tb_2 20 rfl rfl
theorem fl_X6_35 : Cond.fieldLink RX6 35 "TextSolver$Way" "first" "I" ∈ TB := tb_1 64 rfl rfl
theorem ml_X6_29 : Cond.methodLink RX6 29 yJ7_fill_53178 ∈ TB := tb_2 21 rfl rfl
theorem st_yJ7_fill_53178 : Cond.static yJ7_fill_53178 ∈ TB := tb_2 22 rfl rfl
theorem in_RJ7 : Cond.initialized RJ7 ∈ TB := tb_1 10 rfl rfl
theorem co_yJ7_fill_53178 : Cond.code yJ7_fill_53178 cJ7_fill_53178 4 none ∈ TB := tb_2 23 rfl rfl
theorem ml_X6_38 : Cond.methodLink RX6 38 yX6_layOut ∈ TB := tb_2 24 rfl rfl
theorem im_yX6_layOut : Cond.instanceMethod yX6_layOut ∈ TB := tb_2 26 rfl rfl
theorem se_yX6_layOut : Cond.selects RX6 yX6_layOut yX6_layOut ∈ TB := tp_1 (q := lw_privs_1[1]) 1 rfl
theorem co_yX6_layOut : Cond.code yX6_layOut cX6_layOut 2 none ∈ TB := tb_2 27 rfl rfl
theorem fl_X6_41 : Cond.fieldLink RX6 41 "TextSolver$Way" "total" "I" ∈ TB := tb_1 63 rfl rfl
theorem fl_X6_44 : Cond.fieldLink RX6 44 "TextSolver$Space" "texts" "I" ∈ TB := tb_1 34 rfl rfl
theorem fl_X6_49 : Cond.fieldLink RX6 49 "TextSolver$Space" "letters" "I" ∈ TB := tb_1 31 rfl rfl
theorem ml_X7_104 : Cond.methodLink RX7 104 yX0_forget ∈ TB := tb_2 28 rfl rfl
theorem im_yX0_forget : Cond.instanceMethod yX0_forget ∈ TB := tb_2 29 rfl rfl
theorem se_yX0_forget : Cond.selects RX0 yX0_forget yX0_forget ∈ TB := tb_2 30 rfl rfl
theorem co_yX0_forget : Cond.code yX0_forget cX0_forget 1 none ∈ TB := tb_2 31 rfl rfl
theorem ml_X0_44 : Cond.methodLink RX0 44 yJ7_fill_d0a16 ∈ TB := tb_2 32 rfl rfl
theorem st_yJ7_fill_d0a16 : Cond.static yJ7_fill_d0a16 ∈ TB := tb_2 33 rfl rfl
theorem co_yJ7_fill_d0a16 : Cond.code yJ7_fill_d0a16 cJ7_fill_d0a16 5 none ∈ TB := tb_2 34 rfl rfl
theorem ml_X7_75 : Cond.methodLink RX7 75 yX7_dropFindings ∈ TB := tb_2 35 rfl rfl
theorem im_yX7_dropFindings : Cond.instanceMethod yX7_dropFindings ∈ TB := tb_2 37 rfl rfl
theorem se_yX7_dropFindings : Cond.selects RX7 yX7_dropFindings yX7_dropFindings ∈ TB := tp_1 (q := lw_privs_1[2]) 2 rfl
theorem co_yX7_dropFindings : Cond.code yX7_dropFindings cX7_dropFindings 1 none ∈ TB := tb_2 38 rfl rfl
theorem fl_X7_178 : Cond.fieldLink RX7 178 "TextSolver" "isModelAtHand" "Z" ∈ TB := tb_1 215 rfl rfl
theorem fl_X7_197 : Cond.fieldLink RX7 197 "TextSolver" "isCoreFound" "Z" ∈ TB := tb_1 216 rfl rfl
theorem ml_L_17 : Cond.methodLink RL 17 yX8_clear ∈ TB := tb_4 15 rfl rfl
theorem im_yX8_clear : Cond.instanceMethod yX8_clear ∈ TB := tb_4 16 rfl rfl
theorem se_yX8_clear : Cond.selects RX8 yX8_clear yX8_clear ∈ TB := tb_4 17 rfl rfl
theorem co_yX8_clear : Cond.code yX8_clear cX8_clear 3 (some .int) ∈ TB := tb_4 18 rfl rfl
theorem fl_X8_98 : Cond.fieldLink RX8 98 "TextSolverModel" "formulas" "I" ∈ TB := tb_3 168 rfl rfl
theorem fl_X8_101 : Cond.fieldLink RX8 101 "TextSolverModel" "texts" "I" ∈ TB := tb_3 158 rfl rfl
theorem fl_X8_104 : Cond.fieldLink RX8 104 "TextSolverModel" "terms" "I" ∈ TB := tb_3 161 rfl rfl
theorem fl_X8_107 : Cond.fieldLink RX8 107 "TextSolverModel" "machines" "I" ∈ TB := tb_3 164 rfl rfl
theorem ml_X8_94 : Cond.methodLink RX8 94 yX8_in ∈ TB := tb_4 19 rfl rfl
theorem st_yX8_in : Cond.static yX8_in ∈ TB := tb_4 20 rfl rfl
theorem co_yX8_in : Cond.code yX8_in cX8_in 3 (some .boolean) ∈ TB := tb_4 21 rfl rfl
theorem ml_X8_110 : Cond.methodLink RX8 110 yX8_changed ∈ TB := tb_4 22 rfl rfl
theorem im_yX8_changed : Cond.instanceMethod yX8_changed ∈ TB := tb_4 24 rfl rfl
theorem se_yX8_changed : Cond.selects RX8 yX8_changed yX8_changed ∈ TB := tp_2 (q := lw_privs_2[6]) 6 rfl
theorem co_yX8_changed : Cond.code yX8_changed cX8_changed 1 none ∈ TB := tb_4 25 rfl rfl
theorem fl_X8_87 : Cond.fieldLink RX8 87 "TextSolverModel" "isAtHand" "Z" ∈ TB := tb_3 176 rfl rfl
theorem fl_X8_91 : Cond.fieldLink RX8 91 "TextSolverModel" "isCore" "Z" ∈ TB := tb_3 179 rfl rfl
theorem ml_L_18 : Cond.methodLink RL 18 yX7_text ∈ TB := tb_2 39 rfl rfl
theorem im_yX7_text : Cond.instanceMethod yX7_text ∈ TB := tb_2 40 rfl rfl
theorem se_yX7_text : Cond.selects RX7 yX7_text yX7_text ∈ TB := tb_2 41 rfl rfl
theorem co_yX7_text : Cond.code yX7_text cX7_text 2 (some .int) ∈ TB := tb_2 42 rfl rfl
theorem fl_X7_85 : Cond.fieldLink RX7 85 "TextSolver$Space" "texts" "I" ∈ TB := tb_1 35 rfl rfl
theorem ml_X7_78 : Cond.methodLink RX7 78 yX4_hasRoomFor ∈ TB := tb_2 43 rfl rfl
theorem im_yX4_hasRoomFor : Cond.instanceMethod yX4_hasRoomFor ∈ TB := tb_2 44 rfl rfl
theorem se_yX4_hasRoomFor : Cond.selects RX4 yX4_hasRoomFor yX4_hasRoomFor ∈ TB := tb_2 45 rfl rfl
theorem co_yX4_hasRoomFor : Cond.code yX4_hasRoomFor cX4_hasRoomFor 2 (some .boolean) ∈ TB := tb_2 46 rfl rfl
theorem ml_X4_25 : Cond.methodLink RX4 25 yX4_rowsUpTo ∈ TB := tb_2 47 rfl rfl
theorem im_yX4_rowsUpTo : Cond.instanceMethod yX4_rowsUpTo ∈ TB := tb_2 49 rfl rfl
theorem se_yX4_rowsUpTo : Cond.selects RX4 yX4_rowsUpTo yX4_rowsUpTo ∈ TB := tp_1 (q := lw_privs_1[3]) 3 rfl
theorem co_yX4_rowsUpTo : Cond.code yX4_rowsUpTo cX4_rowsUpTo 5 (some .int) ∈ TB := tb_2 50 rfl rfl
theorem ml_X7_82 : Cond.methodLink RX7 82 yX4_add ∈ TB := tb_2 51 rfl rfl
theorem im_yX4_add : Cond.instanceMethod yX4_add ∈ TB := tb_2 52 rfl rfl
theorem se_yX4_add : Cond.selects RX4 yX4_add yX4_add ∈ TB := tb_2 53 rfl rfl
theorem co_yX4_add : Cond.code yX4_add cX4_add 2 none ∈ TB := tb_2 54 rfl rfl
theorem ml_L_21 : Cond.methodLink RL 21 yX8_text ∈ TB := tb_4 26 rfl rfl
theorem im_yX8_text : Cond.instanceMethod yX8_text ∈ TB := tb_4 27 rfl rfl
theorem se_yX8_text : Cond.selects RX8 yX8_text yX8_text ∈ TB := tb_4 28 rfl rfl
theorem co_yX8_text : Cond.code yX8_text cX8_text 5 (some .int) ∈ TB := tb_4 29 rfl rfl
theorem ml_L_22 : Cond.methodLink RL 22 yX7_term ∈ TB := tb_2 55 rfl rfl
theorem im_yX7_term : Cond.instanceMethod yX7_term ∈ TB := tb_2 56 rfl rfl
theorem se_yX7_term : Cond.selects RX7 yX7_term yX7_term ∈ TB := tb_2 57 rfl rfl
theorem co_yX7_term : Cond.code yX7_term cX7_term 1 (some .int) ∈ TB := tb_2 58 rfl rfl
theorem ml_X7_88 : Cond.methodLink RX7 88 yX5_restart ∈ TB := tb_2 59 rfl rfl
theorem im_yX5_restart : Cond.instanceMethod yX5_restart ∈ TB := tb_2 60 rfl rfl
theorem se_yX5_restart : Cond.selects RX5 yX5_restart yX5_restart ∈ TB := tb_2 61 rfl rfl
theorem co_yX5_restart : Cond.code yX5_restart cX5_restart 1 none ∈ TB := tb_2 62 rfl rfl
theorem fl_X5_15 : Cond.fieldLink RX5 15 "TextSolver$Term" "size" "I" ∈ TB := tb_1 101 rfl rfl
theorem ml_L_26 : Cond.methodLink RL 26 yX8_term ∈ TB := tb_4 30 rfl rfl
theorem im_yX8_term : Cond.instanceMethod yX8_term ∈ TB := tb_4 31 rfl rfl
theorem se_yX8_term : Cond.selects RX8 yX8_term yX8_term ∈ TB := tb_4 32 rfl rfl
theorem co_yX8_term : Cond.code yX8_term cX8_term 1 (some .int) ∈ TB := tb_4 33 rfl rfl
theorem ml_L_27 : Cond.methodLink RL 27 yX7_part ∈ TB := tb_2 63 rfl rfl
theorem im_yX7_part : Cond.instanceMethod yX7_part ∈ TB := tb_2 64 rfl rfl
theorem se_yX7_part : Cond.selects RX7 yX7_part yX7_part ∈ TB := tb_2 65 rfl rfl
theorem co_yX7_part : Cond.code yX7_part cX7_part 4 (some .int) ∈ TB := tb_2 66 rfl rfl
theorem fl_X7_107 : Cond.fieldLink RX7 107 "TextSolver$Term" "size" "I" ∈ TB := tb_1 103 rfl rfl
theorem ml_X7_90 : Cond.methodLink RX7 90 yX7_isTerm ∈ TB := tb_2 67 rfl rfl
theorem im_yX7_isTerm : Cond.instanceMethod yX7_isTerm ∈ TB := tb_2 69 rfl rfl
theorem se_yX7_isTerm : Cond.selects RX7 yX7_isTerm yX7_isTerm ∈ TB := tp_1 (q := lw_privs_1[4]) 4 rfl
theorem co_yX7_isTerm : Cond.code yX7_isTerm cX7_isTerm 2 (some .boolean) ∈ TB := tb_2 70 rfl rfl
theorem ml_X7_93 : Cond.methodLink RX7 93 yX4_isLetter ∈ TB := tb_2 71 rfl rfl
theorem im_yX4_isLetter : Cond.instanceMethod yX4_isLetter ∈ TB := tb_2 72 rfl rfl
theorem se_yX4_isLetter : Cond.selects RX4 yX4_isLetter yX4_isLetter ∈ TB := tb_2 73 rfl rfl
theorem co_yX4_isLetter : Cond.code yX4_isLetter cX4_isLetter 2 (some .boolean) ∈ TB := tb_2 74 rfl rfl
theorem ml_X7_96 : Cond.methodLink RX7 96 yX4_isText ∈ TB := tb_2 75 rfl rfl
theorem im_yX4_isText : Cond.instanceMethod yX4_isText ∈ TB := tb_2 76 rfl rfl
theorem se_yX4_isText : Cond.selects RX4 yX4_isText yX4_isText ∈ TB := tb_2 77 rfl rfl
theorem co_yX4_isText : Cond.code yX4_isText cX4_isText 2 (some .boolean) ∈ TB := tb_2 78 rfl rfl
theorem ml_X7_99 : Cond.methodLink RX7 99 yX5_add ∈ TB := tb_2 79 rfl rfl
theorem im_yX5_add : Cond.instanceMethod yX5_add ∈ TB := tb_2 80 rfl rfl
theorem se_yX5_add : Cond.selects RX5 yX5_add yX5_add ∈ TB := tb_2 81 rfl rfl
theorem co_yX5_add : Cond.code yX5_add cX5_add 2 (some .boolean) ∈ TB := tb_2 82 rfl rfl
theorem ml_X7_101 : Cond.methodLink RX7 101 yX0_isAboutTerm ∈ TB := tb_2 83 rfl rfl
theorem im_yX0_isAboutTerm : Cond.instanceMethod yX0_isAboutTerm ∈ TB := tb_2 84 rfl rfl
theorem se_yX0_isAboutTerm : Cond.selects RX0 yX0_isAboutTerm yX0_isAboutTerm ∈ TB := tb_2 85 rfl rfl
theorem co_yX0_isAboutTerm : Cond.code yX0_isAboutTerm cX0_isAboutTerm 2 (some .boolean) ∈ TB := tb_2 86 rfl rfl
theorem fl_X0_22 : Cond.fieldLink RX0 22 "TextSolver$Formula" "a" "I" ∈ TB := tb_1 173 rfl rfl
theorem fl_X0_25 : Cond.fieldLink RX0 25 "TextSolver$Formula" "b" "I" ∈ TB := tb_1 175 rfl rfl
theorem fl_X0_18 : Cond.fieldLink RX0 18 "TextSolver$Formula" "kind" "I" ∈ TB := tb_1 170 rfl rfl
theorem fl_X0_28 : Cond.fieldLink RX0 28 "TextSolver$Formula" "c" "I" ∈ TB := tb_1 177 rfl rfl
theorem fl_X0_31 : Cond.fieldLink RX0 31 "TextSolver$Formula" "d" "I" ∈ TB := tb_1 179 rfl rfl
theorem ml_X0_56 : Cond.methodLink RX0 56 yX0_hasSecondTerm ∈ TB := tb_2 87 rfl rfl
theorem im_yX0_hasSecondTerm : Cond.instanceMethod yX0_hasSecondTerm ∈ TB := tb_2 88 rfl rfl
theorem se_yX0_hasSecondTerm : Cond.selects RX0 yX0_hasSecondTerm yX0_hasSecondTerm ∈ TB := tb_2 89 rfl rfl
theorem co_yX0_hasSecondTerm : Cond.code yX0_hasSecondTerm cX0_hasSecondTerm 1 (some .boolean) ∈ TB := tb_2 90 rfl rfl
theorem ml_L_31 : Cond.methodLink RL 31 yX8_part ∈ TB := tb_4 34 rfl rfl
theorem im_yX8_part : Cond.instanceMethod yX8_part ∈ TB := tb_4 35 rfl rfl
theorem se_yX8_part : Cond.selects RX8 yX8_part yX8_part ∈ TB := tb_4 36 rfl rfl
theorem co_yX8_part : Cond.code yX8_part cX8_part 3 (some .int) ∈ TB := tb_4 37 rfl rfl
theorem ml_L_32 : Cond.methodLink RL 32 yX7_machine ∈ TB := tb_2 91 rfl rfl
theorem im_yX7_machine : Cond.instanceMethod yX7_machine ∈ TB := tb_2 92 rfl rfl
theorem se_yX7_machine : Cond.selects RX7 yX7_machine yX7_machine ∈ TB := tb_2 93 rfl rfl
theorem co_yX7_machine : Cond.code yX7_machine cX7_machine 2 (some .int) ∈ TB := tb_2 94 rfl rfl
theorem ml_X7_110 : Cond.methodLink RX7 110 yX2_restart ∈ TB := tb_2 95 rfl rfl
theorem im_yX2_restart : Cond.instanceMethod yX2_restart ∈ TB := tb_2 96 rfl rfl
theorem se_yX2_restart : Cond.selects RX2 yX2_restart yX2_restart ∈ TB := tb_2 97 rfl rfl
theorem co_yX2_restart : Cond.code yX2_restart cX2_restart 2 none ∈ TB := tb_2 98 rfl rfl
theorem fl_X2_19 : Cond.fieldLink RX2 19 "TextSolver$Machine" "goodStates" "I" ∈ TB := tb_1 155 rfl rfl
theorem ml_X2_22 : Cond.methodLink RX2 22 yJ7_fill_53178 ∈ TB := tb_2 99 rfl rfl
theorem ml_L_35 : Cond.methodLink RL 35 yX8_machine ∈ TB := tb_4 38 rfl rfl
theorem im_yX8_machine : Cond.instanceMethod yX8_machine ∈ TB := tb_4 39 rfl rfl
theorem se_yX8_machine : Cond.selects RX8 yX8_machine yX8_machine ∈ TB := tb_4 40 rfl rfl
theorem co_yX8_machine : Cond.code yX8_machine cX8_machine 3 (some .int) ∈ TB := tb_4 41 rfl rfl
theorem ml_L_36 : Cond.methodLink RL 36 yX7_step ∈ TB := tb_2 100 rfl rfl
theorem im_yX7_step : Cond.instanceMethod yX7_step ∈ TB := tb_2 101 rfl rfl
theorem se_yX7_step : Cond.selects RX7 yX7_step yX7_step ∈ TB := tb_2 102 rfl rfl
theorem co_yX7_step : Cond.code yX7_step cX7_step 7 (some .int) ∈ TB := tb_2 103 rfl rfl
theorem ml_X7_111 : Cond.methodLink RX7 111 yX7_isMachine ∈ TB := tb_2 104 rfl rfl
theorem im_yX7_isMachine : Cond.instanceMethod yX7_isMachine ∈ TB := tb_2 106 rfl rfl
theorem se_yX7_isMachine : Cond.selects RX7 yX7_isMachine yX7_isMachine ∈ TB := tp_1 (q := lw_privs_1[5]) 5 rfl
theorem co_yX7_isMachine : Cond.code yX7_isMachine cX7_isMachine 2 (some .boolean) ∈ TB := tb_2 107 rfl rfl
theorem ml_X7_114 : Cond.methodLink RX7 114 yX2_isState ∈ TB := tb_2 108 rfl rfl
theorem im_yX2_isState : Cond.instanceMethod yX2_isState ∈ TB := tb_2 109 rfl rfl
theorem se_yX2_isState : Cond.selects RX2 yX2_isState yX2_isState ∈ TB := tb_2 110 rfl rfl
theorem co_yX2_isState : Cond.code yX2_isState cX2_isState 2 (some .boolean) ∈ TB := tb_2 111 rfl rfl
theorem ml_X7_117 : Cond.methodLink RX7 117 yX2_next ∈ TB := tb_2 112 rfl rfl
theorem im_yX2_next : Cond.instanceMethod yX2_next ∈ TB := tb_2 113 rfl rfl
theorem se_yX2_next : Cond.selects RX2 yX2_next yX2_next ∈ TB := tb_2 114 rfl rfl
theorem co_yX2_next : Cond.code yX2_next cX2_next 4 (some .int) ∈ TB := tb_2 115 rfl rfl
theorem ml_X7_121 : Cond.methodLink RX7 121 yX2_lead ∈ TB := tb_2 116 rfl rfl
theorem im_yX2_lead : Cond.instanceMethod yX2_lead ∈ TB := tb_2 117 rfl rfl
theorem se_yX2_lead : Cond.selects RX2 yX2_lead yX2_lead ∈ TB := tb_2 118 rfl rfl
theorem co_yX2_lead : Cond.code yX2_lead cX2_lead 5 none ∈ TB := tb_2 119 rfl rfl
theorem ml_X7_125 : Cond.methodLink RX7 125 yX7_dropFindingsOfMachine ∈ TB := tb_2 120 rfl rfl
theorem im_yX7_dropFindingsOfMachine : Cond.instanceMethod yX7_dropFindingsOfMachine ∈ TB := tb_2 122 rfl rfl
theorem se_yX7_dropFindingsOfMachine : Cond.selects RX7 yX7_dropFindingsOfMachine yX7_dropFindingsOfMachine ∈ TB := tp_1 (q := lw_privs_1[6]) 6 rfl
theorem co_yX7_dropFindingsOfMachine : Cond.code yX7_dropFindingsOfMachine cX7_dropFindingsOfMachine 3 none ∈ TB := tb_2 123 rfl rfl
theorem ml_X7_227 : Cond.methodLink RX7 227 yX0_isAboutMachine ∈ TB := tb_2 124 rfl rfl
theorem im_yX0_isAboutMachine : Cond.instanceMethod yX0_isAboutMachine ∈ TB := tb_2 125 rfl rfl
theorem se_yX0_isAboutMachine : Cond.selects RX0 yX0_isAboutMachine yX0_isAboutMachine ∈ TB := tb_2 126 rfl rfl
theorem co_yX0_isAboutMachine : Cond.code yX0_isAboutMachine cX0_isAboutMachine 2 (some .boolean) ∈ TB := tb_2 127 rfl rfl
theorem ml_L_40 : Cond.methodLink RL 40 yX8_step ∈ TB := tb_4 42 rfl rfl
theorem im_yX8_step : Cond.instanceMethod yX8_step ∈ TB := tb_4 43 rfl rfl
theorem se_yX8_step : Cond.selects RX8 yX8_step yX8_step ∈ TB := tb_4 44 rfl rfl
theorem co_yX8_step : Cond.code yX8_step cX8_step 7 (some .int) ∈ TB := tb_4 45 rfl rfl
theorem ml_L_41 : Cond.methodLink RL 41 yX7_good ∈ TB := tb_2 128 rfl rfl
theorem im_yX7_good : Cond.instanceMethod yX7_good ∈ TB := tb_2 129 rfl rfl
theorem se_yX7_good : Cond.selects RX7 yX7_good yX7_good ∈ TB := tb_2 130 rfl rfl
theorem co_yX7_good : Cond.code yX7_good cX7_good 6 (some .int) ∈ TB := tb_2 131 rfl rfl
theorem ml_X7_128 : Cond.methodLink RX7 128 yX2_isGood ∈ TB := tb_2 132 rfl rfl
theorem im_yX2_isGood : Cond.instanceMethod yX2_isGood ∈ TB := tb_2 133 rfl rfl
theorem se_yX2_isGood : Cond.selects RX2 yX2_isGood yX2_isGood ∈ TB := tb_2 134 rfl rfl
theorem co_yX2_isGood : Cond.code yX2_isGood cX2_isGood 2 (some .boolean) ∈ TB := tb_2 135 rfl rfl
theorem ml_X7_131 : Cond.methodLink RX7 131 yX7_asNumber ∈ TB := tb_2 136 rfl rfl
theorem st_yX7_asNumber : Cond.static yX7_asNumber ∈ TB := tb_2 137 rfl rfl
theorem co_yX7_asNumber : Cond.code yX7_asNumber cX7_asNumber 1 (some .int) ∈ TB := tb_2 138 rfl rfl
theorem ml_X7_135 : Cond.methodLink RX7 135 yX2_setGood ∈ TB := tb_2 139 rfl rfl
theorem im_yX2_setGood : Cond.instanceMethod yX2_setGood ∈ TB := tb_2 140 rfl rfl
theorem se_yX2_setGood : Cond.selects RX2 yX2_setGood yX2_setGood ∈ TB := tb_2 141 rfl rfl
theorem co_yX2_setGood : Cond.code yX2_setGood cX2_setGood 3 none ∈ TB := tb_2 142 rfl rfl
theorem ml_L_45 : Cond.methodLink RL 45 yX8_good ∈ TB := tb_4 46 rfl rfl
theorem im_yX8_good : Cond.instanceMethod yX8_good ∈ TB := tb_4 47 rfl rfl
theorem se_yX8_good : Cond.selects RX8 yX8_good yX8_good ∈ TB := tb_4 48 rfl rfl
theorem co_yX8_good : Cond.code yX8_good cX8_good 5 (some .int) ∈ TB := tb_4 49 rfl rfl
theorem ml_L_46 : Cond.methodLink RL 46 yX7_formula ∈ TB := tb_2 143 rfl rfl
theorem im_yX7_formula : Cond.instanceMethod yX7_formula ∈ TB := tb_2 144 rfl rfl
theorem se_yX7_formula : Cond.selects RX7 yX7_formula yX7_formula ∈ TB := tb_2 145 rfl rfl
theorem co_yX7_formula : Cond.code yX7_formula cX7_formula 6 (some .int) ∈ TB := tb_2 146 rfl rfl
theorem ml_X7_139 : Cond.methodLink RX7 139 yX7_areOthersKnown ∈ TB := tb_2 147 rfl rfl
theorem im_yX7_areOthersKnown : Cond.instanceMethod yX7_areOthersKnown ∈ TB := tb_2 149 rfl rfl
theorem se_yX7_areOthersKnown : Cond.selects RX7 yX7_areOthersKnown yX7_areOthersKnown ∈ TB := tp_1 (q := lw_privs_1[7]) 7 rfl
theorem co_yX7_areOthersKnown : Cond.code yX7_areOthersKnown cX7_areOthersKnown 5 (some .boolean) ∈ TB := tb_2 150 rfl rfl
theorem ml_X7_143 : Cond.methodLink RX7 143 yX7_areNumbersInside ∈ TB := tb_2 151 rfl rfl
theorem st_yX7_areNumbersInside : Cond.static yX7_areNumbersInside ∈ TB := tb_2 152 rfl rfl
theorem co_yX7_areNumbersInside : Cond.code yX7_areNumbersInside cX7_areNumbersInside 3 (some .boolean) ∈ TB := tb_2 153 rfl rfl
theorem ml_X7_147 : Cond.methodLink RX7 147 yX0_restart ∈ TB := tb_2 154 rfl rfl
theorem im_yX0_restart : Cond.instanceMethod yX0_restart ∈ TB := tb_2 155 rfl rfl
theorem se_yX0_restart : Cond.selects RX0 yX0_restart yX0_restart ∈ TB := tb_2 156 rfl rfl
theorem co_yX0_restart : Cond.code yX0_restart cX0_restart 6 none ∈ TB := tb_2 157 rfl rfl
theorem fl_X0_34 : Cond.fieldLink RX0 34 "TextSolver$Formula" "isDenied" "Z" ∈ TB := tb_1 181 rfl rfl
theorem fl_X0_38 : Cond.fieldLink RX0 38 "TextSolver$Formula" "isLeftOut" "Z" ∈ TB := tb_1 183 rfl rfl
theorem ml_X0_41 : Cond.methodLink RX0 41 yX0_forget ∈ TB := tb_2 158 rfl rfl
theorem ml_L_50 : Cond.methodLink RL 50 yX8_formula ∈ TB := tb_4 50 rfl rfl
theorem im_yX8_formula : Cond.instanceMethod yX8_formula ∈ TB := tb_4 51 rfl rfl
theorem se_yX8_formula : Cond.selects RX8 yX8_formula yX8_formula ∈ TB := tb_4 52 rfl rfl
theorem co_yX8_formula : Cond.code yX8_formula cX8_formula 8 (some .int) ∈ TB := tb_4 53 rfl rfl
theorem ml_X8_113 : Cond.methodLink RX8 113 yX8_isTerm ∈ TB := tb_4 54 rfl rfl
theorem im_yX8_isTerm : Cond.instanceMethod yX8_isTerm ∈ TB := tb_4 56 rfl rfl
theorem se_yX8_isTerm : Cond.selects RX8 yX8_isTerm yX8_isTerm ∈ TB := tp_2 (q := lw_privs_2[7]) 7 rfl
theorem co_yX8_isTerm : Cond.code yX8_isTerm cX8_isTerm 2 (some .boolean) ∈ TB := tb_4 57 rfl rfl
theorem ml_L_51 : Cond.methodLink RL 51 yX7_deny ∈ TB := tb_2 159 rfl rfl
theorem im_yX7_deny : Cond.instanceMethod yX7_deny ∈ TB := tb_2 160 rfl rfl
theorem se_yX7_deny : Cond.selects RX7 yX7_deny yX7_deny ∈ TB := tb_2 161 rfl rfl
theorem co_yX7_deny : Cond.code yX7_deny cX7_deny 4 (some .int) ∈ TB := tb_2 162 rfl rfl
theorem fl_X7_153 : Cond.fieldLink RX7 153 "TextSolver$Formula" "isDenied" "Z" ∈ TB := tb_1 182 rfl rfl
theorem ml_X7_150 : Cond.methodLink RX7 150 yX7_isFormula ∈ TB := tb_2 163 rfl rfl
theorem im_yX7_isFormula : Cond.instanceMethod yX7_isFormula ∈ TB := tb_2 165 rfl rfl
theorem se_yX7_isFormula : Cond.selects RX7 yX7_isFormula yX7_isFormula ∈ TB := tp_1 (q := lw_privs_1[8]) 8 rfl
theorem co_yX7_isFormula : Cond.code yX7_isFormula cX7_isFormula 2 (some .boolean) ∈ TB := tb_2 166 rfl rfl
theorem ml_L_55 : Cond.methodLink RL 55 yX8_deny ∈ TB := tb_4 58 rfl rfl
theorem im_yX8_deny : Cond.instanceMethod yX8_deny ∈ TB := tb_4 59 rfl rfl
theorem se_yX8_deny : Cond.selects RX8 yX8_deny yX8_deny ∈ TB := tb_4 60 rfl rfl
theorem co_yX8_deny : Cond.code yX8_deny cX8_deny 4 (some .int) ∈ TB := tb_4 61 rfl rfl
theorem ml_L_56 : Cond.methodLink RL 56 yX7_leave ∈ TB := tb_2 167 rfl rfl
theorem im_yX7_leave : Cond.instanceMethod yX7_leave ∈ TB := tb_2 168 rfl rfl
theorem se_yX7_leave : Cond.selects RX7 yX7_leave yX7_leave ∈ TB := tb_2 169 rfl rfl
theorem co_yX7_leave : Cond.code yX7_leave cX7_leave 4 (some .int) ∈ TB := tb_2 170 rfl rfl
theorem fl_X7_157 : Cond.fieldLink RX7 157 "TextSolver$Formula" "isLeftOut" "Z" ∈ TB := tb_1 184 rfl rfl
theorem ml_L_59 : Cond.methodLink RL 59 yX8_leave ∈ TB := tb_4 62 rfl rfl
theorem im_yX8_leave : Cond.instanceMethod yX8_leave ∈ TB := tb_4 63 rfl rfl
theorem se_yX8_leave : Cond.selects RX8 yX8_leave yX8_leave ∈ TB := tb_4 64 rfl rfl
theorem co_yX8_leave : Cond.code yX8_leave cX8_leave 4 (some .int) ∈ TB := tb_4 65 rfl rfl
theorem ml_L_60 : Cond.methodLink RL 60 yX7_solve ∈ TB := tb_2 171 rfl rfl
theorem im_yX7_solve : Cond.instanceMethod yX7_solve ∈ TB := tb_2 172 rfl rfl
theorem se_yX7_solve : Cond.selects RX7 yX7_solve yX7_solve ∈ TB := tb_2 173 rfl rfl
theorem co_yX7_solve : Cond.code yX7_solve cX7_solve 1 (some .int) ∈ TB := tb_2 174 rfl rfl
theorem ml_X7_160 : Cond.methodLink RX7 160 yX7_takeInHand ∈ TB := tb_2 175 rfl rfl
theorem im_yX7_takeInHand : Cond.instanceMethod yX7_takeInHand ∈ TB := tb_2 177 rfl rfl
theorem se_yX7_takeInHand : Cond.selects RX7 yX7_takeInHand yX7_takeInHand ∈ TB := tp_1 (q := lw_privs_1[9]) 9 rfl
theorem co_yX7_takeInHand : Cond.code yX7_takeInHand cX7_takeInHand 8 (some .int) ∈ TB := tb_2 178 rfl rfl
theorem ml_X7_164 : Cond.methodLink RX7 164 yX7_countingFormulas ∈ TB := tb_2 179 rfl rfl
theorem im_yX7_countingFormulas : Cond.instanceMethod yX7_countingFormulas ∈ TB := tb_2 181 rfl rfl
theorem se_yX7_countingFormulas : Cond.selects RX7 yX7_countingFormulas yX7_countingFormulas ∈ TB := tp_1 (q := lw_privs_1[10]) 10 rfl
theorem co_yX7_countingFormulas : Cond.code yX7_countingFormulas cX7_countingFormulas 3 (some .int) ∈ TB := tb_2 182 rfl rfl
theorem ml_X7_168 : Cond.methodLink RX7 168 yX7_modelsIn ∈ TB := tb_2 183 rfl rfl
theorem im_yX7_modelsIn : Cond.instanceMethod yX7_modelsIn ∈ TB := tb_2 185 rfl rfl
theorem se_yX7_modelsIn : Cond.selects RX7 yX7_modelsIn yX7_modelsIn ∈ TB := tp_1 (q := lw_privs_1[11]) 11 rfl
theorem co_yX7_modelsIn : Cond.code yX7_modelsIn cX7_modelsIn 8 (some .long) ∈ TB := tb_2 186 rfl rfl
theorem cn_X7_237 : Cond.constantLong RX7 237 (-1) ∈ TB := tb_2 191 rfl rfl
theorem ml_X7_239 : Cond.methodLink RX7 239 yX7_waysIn ∈ TB := tb_2 187 rfl rfl
theorem im_yX7_waysIn : Cond.instanceMethod yX7_waysIn ∈ TB := tb_2 189 rfl rfl
theorem se_yX7_waysIn : Cond.selects RX7 yX7_waysIn yX7_waysIn ∈ TB := tp_1 (q := lw_privs_1[12]) 12 rfl
theorem co_yX7_waysIn : Cond.code yX7_waysIn cX7_waysIn 3 (some .long) ∈ TB := tb_2 190 rfl rfl
theorem fl_X7_226 : Cond.fieldLink RX7 226 "TextSolver$Space" "size" "I" ∈ TB := tb_1 37 rfl rfl
theorem ml_X7_204 : Cond.methodLink RX7 204 yX7_isIn ∈ TB := tb_2 192 rfl rfl
theorem st_yX7_isIn : Cond.static yX7_isIn ∈ TB := tb_2 193 rfl rfl
theorem co_yX7_isIn : Cond.code yX7_isIn cX7_isIn 2 (some .boolean) ∈ TB := tb_2 194 rfl rfl
theorem ml_X7_243 : Cond.methodLink RX7 243 yX0_ruledOut ∈ TB := tb_2 195 rfl rfl
theorem im_yX0_ruledOut : Cond.instanceMethod yX0_ruledOut ∈ TB := tb_2 196 rfl rfl
theorem se_yX0_ruledOut : Cond.selects RX0 yX0_ruledOut yX0_ruledOut ∈ TB := tb_2 197 rfl rfl
theorem co_yX0_ruledOut : Cond.code yX0_ruledOut cX0_ruledOut 2 (some .long) ∈ TB := tb_2 198 rfl rfl
theorem cn_X0_54 : Cond.constantLong RX0 54 (-1) ∈ TB := tb_2 199 rfl rfl
theorem ml_X7_246 : Cond.methodLink RX7 246 yX0_notJudged ∈ TB := tb_2 200 rfl rfl
theorem im_yX0_notJudged : Cond.instanceMethod yX0_notJudged ∈ TB := tb_2 201 rfl rfl
theorem se_yX0_notJudged : Cond.selects RX0 yX0_notJudged yX0_notJudged ∈ TB := tb_2 202 rfl rfl
theorem co_yX0_notJudged : Cond.code yX0_notJudged cX0_notJudged 2 (some .long) ∈ TB := tb_2 203 rfl rfl
theorem ml_X7_249 : Cond.methodLink RX7 249 yX7_isModel ∈ TB := tb_2 204 rfl rfl
theorem im_yX7_isModel : Cond.instanceMethod yX7_isModel ∈ TB := tb_2 206 rfl rfl
theorem se_yX7_isModel : Cond.selects RX7 yX7_isModel yX7_isModel ∈ TB := tp_1 (q := lw_privs_1[13]) 13 rfl
theorem co_yX7_isModel : Cond.code yX7_isModel cX7_isModel 5 (some .boolean) ∈ TB := tb_2 207 rfl rfl
theorem ml_X7_252 : Cond.methodLink RX7 252 yX0_isJudged ∈ TB := tb_2 208 rfl rfl
theorem im_yX0_isJudged : Cond.instanceMethod yX0_isJudged ∈ TB := tb_2 209 rfl rfl
theorem se_yX0_isJudged : Cond.selects RX0 yX0_isJudged yX0_isJudged ∈ TB := tb_2 210 rfl rfl
theorem co_yX0_isJudged : Cond.code yX0_isJudged cX0_isJudged 2 (some .boolean) ∈ TB := tb_2 211 rfl rfl
theorem ml_X0_50 : Cond.methodLink RX0 50 yX0_isBit ∈ TB := tb_2 212 rfl rfl
theorem st_yX0_isBit : Cond.static yX0_isBit ∈ TB := tb_2 213 rfl rfl
theorem co_yX0_isBit : Cond.code yX0_isBit cX0_isBit 3 (some .boolean) ∈ TB := tb_2 214 rfl rfl
theorem ml_X7_234 : Cond.methodLink RX7 234 yX6_goTo ∈ TB := tb_2 215 rfl rfl
theorem im_yX6_goTo : Cond.instanceMethod yX6_goTo ∈ TB := tb_2 216 rfl rfl
theorem se_yX6_goTo : Cond.selects RX6 yX6_goTo yX6_goTo ∈ TB := tb_2 217 rfl rfl
theorem co_yX6_goTo : Cond.code yX6_goTo cX6_goTo 4 none ∈ TB := tb_2 218 rfl rfl
theorem ml_X6_55 : Cond.methodLink RX6 55 yX6_restart ∈ TB := tb_2 219 rfl rfl
theorem ml_X6_58 : Cond.methodLink RX6 58 yX4_lengthWays ∈ TB := tb_2 220 rfl rfl
theorem im_yX4_lengthWays : Cond.instanceMethod yX4_lengthWays ∈ TB := tb_2 221 rfl rfl
theorem se_yX4_lengthWays : Cond.selects RX4 yX4_lengthWays yX4_lengthWays ∈ TB := tb_2 222 rfl rfl
theorem co_yX4_lengthWays : Cond.code yX4_lengthWays cX4_lengthWays 3 (some .int) ∈ TB := tb_2 223 rfl rfl
theorem ml_X6_62 : Cond.methodLink RX6 62 yX6_goToNextLengths ∈ TB := tb_2 224 rfl rfl
theorem im_yX6_goToNextLengths : Cond.instanceMethod yX6_goToNextLengths ∈ TB := tb_2 225 rfl rfl
theorem se_yX6_goToNextLengths : Cond.selects RX6 yX6_goToNextLengths yX6_goToNextLengths ∈ TB := tb_2 226 rfl rfl
theorem co_yX6_goToNextLengths : Cond.code yX6_goToNextLengths cX6_goToNextLengths 2 none ∈ TB := tb_2 227 rfl rfl
theorem fl_X6_52 : Cond.fieldLink RX6 52 "TextSolver$Space" "mosts" "[I" ∈ TB := tb_1 29 rfl rfl
theorem ml_X7_187 : Cond.methodLink RX7 187 yX1_isSo ∈ TB := tb_2 228 rfl rfl
theorem im_yX1_isSo : Cond.instanceMethod yX1_isSo ∈ TB := tb_2 229 rfl rfl
theorem se_yX1_isSo : Cond.selects RX1 yX1_isSo yX1_isSo ∈ TB := tb_2 230 rfl rfl
theorem co_yX1_isSo : Cond.code yX1_isSo cX1_isSo 5 (some .boolean) ∈ TB := tb_2 231 rfl rfl
theorem fl_X1_59 : Cond.fieldLink RX1 59 "TextSolver$Formula" "kind" "I" ∈ TB := tb_1 171 rfl rfl
theorem fl_X1_62 : Cond.fieldLink RX1 62 "TextSolver$Way" "lengths" "[I" ∈ TB := tb_1 57 rfl rfl
theorem fl_X1_42 : Cond.fieldLink RX1 42 "TextSolver$Formula" "a" "I" ∈ TB := tb_1 174 rfl rfl
theorem fl_X1_55 : Cond.fieldLink RX1 55 "TextSolver$Formula" "b" "I" ∈ TB := tb_1 176 rfl rfl
theorem fl_X1_57 : Cond.fieldLink RX1 57 "TextSolver$Formula" "c" "I" ∈ TB := tb_1 178 rfl rfl
theorem fl_X1_107 : Cond.fieldLink RX1 107 "TextSolver$Formula" "d" "I" ∈ TB := tb_1 180 rfl rfl
theorem fl_X1_109 : Cond.fieldLink RX1 109 "TextSolver$Row" "size" "I" ∈ TB := tb_1 118 rfl rfl
theorem ml_X1_68 : Cond.methodLink RX1 68 yX1_isLonger ∈ TB := tb_2 232 rfl rfl
theorem im_yX1_isLonger : Cond.instanceMethod yX1_isLonger ∈ TB := tb_2 233 rfl rfl
theorem se_yX1_isLonger : Cond.selects RX1 yX1_isLonger yX1_isLonger ∈ TB := tb_2 234 rfl rfl
theorem co_yX1_isLonger : Cond.code yX1_isLonger cX1_isLonger 4 (some .boolean) ∈ TB := tb_2 235 rfl rfl
theorem ml_X1_47 : Cond.methodLink RX1 47 yX1_termAt ∈ TB := tb_2 236 rfl rfl
theorem im_yX1_termAt : Cond.instanceMethod yX1_termAt ∈ TB := tb_2 238 rfl rfl
theorem se_yX1_termAt : Cond.selects RX1 yX1_termAt yX1_termAt ∈ TB := tp_1 (q := lw_privs_1[14]) 14 rfl
theorem co_yX1_termAt : Cond.code yX1_termAt cX1_termAt 2 (some (.object "TextSolver$Term")) ∈ TB := tb_2 239 rfl rfl
theorem ml_X1_51 : Cond.methodLink RX1 51 yX5_lengthWith ∈ TB := tb_3 0 rfl rfl
theorem im_yX5_lengthWith : Cond.instanceMethod yX5_lengthWith ∈ TB := tb_3 1 rfl rfl
theorem se_yX5_lengthWith : Cond.selects RX5 yX5_lengthWith yX5_lengthWith ∈ TB := tb_3 2 rfl rfl
theorem co_yX5_lengthWith : Cond.code yX5_lengthWith cX5_lengthWith 5 (some .int) ∈ TB := tb_3 3 rfl rfl
theorem ml_X1_72 : Cond.methodLink RX1 72 yX1_isOneLength ∈ TB := tb_3 4 rfl rfl
theorem im_yX1_isOneLength : Cond.instanceMethod yX1_isOneLength ∈ TB := tb_3 5 rfl rfl
theorem se_yX1_isOneLength : Cond.selects RX1 yX1_isOneLength yX1_isOneLength ∈ TB := tb_3 6 rfl rfl
theorem co_yX1_isOneLength : Cond.code yX1_isOneLength cX1_isOneLength 3 (some .boolean) ∈ TB := tb_3 7 rfl rfl
theorem ml_X1_75 : Cond.methodLink RX1 75 yX3_write ∈ TB := tb_3 8 rfl rfl
theorem im_yX3_write : Cond.instanceMethod yX3_write ∈ TB := tb_3 9 rfl rfl
theorem se_yX3_write : Cond.selects RX3 yX3_write yX3_write ∈ TB := tb_3 10 rfl rfl
theorem co_yX3_write : Cond.code yX3_write cX3_write 5 none ∈ TB := tb_3 11 rfl rfl
theorem fl_X3_15 : Cond.fieldLink RX3 15 "TextSolver$Row" "size" "I" ∈ TB := tb_1 117 rfl rfl
theorem fl_X3_19 : Cond.fieldLink RX3 19 "TextSolver$Term" "size" "I" ∈ TB := tb_1 102 rfl rfl
theorem fl_X3_22 : Cond.fieldLink RX3 22 "TextSolver$Term" "parts" "[I" ∈ TB := tb_1 100 rfl rfl
theorem fl_X3_29 : Cond.fieldLink RX3 29 "TextSolver$Way" "lengths" "[I" ∈ TB := tb_1 56 rfl rfl
theorem fl_X3_34 : Cond.fieldLink RX3 34 "TextSolver$Way" "row" "[I" ∈ TB := tb_1 62 rfl rfl
theorem fl_X3_37 : Cond.fieldLink RX3 37 "TextSolver$Way" "starts" "[I" ∈ TB := tb_1 60 rfl rfl
theorem ml_X3_25 : Cond.methodLink RX3 25 yX3_addLetter ∈ TB := tb_3 12 rfl rfl
theorem im_yX3_addLetter : Cond.instanceMethod yX3_addLetter ∈ TB := tb_3 14 rfl rfl
theorem se_yX3_addLetter : Cond.selects RX3 yX3_addLetter yX3_addLetter ∈ TB := tp_1 (q := lw_privs_1[15]) 15 rfl
theorem co_yX3_addLetter : Cond.code yX3_addLetter cX3_addLetter 2 none ∈ TB := tb_3 15 rfl rfl
theorem ml_X3_40 : Cond.methodLink RX3 40 yX3_addRow ∈ TB := tb_3 16 rfl rfl
theorem im_yX3_addRow : Cond.instanceMethod yX3_addRow ∈ TB := tb_3 18 rfl rfl
theorem se_yX3_addRow : Cond.selects RX3 yX3_addRow yX3_addRow ∈ TB := tp_2 (q := lw_privs_2[0]) 0 rfl
theorem co_yX3_addRow : Cond.code yX3_addRow cX3_addRow 5 none ∈ TB := tb_3 19 rfl rfl
theorem ml_X1_79 : Cond.methodLink RX1 79 yX0_hasSecondTerm ∈ TB := tb_3 20 rfl rfl
theorem ml_X1_83 : Cond.methodLink RX1 83 yX3_isSame ∈ TB := tb_3 21 rfl rfl
theorem im_yX3_isSame : Cond.instanceMethod yX3_isSame ∈ TB := tb_3 22 rfl rfl
theorem se_yX3_isSame : Cond.selects RX3 yX3_isSame yX3_isSame ∈ TB := tb_3 23 rfl rfl
theorem co_yX3_isSame : Cond.code yX3_isSame cX3_isSame 2 (some .boolean) ∈ TB := tb_3 24 rfl rfl
theorem ml_X3_44 : Cond.methodLink RX3 44 yX3_agrees ∈ TB := tb_3 25 rfl rfl
theorem im_yX3_agrees : Cond.instanceMethod yX3_agrees ∈ TB := tb_3 27 rfl rfl
theorem se_yX3_agrees : Cond.selects RX3 yX3_agrees yX3_agrees ∈ TB := tp_2 (q := lw_privs_2[1]) 1 rfl
theorem co_yX3_agrees : Cond.code yX3_agrees cX3_agrees 6 (some .boolean) ∈ TB := tb_3 28 rfl rfl
theorem ml_X1_87 : Cond.methodLink RX1 87 yX1_machineAt ∈ TB := tb_3 29 rfl rfl
theorem im_yX1_machineAt : Cond.instanceMethod yX1_machineAt ∈ TB := tb_3 31 rfl rfl
theorem se_yX1_machineAt : Cond.selects RX1 yX1_machineAt yX1_machineAt ∈ TB := tp_2 (q := lw_privs_2[2]) 2 rfl
theorem co_yX1_machineAt : Cond.code yX1_machineAt cX1_machineAt 2 (some (.object "TextSolver$Machine")) ∈ TB := tb_3 32 rfl rfl
theorem ml_X1_91 : Cond.methodLink RX1 91 yX2_takes ∈ TB := tb_3 33 rfl rfl
theorem im_yX2_takes : Cond.instanceMethod yX2_takes ∈ TB := tb_3 34 rfl rfl
theorem se_yX2_takes : Cond.selects RX2 yX2_takes yX2_takes ∈ TB := tb_3 35 rfl rfl
theorem co_yX2_takes : Cond.code yX2_takes cX2_takes 4 (some .boolean) ∈ TB := tb_3 36 rfl rfl
theorem fl_X2_28 : Cond.fieldLink RX2 28 "TextSolver$Row" "size" "I" ∈ TB := tb_1 119 rfl rfl
theorem fl_X2_33 : Cond.fieldLink RX2 33 "TextSolver$Row" "letters" "[I" ∈ TB := tb_1 116 rfl rfl
theorem ml_X2_36 : Cond.methodLink RX2 36 yX2_next ∈ TB := tb_3 37 rfl rfl
theorem ml_X2_40 : Cond.methodLink RX2 40 yX2_isGood ∈ TB := tb_3 38 rfl rfl
theorem ml_X1_96 : Cond.methodLink RX1 96 yX3_isBefore ∈ TB := tb_3 39 rfl rfl
theorem im_yX3_isBefore : Cond.instanceMethod yX3_isBefore ∈ TB := tb_3 40 rfl rfl
theorem se_yX3_isBefore : Cond.selects RX3 yX3_isBefore yX3_isBefore ∈ TB := tb_3 41 rfl rfl
theorem co_yX3_isBefore : Cond.code yX3_isBefore cX3_isBefore 3 (some .boolean) ∈ TB := tb_3 42 rfl rfl
theorem ml_X1_99 : Cond.methodLink RX1 99 yX3_placeOf ∈ TB := tb_3 43 rfl rfl
theorem im_yX3_placeOf : Cond.instanceMethod yX3_placeOf ∈ TB := tb_3 44 rfl rfl
theorem se_yX3_placeOf : Cond.selects RX3 yX3_placeOf yX3_placeOf ∈ TB := tb_3 45 rfl rfl
theorem co_yX3_placeOf : Cond.code yX3_placeOf cX3_placeOf 3 (some .int) ∈ TB := tb_3 46 rfl rfl
theorem ml_X1_103 : Cond.methodLink RX1 103 yX3_hasSum ∈ TB := tb_3 47 rfl rfl
theorem im_yX3_hasSum : Cond.instanceMethod yX3_hasSum ∈ TB := tb_3 48 rfl rfl
theorem se_yX3_hasSum : Cond.selects RX3 yX3_hasSum yX3_hasSum ∈ TB := tb_3 49 rfl rfl
theorem co_yX3_hasSum : Cond.code yX3_hasSum cX3_hasSum 5 (some .boolean) ∈ TB := tb_3 50 rfl rfl
theorem ml_X3_48 : Cond.methodLink RX3 48 yJ9_floorMod_7cf53 ∈ TB := tb_3 51 rfl rfl
theorem st_yJ9_floorMod_7cf53 : Cond.static yJ9_floorMod_7cf53 ∈ TB := tb_3 52 rfl rfl
theorem in_RJ9 : Cond.initialized RJ9 ∈ TB := tb_1 11 rfl rfl
theorem co_yJ9_floorMod_7cf53 : Cond.code yJ9_floorMod_7cf53 cJ9_floorMod_7cf53 3 (some .int) ∈ TB := tb_3 53 rfl rfl
theorem ml_X1_112 : Cond.methodLink RX1 112 yX3_isReplaced ∈ TB := tb_3 54 rfl rfl
theorem im_yX3_isReplaced : Cond.instanceMethod yX3_isReplaced ∈ TB := tb_3 55 rfl rfl
theorem se_yX3_isReplaced : Cond.selects RX3 yX3_isReplaced yX3_isReplaced ∈ TB := tb_3 56 rfl rfl
theorem co_yX3_isReplaced : Cond.code yX3_isReplaced cX3_isReplaced 6 (some .boolean) ∈ TB := tb_3 57 rfl rfl
theorem ml_X7_255 : Cond.methodLink RX7 255 yX0_keep ∈ TB := tb_3 58 rfl rfl
theorem im_yX0_keep : Cond.instanceMethod yX0_keep ∈ TB := tb_3 59 rfl rfl
theorem se_yX0_keep : Cond.selects RX0 yX0_keep yX0_keep ∈ TB := tb_3 60 rfl rfl
theorem co_yX0_keep : Cond.code yX0_keep cX0_keep 4 none ∈ TB := tb_3 61 rfl rfl
theorem ml_X7_258 : Cond.methodLink RX7 258 yX0_isSoIn ∈ TB := tb_3 62 rfl rfl
theorem im_yX0_isSoIn : Cond.instanceMethod yX0_isSoIn ∈ TB := tb_3 63 rfl rfl
theorem se_yX0_isSoIn : Cond.selects RX0 yX0_isSoIn yX0_isSoIn ∈ TB := tb_3 64 rfl rfl
theorem co_yX0_isSoIn : Cond.code yX0_isSoIn cX0_isSoIn 2 (some .boolean) ∈ TB := tb_3 65 rfl rfl
theorem ml_X7_172 : Cond.methodLink RX7 172 yJ13_bitCount_95d88 ∈ TB := tb_3 66 rfl rfl
theorem st_yJ13_bitCount_95d88 : Cond.static yJ13_bitCount_95d88 ∈ TB := tb_3 67 rfl rfl
theorem in_RJ13 : Cond.initialized RJ13 ∈ TB := tb_1 12 rfl rfl
theorem co_yJ13_bitCount_95d88 : Cond.code yJ13_bitCount_95d88 cJ13_bitCount_95d88 2 (some .int) ∈ TB := tb_3 68 rfl rfl
theorem cn_J13_314 : Cond.constantLong RJ13 314 (6148914691236517205) ∈ TB := tb_3 69 rfl rfl
theorem cn_J13_316 : Cond.constantLong RJ13 316 (3689348814741910323) ∈ TB := tb_3 70 rfl rfl
theorem cn_J13_318 : Cond.constantLong RJ13 318 (1085102592571150095) ∈ TB := tb_3 71 rfl rfl
theorem ml_X7_230 : Cond.methodLink RX7 230 yX7_placeOfBit ∈ TB := tb_3 72 rfl rfl
theorem st_yX7_placeOfBit : Cond.static yX7_placeOfBit ∈ TB := tb_3 73 rfl rfl
theorem co_yX7_placeOfBit : Cond.code yX7_placeOfBit cX7_placeOfBit 7 (some .int) ∈ TB := tb_3 74 rfl rfl
theorem ml_L_63 : Cond.methodLink RL 63 yX8_solve ∈ TB := tb_4 66 rfl rfl
theorem im_yX8_solve : Cond.instanceMethod yX8_solve ∈ TB := tb_4 67 rfl rfl
theorem se_yX8_solve : Cond.selects RX8 yX8_solve yX8_solve ∈ TB := tb_4 68 rfl rfl
theorem co_yX8_solve : Cond.code yX8_solve cX8_solve 1 (some .int) ∈ TB := tb_4 69 rfl rfl
theorem ml_X8_174 : Cond.methodLink RX8 174 yX8_take ∈ TB := tb_4 70 rfl rfl
theorem im_yX8_take : Cond.instanceMethod yX8_take ∈ TB := tb_4 72 rfl rfl
theorem se_yX8_take : Cond.selects RX8 yX8_take yX8_take ∈ TB := tp_2 (q := lw_privs_2[8]) 8 rfl
theorem co_yX8_take : Cond.code yX8_take cX8_take 3 (some .boolean) ∈ TB := tb_4 73 rfl rfl
theorem ml_X8_167 : Cond.methodLink RX8 167 yX8_stayAll ∈ TB := tb_4 74 rfl rfl
theorem im_yX8_stayAll : Cond.instanceMethod yX8_stayAll ∈ TB := tb_4 76 rfl rfl
theorem se_yX8_stayAll : Cond.selects RX8 yX8_stayAll yX8_stayAll ∈ TB := tp_2 (q := lw_privs_2[9]) 9 rfl
theorem co_yX8_stayAll : Cond.code yX8_stayAll cX8_stayAll 2 none ∈ TB := tb_4 77 rfl rfl
theorem ml_X8_170 : Cond.methodLink RX8 170 yX8_search ∈ TB := tb_4 78 rfl rfl
theorem im_yX8_search : Cond.instanceMethod yX8_search ∈ TB := tb_4 80 rfl rfl
theorem se_yX8_search : Cond.selects RX8 yX8_search yX8_search ∈ TB := tp_2 (q := lw_privs_2[10]) 10 rfl
theorem co_yX8_search : Cond.code yX8_search cX8_search 4 (some .int) ∈ TB := tb_4 81 rfl rfl
theorem ml_X8_158 : Cond.methodLink RX8 158 yX8_first ∈ TB := tb_4 82 rfl rfl
theorem im_yX8_first : Cond.instanceMethod yX8_first ∈ TB := tb_4 84 rfl rfl
theorem se_yX8_first : Cond.selects RX8 yX8_first yX8_first ∈ TB := tp_2 (q := lw_privs_2[11]) 11 rfl
theorem co_yX8_first : Cond.code yX8_first cX8_first 2 none ∈ TB := tb_4 85 rfl rfl
theorem ml_X8_161 : Cond.methodLink RX8 161 yX8_isModel ∈ TB := tb_4 86 rfl rfl
theorem im_yX8_isModel : Cond.instanceMethod yX8_isModel ∈ TB := tb_4 88 rfl rfl
theorem se_yX8_isModel : Cond.selects RX8 yX8_isModel yX8_isModel ∈ TB := tp_2 (q := lw_privs_2[12]) 12 rfl
theorem co_yX8_isModel : Cond.code yX8_isModel cX8_isModel 2 (some .boolean) ∈ TB := tb_4 89 rfl rfl
theorem ml_X8_155 : Cond.methodLink RX8 155 yX8_is ∈ TB := tb_4 90 rfl rfl
theorem im_yX8_is : Cond.instanceMethod yX8_is ∈ TB := tb_4 92 rfl rfl
theorem se_yX8_is : Cond.selects RX8 yX8_is yX8_is ∈ TB := tp_2 (q := lw_privs_2[13]) 13 rfl
theorem co_yX8_is : Cond.code yX8_is cX8_is 2 (some .boolean) ∈ TB := tb_4 93 rfl rfl
theorem ml_X8_128 : Cond.methodLink RX8 128 yX8_spell ∈ TB := tb_4 94 rfl rfl
theorem im_yX8_spell : Cond.instanceMethod yX8_spell ∈ TB := tb_4 96 rfl rfl
theorem se_yX8_spell : Cond.selects RX8 yX8_spell yX8_spell ∈ TB := tp_2 (q := lw_privs_2[14]) 14 rfl
theorem co_yX8_spell : Cond.code yX8_spell cX8_spell 7 none ∈ TB := tb_4 97 rfl rfl
theorem ml_X8_132 : Cond.methodLink RX8 132 yX8_isSame ∈ TB := tb_4 98 rfl rfl
theorem im_yX8_isSame : Cond.instanceMethod yX8_isSame ∈ TB := tb_4 100 rfl rfl
theorem se_yX8_isSame : Cond.selects RX8 yX8_isSame yX8_isSame ∈ TB := tp_2 (q := lw_privs_2[15]) 15 rfl
theorem co_yX8_isSame : Cond.code yX8_isSame cX8_isSame 3 (some .boolean) ∈ TB := tb_4 101 rfl rfl
theorem ml_X8_136 : Cond.methodLink RX8 136 yX8_isTaken ∈ TB := tb_4 102 rfl rfl
theorem im_yX8_isTaken : Cond.instanceMethod yX8_isTaken ∈ TB := tb_4 104 rfl rfl
theorem se_yX8_isTaken : Cond.selects RX8 yX8_isTaken yX8_isTaken ∈ TB := tp_3 (q := lw_privs_3[0]) 0 rfl
theorem co_yX8_isTaken : Cond.code yX8_isTaken cX8_isTaken 5 (some .boolean) ∈ TB := tb_4 105 rfl rfl
theorem ml_X8_140 : Cond.methodLink RX8 140 yX8_isBefore ∈ TB := tb_4 106 rfl rfl
theorem im_yX8_isBefore : Cond.instanceMethod yX8_isBefore ∈ TB := tb_4 108 rfl rfl
theorem se_yX8_isBefore : Cond.selects RX8 yX8_isBefore yX8_isBefore ∈ TB := tp_3 (q := lw_privs_3[1]) 1 rfl
theorem co_yX8_isBefore : Cond.code yX8_isBefore cX8_isBefore 2 (some .boolean) ∈ TB := tb_4 109 rfl rfl
theorem ml_X8_120 : Cond.methodLink RX8 120 yX8_found ∈ TB := tb_4 110 rfl rfl
theorem im_yX8_found : Cond.instanceMethod yX8_found ∈ TB := tb_4 112 rfl rfl
theorem se_yX8_found : Cond.selects RX8 yX8_found yX8_found ∈ TB := tp_3 (q := lw_privs_3[2]) 2 rfl
theorem co_yX8_found : Cond.code yX8_found cX8_found 6 (some .int) ∈ TB := tb_4 113 rfl rfl
theorem ml_X8_143 : Cond.methodLink RX8 143 yX8_isSum ∈ TB := tb_4 114 rfl rfl
theorem im_yX8_isSum : Cond.instanceMethod yX8_isSum ∈ TB := tb_4 116 rfl rfl
theorem se_yX8_isSum : Cond.selects RX8 yX8_isSum yX8_isSum ∈ TB := tp_3 (q := lw_privs_3[3]) 3 rfl
theorem co_yX8_isSum : Cond.code yX8_isSum cX8_isSum 6 (some .boolean) ∈ TB := tb_4 117 rfl rfl
theorem ml_X8_146 : Cond.methodLink RX8 146 yX8_isReplaced ∈ TB := tb_4 118 rfl rfl
theorem im_yX8_isReplaced : Cond.instanceMethod yX8_isReplaced ∈ TB := tb_4 120 rfl rfl
theorem se_yX8_isReplaced : Cond.selects RX8 yX8_isReplaced yX8_isReplaced ∈ TB := tp_3 (q := lw_privs_3[4]) 4 rfl
theorem co_yX8_isReplaced : Cond.code yX8_isReplaced cX8_isReplaced 4 (some .boolean) ∈ TB := tb_4 121 rfl rfl
theorem fl_X8_117 : Cond.fieldLink RX8 117 "TextSolverModel" "madeMany" "I" ∈ TB := tb_3 186 rfl rfl
theorem ml_X8_124 : Cond.methodLink RX8 124 yX8_make ∈ TB := tb_4 122 rfl rfl
theorem im_yX8_make : Cond.instanceMethod yX8_make ∈ TB := tb_4 124 rfl rfl
theorem se_yX8_make : Cond.selects RX8 yX8_make yX8_make ∈ TB := tp_3 (q := lw_privs_3[5]) 5 rfl
theorem co_yX8_make : Cond.code yX8_make cX8_make 5 none ∈ TB := tb_4 125 rfl rfl
theorem ml_X8_164 : Cond.methodLink RX8 164 yX8_next ∈ TB := tb_4 126 rfl rfl
theorem im_yX8_next : Cond.instanceMethod yX8_next ∈ TB := tb_4 128 rfl rfl
theorem se_yX8_next : Cond.selects RX8 yX8_next yX8_next ∈ TB := tp_3 (q := lw_privs_3[6]) 6 rfl
theorem co_yX8_next : Cond.code yX8_next cX8_next 1 (some .boolean) ∈ TB := tb_4 129 rfl rfl
theorem ml_X8_149 : Cond.methodLink RX8 149 yX8_nextLetters ∈ TB := tb_4 130 rfl rfl
theorem im_yX8_nextLetters : Cond.instanceMethod yX8_nextLetters ∈ TB := tb_4 132 rfl rfl
theorem se_yX8_nextLetters : Cond.selects RX8 yX8_nextLetters yX8_nextLetters ∈ TB := tp_3 (q := lw_privs_3[7]) 7 rfl
theorem co_yX8_nextLetters : Cond.code yX8_nextLetters cX8_nextLetters 3 (some .boolean) ∈ TB := tb_4 133 rfl rfl
theorem ml_X8_152 : Cond.methodLink RX8 152 yX8_nextLengths ∈ TB := tb_4 134 rfl rfl
theorem im_yX8_nextLengths : Cond.instanceMethod yX8_nextLengths ∈ TB := tb_4 136 rfl rfl
theorem se_yX8_nextLengths : Cond.selects RX8 yX8_nextLengths yX8_nextLengths ∈ TB := tp_3 (q := lw_privs_3[8]) 8 rfl
theorem co_yX8_nextLengths : Cond.code yX8_nextLengths cX8_nextLengths 2 (some .boolean) ∈ TB := tb_4 137 rfl rfl
theorem ml_L_64 : Cond.methodLink RL 64 yX7_model ∈ TB := tb_3 75 rfl rfl
theorem im_yX7_model : Cond.instanceMethod yX7_model ∈ TB := tb_3 76 rfl rfl
theorem se_yX7_model : Cond.selects RX7 yX7_model yX7_model ∈ TB := tb_3 77 rfl rfl
theorem co_yX7_model : Cond.code yX7_model cX7_model 2 (some .int) ∈ TB := tb_3 78 rfl rfl
theorem ml_L_67 : Cond.methodLink RL 67 yX8_model ∈ TB := tb_4 138 rfl rfl
theorem im_yX8_model : Cond.instanceMethod yX8_model ∈ TB := tb_4 139 rfl rfl
theorem se_yX8_model : Cond.selects RX8 yX8_model yX8_model ∈ TB := tb_4 140 rfl rfl
theorem co_yX8_model : Cond.code yX8_model cX8_model 2 (some .int) ∈ TB := tb_4 141 rfl rfl
theorem ml_L_68 : Cond.methodLink RL 68 yX7_models ∈ TB := tb_3 79 rfl rfl
theorem im_yX7_models : Cond.instanceMethod yX7_models ∈ TB := tb_3 80 rfl rfl
theorem se_yX7_models : Cond.selects RX7 yX7_models yX7_models ∈ TB := tb_3 81 rfl rfl
theorem co_yX7_models : Cond.code yX7_models cX7_models 4 (some .int) ∈ TB := tb_3 82 rfl rfl
theorem ml_L_71 : Cond.methodLink RL 71 yX8_models ∈ TB := tb_4 142 rfl rfl
theorem im_yX8_models : Cond.instanceMethod yX8_models ∈ TB := tb_4 143 rfl rfl
theorem se_yX8_models : Cond.selects RX8 yX8_models yX8_models ∈ TB := tb_4 144 rfl rfl
theorem co_yX8_models : Cond.code yX8_models cX8_models 1 (some .int) ∈ TB := tb_4 145 rfl rfl
theorem ml_L_72 : Cond.methodLink RL 72 yX7_length ∈ TB := tb_3 83 rfl rfl
theorem im_yX7_length : Cond.instanceMethod yX7_length ∈ TB := tb_3 84 rfl rfl
theorem se_yX7_length : Cond.selects RX7 yX7_length yX7_length ∈ TB := tb_3 85 rfl rfl
theorem co_yX7_length : Cond.code yX7_length cX7_length 2 (some .int) ∈ TB := tb_3 86 rfl rfl
theorem ml_X7_181 : Cond.methodLink RX7 181 yX6_lengthOf ∈ TB := tb_3 87 rfl rfl
theorem im_yX6_lengthOf : Cond.instanceMethod yX6_lengthOf ∈ TB := tb_3 88 rfl rfl
theorem se_yX6_lengthOf : Cond.selects RX6 yX6_lengthOf yX6_lengthOf ∈ TB := tb_3 89 rfl rfl
theorem co_yX6_lengthOf : Cond.code yX6_lengthOf cX6_lengthOf 2 (some .int) ∈ TB := tb_3 90 rfl rfl
theorem ml_X6_65 : Cond.methodLink RX6 65 yX4_isText ∈ TB := tb_3 91 rfl rfl
theorem ml_L_75 : Cond.methodLink RL 75 yX8_length ∈ TB := tb_4 146 rfl rfl
theorem im_yX8_length : Cond.instanceMethod yX8_length ∈ TB := tb_4 147 rfl rfl
theorem se_yX8_length : Cond.selects RX8 yX8_length yX8_length ∈ TB := tb_4 148 rfl rfl
theorem co_yX8_length : Cond.code yX8_length cX8_length 2 (some .int) ∈ TB := tb_4 149 rfl rfl
theorem ml_L_76 : Cond.methodLink RL 76 yX7_letter ∈ TB := tb_3 92 rfl rfl
theorem im_yX7_letter : Cond.instanceMethod yX7_letter ∈ TB := tb_3 93 rfl rfl
theorem se_yX7_letter : Cond.selects RX7 yX7_letter yX7_letter ∈ TB := tb_3 94 rfl rfl
theorem co_yX7_letter : Cond.code yX7_letter cX7_letter 3 (some .int) ∈ TB := tb_3 95 rfl rfl
theorem ml_X7_184 : Cond.methodLink RX7 184 yX6_letterOf ∈ TB := tb_3 96 rfl rfl
theorem im_yX6_letterOf : Cond.instanceMethod yX6_letterOf ∈ TB := tb_3 97 rfl rfl
theorem se_yX6_letterOf : Cond.selects RX6 yX6_letterOf yX6_letterOf ∈ TB := tb_3 98 rfl rfl
theorem co_yX6_letterOf : Cond.code yX6_letterOf cX6_letterOf 3 (some .int) ∈ TB := tb_3 99 rfl rfl
theorem ml_X6_69 : Cond.methodLink RX6 69 yX6_lengthOf ∈ TB := tb_3 100 rfl rfl
theorem ml_L_79 : Cond.methodLink RL 79 yX8_letter ∈ TB := tb_4 150 rfl rfl
theorem im_yX8_letter : Cond.instanceMethod yX8_letter ∈ TB := tb_4 151 rfl rfl
theorem se_yX8_letter : Cond.selects RX8 yX8_letter yX8_letter ∈ TB := tb_4 152 rfl rfl
theorem co_yX8_letter : Cond.code yX8_letter cX8_letter 3 (some .int) ∈ TB := tb_4 153 rfl rfl
theorem ml_L_80 : Cond.methodLink RL 80 yX7_holds ∈ TB := tb_3 101 rfl rfl
theorem im_yX7_holds : Cond.instanceMethod yX7_holds ∈ TB := tb_3 102 rfl rfl
theorem se_yX7_holds : Cond.selects RX7 yX7_holds yX7_holds ∈ TB := tb_3 103 rfl rfl
theorem co_yX7_holds : Cond.code yX7_holds cX7_holds 2 (some .int) ∈ TB := tb_3 104 rfl rfl
theorem ml_L_83 : Cond.methodLink RL 83 yX8_holds ∈ TB := tb_4 154 rfl rfl
theorem im_yX8_holds : Cond.instanceMethod yX8_holds ∈ TB := tb_4 155 rfl rfl
theorem se_yX8_holds : Cond.selects RX8 yX8_holds yX8_holds ∈ TB := tb_4 156 rfl rfl
theorem co_yX8_holds : Cond.code yX8_holds cX8_holds 3 (some .int) ∈ TB := tb_4 157 rfl rfl
theorem ml_L_84 : Cond.methodLink RL 84 yX7_core ∈ TB := tb_3 105 rfl rfl
theorem im_yX7_core : Cond.instanceMethod yX7_core ∈ TB := tb_3 106 rfl rfl
theorem se_yX7_core : Cond.selects RX7 yX7_core yX7_core ∈ TB := tb_3 107 rfl rfl
theorem co_yX7_core : Cond.code yX7_core cX7_core 4 (some .int) ∈ TB := tb_3 108 rfl rfl
theorem fl_X7_194 : Cond.fieldLink RX7 194 "TextSolver" "coreMembers" "I" ∈ TB := tb_1 217 rfl rfl
theorem ml_X7_191 : Cond.methodLink RX7 191 yX7_hasModel ∈ TB := tb_3 109 rfl rfl
theorem im_yX7_hasModel : Cond.instanceMethod yX7_hasModel ∈ TB := tb_3 111 rfl rfl
theorem se_yX7_hasModel : Cond.selects RX7 yX7_hasModel yX7_hasModel ∈ TB := tp_2 (q := lw_privs_2[3]) 3 rfl
theorem co_yX7_hasModel : Cond.code yX7_hasModel cX7_hasModel 3 (some .boolean) ∈ TB := tb_3 112 rfl rfl
theorem ml_X7_200 : Cond.methodLink RX7 200 yJ6_bitCount_0f7a4 ∈ TB := tb_3 113 rfl rfl
theorem st_yJ6_bitCount_0f7a4 : Cond.static yJ6_bitCount_0f7a4 ∈ TB := tb_3 114 rfl rfl
theorem in_RJ6 : Cond.initialized RJ6 ∈ TB := tb_1 13 rfl rfl
theorem co_yJ6_bitCount_0f7a4 : Cond.code yJ6_bitCount_0f7a4 cJ6_bitCount_0f7a4 1 (some .int) ∈ TB := tb_3 115 rfl rfl
theorem cn_J6_265 : Cond.constant RJ6 265 (1431655765) ∈ TB := tb_3 116 rfl rfl
theorem cn_J6_266 : Cond.constant RJ6 266 (858993459) ∈ TB := tb_3 117 rfl rfl
theorem cn_J6_267 : Cond.constant RJ6 267 (252645135) ∈ TB := tb_3 118 rfl rfl
theorem ml_L_87 : Cond.methodLink RL 87 yX8_core ∈ TB := tb_4 158 rfl rfl
theorem im_yX8_core : Cond.instanceMethod yX8_core ∈ TB := tb_4 159 rfl rfl
theorem se_yX8_core : Cond.selects RX8 yX8_core yX8_core ∈ TB := tb_4 160 rfl rfl
theorem co_yX8_core : Cond.code yX8_core cX8_core 3 (some .int) ∈ TB := tb_4 161 rfl rfl
theorem ml_L_88 : Cond.methodLink RL 88 yX7_inCore ∈ TB := tb_3 119 rfl rfl
theorem im_yX7_inCore : Cond.instanceMethod yX7_inCore ∈ TB := tb_3 120 rfl rfl
theorem se_yX7_inCore : Cond.selects RX7 yX7_inCore yX7_inCore ∈ TB := tb_3 121 rfl rfl
theorem co_yX7_inCore : Cond.code yX7_inCore cX7_inCore 2 (some .int) ∈ TB := tb_3 122 rfl rfl
theorem ml_L_91 : Cond.methodLink RL 91 yX8_inCore ∈ TB := tb_4 162 rfl rfl
theorem im_yX8_inCore : Cond.instanceMethod yX8_inCore ∈ TB := tb_4 163 rfl rfl
theorem se_yX8_inCore : Cond.selects RX8 yX8_inCore yX8_inCore ∈ TB := tb_4 164 rfl rfl
theorem co_yX8_inCore : Cond.code yX8_inCore cX8_inCore 2 (some .int) ∈ TB := tb_4 165 rfl rfl
theorem ml_L_92 : Cond.methodLink RL 92 yX7_spans ∈ TB := tb_3 123 rfl rfl
theorem im_yX7_spans : Cond.instanceMethod yX7_spans ∈ TB := tb_3 124 rfl rfl
theorem se_yX7_spans : Cond.selects RX7 yX7_spans yX7_spans ∈ TB := tb_3 125 rfl rfl
theorem co_yX7_spans : Cond.code yX7_spans cX7_spans 4 (some .int) ∈ TB := tb_3 126 rfl rfl
theorem ml_X7_209 : Cond.methodLink RX7 209 yX4_lengthWays ∈ TB := tb_3 127 rfl rfl
theorem ml_X7_212 : Cond.methodLink RX7 212 yX7_areLengthsFit ∈ TB := tb_3 128 rfl rfl
theorem im_yX7_areLengthsFit : Cond.instanceMethod yX7_areLengthsFit ∈ TB := tb_3 130 rfl rfl
theorem se_yX7_areLengthsFit : Cond.selects RX7 yX7_areLengthsFit yX7_areLengthsFit ∈ TB := tp_2 (q := lw_privs_2[4]) 4 rfl
theorem co_yX7_areLengthsFit : Cond.code yX7_areLengthsFit cX7_areLengthsFit 3 (some .boolean) ∈ TB := tb_3 131 rfl rfl
theorem ml_X7_261 : Cond.methodLink RX7 261 yX7_isLengthFit ∈ TB := tb_3 132 rfl rfl
theorem im_yX7_isLengthFit : Cond.instanceMethod yX7_isLengthFit ∈ TB := tb_3 134 rfl rfl
theorem se_yX7_isLengthFit : Cond.selects RX7 yX7_isLengthFit yX7_isLengthFit ∈ TB := tp_2 (q := lw_privs_2[5]) 5 rfl
theorem co_yX7_isLengthFit : Cond.code yX7_isLengthFit cX7_isLengthFit 2 (some .boolean) ∈ TB := tb_3 135 rfl rfl
theorem fl_X7_265 : Cond.fieldLink RX7 265 "TextSolver$Formula" "kind" "I" ∈ TB := tb_1 172 rfl rfl
theorem fl_X7_268 : Cond.fieldLink RX7 268 "TextSolver$Way" "lengths" "[I" ∈ TB := tb_1 58 rfl rfl
theorem ml_X7_272 : Cond.methodLink RX7 272 yX1_isLonger ∈ TB := tb_3 136 rfl rfl
theorem ml_X7_276 : Cond.methodLink RX7 276 yX1_isOneLength ∈ TB := tb_3 137 rfl rfl
theorem ml_X7_216 : Cond.methodLink RX7 216 yX6_goToNextLengths ∈ TB := tb_3 138 rfl rfl
theorem ml_L_95 : Cond.methodLink RL 95 yX8_spans ∈ TB := tb_4 166 rfl rfl
theorem im_yX8_spans : Cond.instanceMethod yX8_spans ∈ TB := tb_4 167 rfl rfl
theorem se_yX8_spans : Cond.selects RX8 yX8_spans yX8_spans ∈ TB := tb_4 168 rfl rfl
theorem co_yX8_spans : Cond.code yX8_spans cX8_spans 6 (some .int) ∈ TB := tb_4 169 rfl rfl
theorem ml_X8_177 : Cond.methodLink RX8 177 yX8_lengthOf ∈ TB := tb_4 170 rfl rfl
theorem im_yX8_lengthOf : Cond.instanceMethod yX8_lengthOf ∈ TB := tb_4 172 rfl rfl
theorem se_yX8_lengthOf : Cond.selects RX8 yX8_lengthOf yX8_lengthOf ∈ TB := tp_3 (q := lw_privs_3[9]) 9 rfl
theorem co_yX8_lengthOf : Cond.code yX8_lengthOf cX8_lengthOf 5 (some .int) ∈ TB := tb_4 173 rfl rfl
theorem ml_L_96 : Cond.methodLink RL 96 yX7_meet ∈ TB := tb_3 139 rfl rfl
theorem im_yX7_meet : Cond.instanceMethod yX7_meet ∈ TB := tb_3 140 rfl rfl
theorem se_yX7_meet : Cond.selects RX7 yX7_meet yX7_meet ∈ TB := tb_3 141 rfl rfl
theorem co_yX7_meet : Cond.code yX7_meet cX7_meet 3 (some .int) ∈ TB := tb_3 142 rfl rfl
theorem fl_X7_219 : Cond.fieldLink RX7 219 "TextSolver$Space" "letters" "I" ∈ TB := tb_1 32 rfl rfl
theorem ml_X7_222 : Cond.methodLink RX7 222 yX2_shortestWith ∈ TB := tb_3 143 rfl rfl
theorem im_yX2_shortestWith : Cond.instanceMethod yX2_shortestWith ∈ TB := tb_3 144 rfl rfl
theorem se_yX2_shortestWith : Cond.selects RX2 yX2_shortestWith yX2_shortestWith ∈ TB := tb_3 145 rfl rfl
theorem co_yX2_shortestWith : Cond.code yX2_shortestWith cX2_shortestWith 12 (some .int) ∈ TB := tb_3 146 rfl rfl
theorem ml_L_99 : Cond.methodLink RL 99 yX8_meet ∈ TB := tb_4 174 rfl rfl
theorem im_yX8_meet : Cond.instanceMethod yX8_meet ∈ TB := tb_4 175 rfl rfl
theorem se_yX8_meet : Cond.selects RX8 yX8_meet yX8_meet ∈ TB := tb_4 176 rfl rfl
theorem co_yX8_meet : Cond.code yX8_meet cX8_meet 7 (some .int) ∈ TB := tb_4 177 rfl rfl
theorem ml_L_100 : Cond.methodLink RL 100 yX7_told ∈ TB := tb_3 147 rfl rfl
theorem im_yX7_told : Cond.instanceMethod yX7_told ∈ TB := tb_3 148 rfl rfl
theorem se_yX7_told : Cond.selects RX7 yX7_told yX7_told ∈ TB := tb_3 149 rfl rfl
theorem co_yX7_told : Cond.code yX7_told cX7_told 2 (some .int) ∈ TB := tb_3 150 rfl rfl
theorem ml_L_103 : Cond.methodLink RL 103 yX8_told ∈ TB := tb_4 178 rfl rfl
theorem im_yX8_told : Cond.instanceMethod yX8_told ∈ TB := tb_4 179 rfl rfl
theorem se_yX8_told : Cond.selects RX8 yX8_told yX8_told ∈ TB := tb_4 180 rfl rfl
theorem co_yX8_told : Cond.code yX8_told cX8_told 2 (some .int) ∈ TB := tb_4 181 rfl rfl
theorem la_X0_0 : Cond.laysFinal RX0 "TextSolver$Formula" "judged" "[J" ∈ TB := tb_1 185 rfl rfl
theorem la_X0_1 : Cond.laysFinal RX0 "TextSolver$Formula" "so" "[J" ∈ TB := tb_1 187 rfl rfl
theorem la_X0_2 : Cond.lays RX0 "TextSolver$Formula" "kind" "I" ∈ TB := tb_1 189 rfl rfl
theorem la_X0_3 : Cond.lays RX0 "TextSolver$Formula" "a" "I" ∈ TB := tb_1 191 rfl rfl
theorem la_X0_4 : Cond.lays RX0 "TextSolver$Formula" "b" "I" ∈ TB := tb_1 193 rfl rfl
theorem la_X0_5 : Cond.lays RX0 "TextSolver$Formula" "c" "I" ∈ TB := tb_1 195 rfl rfl
theorem la_X0_6 : Cond.lays RX0 "TextSolver$Formula" "d" "I" ∈ TB := tb_1 197 rfl rfl
theorem la_X0_7 : Cond.lays RX0 "TextSolver$Formula" "isDenied" "Z" ∈ TB := tb_1 199 rfl rfl
theorem la_X0_8 : Cond.lays RX0 "TextSolver$Formula" "isLeftOut" "Z" ∈ TB := tb_1 201 rfl rfl
theorem inlX0 : ∀ w ∈ wsX00, w ∈ TB := (List.forall_mem_cons.mpr ⟨la_X0_0, List.forall_mem_cons.mpr ⟨la_X0_1, List.forall_mem_cons.mpr ⟨la_X0_2, List.forall_mem_cons.mpr ⟨la_X0_3, List.forall_mem_cons.mpr ⟨la_X0_4, List.forall_mem_cons.mpr ⟨la_X0_5, List.forall_mem_cons.mpr ⟨la_X0_6, List.forall_mem_cons.mpr ⟨la_X0_7, List.forall_mem_cons.mpr ⟨la_X0_8, fun _ h => absurd h List.not_mem_nil⟩⟩⟩⟩⟩⟩⟩⟩⟩ : ∀ w ∈ ([Cond.laysFinal RX0 "TextSolver$Formula" "judged" "[J", Cond.laysFinal RX0 "TextSolver$Formula" "so" "[J", Cond.lays RX0 "TextSolver$Formula" "kind" "I", Cond.lays RX0 "TextSolver$Formula" "a" "I", Cond.lays RX0 "TextSolver$Formula" "b" "I", Cond.lays RX0 "TextSolver$Formula" "c" "I", Cond.lays RX0 "TextSolver$Formula" "d" "I", Cond.lays RX0 "TextSolver$Formula" "isDenied" "Z", Cond.lays RX0 "TextSolver$Formula" "isLeftOut" "Z"] : List Cond), w ∈ TB)
theorem la_X1_0 : Cond.laysFinal RX1 "TextSolver$Judge" "terms" "[LTextSolver$Term;" ∈ TB := tb_1 132 rfl rfl
theorem la_X1_1 : Cond.laysFinal RX1 "TextSolver$Judge" "machines" "[LTextSolver$Machine;" ∈ TB := tb_1 134 rfl rfl
theorem la_X1_2 : Cond.laysFinal RX1 "TextSolver$Judge" "nothing" "LTextSolver$Term;" ∈ TB := tb_1 136 rfl rfl
theorem la_X1_3 : Cond.laysFinal RX1 "TextSolver$Judge" "a" "LTextSolver$Row;" ∈ TB := tb_1 138 rfl rfl
theorem la_X1_4 : Cond.laysFinal RX1 "TextSolver$Judge" "b" "LTextSolver$Row;" ∈ TB := tb_1 140 rfl rfl
theorem la_X1_5 : Cond.laysFinal RX1 "TextSolver$Judge" "c" "LTextSolver$Row;" ∈ TB := tb_1 142 rfl rfl
theorem la_X1_6 : Cond.laysFinal RX1 "TextSolver$Judge" "d" "LTextSolver$Row;" ∈ TB := tb_1 144 rfl rfl
theorem inlX1 : ∀ w ∈ wsX10, w ∈ TB := (List.forall_mem_cons.mpr ⟨la_X1_0, List.forall_mem_cons.mpr ⟨la_X1_1, List.forall_mem_cons.mpr ⟨la_X1_2, List.forall_mem_cons.mpr ⟨la_X1_3, List.forall_mem_cons.mpr ⟨la_X1_4, List.forall_mem_cons.mpr ⟨la_X1_5, List.forall_mem_cons.mpr ⟨la_X1_6, fun _ h => absurd h List.not_mem_nil⟩⟩⟩⟩⟩⟩⟩ : ∀ w ∈ ([Cond.laysFinal RX1 "TextSolver$Judge" "terms" "[LTextSolver$Term;", Cond.laysFinal RX1 "TextSolver$Judge" "machines" "[LTextSolver$Machine;", Cond.laysFinal RX1 "TextSolver$Judge" "nothing" "LTextSolver$Term;", Cond.laysFinal RX1 "TextSolver$Judge" "a" "LTextSolver$Row;", Cond.laysFinal RX1 "TextSolver$Judge" "b" "LTextSolver$Row;", Cond.laysFinal RX1 "TextSolver$Judge" "c" "LTextSolver$Row;", Cond.laysFinal RX1 "TextSolver$Judge" "d" "LTextSolver$Row;"] : List Cond), w ∈ TB)
theorem la_X2_0 : Cond.laysFinal RX2 "TextSolver$Machine" "steps" "[I" ∈ TB := tb_1 156 rfl rfl
theorem la_X2_1 : Cond.lays RX2 "TextSolver$Machine" "states" "I" ∈ TB := tb_1 158 rfl rfl
theorem la_X2_2 : Cond.lays RX2 "TextSolver$Machine" "goodStates" "I" ∈ TB := tb_1 160 rfl rfl
theorem inlX2 : ∀ w ∈ wsX20, w ∈ TB := (List.forall_mem_cons.mpr ⟨la_X2_0, List.forall_mem_cons.mpr ⟨la_X2_1, List.forall_mem_cons.mpr ⟨la_X2_2, fun _ h => absurd h List.not_mem_nil⟩⟩⟩ : ∀ w ∈ ([Cond.laysFinal RX2 "TextSolver$Machine" "steps" "[I", Cond.lays RX2 "TextSolver$Machine" "states" "I", Cond.lays RX2 "TextSolver$Machine" "goodStates" "I"] : List Cond), w ∈ TB)
theorem la_X3_0 : Cond.laysFinal RX3 "TextSolver$Row" "letters" "[I" ∈ TB := tb_1 120 rfl rfl
theorem la_X3_1 : Cond.lays RX3 "TextSolver$Row" "size" "I" ∈ TB := tb_1 122 rfl rfl
theorem inlX3 : ∀ w ∈ wsX30, w ∈ TB := (List.forall_mem_cons.mpr ⟨la_X3_0, List.forall_mem_cons.mpr ⟨la_X3_1, fun _ h => absurd h List.not_mem_nil⟩⟩ : ∀ w ∈ ([Cond.laysFinal RX3 "TextSolver$Row" "letters" "[I", Cond.lays RX3 "TextSolver$Row" "size" "I"] : List Cond), w ∈ TB)
theorem la_X4_0 : Cond.laysFinal RX4 "TextSolver$Space" "mosts" "[I" ∈ TB := tb_1 38 rfl rfl
theorem la_X4_1 : Cond.lays RX4 "TextSolver$Space" "letters" "I" ∈ TB := tb_1 40 rfl rfl
theorem la_X4_2 : Cond.lays RX4 "TextSolver$Space" "texts" "I" ∈ TB := tb_1 42 rfl rfl
theorem la_X4_3 : Cond.lays RX4 "TextSolver$Space" "size" "I" ∈ TB := tb_1 44 rfl rfl
theorem inlX4 : ∀ w ∈ wsX40, w ∈ TB := (List.forall_mem_cons.mpr ⟨la_X4_0, List.forall_mem_cons.mpr ⟨la_X4_1, List.forall_mem_cons.mpr ⟨la_X4_2, List.forall_mem_cons.mpr ⟨la_X4_3, fun _ h => absurd h List.not_mem_nil⟩⟩⟩⟩ : ∀ w ∈ ([Cond.laysFinal RX4 "TextSolver$Space" "mosts" "[I", Cond.lays RX4 "TextSolver$Space" "letters" "I", Cond.lays RX4 "TextSolver$Space" "texts" "I", Cond.lays RX4 "TextSolver$Space" "size" "I"] : List Cond), w ∈ TB)
theorem la_X5_0 : Cond.laysFinal RX5 "TextSolver$Term" "parts" "[I" ∈ TB := tb_1 104 rfl rfl
theorem la_X5_1 : Cond.lays RX5 "TextSolver$Term" "size" "I" ∈ TB := tb_1 106 rfl rfl
theorem inlX5 : ∀ w ∈ wsX50, w ∈ TB := (List.forall_mem_cons.mpr ⟨la_X5_0, List.forall_mem_cons.mpr ⟨la_X5_1, fun _ h => absurd h List.not_mem_nil⟩⟩ : ∀ w ∈ ([Cond.laysFinal RX5 "TextSolver$Term" "parts" "[I", Cond.lays RX5 "TextSolver$Term" "size" "I"] : List Cond), w ∈ TB)
theorem la_X6_0 : Cond.laysFinal RX6 "TextSolver$Way" "space" "LTextSolver$Space;" ∈ TB := tb_1 66 rfl rfl
theorem la_X6_1 : Cond.laysFinal RX6 "TextSolver$Way" "lengths" "[I" ∈ TB := tb_1 68 rfl rfl
theorem la_X6_2 : Cond.laysFinal RX6 "TextSolver$Way" "starts" "[I" ∈ TB := tb_1 70 rfl rfl
theorem la_X6_3 : Cond.laysFinal RX6 "TextSolver$Way" "row" "[I" ∈ TB := tb_1 72 rfl rfl
theorem la_X6_4 : Cond.lays RX6 "TextSolver$Way" "total" "I" ∈ TB := tb_1 74 rfl rfl
theorem la_X6_5 : Cond.lays RX6 "TextSolver$Way" "first" "I" ∈ TB := tb_1 76 rfl rfl
theorem la_X6_6 : Cond.lays RX6 "TextSolver$Way" "count" "I" ∈ TB := tb_1 78 rfl rfl
theorem inlX6 : ∀ w ∈ wsX60, w ∈ TB := (List.forall_mem_cons.mpr ⟨la_X6_0, List.forall_mem_cons.mpr ⟨la_X6_1, List.forall_mem_cons.mpr ⟨la_X6_2, List.forall_mem_cons.mpr ⟨la_X6_3, List.forall_mem_cons.mpr ⟨la_X6_4, List.forall_mem_cons.mpr ⟨la_X6_5, List.forall_mem_cons.mpr ⟨la_X6_6, fun _ h => absurd h List.not_mem_nil⟩⟩⟩⟩⟩⟩⟩ : ∀ w ∈ ([Cond.laysFinal RX6 "TextSolver$Way" "space" "LTextSolver$Space;", Cond.laysFinal RX6 "TextSolver$Way" "lengths" "[I", Cond.laysFinal RX6 "TextSolver$Way" "starts" "[I", Cond.laysFinal RX6 "TextSolver$Way" "row" "[I", Cond.lays RX6 "TextSolver$Way" "total" "I", Cond.lays RX6 "TextSolver$Way" "first" "I", Cond.lays RX6 "TextSolver$Way" "count" "I"] : List Cond), w ∈ TB)
theorem la_X7_0 : Cond.laysFinal RX7 "TextSolver" "space" "LTextSolver$Space;" ∈ TB := tb_1 218 rfl rfl
theorem la_X7_1 : Cond.laysFinal RX7 "TextSolver" "tried" "LTextSolver$Way;" ∈ TB := tb_1 220 rfl rfl
theorem la_X7_2 : Cond.laysFinal RX7 "TextSolver" "atHand" "LTextSolver$Way;" ∈ TB := tb_1 222 rfl rfl
theorem la_X7_3 : Cond.laysFinal RX7 "TextSolver" "terms" "[LTextSolver$Term;" ∈ TB := tb_1 224 rfl rfl
theorem la_X7_4 : Cond.laysFinal RX7 "TextSolver" "machines" "[LTextSolver$Machine;" ∈ TB := tb_1 226 rfl rfl
theorem la_X7_5 : Cond.laysFinal RX7 "TextSolver" "formulas" "[LTextSolver$Formula;" ∈ TB := tb_1 228 rfl rfl
theorem la_X7_6 : Cond.laysFinal RX7 "TextSolver" "judge" "LTextSolver$Judge;" ∈ TB := tb_1 230 rfl rfl
theorem la_X7_7 : Cond.lays RX7 "TextSolver" "termCount" "I" ∈ TB := tb_1 232 rfl rfl
theorem la_X7_8 : Cond.lays RX7 "TextSolver" "machineCount" "I" ∈ TB := tb_1 234 rfl rfl
theorem la_X7_9 : Cond.lays RX7 "TextSolver" "formulaCount" "I" ∈ TB := tb_1 236 rfl rfl
theorem la_X7_10 : Cond.lays RX7 "TextSolver" "isModelAtHand" "Z" ∈ TB := tb_1 238 rfl rfl
theorem la_X7_11 : Cond.lays RX7 "TextSolver" "isCoreFound" "Z" ∈ TB := tb_2 0 rfl rfl
theorem la_X7_12 : Cond.lays RX7 "TextSolver" "coreMembers" "I" ∈ TB := tb_2 2 rfl rfl
theorem inlX7 : ∀ w ∈ wsX70, w ∈ TB := (List.forall_mem_cons.mpr ⟨la_X7_0, List.forall_mem_cons.mpr ⟨la_X7_1, List.forall_mem_cons.mpr ⟨la_X7_2, List.forall_mem_cons.mpr ⟨la_X7_3, List.forall_mem_cons.mpr ⟨la_X7_4, List.forall_mem_cons.mpr ⟨la_X7_5, List.forall_mem_cons.mpr ⟨la_X7_6, List.forall_mem_cons.mpr ⟨la_X7_7, List.forall_mem_cons.mpr ⟨la_X7_8, List.forall_mem_cons.mpr ⟨la_X7_9, List.forall_mem_cons.mpr ⟨la_X7_10, List.forall_mem_cons.mpr ⟨la_X7_11, List.forall_mem_cons.mpr ⟨la_X7_12, fun _ h => absurd h List.not_mem_nil⟩⟩⟩⟩⟩⟩⟩⟩⟩⟩⟩⟩⟩ : ∀ w ∈ ([Cond.laysFinal RX7 "TextSolver" "space" "LTextSolver$Space;", Cond.laysFinal RX7 "TextSolver" "tried" "LTextSolver$Way;", Cond.laysFinal RX7 "TextSolver" "atHand" "LTextSolver$Way;", Cond.laysFinal RX7 "TextSolver" "terms" "[LTextSolver$Term;", Cond.laysFinal RX7 "TextSolver" "machines" "[LTextSolver$Machine;", Cond.laysFinal RX7 "TextSolver" "formulas" "[LTextSolver$Formula;", Cond.laysFinal RX7 "TextSolver" "judge" "LTextSolver$Judge;", Cond.lays RX7 "TextSolver" "termCount" "I", Cond.lays RX7 "TextSolver" "machineCount" "I", Cond.lays RX7 "TextSolver" "formulaCount" "I", Cond.lays RX7 "TextSolver" "isModelAtHand" "Z", Cond.lays RX7 "TextSolver" "isCoreFound" "Z", Cond.lays RX7 "TextSolver" "coreMembers" "I"] : List Cond), w ∈ TB)
theorem la_X8_0 : Cond.lays RX8 "TextSolverModel" "letters" "I" ∈ TB := tb_3 189 rfl rfl
theorem la_X8_1 : Cond.lays RX8 "TextSolverModel" "texts" "I" ∈ TB := tb_3 191 rfl rfl
theorem la_X8_2 : Cond.laysFinal RX8 "TextSolverModel" "most" "[I" ∈ TB := tb_3 193 rfl rfl
theorem la_X8_3 : Cond.lays RX8 "TextSolverModel" "space" "I" ∈ TB := tb_3 195 rfl rfl
theorem la_X8_4 : Cond.lays RX8 "TextSolverModel" "terms" "I" ∈ TB := tb_3 197 rfl rfl
theorem la_X8_5 : Cond.laysFinal RX8 "TextSolverModel" "parts" "[I" ∈ TB := tb_3 199 rfl rfl
theorem la_X8_6 : Cond.laysFinal RX8 "TextSolverModel" "part" "[I" ∈ TB := tb_3 201 rfl rfl
theorem la_X8_7 : Cond.lays RX8 "TextSolverModel" "machines" "I" ∈ TB := tb_3 203 rfl rfl
theorem la_X8_8 : Cond.laysFinal RX8 "TextSolverModel" "states" "[I" ∈ TB := tb_3 205 rfl rfl
theorem la_X8_9 : Cond.laysFinal RX8 "TextSolverModel" "step" "[I" ∈ TB := tb_3 207 rfl rfl
theorem la_X8_10 : Cond.laysFinal RX8 "TextSolverModel" "good" "[Z" ∈ TB := tb_3 209 rfl rfl
theorem la_X8_11 : Cond.lays RX8 "TextSolverModel" "formulas" "I" ∈ TB := tb_3 211 rfl rfl
theorem la_X8_12 : Cond.laysFinal RX8 "TextSolverModel" "kind" "[I" ∈ TB := tb_3 213 rfl rfl
theorem la_X8_13 : Cond.laysFinal RX8 "TextSolverModel" "a" "[I" ∈ TB := tb_3 215 rfl rfl
theorem la_X8_14 : Cond.laysFinal RX8 "TextSolverModel" "b" "[I" ∈ TB := tb_3 217 rfl rfl
theorem la_X8_15 : Cond.laysFinal RX8 "TextSolverModel" "c" "[I" ∈ TB := tb_3 219 rfl rfl
theorem la_X8_16 : Cond.laysFinal RX8 "TextSolverModel" "d" "[I" ∈ TB := tb_3 221 rfl rfl
theorem la_X8_17 : Cond.laysFinal RX8 "TextSolverModel" "denied" "[Z" ∈ TB := tb_3 223 rfl rfl
theorem la_X8_18 : Cond.laysFinal RX8 "TextSolverModel" "out" "[Z" ∈ TB := tb_3 225 rfl rfl
theorem la_X8_19 : Cond.lays RX8 "TextSolverModel" "isAtHand" "Z" ∈ TB := tb_3 227 rfl rfl
theorem la_X8_20 : Cond.laysFinal RX8 "TextSolverModel" "handLength" "[I" ∈ TB := tb_3 229 rfl rfl
theorem la_X8_21 : Cond.laysFinal RX8 "TextSolverModel" "handLetter" "[I" ∈ TB := tb_3 231 rfl rfl
theorem la_X8_22 : Cond.lays RX8 "TextSolverModel" "isCore" "Z" ∈ TB := tb_3 233 rfl rfl
theorem la_X8_23 : Cond.laysFinal RX8 "TextSolverModel" "core" "[Z" ∈ TB := tb_3 235 rfl rfl
theorem la_X8_24 : Cond.laysFinal RX8 "TextSolverModel" "length" "[I" ∈ TB := tb_3 237 rfl rfl
theorem la_X8_25 : Cond.laysFinal RX8 "TextSolverModel" "letter" "[I" ∈ TB := tb_3 239 rfl rfl
theorem la_X8_26 : Cond.laysFinal RX8 "TextSolverModel" "row" "[I" ∈ TB := tb_4 1 rfl rfl
theorem la_X8_27 : Cond.laysFinal RX8 "TextSolverModel" "many" "[I" ∈ TB := tb_4 3 rfl rfl
theorem la_X8_28 : Cond.laysFinal RX8 "TextSolverModel" "made" "[I" ∈ TB := tb_4 5 rfl rfl
theorem la_X8_29 : Cond.lays RX8 "TextSolverModel" "madeMany" "I" ∈ TB := tb_4 7 rfl rfl
theorem la_X8_30 : Cond.laysFinal RX8 "TextSolverModel" "gone" "[Z" ∈ TB := tb_4 9 rfl rfl
theorem la_X8_31 : Cond.laysFinal RX8 "TextSolverModel" "far" "[I" ∈ TB := tb_4 11 rfl rfl
theorem inlX8 : ∀ w ∈ wsX80, w ∈ TB := (List.forall_mem_cons.mpr ⟨la_X8_0, List.forall_mem_cons.mpr ⟨la_X8_1, List.forall_mem_cons.mpr ⟨la_X8_2, List.forall_mem_cons.mpr ⟨la_X8_3, List.forall_mem_cons.mpr ⟨la_X8_4, List.forall_mem_cons.mpr ⟨la_X8_5, List.forall_mem_cons.mpr ⟨la_X8_6, List.forall_mem_cons.mpr ⟨la_X8_7, List.forall_mem_cons.mpr ⟨la_X8_8, List.forall_mem_cons.mpr ⟨la_X8_9, List.forall_mem_cons.mpr ⟨la_X8_10, List.forall_mem_cons.mpr ⟨la_X8_11, List.forall_mem_cons.mpr ⟨la_X8_12, List.forall_mem_cons.mpr ⟨la_X8_13, List.forall_mem_cons.mpr ⟨la_X8_14, List.forall_mem_cons.mpr ⟨la_X8_15, List.forall_mem_cons.mpr ⟨la_X8_16, List.forall_mem_cons.mpr ⟨la_X8_17, List.forall_mem_cons.mpr ⟨la_X8_18, List.forall_mem_cons.mpr ⟨la_X8_19, List.forall_mem_cons.mpr ⟨la_X8_20, List.forall_mem_cons.mpr ⟨la_X8_21, List.forall_mem_cons.mpr ⟨la_X8_22, List.forall_mem_cons.mpr ⟨la_X8_23, List.forall_mem_cons.mpr ⟨la_X8_24, List.forall_mem_cons.mpr ⟨la_X8_25, List.forall_mem_cons.mpr ⟨la_X8_26, List.forall_mem_cons.mpr ⟨la_X8_27, List.forall_mem_cons.mpr ⟨la_X8_28, List.forall_mem_cons.mpr ⟨la_X8_29, List.forall_mem_cons.mpr ⟨la_X8_30, List.forall_mem_cons.mpr ⟨la_X8_31, fun _ h => absurd h List.not_mem_nil⟩⟩⟩⟩⟩⟩⟩⟩⟩⟩⟩⟩⟩⟩⟩⟩⟩⟩⟩⟩⟩⟩⟩⟩⟩⟩⟩⟩⟩⟩⟩⟩ : ∀ w ∈ ([Cond.lays RX8 "TextSolverModel" "letters" "I", Cond.lays RX8 "TextSolverModel" "texts" "I", Cond.laysFinal RX8 "TextSolverModel" "most" "[I", Cond.lays RX8 "TextSolverModel" "space" "I", Cond.lays RX8 "TextSolverModel" "terms" "I", Cond.laysFinal RX8 "TextSolverModel" "parts" "[I", Cond.laysFinal RX8 "TextSolverModel" "part" "[I", Cond.lays RX8 "TextSolverModel" "machines" "I", Cond.laysFinal RX8 "TextSolverModel" "states" "[I", Cond.laysFinal RX8 "TextSolverModel" "step" "[I", Cond.laysFinal RX8 "TextSolverModel" "good" "[Z", Cond.lays RX8 "TextSolverModel" "formulas" "I", Cond.laysFinal RX8 "TextSolverModel" "kind" "[I", Cond.laysFinal RX8 "TextSolverModel" "a" "[I", Cond.laysFinal RX8 "TextSolverModel" "b" "[I", Cond.laysFinal RX8 "TextSolverModel" "c" "[I", Cond.laysFinal RX8 "TextSolverModel" "d" "[I", Cond.laysFinal RX8 "TextSolverModel" "denied" "[Z", Cond.laysFinal RX8 "TextSolverModel" "out" "[Z", Cond.lays RX8 "TextSolverModel" "isAtHand" "Z", Cond.laysFinal RX8 "TextSolverModel" "handLength" "[I", Cond.laysFinal RX8 "TextSolverModel" "handLetter" "[I", Cond.lays RX8 "TextSolverModel" "isCore" "Z", Cond.laysFinal RX8 "TextSolverModel" "core" "[Z", Cond.laysFinal RX8 "TextSolverModel" "length" "[I", Cond.laysFinal RX8 "TextSolverModel" "letter" "[I", Cond.laysFinal RX8 "TextSolverModel" "row" "[I", Cond.laysFinal RX8 "TextSolverModel" "many" "[I", Cond.laysFinal RX8 "TextSolverModel" "made" "[I", Cond.lays RX8 "TextSolverModel" "madeMany" "I", Cond.laysFinal RX8 "TextSolverModel" "gone" "[Z", Cond.laysFinal RX8 "TextSolverModel" "far" "[I"] : List Cond), w ∈ TB)
end
section
/-! THE JUDGEMENT Wq: the machine at a frame, the whole heap a function from cell numbers to contents (cell k + 1 at address base + k; cell 0 the script) -/
theorem TB_goodIn {w : Cond} (h : w ∈ TB) : (w.onTables && w.keeps) = true ∨ ∃ ty, w = .arrayClass ty := good_of_word (List.mem_filter.mp h).2
theorem zGood {w : Cond} (h : w ∈ TB) : GoodIn TB (w :: TB) := fun x hx => by
  have hm : x ∈ TB := by
    rcases List.mem_cons.mp hx with e | e
    · rw [e]; exact h
    · exact e
  exact ⟨hm, TB_goodIn hm⟩
abbrev zE : Type := (Nat × vp_A) ⊕ (Nat × List Value)
def zA (b base : Nat) : Nat → Nat
  | 0 => b
  | k + 1 => base + k
def zV (b base : Nat) : Value → Value
  | .ref k => .ref (zA b base k)
  | v => v
def zF (b base : Nat) : vp_A → vp_A
  | (n, .inr (.inr (.inr (.inr f)))) => (n, .inr (.inr (.inr (.inr (fun j => (f j).map (zA b base))))))
  | (n, .inl f) => (n, .inl f)
  | (n, .inr (.inl f)) => (n, .inr (.inl f))
  | (n, .inr (.inr (.inl f))) => (n, .inr (.inr (.inl f)))
  | (n, .inr (.inr (.inr (.inl f)))) => (n, .inr (.inr (.inr (.inl f))))
def zX (cA : Nat → ClassId) (b base : Nat) : zE → va_E
  | .inl (t, a) => .inl (cA t, zF b base a)
  | .inr (ci, fs) => .inr (ci, fs.map (zV b base))
def zW (cA : Nat → ClassId) (b base N : Nat) (g : Nat → zE) : va_W := (List.range N).map (fun k => (base + k, zX cA b base (g (k + 1))))
def zTys (cA : Nat → ClassId) : List (ClassId × FieldType) := [(cA 0, .int), (cA 1, .long), (cA 2, .boolean), (cA 3, .object RX5), (cA 4, .object RX2), (cA 5, .object RX0)]
def zR (D : va_G) (cA : Nat → ClassId) (b base N : Nat) (g : Nat → zE) (H : Heap) : Prop := H.size = base + N ∧ va_P D vwCl (zW cA b base N g) H
theorem zV_cat (b base : Nat) (v : Value) : (zV b base v).category = v.category := by cases v <;> rfl
theorem zW_len {cA : Nat → ClassId} {b base N : Nat} {g : Nat → zE} : (zW cA b base N g).length = N := by simp [zW]
theorem zW_get {cA : Nat → ClassId} {b base N : Nat} {g : Nat → zE} {k : Nat} (hk : k < N) : (zW cA b base N g)[k]? = some (base + k, zX cA b base (g (k + 1))) := by
  simp [zW, hk]
theorem zW_inv {cA : Nat → ClassId} {b base N : Nat} {g : Nat → zE} {k : Nat} {q : Nat × va_E} (h : (zW cA b base N g)[k]? = some q) : k < N ∧ q = (base + k, zX cA b base (g (k + 1))) := by
  have hl : k < N := by
    have := (List.getElem?_eq_some_iff.mp h).1
    rw [zW_len] at this
    exact this
  rw [zW_get hl] at h
  exact ⟨hl, (Option.some.inj h).symm⟩
theorem zW_D {cA : Nat → ClassId} {b base N : Nat} {g : Nat → zE} : va_D (fun q : Nat => base ≤ q) (zW cA b base N g) := by
  refine ⟨fun i j p q hi hj h => ?_, fun k q hk => ?_⟩
  · obtain ⟨-, rfl⟩ := zW_inv hi
    obtain ⟨-, rfl⟩ := zW_inv hj
    have h : base + i = base + j := h
    omega
  · obtain ⟨-, rfl⟩ := zW_inv hk
    exact Nat.le_add_right base k
theorem zW_set {cA : Nat → ClassId} {b base N : Nat} {g : Nat → zE} {k : Nat} {e : zE} {e' : va_E} (he : zX cA b base e = e') : (zW cA b base N g).set k (base + k, e') = zW cA b base N (va_up g (k + 1) e) := by
  apply List.ext_getElem?
  intro i
  by_cases hi : i < N
  · by_cases hik : i = k
    · subst hik
      rw [List.getElem?_set_self (by rw [zW_len]; exact hi), zW_get hi]
      simp [va_up, he]
    · rw [List.getElem?_set_ne (Ne.symm hik), zW_get hi, zW_get hi]
      simp [va_up, hik]
  · rw [List.getElem?_eq_none (by rw [List.length_set, zW_len]; omega), List.getElem?_eq_none (by rw [zW_len]; omega)]
theorem zW_push {cA : Nat → ClassId} {b base N : Nat} {g : Nat → zE} {e : zE} : zW cA b base (N + 1) (va_up g (N + 1) e) = zW cA b base N g ++ [(base + N, zX cA b base e)] := by
  apply List.ext_getElem?
  intro i
  by_cases hi : i < N
  · rw [zW_get (by omega), List.getElem?_append_left (by rw [zW_len]; exact hi), zW_get hi]
    have : ¬ i = N := by omega
    simp [va_up, this]
  · by_cases hN : i = N
    · subst hN
      rw [zW_get (by omega), List.getElem?_append_right (by rw [zW_len]; exact Nat.le_refl i), zW_len, Nat.sub_self]
      simp [va_up]
    · rw [List.getElem?_eq_none (by rw [zW_len]; omega), List.getElem?_eq_none (by rw [List.length_append, zW_len]; simp; omega)]
theorem zW_congr {cA : Nat → ClassId} {b base N : Nat} {g g' : Nat → zE} (h : ∀ k, k < N → g (k + 1) = g' (k + 1)) : zW cA b base N g = zW cA b base N g' := by
  apply List.ext_getElem?
  intro i
  by_cases hi : i < N
  · rw [zW_get hi, zW_get hi, h i hi]
  · rw [List.getElem?_eq_none (by rw [zW_len]; omega), List.getElem?_eq_none (by rw [zW_len]; omega)]
/-- words that aren't of the list: links to private members of nest mates, arrays of own classes -/
def zNL : List (String × Nat × MethodName × String) := [(RX7, 11, yX4_init, "TextSolver"), (RX7, 55, yX5_init, "TextSolver"), (RX7, 56, yX2_init, "TextSolver"), (RX7, 57, yX0_init, "TextSolver"), (RX1, 11, yX5_init, "TextSolver"), (RX1, 20, yX3_init, "TextSolver")]
def zNest (U : State) : Prop := (∀ q ∈ zNL, va_Nw (.methodLinkNest q.1 q.2.1 q.2.2.1 q.2.2.2) U) ∧ va_AO RX5 U ∧ va_AO RX2 U ∧ va_AO RX0 U
theorem zNest.warm {s U : State} (hW : s.WarmedH U.vm) (h : zNest s) : zNest U := ⟨fun q hq => va_Nw.warmM hW (h.1 q hq), h.2.1.moved hW.alike, h.2.2.1.moved hW.alike, h.2.2.2.moved hW.alike⟩
theorem zNest.same {u U : State} (hv : u.vm = U.vm) (h : zNest u) : zNest U := ⟨fun q hq => va_Nw.same rfl hv (h.1 q hq), h.2.1.moved (hv ▸ Vm.Alike.refl u.vm), h.2.2.1.moved (hv ▸ Vm.Alike.refl u.vm), h.2.2.2.moved (hv ▸ Vm.Alike.refl u.vm)⟩
/-- locals, by their places -/
def zL (b base : Nat) (ls : Array Slot) (nL : Nat) (lv : List (Option Value)) : Prop := ls.size = nL ∧ lv_wf ls ∧ ∀ (i : Nat) (v : Value), lv[i]? = some (some v) → ls[i]? = some (.val (zV b base v))
def zl (b base : Nat) (lv : List (Option Value)) : List (Nat × Value) := (List.range lv.length).filterMap (fun i => match lv[i]? with
  | some (some v) => some (i, zV b base v)
  | _ => none)
theorem zl_mem {b base : Nat} {lv : List (Option Value)} {i : Nat} {v : Value} (h : lv[i]? = some (some v)) : (i, zV b base v) ∈ zl b base lv := by
  refine List.mem_filterMap.mpr ⟨i, List.mem_range.mpr (List.getElem?_eq_some_iff.mp h).1, ?_⟩
  rw [h]
theorem zl_inv {b base : Nat} {lv : List (Option Value)} {q : Nat × Value} (h : q ∈ zl b base lv) : ∃ v, lv[q.1]? = some (some v) ∧ q.2 = zV b base v := by
  obtain ⟨i, -, h⟩ := List.mem_filterMap.mp h
  cases hi : lv[i]? with
  | none => rw [hi] at h; cases h
  | some o =>
    cases o with
    | none => rw [hi] at h; cases h
    | some v =>
      rw [hi] at h
      cases h
      exact ⟨v, hi, rfl⟩
theorem zL.has {b base : Nat} {ls : Array Slot} {nL : Nat} {lv : List (Option Value)} (h : zL b base ls nL lv) : lv_has ls nL (zl b base lv) := by
  refine ⟨h.1, h.2.1, fun q hq => ?_⟩
  obtain ⟨v, h1, h2⟩ := zl_inv hq
  rw [h2]
  exact h.2.2 _ _ h1
def zok (lv : List (Option Value)) : Nat → Bool
  | 0 => true
  | j + 1 => match lv[j]? with
    | some (some v) => v.category == 1
    | _ => true
theorem zok_spec {lv : List (Option Value)} {i j : Nat} {v : Value} (h : zok lv i = true) (hj : j + 1 = i) (hv : lv[j]? = some (some v)) : v.category = 1 := by
  subst hj
  simp only [zok, hv] at h
  simpa using h
theorem zL_store1 {b base : Nat} {ls : Array Slot} {nL i : Nat} {lv : List (Option Value)} {v : Value} (ho : zok lv i = true) (h : lv_has ls nL ((i, zV b base v) :: (zl b base lv).filter (fun q => !(q.1 == i) && !(q.1 + 1 == i && q.2.category == 2)))) : zL b base ls nL (lv.set i (some v)) := by
  refine ⟨h.1, h.2.1, fun j w hj => ?_⟩
  by_cases hji : j = i
  · subst hji
    have hl : j < lv.length := by
      have := (List.getElem?_eq_some_iff.mp hj).1
      rwa [List.length_set] at this
    rw [List.getElem?_set_self hl] at hj
    cases hj
    exact h.2.2 (j, zV b base v) List.mem_cons_self
  · rw [List.getElem?_set_ne (Ne.symm hji)] at hj
    refine h.2.2 (j, zV b base w) (List.mem_cons_of_mem _ (List.mem_filter.mpr ⟨zl_mem hj, ?_⟩))
    have h2 : ∀ e : j + 1 = i, (zV b base w).category = 1 := fun e => by rw [zV_cat]; exact zok_spec ho e hj
    by_cases e : j + 1 = i
    · simp [hji, h2 e]
    · simp [hji, e]
theorem zL_store2 {b base : Nat} {ls : Array Slot} {nL i : Nat} {lv : List (Option Value)} {v : Value} (ho : zok lv i = true) (h : lv_has ls nL ((i, zV b base v) :: (zl b base lv).filter (fun q => !(q.1 == i) && (!(q.1 == i + 1) && !(q.1 + 1 == i && q.2.category == 2))))) : zL b base ls nL ((lv.set i (some v)).set (i + 1) none) := by
  refine ⟨h.1, h.2.1, fun j w hj => ?_⟩
  by_cases hj1 : j = i + 1
  · subst hj1
    exfalso
    by_cases hl : i + 1 < (lv.set i (some v)).length
    · rw [List.getElem?_set_self hl] at hj
      cases hj
    · rw [List.getElem?_eq_none (by rw [List.length_set]; omega)] at hj
      cases hj
  · rw [List.getElem?_set_ne (Ne.symm hj1)] at hj
    by_cases hji : j = i
    · subst hji
      have hl : j < lv.length := by
        have := (List.getElem?_eq_some_iff.mp hj).1
        rwa [List.length_set] at this
      rw [List.getElem?_set_self hl] at hj
      cases hj
      exact h.2.2 (j, zV b base v) List.mem_cons_self
    · rw [List.getElem?_set_ne (Ne.symm hji)] at hj
      refine h.2.2 (j, zV b base w) (List.mem_cons_of_mem _ (List.mem_filter.mpr ⟨zl_mem hj, ?_⟩))
      have h2 : ∀ e : j + 1 = i, (zV b base w).category = 1 := fun e => by rw [zV_cat]; exact zok_spec ho e hj
      by_cases e : j + 1 = i
      · simp [hji, hj1, h2 e]
      · simp [hji, hj1, e]
abbrev zQ : Type := Option Value → Nat → (Nat → zE) → Prop
abbrev zS : Type := Option (Nat × (Nat → Int32))
def zRet (M : zM) (pc : Nat) : Option Value → Prop
  | none => decode (zcc M) pc = .ok (.return_, 1) ∧ zret M = none
  | some (.int x) => decode (zcc M) pc = .ok (.ireturn, 1) ∧ (zret M = some .int ∨ zret M = some .boolean ∧ (x = 0 ∨ x = 1))
  | some (.long _) => decode (zcc M) pc = .ok (.lreturn, 1) ∧ zret M = some .long
  | some (.ref _) => decode (zcc M) pc = .ok (.areturn, 1) ∧ ∃ n, zret M = some (.object n)
  | some .null => decode (zcc M) pc = .ok (.areturn, 1) ∧ ∃ n, zret M = some (.object n)
  | some _ => False
def zCtx (M : zM) (d : Nat) (sc : zS) (mc ms : Nat) (Q : zQ) (l : Launch) (p : Program) (e : Env) (R : Room) (s : State) (m : MethodId) (args : Array Value) (below : List Frame) (meth : Method) (c : Code) (D : va_G) (cA : Nat → ClassId) (b base : Nat) (QM : State → Prop) : Prop :=
  p.tables.exec = Jvm.exec ∧ c.code = zcc M ∧ c.maxLocals = znl M ∧ meth.sig.returnType = zret M ∧ meth.locks = false ∧ s.vm.findClass (zown M) = some m.cls ∧ (∀ w ∈ TB, w.before args s = true) ∧ (zini M = true → meth.name = "<init>") ∧ (d ≤ R.frames ∧ 36 * d ≤ R.locals ∧ mc ≤ R.cells ∧ ms ≤ R.slots) ∧ va_K D vwCl (zTys cA) s ∧ zNest s ∧ base ≤ s.heap.size ∧
  (∀ (L : Nat) (xs : Nat → Int32), sc = some (L, xs) → va_X b L xs s s.heap ∧ b < base ∧ b < s.heap.size) ∧
  ∀ (v : Option Value) (N : Nat) (g : Nat → zE) (H : Heap) (locs : List Loc) (ls : Array Slot) (pc : Nat), Q v N g → zR D cA b base N g H → va_S (fun q : Nat => base ≤ q) s.heap H locs → zRet M pc v → W p l e R s m args below meth c H locs mc ms QM (F0 m pc ls (v.toList.map (zV b base)))
def Wq (M : zM) (d : Nat) (sc : zS) (mc ms : Nat) (Q : zQ) (cells slots N : Nat) (g : Nat → zE) (pc : Nat) (lv : List (Option Value)) (st : List Value) : Prop :=
  ∀ (l : Launch) (p : Program) (e : Env) (R : Room) (s : State) (m : MethodId) (args : Array Value) (below : List Frame) (meth : Method) (c : Code) (D : va_G) (cA : Nat → ClassId) (b base : Nat) (QM : State → Prop), zCtx M d sc mc ms Q l p e R s m args below meth c D cA b base QM →
    ∀ (H : Heap) (locs : List Loc) (ls : Array Slot), zR D cA b base N g H → va_S (fun q : Nat => base ≤ q) s.heap H locs → zL b base ls (znl M) lv → W p l e R s m args below meth c H locs cells slots QM (F0 m pc ls (st.map (zV b base)))
/-! contracts -/
def zPc (D : va_G) (cA : Nat → ClassId) (b base : Nat) (args : List Value) (N : Nat) (g : Nat → zE) : Array Value → State → Prop := va_Pc (args.map (zV b base)) (fun U => zR D cA b base N g U.heap ∧ va_K D vwCl (zTys cA) U ∧ zNest U)
def zQc (D : va_G) (cA : Nat → ClassId) (b base : Nat) (Q : zQ) : Array Value → State → Outcome → State → Prop := fun _ st oc t => (∃ (v : Option Value) (N : Nat) (g : Nat → zE), oc = .returned (v.map (zV b base)) ∧ Q v N g ∧ zR D cA b base N g t.heap) ∧ va_F (fun q : Nat => base ≤ q) st t
def zRm (d mc ms : Nat) : Room := { frames := d, cells := mc, slots := ms, locals := 36 * d }
def zC (y : MethodName) (M : zM) (d mc ms : Nat) (args : List Value) (N : Nat) (g : Nat → zE) (Q : zQ) : Prop :=
  ∀ (l : Launch) (D : va_G) (cA : Nat → ClassId) (b base : Nat), Met l y (Cond.code y (zcc M) (znl M) (zret M) :: TB) (zRm d mc ms) (zPc D cA b base args N g) (zQc D cA b base Q) mc ms (fun q : Nat => base ≤ q)
theorem zPc_blind {D : va_G} {cA : Nat → ClassId} {b base : Nat} {args : List Value} {N : Nat} {g : Nat → zE} : FrameBlind (zPc D cA b base args N g) := fun a U gg mk q => ⟨q.1, q.2.1, va_K.moved (u := U) (U := U.calling gg mk a) (Vm.Alike.refl U.vm) q.2.2.1, zNest.same (u := U) (U := U.calling gg mk a) rfl q.2.2.2⟩
/-- the locals at a method's entry -/
def zargs : List Value → List (Option Value)
  | [] => []
  | v :: vs => if v.category = 2 then some v :: none :: zargs vs else some v :: zargs vs
def zent (nL : Nat) (vs : List Value) : List (Option Value) := zargs vs ++ List.replicate (nL - (zargs vs).length) none
theorem zargs_mem {b base : Nat} : ∀ (vs : List Value) (k i : Nat) (v : Value), (zargs vs)[i]? = some (some v) → (k + i, zV b base v) ∈ lv_args k (vs.map (zV b base))
  | [], k, i, v, h => by simp [zargs] at h
  | w :: vs, k, i, v, h => by
    simp only [List.map_cons, lv_args, zV_cat]
    by_cases hc : w.category = 2
    · simp only [zargs, hc, if_true] at h ⊢
      match i, h with
      | 0, h => cases h; exact List.mem_cons_self
      | 1, h => cases h
      | i + 2, h =>
        have := zargs_mem (b := b) (base := base) vs (k + 2) i v h
        rw [show k + (i + 2) = k + 2 + i by omega]
        exact List.mem_cons_of_mem _ this
    · simp only [zargs, hc, if_false] at h ⊢
      match i, h with
      | 0, h => cases h; exact List.mem_cons_self
      | i + 1, h =>
        have := zargs_mem (b := b) (base := base) vs (k + 1) i v h
        rw [show k + (i + 1) = k + 1 + i by omega]
        exact List.mem_cons_of_mem _ this
theorem zargs_sl {b base : Nat} : ∀ (vs : List Value), (lg_sl (vs.map (zV b base))).length = (zargs vs).length
  | [] => rfl
  | w :: vs => by
    have ih := zargs_sl (b := b) (base := base) vs
    unfold lg_sl at ih ⊢
    rw [List.map_cons, List.flatMap_cons, List.length_append, ih, zV_cat]
    show _ = (if w.category = 2 then some w :: none :: zargs vs else some w :: zargs vs).length
    by_cases hc : w.category = 2
    · simp [hc]; omega
    · simp [hc]; omega
theorem zent_zL {b base nL : Nat} {vs : List Value} (h : (zargs vs).length ≤ nL) : zL b base ((lg_sl (vs.map (zV b base)) ++ List.replicate (nL - (lg_sl (vs.map (zV b base))).length) Slot.unset).toArray) nL (zent nL vs) := by
  have hh := lv_entry (vs.map (zV b base)) (n := nL) (by rw [zargs_sl]; exact h)
  refine ⟨hh.1, hh.2.1, fun i v hi => ?_⟩
  have hi2 : (zargs vs)[i]? = some (some v) := by
    unfold zent at hi
    by_cases hl : i < (zargs vs).length
    · rwa [List.getElem?_append_left hl] at hi
    · rw [List.getElem?_append_right (by omega), List.getElem?_replicate] at hi
      split at hi <;> cases hi
  have := hh.2.2 _ (zargs_mem (b := b) (base := base) vs 0 i v hi2)
  rwa [Nat.zero_add] at this
/-- the end of a method: its contract's post -/
theorem zC_end {M : zM} {D : va_G} {cA : Nat → ClassId} {b base mc ms : Nat} {Q : zQ} {p : Program} {l : Launch} {e : Env} {R : Room} {s : State} {m : MethodId} {args : Array Value} {below : List Frame} {meth : Method} {c : Code} {H : Heap} {locs : List Loc} {ls : Array Slot} {pc N : Nat} {g : Nat → zE} {v : Option Value}
    (hx : p.tables.exec = Jvm.exec) (hb : c.code = zcc M) (hr : meth.sig.returnType = zret M) (hlocks : meth.locks = false) (hq : Q v N g) (hR : zR D cA b base N g H) (hS : va_S (fun q : Nat => base ≤ q) s.heap H locs) (hv : zRet M pc v) :
    W p l e R s m args below meth c H locs mc ms (MQ below (zQc D cA b base Q) args s mc ms (fun q : Nat => base ≤ q)) (F0 m pc ls (v.toList.map (zV b base))) := by
  have hQc : ∀ t : State, t.heap = H → zQc D cA b base Q args s (.returned (v.map (zV b base))) t := fun t ht => ⟨⟨v, N, g, rfl, hq, by rw [ht]; exact hR⟩, hS.F ht⟩
  match v, hv, hQc with
  | none, hv, hQc => exact W.vret hx hb (hr.trans hv.2) (fun t ht _ => hQc t ht) hS.2.2 hv.1 hlocks
  | some (.int x), hv, hQc =>
    rcases hv.2 with h | ⟨h, h01⟩
    · exact W.iret hx hb (hr.trans h) (fun t ht _ => hQc t ht) hS.2.2 hv.1 hlocks
    · refine W.zret hx hb (hr.trans h) ?_ (fun t ht _ => hQc t ht) hS.2.2 hv.1 hlocks
      rcases h01 with rfl | rfl <;> rfl
  | some (.long x), hv, hQc => exact W.lret hx hb (hr.trans hv.2) (fun t ht _ => hQc t ht) hS.2.2 hv.1 hlocks
  | some (.ref x), hv, hQc =>
    obtain ⟨n, hn⟩ := hv.2
    exact W.aret hx hb (hr.trans hn) (Or.inl ⟨n, rfl⟩) (Or.inr ⟨_, rfl⟩) (fun t ht _ => hQc t ht) hS.2.2 hv.1 hlocks
  | some .null, hv, hQc =>
    obtain ⟨n, hn⟩ := hv.2
    exact W.aret hx hb (hr.trans hn) (Or.inl ⟨n, rfl⟩) (Or.inl rfl) (fun t ht _ => hQc t ht) hS.2.2 hv.1 hlocks
theorem zC_of {y : MethodName} {M : zM} {d mc ms : Nat} {args : List Value} {N : Nat} {g : Nat → zE} {Q : zQ} {lv : List (Option Value)} (hy : plainName y.cls = true) (ho : zown M = y.cls) (hi : zini M = true → y.name = "<init>") (hlv : zent (znl M) args = lv) (hlen : (zargs args).length ≤ znl M)
    (h : Wq M d none mc ms Q 0 0 N g 0 lv []) : zC y M d mc ms args N g Q := by
  intro l D cA b base
  refine Met.ofW (cc := zcc M) (maxL := znl M) (ret := zret M) hy rfl ?_
  intro p e s m args' below meth c s₁ B hml hv
  obtain ⟨rfl, hR, hK, hN⟩ := hv
  have hts := atoms_spec (ws := Cond.code y (zcc M) (znl M) (zret M) :: TB) B.pre
  have hown : s.vm.findClass (zown M) = some m.cls := by rw [ho]; exact findClass_of_methodNamed B.named
  have hname := (name_of_methodNamed B.named B.method).1
  rw [lg_entry_eq]
  subst hlv
  refine h l p e _ s m _ below meth c D cA b base _ ⟨B.exec, B.bytes, hml, B.returns, B.notSynchronized, hown, fun w hw => hts w (List.mem_cons_of_mem _ hw), fun h1 => hname.trans (hi h1), ⟨Nat.le_refl _, Nat.le_refl _, Nat.le_refl _, Nat.le_refl _⟩, hK, hN, ?_, ?_, ?_⟩ s.heap [] _ hR va_S.rf (zent_zL hlen)
  · rw [hR.1]; exact Nat.le_add_right _ _
  · intro L xs h2; cases h2
  · intro v N' g' H locs ls pc hq hR' hS' hret
    exact zC_end B.exec B.bytes B.returns B.notSynchronized hq hR' hS' hret
end
section
/-! rules of Wq, an instruction each (printed by rules.py) -/
theorem q_iconst {M : zM} {d : Nat} {sc : zS} {mc ms : Nat} {Q : zQ} {cells slots N : Nat} {g : Nat → zE} {pc : Nat} {lv : List (Option Value)} {st : List Value} {n : Int} {v : Int32} (hd : decode (zcc M) pc = .ok (.iconst n, 1)) (hv : Int32.ofInt n = v) (k : Wq M d sc mc ms Q cells slots N g (pc + 1) lv (.int v :: st)) : Wq M d sc mc ms Q cells slots N g pc lv st := by
  intro l p e R s m args below meth c D cA b base QM C H locs ls hR hS hL
  exact lv_iconst C.1 C.2.1 hd hv (k l p e R s m args below meth c D cA b base QM C H locs ls hR hS hL)
theorem q_bipush {M : zM} {d : Nat} {sc : zS} {mc ms : Nat} {Q : zQ} {cells slots N : Nat} {g : Nat → zE} {pc : Nat} {lv : List (Option Value)} {st : List Value} {n : Int} {v : Int32} (hd : decode (zcc M) pc = .ok (.bipush n, 2)) (hv : (Int8.ofInt n).toInt32 = v) (k : Wq M d sc mc ms Q cells slots N g (pc + 2) lv (.int v :: st)) : Wq M d sc mc ms Q cells slots N g pc lv st := by
  intro l p e R s m args below meth c D cA b base QM C H locs ls hR hS hL
  exact lv_bipush C.1 C.2.1 hd hv (k l p e R s m args below meth c D cA b base QM C H locs ls hR hS hL)
theorem q_sipush {M : zM} {d : Nat} {sc : zS} {mc ms : Nat} {Q : zQ} {cells slots N : Nat} {g : Nat → zE} {pc : Nat} {lv : List (Option Value)} {st : List Value} {n : Int} {v : Int32} (hd : decode (zcc M) pc = .ok (.sipush n, 3)) (hv : (Int16.ofInt n).toInt32 = v) (k : Wq M d sc mc ms Q cells slots N g (pc + 3) lv (.int v :: st)) : Wq M d sc mc ms Q cells slots N g pc lv st := by
  intro l p e R s m args below meth c D cA b base QM C H locs ls hR hS hL
  exact lv_sipush C.1 C.2.1 hd hv (k l p e R s m args below meth c D cA b base QM C H locs ls hR hS hL)
theorem q_lconst {M : zM} {d : Nat} {sc : zS} {mc ms : Nat} {Q : zQ} {cells slots N : Nat} {g : Nat → zE} {pc : Nat} {lv : List (Option Value)} {st : List Value} {n : Fin 2} {v : Int64} (hd : decode (zcc M) pc = .ok (.lconst n, 1)) (hv : Int64.ofNat (n : Nat) = v) (k : Wq M d sc mc ms Q cells slots N g (pc + 1) lv (.long v :: st)) : Wq M d sc mc ms Q cells slots N g pc lv st := by
  intro l p e R s m args below meth c D cA b base QM C H locs ls hR hS hL
  exact lv_lconst C.1 C.2.1 hd hv (k l p e R s m args below meth c D cA b base QM C H locs ls hR hS hL)
theorem q_iadd {M : zM} {d : Nat} {sc : zS} {mc ms : Nat} {Q : zQ} {cells slots N : Nat} {g : Nat → zE} {pc : Nat} {lv : List (Option Value)} {st : List Value} {x y : Int32} (hd : decode (zcc M) pc = .ok (.iadd, 1)) (k : Wq M d sc mc ms Q cells slots N g (pc + 1) lv (.int (x + y) :: st)) : Wq M d sc mc ms Q cells slots N g pc lv (.int y :: .int x :: st) := by
  intro l p e R s m args below meth c D cA b base QM C H locs ls hR hS hL
  exact lv_iadd C.1 C.2.1 hd (k l p e R s m args below meth c D cA b base QM C H locs ls hR hS hL)
theorem q_isub {M : zM} {d : Nat} {sc : zS} {mc ms : Nat} {Q : zQ} {cells slots N : Nat} {g : Nat → zE} {pc : Nat} {lv : List (Option Value)} {st : List Value} {x y : Int32} (hd : decode (zcc M) pc = .ok (.isub, 1)) (k : Wq M d sc mc ms Q cells slots N g (pc + 1) lv (.int (x - y) :: st)) : Wq M d sc mc ms Q cells slots N g pc lv (.int y :: .int x :: st) := by
  intro l p e R s m args below meth c D cA b base QM C H locs ls hR hS hL
  exact lv_isub C.1 C.2.1 hd (k l p e R s m args below meth c D cA b base QM C H locs ls hR hS hL)
theorem q_imul {M : zM} {d : Nat} {sc : zS} {mc ms : Nat} {Q : zQ} {cells slots N : Nat} {g : Nat → zE} {pc : Nat} {lv : List (Option Value)} {st : List Value} {x y : Int32} (hd : decode (zcc M) pc = .ok (.imul, 1)) (k : Wq M d sc mc ms Q cells slots N g (pc + 1) lv (.int (x * y) :: st)) : Wq M d sc mc ms Q cells slots N g pc lv (.int y :: .int x :: st) := by
  intro l p e R s m args below meth c D cA b base QM C H locs ls hR hS hL
  exact lv_imul C.1 C.2.1 hd (k l p e R s m args below meth c D cA b base QM C H locs ls hR hS hL)
theorem q_iand {M : zM} {d : Nat} {sc : zS} {mc ms : Nat} {Q : zQ} {cells slots N : Nat} {g : Nat → zE} {pc : Nat} {lv : List (Option Value)} {st : List Value} {x y : Int32} (hd : decode (zcc M) pc = .ok (.iand, 1)) (k : Wq M d sc mc ms Q cells slots N g (pc + 1) lv (.int (x &&& y) :: st)) : Wq M d sc mc ms Q cells slots N g pc lv (.int y :: .int x :: st) := by
  intro l p e R s m args below meth c D cA b base QM C H locs ls hR hS hL
  exact lv_iand C.1 C.2.1 hd (k l p e R s m args below meth c D cA b base QM C H locs ls hR hS hL)
theorem q_ior {M : zM} {d : Nat} {sc : zS} {mc ms : Nat} {Q : zQ} {cells slots N : Nat} {g : Nat → zE} {pc : Nat} {lv : List (Option Value)} {st : List Value} {x y : Int32} (hd : decode (zcc M) pc = .ok (.ior, 1)) (k : Wq M d sc mc ms Q cells slots N g (pc + 1) lv (.int (x ||| y) :: st)) : Wq M d sc mc ms Q cells slots N g pc lv (.int y :: .int x :: st) := by
  intro l p e R s m args below meth c D cA b base QM C H locs ls hR hS hL
  exact lv_ior C.1 C.2.1 hd (k l p e R s m args below meth c D cA b base QM C H locs ls hR hS hL)
theorem q_ixor {M : zM} {d : Nat} {sc : zS} {mc ms : Nat} {Q : zQ} {cells slots N : Nat} {g : Nat → zE} {pc : Nat} {lv : List (Option Value)} {st : List Value} {x y : Int32} (hd : decode (zcc M) pc = .ok (.ixor, 1)) (k : Wq M d sc mc ms Q cells slots N g (pc + 1) lv (.int (x ^^^ y) :: st)) : Wq M d sc mc ms Q cells slots N g pc lv (.int y :: .int x :: st) := by
  intro l p e R s m args below meth c D cA b base QM C H locs ls hR hS hL
  exact lv_ixor C.1 C.2.1 hd (k l p e R s m args below meth c D cA b base QM C H locs ls hR hS hL)
theorem q_ladd {M : zM} {d : Nat} {sc : zS} {mc ms : Nat} {Q : zQ} {cells slots N : Nat} {g : Nat → zE} {pc : Nat} {lv : List (Option Value)} {st : List Value} {x y : Int64} (hd : decode (zcc M) pc = .ok (.ladd, 1)) (k : Wq M d sc mc ms Q cells slots N g (pc + 1) lv (.long (x + y) :: st)) : Wq M d sc mc ms Q cells slots N g pc lv (.long y :: .long x :: st) := by
  intro l p e R s m args below meth c D cA b base QM C H locs ls hR hS hL
  exact lv_ladd C.1 C.2.1 hd (k l p e R s m args below meth c D cA b base QM C H locs ls hR hS hL)
theorem q_lsub {M : zM} {d : Nat} {sc : zS} {mc ms : Nat} {Q : zQ} {cells slots N : Nat} {g : Nat → zE} {pc : Nat} {lv : List (Option Value)} {st : List Value} {x y : Int64} (hd : decode (zcc M) pc = .ok (.lsub, 1)) (k : Wq M d sc mc ms Q cells slots N g (pc + 1) lv (.long (x - y) :: st)) : Wq M d sc mc ms Q cells slots N g pc lv (.long y :: .long x :: st) := by
  intro l p e R s m args below meth c D cA b base QM C H locs ls hR hS hL
  exact lv_lsub C.1 C.2.1 hd (k l p e R s m args below meth c D cA b base QM C H locs ls hR hS hL)
theorem q_land {M : zM} {d : Nat} {sc : zS} {mc ms : Nat} {Q : zQ} {cells slots N : Nat} {g : Nat → zE} {pc : Nat} {lv : List (Option Value)} {st : List Value} {x y : Int64} (hd : decode (zcc M) pc = .ok (.land, 1)) (k : Wq M d sc mc ms Q cells slots N g (pc + 1) lv (.long (x &&& y) :: st)) : Wq M d sc mc ms Q cells slots N g pc lv (.long y :: .long x :: st) := by
  intro l p e R s m args below meth c D cA b base QM C H locs ls hR hS hL
  exact lv_land C.1 C.2.1 hd (k l p e R s m args below meth c D cA b base QM C H locs ls hR hS hL)
theorem q_lor {M : zM} {d : Nat} {sc : zS} {mc ms : Nat} {Q : zQ} {cells slots N : Nat} {g : Nat → zE} {pc : Nat} {lv : List (Option Value)} {st : List Value} {x y : Int64} (hd : decode (zcc M) pc = .ok (.lor, 1)) (k : Wq M d sc mc ms Q cells slots N g (pc + 1) lv (.long (x ||| y) :: st)) : Wq M d sc mc ms Q cells slots N g pc lv (.long y :: .long x :: st) := by
  intro l p e R s m args below meth c D cA b base QM C H locs ls hR hS hL
  exact lv_lor C.1 C.2.1 hd (k l p e R s m args below meth c D cA b base QM C H locs ls hR hS hL)
theorem q_lxor {M : zM} {d : Nat} {sc : zS} {mc ms : Nat} {Q : zQ} {cells slots N : Nat} {g : Nat → zE} {pc : Nat} {lv : List (Option Value)} {st : List Value} {x y : Int64} (hd : decode (zcc M) pc = .ok (.lxor, 1)) (k : Wq M d sc mc ms Q cells slots N g (pc + 1) lv (.long (x ^^^ y) :: st)) : Wq M d sc mc ms Q cells slots N g pc lv (.long y :: .long x :: st) := by
  intro l p e R s m args below meth c D cA b base QM C H locs ls hR hS hL
  exact lv_lxor C.1 C.2.1 hd (k l p e R s m args below meth c D cA b base QM C H locs ls hR hS hL)
theorem q_idiv {M : zM} {d : Nat} {sc : zS} {mc ms : Nat} {Q : zQ} {cells slots N : Nat} {g : Nat → zE} {pc : Nat} {lv : List (Option Value)} {st : List Value} {x y : Int32} (hd : decode (zcc M) pc = .ok (.idiv, 1)) (hne : ¬ y = 0) (k : Wq M d sc mc ms Q cells slots N g (pc + 1) lv (.int (x / y) :: st)) : Wq M d sc mc ms Q cells slots N g pc lv (.int y :: .int x :: st) := by
  intro l p e R s m args below meth c D cA b base QM C H locs ls hR hS hL
  exact lv_idiv C.1 C.2.1 hd hne (k l p e R s m args below meth c D cA b base QM C H locs ls hR hS hL)
theorem q_irem {M : zM} {d : Nat} {sc : zS} {mc ms : Nat} {Q : zQ} {cells slots N : Nat} {g : Nat → zE} {pc : Nat} {lv : List (Option Value)} {st : List Value} {x y : Int32} (hd : decode (zcc M) pc = .ok (.irem, 1)) (hne : ¬ y = 0) (k : Wq M d sc mc ms Q cells slots N g (pc + 1) lv (.int (x - x / y * y) :: st)) : Wq M d sc mc ms Q cells slots N g pc lv (.int y :: .int x :: st) := by
  intro l p e R s m args below meth c D cA b base QM C H locs ls hR hS hL
  exact lv_irem C.1 C.2.1 hd hne (k l p e R s m args below meth c D cA b base QM C H locs ls hR hS hL)
theorem q_lrem {M : zM} {d : Nat} {sc : zS} {mc ms : Nat} {Q : zQ} {cells slots N : Nat} {g : Nat → zE} {pc : Nat} {lv : List (Option Value)} {st : List Value} {x y : Int64} (hd : decode (zcc M) pc = .ok (.lrem, 1)) (hne : ¬ y = 0) (k : Wq M d sc mc ms Q cells slots N g (pc + 1) lv (.long (x - x / y * y) :: st)) : Wq M d sc mc ms Q cells slots N g pc lv (.long y :: .long x :: st) := by
  intro l p e R s m args below meth c D cA b base QM C H locs ls hR hS hL
  exact lv_lrem C.1 C.2.1 hd hne (k l p e R s m args below meth c D cA b base QM C H locs ls hR hS hL)
theorem q_lneg {M : zM} {d : Nat} {sc : zS} {mc ms : Nat} {Q : zQ} {cells slots N : Nat} {g : Nat → zE} {pc : Nat} {lv : List (Option Value)} {st : List Value} {x : Int64} (hd : decode (zcc M) pc = .ok (.lneg, 1)) (k : Wq M d sc mc ms Q cells slots N g (pc + 1) lv (.long (-x) :: st)) : Wq M d sc mc ms Q cells slots N g pc lv (.long x :: st) := by
  intro l p e R s m args below meth c D cA b base QM C H locs ls hR hS hL
  exact lv_lneg C.1 C.2.1 hd (k l p e R s m args below meth c D cA b base QM C H locs ls hR hS hL)
theorem q_ishl {M : zM} {d : Nat} {sc : zS} {mc ms : Nat} {Q : zQ} {cells slots N : Nat} {g : Nat → zE} {pc : Nat} {lv : List (Option Value)} {st : List Value} {x y : Int32} (hd : decode (zcc M) pc = .ok (.ishl, 1)) (k : Wq M d sc mc ms Q cells slots N g (pc + 1) lv (.int (x <<< (y &&& 31)) :: st)) : Wq M d sc mc ms Q cells slots N g pc lv (.int y :: .int x :: st) := by
  intro l p e R s m args below meth c D cA b base QM C H locs ls hR hS hL
  exact lv_ishl C.1 C.2.1 hd (k l p e R s m args below meth c D cA b base QM C H locs ls hR hS hL)
theorem q_ishr {M : zM} {d : Nat} {sc : zS} {mc ms : Nat} {Q : zQ} {cells slots N : Nat} {g : Nat → zE} {pc : Nat} {lv : List (Option Value)} {st : List Value} {x y : Int32} (hd : decode (zcc M) pc = .ok (.ishr, 1)) (k : Wq M d sc mc ms Q cells slots N g (pc + 1) lv (.int (x >>> (y &&& 31)) :: st)) : Wq M d sc mc ms Q cells slots N g pc lv (.int y :: .int x :: st) := by
  intro l p e R s m args below meth c D cA b base QM C H locs ls hR hS hL
  exact lv_ishr C.1 C.2.1 hd (k l p e R s m args below meth c D cA b base QM C H locs ls hR hS hL)
theorem q_iushr {M : zM} {d : Nat} {sc : zS} {mc ms : Nat} {Q : zQ} {cells slots N : Nat} {g : Nat → zE} {pc : Nat} {lv : List (Option Value)} {st : List Value} {x y : Int32} (hd : decode (zcc M) pc = .ok (.iushr, 1)) (k : Wq M d sc mc ms Q cells slots N g (pc + 1) lv (.int (x.toUInt32 >>> (y.toUInt32 &&& Int32.toUInt32 31)).toInt32 :: st)) : Wq M d sc mc ms Q cells slots N g pc lv (.int y :: .int x :: st) := by
  intro l p e R s m args below meth c D cA b base QM C H locs ls hR hS hL
  exact lv_iushr C.1 C.2.1 hd rfl (k l p e R s m args below meth c D cA b base QM C H locs ls hR hS hL)
theorem q_lushr {M : zM} {d : Nat} {sc : zS} {mc ms : Nat} {Q : zQ} {cells slots N : Nat} {g : Nat → zE} {pc : Nat} {lv : List (Option Value)} {st : List Value} {x : Int64} {y : Int32} (hd : decode (zcc M) pc = .ok (.lushr, 1)) (k : Wq M d sc mc ms Q cells slots N g (pc + 1) lv (.long (x.toUInt64 >>> (y.toInt64.toUInt64 &&& Int64.toUInt64 63)).toInt64 :: st)) : Wq M d sc mc ms Q cells slots N g pc lv (.int y :: .long x :: st) := by
  intro l p e R s m args below meth c D cA b base QM C H locs ls hR hS hL
  exact lv_lushr C.1 C.2.1 hd rfl (k l p e R s m args below meth c D cA b base QM C H locs ls hR hS hL)
theorem q_lshl {M : zM} {d : Nat} {sc : zS} {mc ms : Nat} {Q : zQ} {cells slots N : Nat} {g : Nat → zE} {pc : Nat} {lv : List (Option Value)} {st : List Value} {x : Int64} {y : Int32} (hd : decode (zcc M) pc = .ok (.lshl, 1)) (k : Wq M d sc mc ms Q cells slots N g (pc + 1) lv (.long (x <<< (y.toInt64 &&& 63)) :: st)) : Wq M d sc mc ms Q cells slots N g pc lv (.int y :: .long x :: st) := by
  intro l p e R s m args below meth c D cA b base QM C H locs ls hR hS hL
  exact lv_lshl C.1 C.2.1 hd rfl (k l p e R s m args below meth c D cA b base QM C H locs ls hR hS hL)
theorem q_lshr {M : zM} {d : Nat} {sc : zS} {mc ms : Nat} {Q : zQ} {cells slots N : Nat} {g : Nat → zE} {pc : Nat} {lv : List (Option Value)} {st : List Value} {x : Int64} {y : Int32} (hd : decode (zcc M) pc = .ok (.lshr, 1)) (k : Wq M d sc mc ms Q cells slots N g (pc + 1) lv (.long (x >>> (y.toInt64 &&& 63)) :: st)) : Wq M d sc mc ms Q cells slots N g pc lv (.int y :: .long x :: st) := by
  intro l p e R s m args below meth c D cA b base QM C H locs ls hR hS hL
  exact lv_lshr C.1 C.2.1 hd rfl (k l p e R s m args below meth c D cA b base QM C H locs ls hR hS hL)
theorem q_i2l {M : zM} {d : Nat} {sc : zS} {mc ms : Nat} {Q : zQ} {cells slots N : Nat} {g : Nat → zE} {pc : Nat} {lv : List (Option Value)} {st : List Value} {x : Int32} (hd : decode (zcc M) pc = .ok (.i2l, 1)) (k : Wq M d sc mc ms Q cells slots N g (pc + 1) lv (.long x.toInt64 :: st)) : Wq M d sc mc ms Q cells slots N g pc lv (.int x :: st) := by
  intro l p e R s m args below meth c D cA b base QM C H locs ls hR hS hL
  exact lv_i2l C.1 C.2.1 hd rfl (k l p e R s m args below meth c D cA b base QM C H locs ls hR hS hL)
theorem q_l2i {M : zM} {d : Nat} {sc : zS} {mc ms : Nat} {Q : zQ} {cells slots N : Nat} {g : Nat → zE} {pc : Nat} {lv : List (Option Value)} {st : List Value} {x : Int64} (hd : decode (zcc M) pc = .ok (.l2i, 1)) (k : Wq M d sc mc ms Q cells slots N g (pc + 1) lv (.int x.toInt32 :: st)) : Wq M d sc mc ms Q cells slots N g pc lv (.long x :: st) := by
  intro l p e R s m args below meth c D cA b base QM C H locs ls hR hS hL
  exact lv_l2i C.1 C.2.1 hd rfl (k l p e R s m args below meth c D cA b base QM C H locs ls hR hS hL)
theorem q_lcmp {M : zM} {d : Nat} {sc : zS} {mc ms : Nat} {Q : zQ} {cells slots N : Nat} {g : Nat → zE} {pc : Nat} {lv : List (Option Value)} {st : List Value} {x y : Int64} (hd : decode (zcc M) pc = .ok (.lcmp, 1)) (k : Wq M d sc mc ms Q cells slots N g (pc + 1) lv (.int (lg_cmp x y) :: st)) : Wq M d sc mc ms Q cells slots N g pc lv (.long y :: .long x :: st) := by
  intro l p e R s m args below meth c D cA b base QM C H locs ls hR hS hL
  exact W.lcmp C.1 C.2.1 hd (k l p e R s m args below meth c D cA b base QM C H locs ls hR hS hL)
theorem q_dup {M : zM} {d : Nat} {sc : zS} {mc ms : Nat} {Q : zQ} {cells slots N : Nat} {g : Nat → zE} {pc : Nat} {lv : List (Option Value)} {st : List Value} {v : Value} (hd : decode (zcc M) pc = .ok (.dup, 1)) (hv : v.category = 1) (k : Wq M d sc mc ms Q cells slots N g (pc + 1) lv (v :: v :: st)) : Wq M d sc mc ms Q cells slots N g pc lv (v :: st) := by
  intro l p e R s m args below meth c D cA b base QM C H locs ls hR hS hL
  exact lv_dup C.1 C.2.1 hd ((zV_cat _ _ _).trans hv) (k l p e R s m args below meth c D cA b base QM C H locs ls hR hS hL)
theorem q_pop {M : zM} {d : Nat} {sc : zS} {mc ms : Nat} {Q : zQ} {cells slots N : Nat} {g : Nat → zE} {pc : Nat} {lv : List (Option Value)} {st : List Value} {v : Value} (hd : decode (zcc M) pc = .ok (.pop, 1)) (hv : v.category = 1) (k : Wq M d sc mc ms Q cells slots N g (pc + 1) lv st) : Wq M d sc mc ms Q cells slots N g pc lv (v :: st) := by
  intro l p e R s m args below meth c D cA b base QM C H locs ls hR hS hL
  exact lv_pop C.1 C.2.1 hd ((zV_cat _ _ _).trans hv) (k l p e R s m args below meth c D cA b base QM C H locs ls hR hS hL)
theorem q_dup2 {M : zM} {d : Nat} {sc : zS} {mc ms : Nat} {Q : zQ} {cells slots N : Nat} {g : Nat → zE} {pc : Nat} {lv : List (Option Value)} {st : List Value} {v w : Value} (hd : decode (zcc M) pc = .ok (.dup2, 1)) (hv : v.category = 1) (hw : w.category = 1) (k : Wq M d sc mc ms Q cells slots N g (pc + 1) lv (v :: w :: v :: w :: st)) : Wq M d sc mc ms Q cells slots N g pc lv (v :: w :: st) := by
  intro l p e R s m args below meth c D cA b base QM C H locs ls hR hS hL
  exact lv_dup2_11 C.1 C.2.1 hd ((zV_cat _ _ _).trans hv) ((zV_cat _ _ _).trans hw) (k l p e R s m args below meth c D cA b base QM C H locs ls hR hS hL)
theorem q_null {M : zM} {d : Nat} {sc : zS} {mc ms : Nat} {Q : zQ} {cells slots N : Nat} {g : Nat → zE} {pc : Nat} {lv : List (Option Value)} {st : List Value} (hd : decode (zcc M) pc = .ok (.aconst_null, 1)) (k : Wq M d sc mc ms Q cells slots N g (pc + 1) lv (.null :: st)) : Wq M d sc mc ms Q cells slots N g pc lv st := by
  intro l p e R s m args below meth c D cA b base QM C H locs ls hR hS hL
  exact lv_null C.1 C.2.1 hd (k l p e R s m args below meth c D cA b base QM C H locs ls hR hS hL)
theorem q_if_eq {M : zM} {d : Nat} {sc : zS} {mc ms : Nat} {Q : zQ} {cells slots N : Nat} {g : Nat → zE} {pc : Nat} {lv : List (Option Value)} {st : List Value} {x : Int32} {off : Int} (tgt : Nat) (hd : decode (zcc M) pc = .ok (.ifCond .eq off, 3)) (ht : (pc : Int) + off = (tgt : Int)) (kt : x = 0 → Wq M d sc mc ms Q cells slots N g tgt lv st) (kf : ¬ x = 0 → Wq M d sc mc ms Q cells slots N g (pc + 3) lv st) : Wq M d sc mc ms Q cells slots N g pc lv (.int x :: st) := by
  intro l p e R s m args below meth c D cA b base QM C H locs ls hR hS hL
  exact lv_if_eq C.1 C.2.1 hd ht (fun h => kt h l p e R s m args below meth c D cA b base QM C H locs ls hR hS hL) (fun h => kf h l p e R s m args below meth c D cA b base QM C H locs ls hR hS hL)
theorem q_if_ne {M : zM} {d : Nat} {sc : zS} {mc ms : Nat} {Q : zQ} {cells slots N : Nat} {g : Nat → zE} {pc : Nat} {lv : List (Option Value)} {st : List Value} {x : Int32} {off : Int} (tgt : Nat) (hd : decode (zcc M) pc = .ok (.ifCond .ne off, 3)) (ht : (pc : Int) + off = (tgt : Int)) (kt : ¬ x = 0 → Wq M d sc mc ms Q cells slots N g tgt lv st) (kf : x = 0 → Wq M d sc mc ms Q cells slots N g (pc + 3) lv st) : Wq M d sc mc ms Q cells slots N g pc lv (.int x :: st) := by
  intro l p e R s m args below meth c D cA b base QM C H locs ls hR hS hL
  exact lv_if_ne C.1 C.2.1 hd ht (fun h => kt h l p e R s m args below meth c D cA b base QM C H locs ls hR hS hL) (fun h => kf h l p e R s m args below meth c D cA b base QM C H locs ls hR hS hL)
theorem q_if_lt {M : zM} {d : Nat} {sc : zS} {mc ms : Nat} {Q : zQ} {cells slots N : Nat} {g : Nat → zE} {pc : Nat} {lv : List (Option Value)} {st : List Value} {x : Int32} {off : Int} (tgt : Nat) (hd : decode (zcc M) pc = .ok (.ifCond .lt off, 3)) (ht : (pc : Int) + off = (tgt : Int)) (kt : x < 0 → Wq M d sc mc ms Q cells slots N g tgt lv st) (kf : ¬ x < 0 → Wq M d sc mc ms Q cells slots N g (pc + 3) lv st) : Wq M d sc mc ms Q cells slots N g pc lv (.int x :: st) := by
  intro l p e R s m args below meth c D cA b base QM C H locs ls hR hS hL
  exact lv_if_lt C.1 C.2.1 hd ht (fun h => kt h l p e R s m args below meth c D cA b base QM C H locs ls hR hS hL) (fun h => kf h l p e R s m args below meth c D cA b base QM C H locs ls hR hS hL)
theorem q_if_ge {M : zM} {d : Nat} {sc : zS} {mc ms : Nat} {Q : zQ} {cells slots N : Nat} {g : Nat → zE} {pc : Nat} {lv : List (Option Value)} {st : List Value} {x : Int32} {off : Int} (tgt : Nat) (hd : decode (zcc M) pc = .ok (.ifCond .ge off, 3)) (ht : (pc : Int) + off = (tgt : Int)) (kt : 0 ≤ x → Wq M d sc mc ms Q cells slots N g tgt lv st) (kf : ¬ 0 ≤ x → Wq M d sc mc ms Q cells slots N g (pc + 3) lv st) : Wq M d sc mc ms Q cells slots N g pc lv (.int x :: st) := by
  intro l p e R s m args below meth c D cA b base QM C H locs ls hR hS hL
  exact lv_if_ge C.1 C.2.1 hd ht (fun h => kt h l p e R s m args below meth c D cA b base QM C H locs ls hR hS hL) (fun h => kf h l p e R s m args below meth c D cA b base QM C H locs ls hR hS hL)
theorem q_if_gt {M : zM} {d : Nat} {sc : zS} {mc ms : Nat} {Q : zQ} {cells slots N : Nat} {g : Nat → zE} {pc : Nat} {lv : List (Option Value)} {st : List Value} {x : Int32} {off : Int} (tgt : Nat) (hd : decode (zcc M) pc = .ok (.ifCond .gt off, 3)) (ht : (pc : Int) + off = (tgt : Int)) (kt : 0 < x → Wq M d sc mc ms Q cells slots N g tgt lv st) (kf : ¬ 0 < x → Wq M d sc mc ms Q cells slots N g (pc + 3) lv st) : Wq M d sc mc ms Q cells slots N g pc lv (.int x :: st) := by
  intro l p e R s m args below meth c D cA b base QM C H locs ls hR hS hL
  exact lv_if_gt C.1 C.2.1 hd ht (fun h => kt h l p e R s m args below meth c D cA b base QM C H locs ls hR hS hL) (fun h => kf h l p e R s m args below meth c D cA b base QM C H locs ls hR hS hL)
theorem q_if_le {M : zM} {d : Nat} {sc : zS} {mc ms : Nat} {Q : zQ} {cells slots N : Nat} {g : Nat → zE} {pc : Nat} {lv : List (Option Value)} {st : List Value} {x : Int32} {off : Int} (tgt : Nat) (hd : decode (zcc M) pc = .ok (.ifCond .le off, 3)) (ht : (pc : Int) + off = (tgt : Int)) (kt : x ≤ 0 → Wq M d sc mc ms Q cells slots N g tgt lv st) (kf : ¬ x ≤ 0 → Wq M d sc mc ms Q cells slots N g (pc + 3) lv st) : Wq M d sc mc ms Q cells slots N g pc lv (.int x :: st) := by
  intro l p e R s m args below meth c D cA b base QM C H locs ls hR hS hL
  exact lv_if_le C.1 C.2.1 hd ht (fun h => kt h l p e R s m args below meth c D cA b base QM C H locs ls hR hS hL) (fun h => kf h l p e R s m args below meth c D cA b base QM C H locs ls hR hS hL)
theorem q_icmp_eq {M : zM} {d : Nat} {sc : zS} {mc ms : Nat} {Q : zQ} {cells slots N : Nat} {g : Nat → zE} {pc : Nat} {lv : List (Option Value)} {st : List Value} {x y : Int32} {off : Int} (tgt : Nat) (hd : decode (zcc M) pc = .ok (.if_icmp .eq off, 3)) (ht : (pc : Int) + off = (tgt : Int)) (kt : x = y → Wq M d sc mc ms Q cells slots N g tgt lv st) (kf : ¬ x = y → Wq M d sc mc ms Q cells slots N g (pc + 3) lv st) : Wq M d sc mc ms Q cells slots N g pc lv (.int y :: .int x :: st) := by
  intro l p e R s m args below meth c D cA b base QM C H locs ls hR hS hL
  exact lv_icmp_eq C.1 C.2.1 hd ht (fun h => kt h l p e R s m args below meth c D cA b base QM C H locs ls hR hS hL) (fun h => kf h l p e R s m args below meth c D cA b base QM C H locs ls hR hS hL)
theorem q_icmp_ne {M : zM} {d : Nat} {sc : zS} {mc ms : Nat} {Q : zQ} {cells slots N : Nat} {g : Nat → zE} {pc : Nat} {lv : List (Option Value)} {st : List Value} {x y : Int32} {off : Int} (tgt : Nat) (hd : decode (zcc M) pc = .ok (.if_icmp .ne off, 3)) (ht : (pc : Int) + off = (tgt : Int)) (kt : ¬ x = y → Wq M d sc mc ms Q cells slots N g tgt lv st) (kf : x = y → Wq M d sc mc ms Q cells slots N g (pc + 3) lv st) : Wq M d sc mc ms Q cells slots N g pc lv (.int y :: .int x :: st) := by
  intro l p e R s m args below meth c D cA b base QM C H locs ls hR hS hL
  exact lv_icmp_ne C.1 C.2.1 hd ht (fun h => kt h l p e R s m args below meth c D cA b base QM C H locs ls hR hS hL) (fun h => kf h l p e R s m args below meth c D cA b base QM C H locs ls hR hS hL)
theorem q_icmp_lt {M : zM} {d : Nat} {sc : zS} {mc ms : Nat} {Q : zQ} {cells slots N : Nat} {g : Nat → zE} {pc : Nat} {lv : List (Option Value)} {st : List Value} {x y : Int32} {off : Int} (tgt : Nat) (hd : decode (zcc M) pc = .ok (.if_icmp .lt off, 3)) (ht : (pc : Int) + off = (tgt : Int)) (kt : x < y → Wq M d sc mc ms Q cells slots N g tgt lv st) (kf : ¬ x < y → Wq M d sc mc ms Q cells slots N g (pc + 3) lv st) : Wq M d sc mc ms Q cells slots N g pc lv (.int y :: .int x :: st) := by
  intro l p e R s m args below meth c D cA b base QM C H locs ls hR hS hL
  exact lv_icmp_lt C.1 C.2.1 hd ht (fun h => kt h l p e R s m args below meth c D cA b base QM C H locs ls hR hS hL) (fun h => kf h l p e R s m args below meth c D cA b base QM C H locs ls hR hS hL)
theorem q_icmp_ge {M : zM} {d : Nat} {sc : zS} {mc ms : Nat} {Q : zQ} {cells slots N : Nat} {g : Nat → zE} {pc : Nat} {lv : List (Option Value)} {st : List Value} {x y : Int32} {off : Int} (tgt : Nat) (hd : decode (zcc M) pc = .ok (.if_icmp .ge off, 3)) (ht : (pc : Int) + off = (tgt : Int)) (kt : y ≤ x → Wq M d sc mc ms Q cells slots N g tgt lv st) (kf : ¬ y ≤ x → Wq M d sc mc ms Q cells slots N g (pc + 3) lv st) : Wq M d sc mc ms Q cells slots N g pc lv (.int y :: .int x :: st) := by
  intro l p e R s m args below meth c D cA b base QM C H locs ls hR hS hL
  exact lv_icmp_ge C.1 C.2.1 hd ht (fun h => kt h l p e R s m args below meth c D cA b base QM C H locs ls hR hS hL) (fun h => kf h l p e R s m args below meth c D cA b base QM C H locs ls hR hS hL)
theorem q_icmp_gt {M : zM} {d : Nat} {sc : zS} {mc ms : Nat} {Q : zQ} {cells slots N : Nat} {g : Nat → zE} {pc : Nat} {lv : List (Option Value)} {st : List Value} {x y : Int32} {off : Int} (tgt : Nat) (hd : decode (zcc M) pc = .ok (.if_icmp .gt off, 3)) (ht : (pc : Int) + off = (tgt : Int)) (kt : y < x → Wq M d sc mc ms Q cells slots N g tgt lv st) (kf : ¬ y < x → Wq M d sc mc ms Q cells slots N g (pc + 3) lv st) : Wq M d sc mc ms Q cells slots N g pc lv (.int y :: .int x :: st) := by
  intro l p e R s m args below meth c D cA b base QM C H locs ls hR hS hL
  exact lv_icmp_gt C.1 C.2.1 hd ht (fun h => kt h l p e R s m args below meth c D cA b base QM C H locs ls hR hS hL) (fun h => kf h l p e R s m args below meth c D cA b base QM C H locs ls hR hS hL)
theorem q_icmp_le {M : zM} {d : Nat} {sc : zS} {mc ms : Nat} {Q : zQ} {cells slots N : Nat} {g : Nat → zE} {pc : Nat} {lv : List (Option Value)} {st : List Value} {x y : Int32} {off : Int} (tgt : Nat) (hd : decode (zcc M) pc = .ok (.if_icmp .le off, 3)) (ht : (pc : Int) + off = (tgt : Int)) (kt : x ≤ y → Wq M d sc mc ms Q cells slots N g tgt lv st) (kf : ¬ x ≤ y → Wq M d sc mc ms Q cells slots N g (pc + 3) lv st) : Wq M d sc mc ms Q cells slots N g pc lv (.int y :: .int x :: st) := by
  intro l p e R s m args below meth c D cA b base QM C H locs ls hR hS hL
  exact lv_icmp_le C.1 C.2.1 hd ht (fun h => kt h l p e R s m args below meth c D cA b base QM C H locs ls hR hS hL) (fun h => kf h l p e R s m args below meth c D cA b base QM C H locs ls hR hS hL)
theorem q_goto {M : zM} {d : Nat} {sc : zS} {mc ms : Nat} {Q : zQ} {cells slots N : Nat} {g : Nat → zE} {pc : Nat} {lv : List (Option Value)} {st : List Value} {off : Int} (tgt : Nat) (hd : decode (zcc M) pc = .ok (.goto off, 3)) (ht : (pc : Int) + off = (tgt : Int)) (k : Wq M d sc mc ms Q cells slots N g tgt lv st) : Wq M d sc mc ms Q cells slots N g pc lv st := by
  intro l p e R s m args below meth c D cA b base QM C H locs ls hR hS hL
  exact lv_goto C.1 C.2.1 hd ht (k l p e R s m args below meth c D cA b base QM C H locs ls hR hS hL)
theorem q_ifnullR {M : zM} {d : Nat} {sc : zS} {mc ms : Nat} {Q : zQ} {cells slots N : Nat} {g : Nat → zE} {pc : Nat} {lv : List (Option Value)} {st : List Value} {x : Nat} {off : Int} (hd : decode (zcc M) pc = .ok (.ifnull off, 3)) (k : Wq M d sc mc ms Q cells slots N g (pc + 3) lv st) : Wq M d sc mc ms Q cells slots N g pc lv (.ref x :: st) := by
  intro l p e R s m args below meth c D cA b base QM C H locs ls hR hS hL
  exact lv_ifnull C.1 C.2.1 hd (k l p e R s m args below meth c D cA b base QM C H locs ls hR hS hL)
theorem q_ifnullN {M : zM} {d : Nat} {sc : zS} {mc ms : Nat} {Q : zQ} {cells slots N : Nat} {g : Nat → zE} {pc : Nat} {lv : List (Option Value)} {st : List Value} {off : Int} (tgt : Nat) (hd : decode (zcc M) pc = .ok (.ifnull off, 3)) (ht : (pc : Int) + off = (tgt : Int)) (k : Wq M d sc mc ms Q cells slots N g tgt lv st) : Wq M d sc mc ms Q cells slots N g pc lv (.null :: st) := by
  intro l p e R s m args below meth c D cA b base QM C H locs ls hR hS hL
  exact lv_ifnullN C.1 C.2.1 hd ht (k l p e R s m args below meth c D cA b base QM C H locs ls hR hS hL)
theorem q_lookup {M : zM} {d : Nat} {sc : zS} {mc ms : Nat} {Q : zQ} {cells slots N : Nat} {g : Nat → zE} {pc : Nat} {lv : List (Option Value)} {st : List Value} {dflt : Int} {ps : Array (Int × Int)} {len : Nat} {x : Int32} {off : Int} (tgt : Nat) (hd : decode (zcc M) pc = .ok (.lookupswitch dflt ps, len)) (hp : (ps.toList.zip (ps.toList.drop 1)).all (fun (a, next) => a.1 < next.1) = true) (ho : Op.lookupswitch.offset ps.toList dflt x.toInt = off) (ht : (pc : Int) + off = (tgt : Int)) (k : Wq M d sc mc ms Q cells slots N g tgt lv st) : Wq M d sc mc ms Q cells slots N g pc lv (.int x :: st) := by
  intro l p e R s m args below meth c D cA b base QM C H locs ls hR hS hL
  exact lv_lookup C.1 C.2.1 hd hp ho ht (k l p e R s m args below meth c D cA b base QM C H locs ls hR hS hL)
theorem q_tableOut {M : zM} {d : Nat} {sc : zS} {mc ms : Nat} {Q : zQ} {cells slots N : Nat} {g : Nat → zE} {pc : Nat} {lv : List (Option Value)} {st : List Value} {dflt lo hi : Int} {offs : Array Int} {len : Nat} {x : Int32} (tgt : Nat) (hd : decode (zcc M) pc = .ok (.tableswitch dflt lo hi offs, len)) (h : x.toInt < lo ∨ hi < x.toInt) (ht : (pc : Int) + dflt = (tgt : Int)) (k : Wq M d sc mc ms Q cells slots N g tgt lv st) : Wq M d sc mc ms Q cells slots N g pc lv (.int x :: st) := by
  intro l p e R s m args below meth c D cA b base QM C H locs ls hR hS hL
  exact lv_tableOut C.1 C.2.1 hd h ht (k l p e R s m args below meth c D cA b base QM C H locs ls hR hS hL)
theorem q_tableIn {M : zM} {d : Nat} {sc : zS} {mc ms : Nat} {Q : zQ} {cells slots N : Nat} {g : Nat → zE} {pc : Nat} {lv : List (Option Value)} {st : List Value} {dflt lo hi : Int} {offs : Array Int} {len : Nat} {x : Int32} {off : Int} (tgt : Nat) (hd : decode (zcc M) pc = .ok (.tableswitch dflt lo hi offs, len)) (h1 : ¬ x.toInt < lo) (h2 : ¬ hi < x.toInt) (ho : offs[(x.toInt - lo).toNat]? = some off) (ht : (pc : Int) + off = (tgt : Int)) (k : Wq M d sc mc ms Q cells slots N g tgt lv st) : Wq M d sc mc ms Q cells slots N g pc lv (.int x :: st) := by
  intro l p e R s m args below meth c D cA b base QM C H locs ls hR hS hL
  exact lv_tableIn C.1 C.2.1 hd h1 h2 ho ht (k l p e R s m args below meth c D cA b base QM C H locs ls hR hS hL)
theorem q_iload_n {M : zM} {d : Nat} {sc : zS} {mc ms : Nat} {Q : zQ} {cells slots N : Nat} {g : Nat → zE} {pc : Nat} {lv : List (Option Value)} {st : List Value} {kk : Fin 4} {x : Int32} (hd : decode (zcc M) pc = .ok (.iload_n kk, 1)) (hl : lv[(kk : Nat)]? = some (some (.int x))) (k : Wq M d sc mc ms Q cells slots N g (pc + 1) lv (.int x :: st)) : Wq M d sc mc ms Q cells slots N g pc lv st := by
  intro l p e R s m args below meth c D cA b base QM C H locs ls hR hS hL
  exact lv_iload_n C.1 C.2.1 hd rfl (hL.2.2 _ _ hl) (k l p e R s m args below meth c D cA b base QM C H locs ls hR hS hL)
theorem q_iload {M : zM} {d : Nat} {sc : zS} {mc ms : Nat} {Q : zQ} {cells slots N : Nat} {g : Nat → zE} {pc : Nat} {lv : List (Option Value)} {st : List Value} {i : Nat} {x : Int32} (hd : decode (zcc M) pc = .ok (.iload i, 2)) (hl : lv[i]? = some (some (.int x))) (k : Wq M d sc mc ms Q cells slots N g (pc + 2) lv (.int x :: st)) : Wq M d sc mc ms Q cells slots N g pc lv st := by
  intro l p e R s m args below meth c D cA b base QM C H locs ls hR hS hL
  exact lv_iload C.1 C.2.1 hd (hL.2.2 _ _ hl) (k l p e R s m args below meth c D cA b base QM C H locs ls hR hS hL)
theorem q_lload_n {M : zM} {d : Nat} {sc : zS} {mc ms : Nat} {Q : zQ} {cells slots N : Nat} {g : Nat → zE} {pc : Nat} {lv : List (Option Value)} {st : List Value} {kk : Fin 4} {x : Int64} (hd : decode (zcc M) pc = .ok (.lload_n kk, 1)) (hl : lv[(kk : Nat)]? = some (some (.long x))) (k : Wq M d sc mc ms Q cells slots N g (pc + 1) lv (.long x :: st)) : Wq M d sc mc ms Q cells slots N g pc lv st := by
  intro l p e R s m args below meth c D cA b base QM C H locs ls hR hS hL
  exact lv_lload_n C.1 C.2.1 hd rfl (hL.2.2 _ _ hl) (k l p e R s m args below meth c D cA b base QM C H locs ls hR hS hL)
theorem q_lload {M : zM} {d : Nat} {sc : zS} {mc ms : Nat} {Q : zQ} {cells slots N : Nat} {g : Nat → zE} {pc : Nat} {lv : List (Option Value)} {st : List Value} {i : Nat} {x : Int64} (hd : decode (zcc M) pc = .ok (.lload i, 2)) (hl : lv[i]? = some (some (.long x))) (k : Wq M d sc mc ms Q cells slots N g (pc + 2) lv (.long x :: st)) : Wq M d sc mc ms Q cells slots N g pc lv st := by
  intro l p e R s m args below meth c D cA b base QM C H locs ls hR hS hL
  exact lv_lload C.1 C.2.1 hd (hL.2.2 _ _ hl) (k l p e R s m args below meth c D cA b base QM C H locs ls hR hS hL)
theorem q_aload_n {M : zM} {d : Nat} {sc : zS} {mc ms : Nat} {Q : zQ} {cells slots N : Nat} {g : Nat → zE} {pc : Nat} {lv : List (Option Value)} {st : List Value} {kk : Fin 4} {x : Nat} (hd : decode (zcc M) pc = .ok (.aload_n kk, 1)) (hl : lv[(kk : Nat)]? = some (some (.ref x))) (k : Wq M d sc mc ms Q cells slots N g (pc + 1) lv (.ref x :: st)) : Wq M d sc mc ms Q cells slots N g pc lv st := by
  intro l p e R s m args below meth c D cA b base QM C H locs ls hR hS hL
  exact lv_aload_n C.1 C.2.1 hd rfl (hL.2.2 _ _ hl) (k l p e R s m args below meth c D cA b base QM C H locs ls hR hS hL)
theorem q_aload {M : zM} {d : Nat} {sc : zS} {mc ms : Nat} {Q : zQ} {cells slots N : Nat} {g : Nat → zE} {pc : Nat} {lv : List (Option Value)} {st : List Value} {i : Nat} {x : Nat} (hd : decode (zcc M) pc = .ok (.aload i, 2)) (hl : lv[i]? = some (some (.ref x))) (k : Wq M d sc mc ms Q cells slots N g (pc + 2) lv (.ref x :: st)) : Wq M d sc mc ms Q cells slots N g pc lv st := by
  intro l p e R s m args below meth c D cA b base QM C H locs ls hR hS hL
  exact lv_aload C.1 C.2.1 hd (hL.2.2 _ _ hl) (k l p e R s m args below meth c D cA b base QM C H locs ls hR hS hL)
theorem q_istore_n {M : zM} {d : Nat} {sc : zS} {mc ms : Nat} {Q : zQ} {cells slots N : Nat} {g : Nat → zE} {pc : Nat} {lv : List (Option Value)} {st : List Value} {kk : Fin 4} {x : Int32} (hd : decode (zcc M) pc = .ok (.istore_n kk, 1)) (hn : (kk : Nat) < znl M) (ho : zok lv (kk : Nat) = true) (k : Wq M d sc mc ms Q cells slots N g (pc + 1) (lv.set (kk : Nat) (some (.int x))) st) : Wq M d sc mc ms Q cells slots N g pc lv (.int x :: st) := by
  intro l p e R s m args below meth c D cA b base QM C H locs ls hR hS hL
  exact lv_istore_n C.1 C.2.1 hd rfl hL.has hn rfl (fun ls2 h2 => k l p e R s m args below meth c D cA b base QM C H locs ls2 hR hS (zL_store1 ho h2))
theorem q_istore {M : zM} {d : Nat} {sc : zS} {mc ms : Nat} {Q : zQ} {cells slots N : Nat} {g : Nat → zE} {pc : Nat} {lv : List (Option Value)} {st : List Value} {i : Nat} {x : Int32} (hd : decode (zcc M) pc = .ok (.istore i, 2)) (hn : i < znl M) (ho : zok lv i = true) (k : Wq M d sc mc ms Q cells slots N g (pc + 2) (lv.set i (some (.int x))) st) : Wq M d sc mc ms Q cells slots N g pc lv (.int x :: st) := by
  intro l p e R s m args below meth c D cA b base QM C H locs ls hR hS hL
  exact lv_istore C.1 C.2.1 hd hL.has hn rfl (fun ls2 h2 => k l p e R s m args below meth c D cA b base QM C H locs ls2 hR hS (zL_store1 ho h2))
theorem q_lstore_n {M : zM} {d : Nat} {sc : zS} {mc ms : Nat} {Q : zQ} {cells slots N : Nat} {g : Nat → zE} {pc : Nat} {lv : List (Option Value)} {st : List Value} {kk : Fin 4} {x : Int64} (hd : decode (zcc M) pc = .ok (.lstore_n kk, 1)) (hn : (kk : Nat) + 1 < znl M) (ho : zok lv (kk : Nat) = true) (k : Wq M d sc mc ms Q cells slots N g (pc + 1) ((lv.set (kk : Nat) (some (.long x))).set ((kk : Nat) + 1) none) st) : Wq M d sc mc ms Q cells slots N g pc lv (.long x :: st) := by
  intro l p e R s m args below meth c D cA b base QM C H locs ls hR hS hL
  exact lv_lstore_n C.1 C.2.1 hd rfl hL.has hn rfl (fun ls2 h2 => k l p e R s m args below meth c D cA b base QM C H locs ls2 hR hS (zL_store2 ho h2))
theorem q_lstore {M : zM} {d : Nat} {sc : zS} {mc ms : Nat} {Q : zQ} {cells slots N : Nat} {g : Nat → zE} {pc : Nat} {lv : List (Option Value)} {st : List Value} {i : Nat} {x : Int64} (hd : decode (zcc M) pc = .ok (.lstore i, 2)) (hn : i + 1 < znl M) (ho : zok lv i = true) (k : Wq M d sc mc ms Q cells slots N g (pc + 2) ((lv.set i (some (.long x))).set (i + 1) none) st) : Wq M d sc mc ms Q cells slots N g pc lv (.long x :: st) := by
  intro l p e R s m args below meth c D cA b base QM C H locs ls hR hS hL
  exact lv_lstore C.1 C.2.1 hd hL.has hn rfl (fun ls2 h2 => k l p e R s m args below meth c D cA b base QM C H locs ls2 hR hS (zL_store2 ho h2))
theorem q_astore_n {M : zM} {d : Nat} {sc : zS} {mc ms : Nat} {Q : zQ} {cells slots N : Nat} {g : Nat → zE} {pc : Nat} {lv : List (Option Value)} {st : List Value} {kk : Fin 4} {x : Nat} (hd : decode (zcc M) pc = .ok (.astore_n kk, 1)) (hn : (kk : Nat) < znl M) (ho : zok lv (kk : Nat) = true) (k : Wq M d sc mc ms Q cells slots N g (pc + 1) (lv.set (kk : Nat) (some (.ref x))) st) : Wq M d sc mc ms Q cells slots N g pc lv (.ref x :: st) := by
  intro l p e R s m args below meth c D cA b base QM C H locs ls hR hS hL
  exact lv_astore_n C.1 C.2.1 hd rfl hL.has hn rfl (fun ls2 h2 => k l p e R s m args below meth c D cA b base QM C H locs ls2 hR hS (zL_store1 ho h2))
theorem q_astore {M : zM} {d : Nat} {sc : zS} {mc ms : Nat} {Q : zQ} {cells slots N : Nat} {g : Nat → zE} {pc : Nat} {lv : List (Option Value)} {st : List Value} {i : Nat} {x : Nat} (hd : decode (zcc M) pc = .ok (.astore i, 2)) (hn : i < znl M) (ho : zok lv i = true) (k : Wq M d sc mc ms Q cells slots N g (pc + 2) (lv.set i (some (.ref x))) st) : Wq M d sc mc ms Q cells slots N g pc lv (.ref x :: st) := by
  intro l p e R s m args below meth c D cA b base QM C H locs ls hR hS hL
  exact lv_astore C.1 C.2.1 hd hL.has hn rfl (fun ls2 h2 => k l p e R s m args below meth c D cA b base QM C H locs ls2 hR hS (zL_store1 ho h2))
theorem q_astoreN {M : zM} {d : Nat} {sc : zS} {mc ms : Nat} {Q : zQ} {cells slots N : Nat} {g : Nat → zE} {pc : Nat} {lv : List (Option Value)} {st : List Value} {i : Nat} (hd : decode (zcc M) pc = .ok (.astore i, 2)) (hn : i < znl M) (ho : zok lv i = true) (k : Wq M d sc mc ms Q cells slots N g (pc + 2) (lv.set i (some .null)) st) : Wq M d sc mc ms Q cells slots N g pc lv (.null :: st) := by
  intro l p e R s m args below meth c D cA b base QM C H locs ls hR hS hL
  exact lv_astoreN C.1 C.2.1 hd hL.has hn rfl (fun ls2 h2 => k l p e R s m args below meth c D cA b base QM C H locs ls2 hR hS (zL_store1 (v := .null) ho h2))
theorem q_astore_nN {M : zM} {d : Nat} {sc : zS} {mc ms : Nat} {Q : zQ} {cells slots N : Nat} {g : Nat → zE} {pc : Nat} {lv : List (Option Value)} {st : List Value} {kk : Fin 4} (hd : decode (zcc M) pc = .ok (.astore_n kk, 1)) (hn : (kk : Nat) < znl M) (ho : zok lv (kk : Nat) = true) (k : Wq M d sc mc ms Q cells slots N g (pc + 1) (lv.set (kk : Nat) (some .null)) st) : Wq M d sc mc ms Q cells slots N g pc lv (.null :: st) := by
  intro l p e R s m args below meth c D cA b base QM C H locs ls hR hS hL
  exact lv_astore_nN C.1 C.2.1 hd rfl hL.has hn rfl (fun ls2 h2 => k l p e R s m args below meth c D cA b base QM C H locs ls2 hR hS (zL_store1 (v := .null) ho h2))
theorem q_aloadN {M : zM} {d : Nat} {sc : zS} {mc ms : Nat} {Q : zQ} {cells slots N : Nat} {g : Nat → zE} {pc : Nat} {lv : List (Option Value)} {st : List Value} {i : Nat} (hd : decode (zcc M) pc = .ok (.aload i, 2)) (hl : lv[i]? = some (some .null)) (k : Wq M d sc mc ms Q cells slots N g (pc + 2) lv (.null :: st)) : Wq M d sc mc ms Q cells slots N g pc lv st := by
  intro l p e R s m args below meth c D cA b base QM C H locs ls hR hS hL
  exact lv_aloadN C.1 C.2.1 hd (hL.2.2 _ _ hl) (k l p e R s m args below meth c D cA b base QM C H locs ls hR hS hL)
theorem q_aload_nN {M : zM} {d : Nat} {sc : zS} {mc ms : Nat} {Q : zQ} {cells slots N : Nat} {g : Nat → zE} {pc : Nat} {lv : List (Option Value)} {st : List Value} {kk : Fin 4} (hd : decode (zcc M) pc = .ok (.aload_n kk, 1)) (hl : lv[(kk : Nat)]? = some (some .null)) (k : Wq M d sc mc ms Q cells slots N g (pc + 1) lv (.null :: st)) : Wq M d sc mc ms Q cells slots N g pc lv st := by
  intro l p e R s m args below meth c D cA b base QM C H locs ls hR hS hL
  exact lv_aload_nN C.1 C.2.1 hd rfl (hL.2.2 _ _ hl) (k l p e R s m args below meth c D cA b base QM C H locs ls hR hS hL)
theorem q_iinc {M : zM} {d : Nat} {sc : zS} {mc ms : Nat} {Q : zQ} {cells slots N : Nat} {g : Nat → zE} {pc : Nat} {lv : List (Option Value)} {st : List Value} {i : Nat} {n : Int} {x : Int32} (hd : decode (zcc M) pc = .ok (.iinc i n, 3)) (hl : lv[i]? = some (some (.int x))) (hn : i < znl M) (ho : zok lv i = true) (k : Wq M d sc mc ms Q cells slots N g (pc + 3) (lv.set i (some (.int (x + Int32.ofInt n)))) st) : Wq M d sc mc ms Q cells slots N g pc lv st := by
  intro l p e R s m args below meth c D cA b base QM C H locs ls hR hS hL
  obtain ⟨kp, hkp⟩ := List.getElem?_of_mem (zl_mem (b := b) (base := base) hl)
  exact lv_iinc C.1 C.2.1 hd hL.has (k := kp) hkp rfl hn rfl (fun ls2 h2 => k l p e R s m args below meth c D cA b base QM C H locs ls2 hR hS (zL_store1 (v := .int (x + Int32.ofInt n)) ho h2))
theorem q_ldcw {M : zM} {d : Nat} {sc : zS} {mc ms : Nat} {Q : zQ} {cells slots N : Nat} {g : Nat → zE} {pc : Nat} {lv : List (Option Value)} {st : List Value} {index : Nat} {v : Int32} (hd : decode (zcc M) pc = .ok (.ldc_w index, 3)) (hc : Cond.constant (zown M) index v ∈ TB) (k : Wq M d sc mc ms Q cells slots N g (pc + 3) lv (.int v :: st)) : Wq M d sc mc ms Q cells slots N g pc lv st := by
  intro l p e R s m args below meth c D cA b base QM C H locs ls hR hS hL
  exact lv_ldcw C.1 C.2.1 C.2.2.2.2.2.1 (C.2.2.2.2.2.2.1 _ hc) hd (k l p e R s m args below meth c D cA b base QM C H locs ls hR hS hL)
theorem q_ldc2 {M : zM} {d : Nat} {sc : zS} {mc ms : Nat} {Q : zQ} {cells slots N : Nat} {g : Nat → zE} {pc : Nat} {lv : List (Option Value)} {st : List Value} {index : Nat} {v : Int64} (hd : decode (zcc M) pc = .ok (.ldc2_w index, 3)) (hc : Cond.constantLong (zown M) index v ∈ TB) (k : Wq M d sc mc ms Q cells slots N g (pc + 3) lv (.long v :: st)) : Wq M d sc mc ms Q cells slots N g pc lv st := by
  intro l p e R s m args below meth c D cA b base QM C H locs ls hR hS hL
  exact lv_ldc2 C.1 C.2.1 C.2.2.2.2.2.1 (C.2.2.2.2.2.2.1 _ hc) hd (k l p e R s m args below meth c D cA b base QM C H locs ls hR hS hL)
theorem q_ret {M : zM} {d : Nat} {sc : zS} {mc ms : Nat} {Q : zQ} {cells slots N : Nat} {g : Nat → zE} {pc : Nat} {lv : List (Option Value)} {v : Option Value} (hq : Q v N g) (hv : zRet M pc v) (hc : cells ≤ mc) (hs : slots ≤ ms) : Wq M d sc mc ms Q cells slots N g pc lv v.toList := by
  intro l p e R s m args below meth c D cA b base QM C H locs ls hR hS hL
  exact W.widen hc hs (C.2.2.2.2.2.2.2.2.2.2.2.2.2 v N g H locs ls pc hq hR hS hv)
theorem q_sub {M : zM} {d : Nat} {sc : zS} {mc ms : Nat} {Q : zQ} {cells slots N : Nat} {g : Nat → zE} {pc : Nat} {lv : List (Option Value)} {st : List Value} {lv' : List (Option Value)} (h : ∀ (i : Nat) (v : Value), lv'[i]? = some (some v) → lv[i]? = some (some v)) (k : Wq M d sc mc ms Q cells slots N g pc lv' st) : Wq M d sc mc ms Q cells slots N g pc lv st := by
  intro l p e R s m args below meth c D cA b base QM C H locs ls hR hS hL
  exact k l p e R s m args below meth c D cA b base QM C H locs ls hR hS ⟨hL.1, hL.2.1, fun i v hi => hL.2.2 i v (h i v hi)⟩
theorem q_congr {M : zM} {d : Nat} {sc : zS} {mc ms : Nat} {Q : zQ} {cells slots N : Nat} {g : Nat → zE} {pc : Nat} {lv : List (Option Value)} {st : List Value} {g' : Nat → zE} (h : ∀ k, k < N → g (k + 1) = g' (k + 1)) (k : Wq M d sc mc ms Q cells slots N g' pc lv st) : Wq M d sc mc ms Q cells slots N g pc lv st := by
  intro l p e R s m args below meth c D cA b base QM C H locs ls hR hS hL
  exact k l p e R s m args below meth c D cA b base QM C H locs ls ⟨hR.1, by rw [← zW_congr h]; exact hR.2⟩ hS hL
end
section
/-! what is known of each class -/
theorem zcl : ∀ (ci : Nat) (C : String) (T : u_T) (n : Nat), vwCl[ci]? = some (C, T, n) → (∀ w ∈ u_ws C T n, w ∈ TB) ∧ (∃ ty0 : Nat → FieldType, ∀ k, k < n → parseFieldDescriptor (T k).2.2.1 = some (ty0 k)) ∧ (∀ a, a < n → ∀ b, b < n → a ≠ b → (T a).2.1 ≠ (T b).2.1)
  | 0, C, T, n, h => by
    have h2 : some (RX0, TX0, 9) = some (C, T, n) := h
    cases h2
    exact ⟨inlX0, ⟨tyX0, tyX0_ok⟩, nmX0⟩
  | 1, C, T, n, h => by
    have h2 : some (RX1, TX1, 7) = some (C, T, n) := h
    cases h2
    exact ⟨inlX1, ⟨tyX1, tyX1_ok⟩, nmX1⟩
  | 2, C, T, n, h => by
    have h2 : some (RX2, TX2, 3) = some (C, T, n) := h
    cases h2
    exact ⟨inlX2, ⟨tyX2, tyX2_ok⟩, nmX2⟩
  | 3, C, T, n, h => by
    have h2 : some (RX3, TX3, 2) = some (C, T, n) := h
    cases h2
    exact ⟨inlX3, ⟨tyX3, tyX3_ok⟩, nmX3⟩
  | 4, C, T, n, h => by
    have h2 : some (RX4, TX4, 4) = some (C, T, n) := h
    cases h2
    exact ⟨inlX4, ⟨tyX4, tyX4_ok⟩, nmX4⟩
  | 5, C, T, n, h => by
    have h2 : some (RX5, TX5, 2) = some (C, T, n) := h
    cases h2
    exact ⟨inlX5, ⟨tyX5, tyX5_ok⟩, nmX5⟩
  | 6, C, T, n, h => by
    have h2 : some (RX6, TX6, 7) = some (C, T, n) := h
    cases h2
    exact ⟨inlX6, ⟨tyX6, tyX6_ok⟩, nmX6⟩
  | 7, C, T, n, h => by
    have h2 : some (RX7, TX7, 13) = some (C, T, n) := h
    cases h2
    exact ⟨inlX7, ⟨tyX7, tyX7_ok⟩, nmX7⟩
  | 8, C, T, n, h => by
    have h2 : some (RX8, TX8, 32) = some (C, T, n) := h
    cases h2
    exact ⟨inlX8, ⟨tyX8, tyX8_ok⟩, nmX8⟩
  | k + 9, C, T, n, h => by simp [vwCl] at h
section ZH
variable {p : Program} {l : Launch} {e : Env} {R : Room} {s : State} {m : MethodId} {args : Array Value} {below : List Frame} {meth : Method} {c : Code} {H : Heap} {locs : List Loc} {cells slots : Nat} {Q : State → Prop}
variable {cc : ByteArray} {pc : Nat} {ls : Array Slot} {rest : List Value} {D : va_G} {cl : List vw_C} {A : Nat → Prop} {a : Nat} {tys : List (ClassId × FieldType)} {ws : va_W} {H0 : Heap}
/-- va_put, with what it leaves of the heap's size -/
theorem zput (hexec : p.tables.exec = Jvm.exec) (hb : c.code = cc) {own ref C : String} {T : u_T} {N ci index : Nat} {Ts : List Cond} (hts : ∀ w ∈ Ts, w.before args s = true) (hin : ∀ w ∈ u_ws C T N, w ∈ Ts) (ty0 : Nat → FieldType) (hty : ∀ k, k < N → parseFieldDescriptor (T k).2.2.1 = some (ty0 k)) (hnm : ∀ a, a < N → ∀ b, b < N → a ≠ b → (T a).2.1 ≠ (T b).2.1) (hown : s.vm.findClass own = some m.cls) (hK : va_K D cl tys s) (hP : va_P D cl ws H) (hD : va_D A ws) (hS0 : va_S A H0 H locs) (q0 : Nat) {fs : List Value} (he : ws[q0]? = some (a, .inr (ci, fs))) (hc : cl[ci]? = some (C, T, N)) (k : Nat) (hk : k < N) (hlink : (Cond.fieldLink own index ref (T k).2.1 (T k).2.2.1).before args s = true) (hsame : ∀ x, s.fieldFound? (T k).1 (T k).2.1 (T k).2.2.1 = some x → s.fieldFound? ref (T k).2.1 (T k).2.2.1 = some x) (hfin : (T k).2.2.2 = false) {ty : FieldType} {v : Value} (hd : parseFieldDescriptor (T k).2.2.1 = some ty) (hn : narrow ty v = v) (hfit : fits ty v = true) (hl : k < fs.length)
    (hdg : decode cc pc = .ok (.putfield index, 3)) (kk : ∀ (H1 : Heap) (locs1 : List Loc), H1.size = H.size → va_P D cl (ws.set q0 (a, .inr (ci, fs.set k v))) H1 → va_S A H0 H1 locs1 → W p l e R s m args below meth c H1 locs1 cells slots Q (F0 m (pc + 3) ls rest)) : W p l e R s m args below meth c H locs cells slots Q (F0 m pc ls (v :: .ref a :: rest)) := by
  have hap := va_apart (own := own) hts hin ty0 hty hnm hK hc
  obtain ⟨r, h1, cell, q1, q2, q3, q4⟩ := hP q0 _ he
  have hr : r = (C, T, N) := Option.some.inj (h1.symm.trans hc)
  subst hr
  obtain ⟨hS, hfc, kC, hkC, hkind⟩ := hK.1 ci _ hc
  obtain ⟨cf, kf, fi, f, hi, hsl⟩ := hS k hk
  have hlay := hts _ (hin _ (u_in_lay hk))
  unfold u_lay at hlay
  rw [if_neg (by rw [hfin]; decide)] at hlay
  have hst := (u_facts hfc hkC (u_lays hts hin hk) hi).1
  have h6 := u_store hfc hkC hkind hlay hi hd hn hfit
  refine W.putK hexec hb (f := f) ⟨hown, hlink, ⟨_, _, _, hsame _ hi⟩, hst⟩ (by rw [q2]; exact h6) q1 q3 (by rw [hsl]; exact k2_hasslot (q4 k hk)) rfl rfl hdg fun H' e1 e2 e3 => ?_
  rw [hsl] at e1 ⊢
  exact kk H' _ e2 (hP.set hD he ⟨_, hc, t_OB.to (V := updV (vp_V fs) k v) ⟨_, e1, q2, q3, t_set q4 hap hk v⟩ (fun j _ => vp_updV_set hl v j)⟩ e3) (hS0.put e2 e3 (hD.2 q0 _ he))
theorem zputF (hexec : p.tables.exec = Jvm.exec) (hb : c.code = cc) {own ref C : String} {T : u_T} {N ci index : Nat} {Ts : List Cond} (hts : ∀ w ∈ Ts, w.before args s = true) (hin : ∀ w ∈ u_ws C T N, w ∈ Ts) (ty0 : Nat → FieldType) (hty : ∀ k, k < N → parseFieldDescriptor (T k).2.2.1 = some (ty0 k)) (hnm : ∀ a, a < N → ∀ b, b < N → a ≠ b → (T a).2.1 ≠ (T b).2.1) (hown : s.vm.findClass own = some m.cls) (hK : va_K D cl tys s) (hP : va_P D cl ws H) (hD : va_D A ws) (hS0 : va_S A H0 H locs) (q0 : Nat) {fs : List Value} (he : ws[q0]? = some (a, .inr (ci, fs))) (hc : cl[ci]? = some (C, T, N)) (k : Nat) (hk : k < N) (hlink : (Cond.fieldLink own index ref (T k).2.1 (T k).2.2.1).before args s = true) (hsame : ∀ x, s.fieldFound? (T k).1 (T k).2.1 (T k).2.2.1 = some x → s.fieldFound? ref (T k).2.1 (T k).2.2.1 = some x) (hfin : (T k).2.2.2 = true) (hin2 : meth.name = "<init>") (hdecl : (T k).1 = own) {ty : FieldType} {v : Value} (hd : parseFieldDescriptor (T k).2.2.1 = some ty) (hn : narrow ty v = v) (hfit : fits ty v = true) (hl : k < fs.length)
    (hdg : decode cc pc = .ok (.putfield index, 3)) (kk : ∀ (H1 : Heap) (locs1 : List Loc), H1.size = H.size → va_P D cl (ws.set q0 (a, .inr (ci, fs.set k v))) H1 → va_S A H0 H1 locs1 → W p l e R s m args below meth c H1 locs1 cells slots Q (F0 m (pc + 3) ls rest)) : W p l e R s m args below meth c H locs cells slots Q (F0 m pc ls (v :: .ref a :: rest)) := by
  have hap := va_apart (own := own) hts hin ty0 hty hnm hK hc
  obtain ⟨r, h1, cell, q1, q2, q3, q4⟩ := hP q0 _ he
  have hr : r = (C, T, N) := Option.some.inj (h1.symm.trans hc)
  subst hr
  obtain ⟨hS, hfc, kC, hkC, hkind⟩ := hK.1 ci _ hc
  obtain ⟨cf, kf, fi, f, hi, hsl⟩ := hS k hk
  have hlay := hts _ (hin _ (u_in_lay hk))
  unfold u_lay at hlay
  rw [if_pos hfin] at hlay
  have hst := (u_facts hfc hkC (u_lays hts hin hk) hi).1
  have hcf : m.cls = cf := by
    obtain ⟨_, _, c', _, _, _, -, -, hf', -, -, -, hown2, -⟩ := Cond.laysFinal_spec hlay
    have e1 : c' = cf := by have := hi.symm.trans hf'; simp at this; exact this.1.symm
    rw [hdecl] at hown2
    rw [← e1]; exact Option.some.inj (hown.symm.trans hown2)
  have h6 := u_fits hfc hkC hkind (Or.inr hlay) hi hd hn hfit
  refine W.putFinK hexec hb hown hlink (hsame _ hi) hst hcf hin2 (by rw [q2]; exact h6) q1 q3 (by rw [hsl]; exact k2_hasslot (q4 k hk)) rfl rfl hdg fun H' e1 e2 e3 => ?_
  rw [hsl] at e1 ⊢
  exact kk H' _ e2 (hP.set hD he ⟨_, hc, t_OB.to (V := updV (vp_V fs) k v) ⟨_, e1, q2, q3, t_set q4 hap hk v⟩ (fun j _ => vp_updV_set hl v j)⟩ e3) (hS0.put e2 e3 (hD.2 q0 _ he))
theorem ziast (hexec : p.tables.exec = Jvm.exec) (hb : c.code = cc) (hK : va_K D cl tys s) (hP : va_P D cl ws H) (hD : va_D A ws) (hS : va_S A H0 H locs) (q0 t0 : Nat) {cA : ClassId} {n : Nat} {f : Nat → Int32} (ha : ws[q0]? = some (a, .inl (cA, n, .inl f))) (ht : tys[t0]? = some (cA, .int)) {i : Int32} {x : Int32} (hin : vp_in i n) (hdg : decode cc pc = .ok (.iastore, 1))
    (kk : ∀ (H1 : Heap) (locs1 : List Loc), H1.size = H.size → va_P D cl (ws.set q0 (a, .inl (cA, n, .inl (upd f i.toNatClampNeg x)))) H1 → va_S A H0 H1 locs1 → W p l e R s m args below meth c H1 locs1 cells slots Q (F0 m (pc + 1) ls rest)) : W p l e R s m args below meth c H locs cells slots Q (F0 m pc ls (.int x :: .int i :: .ref a :: rest)) := by
  refine W.iast hexec hb (hP q0 _ ha) ((hK.2 t0 _ ht).1 n (fun j => .int (f j))) (fun q => by cases q) (by show ¬ (i < 0 ∨ (arrV _ _ _).slots.size ≤ _); rw [arrV_size]; exact hin) rfl rfl hdg fun H1 e z oq => ?_
  refine kk H1 _ z (hP.set hD ha ?_ oq) (hS.put z oq (hD.2 q0 _ ha))
  show H1[a]? = some (vp_cell _ _)
  rw [e]
  rw [vp_cell_i, vp_cell_i, arrV_store]
  congr 2
  funext q
  by_cases hq : q = i.toNatClampNeg
  · subst hq
    simp [updV, upd]
    try rfl
  · simp [updV, upd, hq]
theorem zzast (hexec : p.tables.exec = Jvm.exec) (hb : c.code = cc) (hK : va_K D cl tys s) (hP : va_P D cl ws H) (hD : va_D A ws) (hS : va_S A H0 H locs) (q0 t0 : Nat) {cA : ClassId} {n : Nat} {f : Nat → Int32} (ha : ws[q0]? = some (a, .inl (cA, n, .inl f))) (ht : tys[t0]? = some (cA, .boolean)) {i : Int32} {x : Int32} (hin : vp_in i n) (hdg : decode cc pc = .ok (.bastore, 1))
    (kk : ∀ (H1 : Heap) (locs1 : List Loc), H1.size = H.size → va_P D cl (ws.set q0 (a, .inl (cA, n, .inl (upd f i.toNatClampNeg (vp_nar .boolean x))))) H1 → va_S A H0 H1 locs1 → W p l e R s m args below meth c H1 locs1 cells slots Q (F0 m (pc + 1) ls rest)) : W p l e R s m args below meth c H locs cells slots Q (F0 m pc ls (.int x :: .int i :: .ref a :: rest)) := by
  refine W.zast hexec hb (hP q0 _ ha) ((hK.2 t0 _ ht).1 n (fun j => .int (f j))) (fun q => by cases q) (by show ¬ (i < 0 ∨ (arrV _ _ _).slots.size ≤ _); rw [arrV_size]; exact hin) rfl rfl hdg fun H1 e z oq => ?_
  refine kk H1 _ z (hP.set hD ha ?_ oq) (hS.put z oq (hD.2 q0 _ ha))
  show H1[a]? = some (vp_cell _ _)
  rw [e]
  rw [vp_cell_i, vp_cell_i, arrV_store]
  congr 2
  funext q
  by_cases hq : q = i.toNatClampNeg
  · subst hq
    simp [updV, upd, vp_nar]
    try rfl
  · simp [updV, upd, vp_nar, hq]
theorem zlast (hexec : p.tables.exec = Jvm.exec) (hb : c.code = cc) (hK : va_K D cl tys s) (hP : va_P D cl ws H) (hD : va_D A ws) (hS : va_S A H0 H locs) (q0 t0 : Nat) {cA : ClassId} {n : Nat} {f : Nat → Int64} (ha : ws[q0]? = some (a, .inl (cA, n, .inr (.inl f)))) (ht : tys[t0]? = some (cA, .long)) {i : Int32} {x : Int64} (hin : vp_in i n) (hdg : decode cc pc = .ok (.lastore, 1))
    (kk : ∀ (H1 : Heap) (locs1 : List Loc), H1.size = H.size → va_P D cl (ws.set q0 (a, .inl (cA, n, .inr (.inl (vp_updL f i.toNatClampNeg x))))) H1 → va_S A H0 H1 locs1 → W p l e R s m args below meth c H1 locs1 cells slots Q (F0 m (pc + 1) ls rest)) : W p l e R s m args below meth c H locs cells slots Q (F0 m pc ls (.long x :: .int i :: .ref a :: rest)) := by
  refine W.last hexec hb (hP q0 _ ha) ((hK.2 t0 _ ht).1 n (fun j => .long (f j))) (fun q => by cases q) (by show ¬ (i < 0 ∨ (arrV _ _ _).slots.size ≤ _); rw [arrV_size]; exact hin) rfl rfl hdg fun H1 e z oq => ?_
  refine kk H1 _ z (hP.set hD ha ?_ oq) (hS.put z oq (hD.2 q0 _ ha))
  show H1[a]? = some (vp_cell _ _)
  rw [e]
  rw [vp_cell_l, vp_cell_l, arrV_store]
  congr 2
  funext q
  by_cases hq : q = i.toNatClampNeg
  · subst hq
    simp [updV, vp_updL]
    try rfl
  · simp [updV, vp_updL, hq]
theorem zastq (hexec : p.tables.exec = Jvm.exec) (hb : c.code = cc) (hK : va_K D cl tys s) (hP : va_P D cl ws H) (hD : va_D A ws) (hS : va_S A H0 H locs) (q0 t0 qk ci : Nat) {cA : ClassId} {r : vw_C} {n v : Nat} {vs : List Value} {f : Nat → Option Nat} (ha : ws[q0]? = some (a, .inl (cA, n, .inr (.inr (.inr (.inr f)))))) (ht : tys[t0]? = some (cA, .object r.1)) (hv : ws[qk]? = some (v, .inr (ci, vs))) (hc : cl[ci]? = some r) {i : Int32} (hin : vp_in i n) (hdg : decode cc pc = .ok (.aastore, 1))
    (kk : ∀ (H1 : Heap) (locs1 : List Loc), H1.size = H.size → va_P D cl (ws.set q0 (a, .inl (cA, n, .inr (.inr (.inr (.inr (va_up f i.toNatClampNeg (some v)))))))) H1 → va_S A H0 H1 locs1 → W p l e R s m args below meth c H1 locs1 cells slots Q (F0 m (pc + 1) ls rest)) : W p l e R s m args below meth c H locs cells slots Q (F0 m pc ls (.ref v :: .int i :: .ref a :: rest)) := by
  have hlt : i.toNatClampNeg < n := Nat.not_le.mp fun q => hin (Or.inr q)
  have h0 : ¬ i < 0 := fun q => hin (Or.inl q)
  obtain ⟨r', hr', cellV, g1, g2, g3, -⟩ := hP qk _ hv
  have hcls := (hK.1 ci r hc).2
  obtain ⟨kA, comp, k1, k2, k3, -⟩ := (hK.2 t0 _ ht).2
  have hcomp : comp = D.1 ci := Option.some.inj (k3.symm.trans hcls.1)
  subst hcomp
  obtain ⟨kC, hkC, -⟩ := hcls.2
  refine W.aast hexec hb (hP q0 _ ha) (fun q h => by cases h) (fun h => by cases h) k1 k2 rfl hkC ⟨h0, by show _ < (arrV _ _ _).slots.size; rw [arrV_size]; exact hlt⟩ g1 (fun q h => by rw [g3] at h; cases h) (by rw [g2]; exact hkC) (by rw [g2]; exact va_assign hcls) rfl rfl hdg fun H1 e z oq => ?_
  refine kk H1 _ z (hP.set hD ha ?_ oq) (hS.put z oq (hD.2 q0 _ ha))
  show H1[a]? = some (vp_cell _ _)
  rw [e]
  rw [vp_cell_q, vp_cell_q, arrV_store]
  congr 2
  funext q
  by_cases hq : q = i.toNatClampNeg
  · subst hq
    simp [updV, va_up, va_rf]
  · simp [updV, va_up, hq]
end ZH
theorem q_get {M : zM} {d : Nat} {sc : zS} {mc ms : Nat} {Q : zQ} {cells slots N : Nat} {g : Nat → zE} {pc : Nat} {lv : List (Option Value)} {st : List Value} {idx kc ci : Nat} {fs : List Value} {CC : String} {T : u_T} {n : Nat} {v : Value} (j : Nat) (hd : decode (zcc M) pc = .ok (.getfield idx, 3)) (hk : g kc = .inr (ci, fs)) (h1 : 1 ≤ kc) (h2 : kc ≤ N) (hc : vwCl[ci]? = some (CC, T, n)) (hj : j < n) (hl : Cond.fieldLink (zown M) idx (T j).1 (T j).2.1 (T j).2.2.1 ∈ TB) (hv : fs[j]? = some v) (kk : Wq M d sc mc ms Q cells slots N g (pc + 3) lv (v :: st)) : Wq M d sc mc ms Q cells slots N g pc lv (.ref kc :: st) := by
  intro l p e R s m args below meth c D cA b base QM C H locs ls hR hS hL
  obtain ⟨k, rfl⟩ : ∃ k, kc = k + 1 := ⟨kc - 1, by omega⟩
  have hkN : k < N := by omega
  have hg := zW_get (cA := cA) (b := b) (base := base) (g := g) hkN
  rw [hk] at hg
  exact va_get C.1 C.2.1 C.2.2.2.2.2.2.1 (zcl ci CC T n hc).1 C.2.2.2.2.2.1 C.2.2.2.2.2.2.2.2.2.1 hR.2 k hg hc j hj (C.2.2.2.2.2.2.1 _ hl) (fun _ h => h) (v := zV b base v) (by rw [List.getElem?_map, hv]; rfl) hd (kk l p e R s m args below meth c D cA b base QM C H locs ls hR hS hL)
theorem q_puti {M : zM} {d : Nat} {sc : zS} {mc ms : Nat} {Q : zQ} {cells slots N : Nat} {g : Nat → zE} {pc : Nat} {lv : List (Option Value)} {st : List Value} {idx kc ci : Nat} {fs : List Value} {CC : String} {T : u_T} {n : Nat} {x : Int32} (j : Nat) (hd : decode (zcc M) pc = .ok (.putfield idx, 3)) (hk : g kc = .inr (ci, fs)) (h1 : 1 ≤ kc) (h2 : kc ≤ N) (hc : vwCl[ci]? = some (CC, T, n)) (hj : j < n) (hl : Cond.fieldLink (zown M) idx (T j).1 (T j).2.1 (T j).2.2.1 ∈ TB) (hfin : (T j).2.2.2 = false) (hty : parseFieldDescriptor (T j).2.2.1 = some .int) (hlen : j < fs.length) (kk : Wq M d sc mc ms Q cells slots N (va_up g kc (.inr (ci, fs.set j (.int x)))) (pc + 3) lv st) : Wq M d sc mc ms Q cells slots N g pc lv (.int x :: .ref kc :: st) := by
  intro l p e R s m args below meth c D cA b base QM C H locs ls hR hS hL
  obtain ⟨k, rfl⟩ : ∃ k, kc = k + 1 := ⟨kc - 1, by omega⟩
  have hkN : k < N := by omega
  have hg := zW_get (cA := cA) (b := b) (base := base) (g := g) hkN
  rw [hk] at hg
  obtain ⟨hz1, ⟨ty0, hz2⟩, hz3⟩ := zcl ci CC T n hc
  refine zput C.1 C.2.1 C.2.2.2.2.2.2.1 hz1 ty0 hz2 hz3 C.2.2.2.2.2.1 C.2.2.2.2.2.2.2.2.2.1 hR.2 zW_D hS k hg hc j hj (C.2.2.2.2.2.2.1 _ hl) (fun _ h => h) hfin hty (v := (.int x)) rfl rfl (by rw [List.length_map]; exact hlen) hd (fun H1 locs1 hz hP1 hS1 => ?_)
  rw [zW_set (e := .inr (ci, fs.set j (.int x))) (by show Sum.inr _ = _; rw [List.map_set]; rfl)] at hP1
  exact kk l p e R s m args below meth c D cA b base QM C H1 locs1 ls ⟨hz.trans hR.1, hP1⟩ hS1 hL
theorem q_putz {M : zM} {d : Nat} {sc : zS} {mc ms : Nat} {Q : zQ} {cells slots N : Nat} {g : Nat → zE} {pc : Nat} {lv : List (Option Value)} {st : List Value} {idx kc ci : Nat} {fs : List Value} {CC : String} {T : u_T} {n : Nat} {x : Int32} (j : Nat) (hd : decode (zcc M) pc = .ok (.putfield idx, 3)) (hk : g kc = .inr (ci, fs)) (h1 : 1 ≤ kc) (h2 : kc ≤ N) (hc : vwCl[ci]? = some (CC, T, n)) (hj : j < n) (hl : Cond.fieldLink (zown M) idx (T j).1 (T j).2.1 (T j).2.2.1 ∈ TB) (hfin : (T j).2.2.2 = false) (hty : parseFieldDescriptor (T j).2.2.1 = some .boolean) (hlen : j < fs.length) (h01 : x = 0 ∨ x = 1) (kk : Wq M d sc mc ms Q cells slots N (va_up g kc (.inr (ci, fs.set j (.int x)))) (pc + 3) lv st) : Wq M d sc mc ms Q cells slots N g pc lv (.int x :: .ref kc :: st) := by
  intro l p e R s m args below meth c D cA b base QM C H locs ls hR hS hL
  obtain ⟨k, rfl⟩ : ∃ k, kc = k + 1 := ⟨kc - 1, by omega⟩
  have hkN : k < N := by omega
  have hg := zW_get (cA := cA) (b := b) (base := base) (g := g) hkN
  rw [hk] at hg
  obtain ⟨hz1, ⟨ty0, hz2⟩, hz3⟩ := zcl ci CC T n hc
  refine zput C.1 C.2.1 C.2.2.2.2.2.2.1 hz1 ty0 hz2 hz3 C.2.2.2.2.2.1 C.2.2.2.2.2.2.2.2.2.1 hR.2 zW_D hS k hg hc j hj (C.2.2.2.2.2.2.1 _ hl) (fun _ h => h) hfin hty (v := (.int x)) (by rcases h01 with rfl | rfl <;> rfl) (by rcases h01 with rfl | rfl <;> rfl) (by rw [List.length_map]; exact hlen) hd (fun H1 locs1 hz hP1 hS1 => ?_)
  rw [zW_set (e := .inr (ci, fs.set j (.int x))) (by show Sum.inr _ = _; rw [List.map_set]; rfl)] at hP1
  exact kk l p e R s m args below meth c D cA b base QM C H1 locs1 ls ⟨hz.trans hR.1, hP1⟩ hS1 hL
theorem q_putr {M : zM} {d : Nat} {sc : zS} {mc ms : Nat} {Q : zQ} {cells slots N : Nat} {g : Nat → zE} {pc : Nat} {lv : List (Option Value)} {st : List Value} {idx kc ci kv : Nat} {fs : List Value} {CC : String} {T : u_T} {n : Nat} {ty : FieldType} (j : Nat) (hd : decode (zcc M) pc = .ok (.putfield idx, 3)) (hk : g kc = .inr (ci, fs)) (h1 : 1 ≤ kc) (h2 : kc ≤ N) (hc : vwCl[ci]? = some (CC, T, n)) (hj : j < n) (hl : Cond.fieldLink (zown M) idx (T j).1 (T j).2.1 (T j).2.2.1 ∈ TB) (hfin : (T j).2.2.2 = true) (hini : zini M = true) (hdecl : (T j).1 = zown M) (hty : parseFieldDescriptor (T j).2.2.1 = some ty) (hn : ∀ a : Nat, narrow ty (.ref a) = .ref a) (hf : ∀ a : Nat, fits ty (.ref a) = true) (hlen : j < fs.length) (kk : Wq M d sc mc ms Q cells slots N (va_up g kc (.inr (ci, fs.set j (.ref kv)))) (pc + 3) lv st) : Wq M d sc mc ms Q cells slots N g pc lv (.ref kv :: .ref kc :: st) := by
  intro l p e R s m args below meth c D cA b base QM C H locs ls hR hS hL
  obtain ⟨k, rfl⟩ : ∃ k, kc = k + 1 := ⟨kc - 1, by omega⟩
  have hkN : k < N := by omega
  have hg := zW_get (cA := cA) (b := b) (base := base) (g := g) hkN
  rw [hk] at hg
  obtain ⟨hz1, ⟨ty0, hz2⟩, hz3⟩ := zcl ci CC T n hc
  refine zputF C.1 C.2.1 C.2.2.2.2.2.2.1 hz1 ty0 hz2 hz3 C.2.2.2.2.2.1 C.2.2.2.2.2.2.2.2.2.1 hR.2 zW_D hS k hg hc j hj (C.2.2.2.2.2.2.1 _ hl) (fun _ h => h) hfin (C.2.2.2.2.2.2.2.1 hini) hdecl hty (v := .ref (zA b base kv)) (hn _) (hf _) (by rw [List.length_map]; exact hlen) hd (fun H1 locs1 hz hP1 hS1 => ?_)
  rw [zW_set (e := .inr (ci, fs.set j (.ref kv))) (by show Sum.inr _ = _; rw [List.map_set]; rfl)] at hP1
  exact kk l p e R s m args below meth c D cA b base QM C H1 locs1 ls ⟨hz.trans hR.1, hP1⟩ hS1 hL
theorem q_iald {M : zM} {d : Nat} {sc : zS} {mc ms : Nat} {Q : zQ} {cells slots N : Nat} {g : Nat → zE} {pc : Nat} {lv : List (Option Value)} {st : List Value} {kc n : Nat} {f : Nat → Int32} {i : Int32} (hd : decode (zcc M) pc = .ok (.iaload, 1)) (hk : g kc = .inl (0, n, .inl f)) (h1 : 1 ≤ kc) (h2 : kc ≤ N) (hin : vp_in i n) (kk : Wq M d sc mc ms Q cells slots N g (pc + 1) lv (.int (f i.toNatClampNeg) :: st)) : Wq M d sc mc ms Q cells slots N g pc lv (.int i :: .ref kc :: st) := by
  intro l p e R s m args below meth c D cA b base QM C H locs ls hR hS hL
  obtain ⟨k, rfl⟩ : ∃ k, kc = k + 1 := ⟨kc - 1, by omega⟩
  have hkN : k < N := by omega
  have hg := zW_get (cA := cA) (b := b) (base := base) (g := g) hkN
  rw [hk] at hg
  exact va_iald C.1 C.2.1 C.2.2.2.2.2.2.2.2.2.1 hR.2 k 0 hg rfl hin hd (kk l p e R s m args below meth c D cA b base QM C H locs ls hR hS hL)
theorem q_zald {M : zM} {d : Nat} {sc : zS} {mc ms : Nat} {Q : zQ} {cells slots N : Nat} {g : Nat → zE} {pc : Nat} {lv : List (Option Value)} {st : List Value} {kc n : Nat} {f : Nat → Int32} {i : Int32} (hd : decode (zcc M) pc = .ok (.baload, 1)) (hk : g kc = .inl (2, n, .inl f)) (h1 : 1 ≤ kc) (h2 : kc ≤ N) (hin : vp_in i n) (kk : Wq M d sc mc ms Q cells slots N g (pc + 1) lv (.int (f i.toNatClampNeg) :: st)) : Wq M d sc mc ms Q cells slots N g pc lv (.int i :: .ref kc :: st) := by
  intro l p e R s m args below meth c D cA b base QM C H locs ls hR hS hL
  obtain ⟨k, rfl⟩ : ∃ k, kc = k + 1 := ⟨kc - 1, by omega⟩
  have hkN : k < N := by omega
  have hg := zW_get (cA := cA) (b := b) (base := base) (g := g) hkN
  rw [hk] at hg
  exact va_zald C.1 C.2.1 C.2.2.2.2.2.2.2.2.2.1 hR.2 k 2 hg rfl hin hd (kk l p e R s m args below meth c D cA b base QM C H locs ls hR hS hL)
theorem q_lald {M : zM} {d : Nat} {sc : zS} {mc ms : Nat} {Q : zQ} {cells slots N : Nat} {g : Nat → zE} {pc : Nat} {lv : List (Option Value)} {st : List Value} {kc n : Nat} {f : Nat → Int64} {i : Int32} (hd : decode (zcc M) pc = .ok (.laload, 1)) (hk : g kc = .inl (1, n, .inr (.inl f))) (h1 : 1 ≤ kc) (h2 : kc ≤ N) (hin : vp_in i n) (kk : Wq M d sc mc ms Q cells slots N g (pc + 1) lv (.long (f i.toNatClampNeg) :: st)) : Wq M d sc mc ms Q cells slots N g pc lv (.int i :: .ref kc :: st) := by
  intro l p e R s m args below meth c D cA b base QM C H locs ls hR hS hL
  obtain ⟨k, rfl⟩ : ∃ k, kc = k + 1 := ⟨kc - 1, by omega⟩
  have hkN : k < N := by omega
  have hg := zW_get (cA := cA) (b := b) (base := base) (g := g) hkN
  rw [hk] at hg
  exact va_lald C.1 C.2.1 C.2.2.2.2.2.2.2.2.2.1 hR.2 k 1 hg rfl hin hd (kk l p e R s m args below meth c D cA b base QM C H locs ls hR hS hL)
theorem q_aald {M : zM} {d : Nat} {sc : zS} {mc ms : Nat} {Q : zQ} {cells slots N : Nat} {g : Nat → zE} {pc : Nat} {lv : List (Option Value)} {st : List Value} {kc n t : Nat} {C0 : String} {f : Nat → Option Nat} {i : Int32} {kv : Nat} (hd : decode (zcc M) pc = .ok (.aaload, 1)) (hk : g kc = .inl (t, n, .inr (.inr (.inr (.inr f))))) (h1 : 1 ≤ kc) (h2 : kc ≤ N) (ht : ∀ cA : Nat → ClassId, (zTys cA)[t]? = some (cA t, .object C0)) (hin : vp_in i n) (hf : f i.toNatClampNeg = some kv) (kk : Wq M d sc mc ms Q cells slots N g (pc + 1) lv (.ref kv :: st)) : Wq M d sc mc ms Q cells slots N g pc lv (.int i :: .ref kc :: st) := by
  intro l p e R s m args below meth c D cA b base QM C H locs ls hR hS hL
  obtain ⟨k, rfl⟩ : ∃ k, kc = k + 1 := ⟨kc - 1, by omega⟩
  have hkN : k < N := by omega
  have hg := zW_get (cA := cA) (b := b) (base := base) (g := g) hkN
  rw [hk] at hg
  refine va_aldq C.1 C.2.1 C.2.2.2.2.2.2.2.2.2.1 hR.2 k t hg (ht cA) hin hd ?_
  show W _ _ _ _ _ _ _ _ _ _ _ _ _ _ _ (F0 m (pc + 1) ls (va_rf ((f i.toNatClampNeg).map (zA b base)) :: _))
  rw [hf]
  exact kk l p e R s m args below meth c D cA b base QM C H locs ls hR hS hL
theorem q_alen {M : zM} {d : Nat} {sc : zS} {mc ms : Nat} {Q : zQ} {cells slots N : Nat} {g : Nat → zE} {pc : Nat} {lv : List (Option Value)} {st : List Value} {kc t : Nat} {x : vp_A} {ty : FieldType} {v : Int32} (hd : decode (zcc M) pc = .ok (.arraylength, 1)) (hk : g kc = .inl (t, x)) (h1 : 1 ≤ kc) (h2 : kc ≤ N) (ht : ∀ cA : Nat → ClassId, (zTys cA)[t]? = some (cA t, ty)) (hv : Int32.ofNat x.1 = v) (kk : Wq M d sc mc ms Q cells slots N g (pc + 1) lv (.int v :: st)) : Wq M d sc mc ms Q cells slots N g pc lv (.ref kc :: st) := by
  intro l p e R s m args below meth c D cA b base QM C H locs ls hR hS hL
  obtain ⟨k, rfl⟩ : ∃ k, kc = k + 1 := ⟨kc - 1, by omega⟩
  have hkN : k < N := by omega
  have hg := zW_get (cA := cA) (b := b) (base := base) (g := g) hkN
  rw [hk] at hg
  refine va_alen C.1 C.2.1 C.2.2.2.2.2.2.2.2.2.1 hR.2 k t hg (ht cA) (v := v) ?_ hd (kk l p e R s m args below meth c D cA b base QM C H locs ls hR hS hL)
  rw [← hv]
  obtain ⟨n, a⟩ := x
  match a with
  | .inl _ => rfl
  | .inr (.inl _) => rfl
  | .inr (.inr (.inl _)) => rfl
  | .inr (.inr (.inr (.inl _))) => rfl
  | .inr (.inr (.inr (.inr _))) => rfl
theorem q_iast {M : zM} {d : Nat} {sc : zS} {mc ms : Nat} {Q : zQ} {cells slots N : Nat} {g : Nat → zE} {pc : Nat} {lv : List (Option Value)} {st : List Value} {kc n : Nat} {f : Nat → Int32} {i : Int32} {x : Int32} (hd : decode (zcc M) pc = .ok (.iastore, 1)) (hk : g kc = .inl (0, n, .inl f)) (h1 : 1 ≤ kc) (h2 : kc ≤ N) (hin : vp_in i n) (kk : Wq M d sc mc ms Q cells slots N (va_up g kc (.inl (0, n, .inl (upd f i.toNatClampNeg x)))) (pc + 1) lv st) : Wq M d sc mc ms Q cells slots N g pc lv (.int x :: .int i :: .ref kc :: st) := by
  intro l p e R s m args below meth c D cA b base QM C H locs ls hR hS hL
  obtain ⟨k, rfl⟩ : ∃ k, kc = k + 1 := ⟨kc - 1, by omega⟩
  have hkN : k < N := by omega
  have hg := zW_get (cA := cA) (b := b) (base := base) (g := g) hkN
  rw [hk] at hg
  refine ziast C.1 C.2.1 C.2.2.2.2.2.2.2.2.2.1 hR.2 zW_D hS k 0 hg rfl hin hd (fun H1 locs1 hz hP1 hS1 => ?_)
  rw [zW_set (e := .inl (0, n, .inl (upd f i.toNatClampNeg x))) (e' := .inl (cA 0, n, .inl (upd f i.toNatClampNeg x))) rfl] at hP1
  exact kk l p e R s m args below meth c D cA b base QM C H1 locs1 ls ⟨hz.trans hR.1, hP1⟩ hS1 hL
theorem q_last {M : zM} {d : Nat} {sc : zS} {mc ms : Nat} {Q : zQ} {cells slots N : Nat} {g : Nat → zE} {pc : Nat} {lv : List (Option Value)} {st : List Value} {kc n : Nat} {f : Nat → Int64} {i : Int32} {x : Int64} (hd : decode (zcc M) pc = .ok (.lastore, 1)) (hk : g kc = .inl (1, n, .inr (.inl f))) (h1 : 1 ≤ kc) (h2 : kc ≤ N) (hin : vp_in i n) (kk : Wq M d sc mc ms Q cells slots N (va_up g kc (.inl (1, n, .inr (.inl (vp_updL f i.toNatClampNeg x))))) (pc + 1) lv st) : Wq M d sc mc ms Q cells slots N g pc lv (.long x :: .int i :: .ref kc :: st) := by
  intro l p e R s m args below meth c D cA b base QM C H locs ls hR hS hL
  obtain ⟨k, rfl⟩ : ∃ k, kc = k + 1 := ⟨kc - 1, by omega⟩
  have hkN : k < N := by omega
  have hg := zW_get (cA := cA) (b := b) (base := base) (g := g) hkN
  rw [hk] at hg
  refine zlast C.1 C.2.1 C.2.2.2.2.2.2.2.2.2.1 hR.2 zW_D hS k 1 hg rfl hin hd (fun H1 locs1 hz hP1 hS1 => ?_)
  rw [zW_set (e := .inl (1, n, .inr (.inl (vp_updL f i.toNatClampNeg x)))) (e' := .inl (cA 1, n, .inr (.inl (vp_updL f i.toNatClampNeg x)))) rfl] at hP1
  exact kk l p e R s m args below meth c D cA b base QM C H1 locs1 ls ⟨hz.trans hR.1, hP1⟩ hS1 hL
theorem q_zast {M : zM} {d : Nat} {sc : zS} {mc ms : Nat} {Q : zQ} {cells slots N : Nat} {g : Nat → zE} {pc : Nat} {lv : List (Option Value)} {st : List Value} {kc n : Nat} {f : Nat → Int32} {i : Int32} {x : Int32} (hd : decode (zcc M) pc = .ok (.bastore, 1)) (hk : g kc = .inl (2, n, .inl f)) (h1 : 1 ≤ kc) (h2 : kc ≤ N) (hin : vp_in i n) (h01 : x = 0 ∨ x = 1) (kk : Wq M d sc mc ms Q cells slots N (va_up g kc (.inl (2, n, .inl (upd f i.toNatClampNeg x)))) (pc + 1) lv st) : Wq M d sc mc ms Q cells slots N g pc lv (.int x :: .int i :: .ref kc :: st) := by
  intro l p e R s m args below meth c D cA b base QM C H locs ls hR hS hL
  obtain ⟨k, rfl⟩ : ∃ k, kc = k + 1 := ⟨kc - 1, by omega⟩
  have hkN : k < N := by omega
  have hg := zW_get (cA := cA) (b := b) (base := base) (g := g) hkN
  rw [hk] at hg
  have hnx : vp_nar .boolean x = x := by rcases h01 with rfl | rfl <;> rfl
  refine zzast C.1 C.2.1 C.2.2.2.2.2.2.2.2.2.1 hR.2 zW_D hS k 2 hg rfl hin hd (fun H1 locs1 hz hP1 hS1 => ?_)
  rw [hnx] at hP1
  rw [zW_set (e := .inl (2, n, .inl (upd f i.toNatClampNeg x))) (e' := .inl (cA 2, n, .inl (upd f i.toNatClampNeg x))) rfl] at hP1
  exact kk l p e R s m args below meth c D cA b base QM C H1 locs1 ls ⟨hz.trans hR.1, hP1⟩ hS1 hL
theorem q_aast {M : zM} {d : Nat} {sc : zS} {mc ms : Nat} {Q : zQ} {cells slots N : Nat} {g : Nat → zE} {pc : Nat} {lv : List (Option Value)} {st : List Value} {kc kv n t ci : Nat} {r : vw_C} {vs : List Value} {f : Nat → Option Nat} {i : Int32} (hd : decode (zcc M) pc = .ok (.aastore, 1)) (hk : g kc = .inl (t, n, .inr (.inr (.inr (.inr f))))) (h1 : 1 ≤ kc) (h2 : kc ≤ N) (ht : ∀ cA : Nat → ClassId, (zTys cA)[t]? = some (cA t, .object r.1)) (hkv : g kv = .inr (ci, vs)) (h3 : 1 ≤ kv) (h4 : kv ≤ N) (hc : vwCl[ci]? = some r) (hin : vp_in i n) (kk : Wq M d sc mc ms Q cells slots N (va_up g kc (.inl (t, n, .inr (.inr (.inr (.inr (va_up f i.toNatClampNeg (some kv)))))))) (pc + 1) lv st) : Wq M d sc mc ms Q cells slots N g pc lv (.ref kv :: .int i :: .ref kc :: st) := by
  intro l p e R s m args below meth c D cA b base QM C H locs ls hR hS hL
  obtain ⟨k, rfl⟩ : ∃ k, kc = k + 1 := ⟨kc - 1, by omega⟩
  have hkN : k < N := by omega
  have hg := zW_get (cA := cA) (b := b) (base := base) (g := g) hkN
  rw [hk] at hg
  obtain ⟨k2, rfl⟩ : ∃ k2, kv = k2 + 1 := ⟨kv - 1, by omega⟩
  have hg2 := zW_get (cA := cA) (b := b) (base := base) (g := g) (show k2 < N by omega)
  rw [hkv] at hg2
  refine zastq C.1 C.2.1 C.2.2.2.2.2.2.2.2.2.1 hR.2 zW_D hS k t k2 ci hg (ht cA) hg2 hc hin hd (fun H1 locs1 hz hP1 hS1 => ?_)
  rw [zW_set (e := .inl (t, n, .inr (.inr (.inr (.inr (va_up f i.toNatClampNeg (some (k2 + 1)))))))) ?_] at hP1
  · exact kk l p e R s m args below meth c D cA b base QM C H1 locs1 ls ⟨hz.trans hR.1, hP1⟩ hS1 hL
  · show (Sum.inl (cA t, n, Sum.inr (Sum.inr (Sum.inr (Sum.inr (fun j => ((va_up f i.toNatClampNeg (some (k2 + 1))) j).map (zA b base)))))) : va_E) = _
    refine congrArg (fun h => (Sum.inl (cA t, n, Sum.inr (Sum.inr (Sum.inr (Sum.inr h)))) : va_E)) ?_
    funext j
    by_cases hj : j = i.toNatClampNeg
    · subst hj; simp [va_up, zA]
    · simp [va_up, hj]
theorem q_sld {M : zM} {d : Nat} {sc : zS} {mc ms : Nat} {Q : zQ} {cells slots N : Nat} {g : Nat → zE} {pc : Nat} {lv : List (Option Value)} {st : List Value} {L : Nat} {xs : Nat → Int32} {i : Int32} (hsc : sc = some (L, xs)) (hd : decode (zcc M) pc = .ok (.iaload, 1)) (hin : vp_in i L) (kk : Wq M d sc mc ms Q cells slots N g (pc + 1) lv (.int (xs i.toNatClampNeg) :: st)) : Wq M d sc mc ms Q cells slots N g pc lv (.int i :: .ref 0 :: st) := by
  intro l p e R s m args below meth c D cA b base QM C H locs ls hR hS hL
  obtain ⟨hX, hb1, hb2⟩ := C.2.2.2.2.2.2.2.2.2.2.2.2.1 L xs hsc
  exact va_sld C.1 C.2.1 hX hb2 (Nat.not_le.mpr hb1) hS hin hd (kk l p e R s m args below meth c D cA b base QM C H locs ls hR hS hL)
theorem q_slen {M : zM} {d : Nat} {sc : zS} {mc ms : Nat} {Q : zQ} {cells slots N : Nat} {g : Nat → zE} {pc : Nat} {lv : List (Option Value)} {st : List Value} {L : Nat} {xs : Nat → Int32} (hsc : sc = some (L, xs)) (hd : decode (zcc M) pc = .ok (.arraylength, 1)) (kk : Wq M d sc mc ms Q cells slots N g (pc + 1) lv (.int (Int32.ofNat L) :: st)) : Wq M d sc mc ms Q cells slots N g pc lv (.ref 0 :: st) := by
  intro l p e R s m args below meth c D cA b base QM C H locs ls hR hS hL
  obtain ⟨hX, hb1, hb2⟩ := C.2.2.2.2.2.2.2.2.2.2.2.2.1 L xs hsc
  exact va_slen C.1 C.2.1 hX hb2 (Nat.not_le.mpr hb1) hS hd (kk l p e R s m args below meth c D cA b base QM C H locs ls hR hS hL)
theorem zR_push {D : va_G} {cA : Nat → ClassId} {b base N : Nat} {g : Nat → zE} {H H1 : Heap} {x : zE} (hR : zR D cA b base N g H) (hz : H1.size = H.size + 1) (ho : ∀ q, q < H.size → H1[q]? = H[q]?) (hx : va_at D vwCl (base + N, zX cA b base x) H1) : zR D cA b base (N + 1) (va_up g (N + 1) x) H1 := by
  refine ⟨by rw [hz, hR.1]; omega, ?_⟩
  rw [zW_push]
  refine va_P.app (hR.2.kept (fun k q hq => ho q.1 ((hR.2 k q hq).lt))) (fun k q hq => ?_)
  have hz : k < 1 := (List.getElem?_eq_some_iff.mp hq).1
  rw [show k = 0 by omega] at hq
  cases hq
  exact hx
theorem zS_push {A : Nat → Prop} {H0 H H1 : Heap} {locs : List Loc} (hS : va_S A H0 H locs) (hz : H1.size = H.size + 1) (ho : ∀ q, q < H.size → H1[q]? = H[q]?) : va_S A H0 H1 locs :=
  ⟨Nat.le_trans hS.1 (by omega), fun x h1 h2 => (ho x (Nat.lt_of_lt_of_le h1 hS.1)).trans (hS.2.1 x h1 h2), hS.2.2⟩
theorem q_new {M : zM} {d : Nat} {sc : zS} {mc ms : Nat} {Q : zQ} {cells slots N : Nat} {g : Nat → zE} {pc : Nat} {lv : List (Option Value)} {st : List Value} {idx ci : Nat} {CC : String} {T : u_T} {n : Nat} {fs : List Value} (hd : decode (zcc M) pc = .ok (.new idx, 3)) (hc : vwCl[ci]? = some (CC, T, n)) (hl : Cond.classLink (zown M) idx CC ∈ TB) (hi : Cond.instantiable CC n ∈ TB) (hini : Cond.initialized CC ∈ TB) (ty : Nat → FieldType) (hty : ∀ k, k < n → parseFieldDescriptor (T k).2.2.1 = some (ty k)) (hfs : ∀ j, j < n → defaultValue (ty j) = vp_V fs j) (hfz : ∀ b base : Nat, fs.map (zV b base) = fs) (hcl : cells + 1 ≤ mc) (hsl : slots + n ≤ ms) (kk : Wq M d sc mc ms Q (cells + 1) (slots + n) (N + 1) (va_up g (N + 1) (.inr (ci, fs))) (pc + 3) lv (.ref (N + 1) :: st)) : Wq M d sc mc ms Q cells slots N g pc lv st := by
  intro l p e R s m args below meth c D cA b base QM C H locs ls hR hS hL
  have hKn := (C.2.2.2.2.2.2.2.2.2.1).1 ci _ hc
  refine W.newcK C.1 C.2.1 C.2.2.2.2.2.1 (C.2.2.2.2.2.2.1 _ hl) (C.2.2.2.2.2.2.1 _ hi) (C.2.2.2.2.2.2.1 _ hini) rfl hd (Nat.le_trans hcl (C.2.2.2.2.2.2.2.2.1).2.2.1) (Nat.le_trans hsl (C.2.2.2.2.2.2.2.2.1).2.2.2) hKn.2.1 rfl fun H1 kC hkC e1 z1 o1 => ?_
  have hR1 : zR D cA b base (N + 1) (va_up g (N + 1) (.inr (ci, fs))) H1 := by
    refine zR_push hR z1 o1 ⟨_, hc, ?_⟩
    have hb := (u_born ty C.2.2.2.2.2.2.1 (zcl ci CC T n hc).1 hKn hkC e1 hty).to hfs
    show t_OB (base + N) _ _ _ _ (vp_V (fs.map (zV b base)))
    rw [hfz, ← hR.1]
    exact hb
  have hk := kk l p e R s m args below meth c D cA b base QM C H1 locs ls hR1 (zS_push hS z1 o1) hL
  rw [show H.size = base + N from hR.1]
  exact hk
theorem q_newa {M : zM} {d : Nat} {sc : zS} {mc ms : Nat} {Q : zQ} {cells slots N : Nat} {g : Nat → zE} {pc : Nat} {lv : List (Option Value)} {st : List Value} {atype : ArrayType} {ty : FieldType} {t n : Nat} {i : Int32} {a0 : vp_A} (hd : decode (zcc M) pc = .ok (.newarray atype, 2)) (hw : Cond.arrayClass (newarray.typeOf atype) ∈ TB) (hty : newarray.typeOf atype = ty) (ht : ∀ cA : Nat → ClassId, (zTys cA)[t]? = some (cA t, ty)) (hra : ∀ (U : State) (cA : ClassId), va_RA U cA ty = (U.vm.findClass ("[" ++ ty.toString) = some cA)) (ha : ∀ cA : ClassId, vp_cell cA a0 = arrV cA n (fun _ => defaultValue ty)) (hza : ∀ b base : Nat, zF b base a0 = a0) (hi : ¬ i < 0) (hn : i.toNatClampNeg = n) (hby : n * componentBytes ty ≤ 536870912) (hcl : cells + 1 ≤ mc) (hsl : slots + n ≤ ms) (kk : Wq M d sc mc ms Q (cells + 1) (slots + n) (N + 1) (va_up g (N + 1) (.inl (t, a0))) (pc + 2) lv (.ref (N + 1) :: st)) : Wq M d sc mc ms Q cells slots N g pc lv (.int i :: st) := by
  intro l p e R s m args below meth c D cA b base QM C H locs ls hR hS hL
  subst hty
  refine va_newaK C.1 C.2.1 (C.2.2.2.2.2.2.1 _ hw) rfl hd rfl hi hn hby (Nat.le_trans hcl (C.2.2.2.2.2.2.2.2.1).2.2.1) (Nat.le_trans hsl (C.2.2.2.2.2.2.2.2.1).2.2.2) rfl fun H1 cB e1 z1 o1 hAr hNm => ?_
  have hcc : cB = cA t := by
    have h := ((C.2.2.2.2.2.2.2.2.2.1).2 t _ (ht cA)).2
    rw [hra] at h
    exact Option.some.inj (hNm.symm.trans h)
  subst hcc
  have hR1 : zR D cA b base (N + 1) (va_up g (N + 1) (.inl (t, a0))) H1 := by
    refine zR_push hR z1 o1 ?_
    show H1[base + N]? = some (vp_cell (cA t) (zF b base a0))
    rw [hza, ha, ← hR.1]
    exact e1
  have hk := kk l p e R s m args below meth c D cA b base QM C H1 locs ls hR1 (zS_push hS z1 o1) hL
  rw [show H.size = base + N from hR.1]
  exact hk
theorem q_anew {M : zM} {d : Nat} {sc : zS} {mc ms : Nat} {Q : zQ} {cells slots N : Nat} {g : Nat → zE} {pc : Nat} {lv : List (Option Value)} {st : List Value} {idx t n : Nat} {i : Int32} {C0 : String} (hd : decode (zcc M) pc = .ok (.anewarray idx, 3)) (hl : Cond.classLink (zown M) idx C0 ∈ TB) (hao : ∀ U : State, zNest U → va_AO C0 U) (ht : ∀ cA : Nat → ClassId, (zTys cA)[t]? = some (cA t, .object C0)) (hi : ¬ i < 0) (hn : i.toNatClampNeg = n) (hby : n * 4 ≤ 536870912) (hcl : cells + 1 ≤ mc) (hsl : slots + n ≤ ms) (kk : Wq M d sc mc ms Q (cells + 1) (slots + n) (N + 1) (va_up g (N + 1) (.inl (t, n, .inr (.inr (.inr (.inr (fun _ => none))))))) (pc + 3) lv (.ref (N + 1) :: st)) : Wq M d sc mc ms Q cells slots N g pc lv (.int i :: st) := by
  intro l p e R s m args below meth c D cA b base QM C H locs ls hR hS hL
  subst hn
  refine W.anew C.1 C.2.1 C.2.2.2.2.2.1 (C.2.2.2.2.2.2.1 _ hl) (va_AO.use (hao s C.2.2.2.2.2.2.2.2.2.2.1)) rfl hd rfl hi hby (Nat.le_trans hcl (C.2.2.2.2.2.2.2.2.1).2.2.1) (Nat.le_trans hsl (C.2.2.2.2.2.2.2.2.1).2.2.2) fun cB kA comp f1 f2 f3 f4 => ?_
  have hcc : cB = cA t := by
    obtain ⟨_, _, _, _, _, h⟩ := ((C.2.2.2.2.2.2.2.2.2.1).2 t _ (ht cA)).2
    exact Option.some.inj (f1.symm.trans h)
  subst hcc
  generalize hH1 : H.push ({ cls := cA t, slots := Array.replicate i.toNatClampNeg .null, vm := .none } : Cell) = H1
  have z1 : H1.size = H.size + 1 := by rw [← hH1, Array.size_push]
  have e1 : H1[H.size]? = some (arrV (cA t) i.toNatClampNeg (fun _ => .null)) := by rw [← hH1, Array.getElem?_push_size, ← arrV_new]
  have o1 : ∀ q : Nat, q < H.size → H1[q]? = H[q]? := fun q hq => by rw [← hH1, Array.getElem?_push, if_neg (Nat.ne_of_lt hq)]
  have hR1 : zR D cA b base (N + 1) (va_up g (N + 1) (.inl (t, i.toNatClampNeg, .inr (.inr (.inr (.inr (fun _ => none))))))) H1 := by
    refine zR_push hR z1 o1 ?_
    show H1[base + N]? = some (vp_cell (cA t) _)
    rw [← hR.1]
    exact e1
  have hk := kk l p e R s m args below meth c D cA b base QM C H1 locs ls hR1 (zS_push hS z1 o1) hL
  rw [show H.size = base + N from hR.1]
  exact hk
theorem q_objInit {M : zM} {d : Nat} {sc : zS} {mc ms : Nat} {Q : zQ} {cells slots N : Nat} {g : Nat → zE} {pc : Nat} {lv : List (Option Value)} {st : List Value} {idx kc : Nat} (hd : decode (zcc M) pc = .ok (.invokespecial idx, 3)) (hl : Cond.methodLink (zown M) idx objectInit ∈ TB) (hd1 : 1 ≤ d) (hst : (st.map fun v => v.category).sum ≤ 8) (kk : Wq M d sc mc ms Q cells slots N g (pc + 3) lv st) : Wq M d sc mc ms Q cells slots N g pc lv (.ref kc :: st) := by
  intro l p e R s m args below meth c D cA b base QM C H locs ls hR hS hL
  have hsum : ((st.map (zV b base)).map fun v => v.category).sum = (st.map fun v => v.category).sum := by
    rw [List.map_map]
    congr 1
    exact List.map_congr_left (fun v _ => zV_cat b base v)
  refine W.objInit C.1 C.2.1 C.2.2.2.2.2.1 (C.2.2.2.2.2.2.1 _ hl) (C.2.2.2.2.2.2.1 _ im_objectInit) (C.2.2.2.2.2.2.1 _ co_objectInit) rfl (hL.1.trans C.2.2.1.symm) rfl hd (Nat.le_trans hd1 (C.2.2.2.2.2.2.2.2.1).1) ?_ (kk l p e R s m args below meth c D cA b base QM C H locs ls hR hS hL)
  have h36 := (C.2.2.2.2.2.2.2.2.1).2.1
  rw [hsum]
  show 2 * 0 + _ + 12 ≤ R.locals
  omega
/-! calls: what a call site is, by the tables -/
def zLk (own : String) (idx : Nat) (y : MethodName) (M : zM) (n : Nat) : Prop := Cond.methodLink own idx y ∈ TB ∧ Cond.initialized y.cls ∈ TB ∧ Cond.code y (zcc M) (znl M) (zret M) ∈ TB ∧ (y.cls ≠ "java/lang/invoke/MethodHandle" ∧ y.cls ≠ "java/lang/invoke/VarHandle" ∧ (parseMethodDescriptor y.desc).map (fun d => d.parameters.length) = some n) ∧ znl M ≤ 17
def zLV (own : String) (idx : Nat) (y : MethodName) (M : zM) (n : Nat) : Prop := zLk own idx y M n ∧ Cond.instanceMethod y ∈ TB ∧ Cond.selects y.cls y y ∈ TB
def zLS (own : String) (idx : Nat) (y : MethodName) (M : zM) (n : Nat) : Prop := zLk own idx y M n ∧ Cond.static y ∈ TB
def zLI (own : String) (idx : Nat) (y : MethodName) (M : zM) (n : Nat) : Prop := zLk own idx y M n ∧ Cond.instanceMethod y ∈ TB ∧ y.name = "<init>" ∧ zret M = none
def zLN (own : String) (idx : Nat) (y : MethodName) (M : zM) (n : Nat) : Prop := ((own, idx, y, "TextSolver") ∈ zNL ∧ Cond.initialized y.cls ∈ TB ∧ Cond.code y (zcc M) (znl M) (zret M) ∈ TB ∧ (y.cls ≠ "java/lang/invoke/MethodHandle" ∧ y.cls ≠ "java/lang/invoke/VarHandle" ∧ (parseMethodDescriptor y.desc).map (fun d => d.parameters.length) = some n) ∧ znl M ≤ 17) ∧ Cond.instanceMethod y ∈ TB ∧ y.name = "<init>" ∧ zret M = none
section ZCALL
variable {p : Program} {l : Launch} {e : Env} {R : Room} {s : State} {m : MethodId} {args : Array Value} {below : List Frame} {meth : Method} {c : Code} {H : Heap} {locs : List Loc} {cells slots : Nat} {Q : State → Prop}
variable {pc : Nat} {ls : Array Slot} {rest st0 : List Value} {a : Array Value} {H0 : Heap} {mc ms : Nat} {D : va_G} {cA : Nat → ClassId} {b base : Nat} {Q1 : zQ}
theorem zgo (hr : va_Run p l e R s m args below meth c H locs cells slots mc ms (F0 m pc ls st0) rest (zQc D cA b base Q1 a) (fun q : Nat => base ≤ q)) (hS : va_S (fun q : Nat => base ≤ q) H0 H locs)
    (kk : ∀ (v : Option Value) (N : Nat) (g : Nat → zE) (H1 : Heap) (locs1 : List Loc), Q1 v N g → zR D cA b base N g H1 → va_S (fun q : Nat => base ≤ q) H0 H1 locs1 → W p l e R s m args below meth c H1 locs1 (cells + mc) (slots + ms) Q (F0 m (pc + 3) ls ((v.map (zV b base)).toList ++ rest))) : W p l e R s m args below meth c H locs cells slots Q (F0 m pc ls st0) := by
  intro T hT X
  obtain ⟨v, st₀, t, T', L, h0, X', hL, e1, e2, ⟨⟨v1, N1, g1, hv, hq, hR1⟩, hz, hk⟩, st⟩ := hr T hT X
  cases hv
  rw [h0] at hz hk
  obtain ⟨t2, a1, b1⟩ := kk v1 N1 g1 T'.heap (locs ++ L) hq (by rw [e1]; exact hR1)
    ⟨Nat.le_trans hS.1 (by rw [e1]; exact hz), fun q h1 h2 => by rw [e1, hk q (Nat.lt_of_lt_of_le h1 hS.1) h2]; exact hS.2.1 q h1 h2, fun q hq => by
      rcases List.mem_append.mp hq with h | h
      · exact hS.2.2 q h
      · exact hL q h⟩ T' rfl X'
  exact ⟨t2, st t2 a1, b1⟩
end ZCALL
theorem zmapopt {b base : Nat} (v : Option Value) (st : List Value) : (v.map (zV b base)).toList ++ st.map (zV b base) = (v.toList ++ st).map (zV b base) := by cases v <;> simp
theorem zsum {b base : Nat} (st : List Value) : ((st.map (zV b base)).map fun v => v.category).sum = (st.map fun v => v.category).sum := by
  rw [List.map_map]
  congr 1
  exact List.map_congr_left (fun v _ => zV_cat b base v)
theorem q_callV {M : zM} {d : Nat} {sc : zS} {mc ms : Nat} {Q : zQ} {cells slots N : Nat} {g : Nat → zE} {pc : Nat} {lv : List (Option Value)} {st : List Value} {st0 : List Value} {idx d1 mc1 ms1 n1 : Nat} {y : MethodName} {M1 : zM} {Q1 : zQ} {As : List Value} {kc : Nat} {ci : Nat} {fs : List Value} {CC : String} {T : u_T} {n : Nat} (hM : zC y M1 d1 mc1 ms1 (.ref kc :: As) N g Q1) (hl : zLV (zown M) idx y M1 n1) (hd : decode (zcc M) pc = .ok (.invokevirtual idx, 3)) (hk : g kc = .inr (ci, fs)) (h1 : 1 ≤ kc) (h2 : kc ≤ N) (hc : vwCl[ci]? = some (CC, T, n)) (hcy : CC = y.cls) (hn : As.length = n1) (hdd : d1 + 1 ≤ d) (hst : (st.map fun v => v.category).sum ≤ 8) (hcl : cells + mc1 ≤ mc) (hsl : slots + ms1 ≤ ms) (hs0 : st0 = As.reverse ++ .ref kc :: st) (kk : ∀ (v : Option Value) (N2 : Nat) (g2 : Nat → zE), Q1 v N2 g2 → Wq M d sc mc ms Q (cells + mc1) (slots + ms1) N2 g2 (pc + 3) lv (v.toList ++ st)) : Wq M d sc mc ms Q cells slots N g pc lv st0 := by
  intro l p e R s m args below meth c D cA b base QM C H locs ls hR hS hL
  subst hs0
  obtain ⟨k, rfl⟩ : ∃ k, kc = k + 1 := ⟨kc - 1, by omega⟩
  have hkN : k < N := by omega
  have hg := zW_get (cA := cA) (b := b) (base := base) (g := g) hkN
  rw [hk] at hg
  obtain ⟨⟨hml, hini, hco, hd3, hnl⟩, him, hse⟩ := hl
  have hrm : (zRm d1 mc1 ms1).frames + 1 ≤ R.frames ∧ 8 + (znl M1 + 11) + (zRm d1 mc1 ms1).locals ≤ R.locals := by
    have h36 := (C.2.2.2.2.2.2.2.2.1).1
    have h37 := (C.2.2.2.2.2.2.2.2.1).2.1
    show d1 + 1 ≤ R.frames ∧ 8 + (znl M1 + 11) + 36 * d1 ≤ R.locals
    omega
  have cb := callB_of (own := zown M) (index := idx) (mc := mc1) (ms := ms1) (rm := zRm d1 mc1 ms1) n1 C.2.2.2.2.2.2.1 (zGood hco) rfl rfl rfl (C.2.2.2.2.2.2.1 _ hini) (C.2.2.2.2.2.2.1 _ hml) hd3 hrm
  have hr := va_runV (p := p) (l := l) (e := e) (R := R) (s := s) (m := m) (args := args) (below := below) (meth := meth) (c := c) (H := H) (locs := locs) (cells := cells) (slots := slots) (g := F0 m pc ls ((As.reverse ++ .ref (k + 1) :: st).map (zV b base))) (C := y.cls) (b := base + k) (As := As.map (zV b base)) (rest := st.map (zV b base)) ⟨C.1, C.2.1, C.2.2.1, C.2.2.2.2.2.1, C.2.2.2.2.2.2.1⟩ (hM l D cA b base) ⟨cb, C.2.2.2.2.2.2.1 _ him, C.2.2.2.2.2.2.1 _ hse⟩ ⟨zPc_blind, by rw [← hcy]; exact va_recv C.2.2.2.2.2.2.2.2.2.1 hR.2 hc hg, fun U hU hW => ⟨rfl, by rw [hU]; exact hR, va_K.moved hW.alike C.2.2.2.2.2.2.2.2.2.1, zNest.warm hW C.2.2.2.2.2.2.2.2.2.2.1⟩⟩ rfl (by rw [List.length_map]; exact hn) hL.1 (by simp [List.map_reverse, zV, zA]) (lv_room (by rw [zsum]; exact hst)) hd ⟨Nat.le_trans hcl (C.2.2.2.2.2.2.2.2.1).2.2.1, Nat.le_trans hsl (C.2.2.2.2.2.2.2.2.1).2.2.2⟩
  refine zgo hr hS (fun v N2 g2 H1 locs1 hq hR1 hS1 => ?_)
  rw [zmapopt]
  exact kk v N2 g2 hq l p e R s m args below meth c D cA b base QM C H1 locs1 ls hR1 hS1 hL
theorem q_callS {M : zM} {d : Nat} {sc : zS} {mc ms : Nat} {Q : zQ} {cells slots N : Nat} {g : Nat → zE} {pc : Nat} {lv : List (Option Value)} {st : List Value} {st0 : List Value} {idx d1 mc1 ms1 n1 : Nat} {y : MethodName} {M1 : zM} {Q1 : zQ} {As : List Value} (hM : zC y M1 d1 mc1 ms1 (As) N g Q1) (hl : zLS (zown M) idx y M1 n1) (hd : decode (zcc M) pc = .ok (.invokestatic idx, 3)) (hn : As.length = n1) (hdd : d1 + 1 ≤ d) (hst : (st.map fun v => v.category).sum ≤ 8) (hcl : cells + mc1 ≤ mc) (hsl : slots + ms1 ≤ ms) (hs0 : st0 = As.reverse ++ st) (kk : ∀ (v : Option Value) (N2 : Nat) (g2 : Nat → zE), Q1 v N2 g2 → Wq M d sc mc ms Q (cells + mc1) (slots + ms1) N2 g2 (pc + 3) lv (v.toList ++ st)) : Wq M d sc mc ms Q cells slots N g pc lv st0 := by
  intro l p e R s m args below meth c D cA b base QM C H locs ls hR hS hL
  subst hs0
  obtain ⟨⟨hml, hini, hco, hd3, hnl⟩, hss⟩ := hl
  have hrm : (zRm d1 mc1 ms1).frames + 1 ≤ R.frames ∧ 8 + (znl M1 + 11) + (zRm d1 mc1 ms1).locals ≤ R.locals := by
    have h36 := (C.2.2.2.2.2.2.2.2.1).1
    have h37 := (C.2.2.2.2.2.2.2.2.1).2.1
    show d1 + 1 ≤ R.frames ∧ 8 + (znl M1 + 11) + 36 * d1 ≤ R.locals
    omega
  have cb := callB_of (own := zown M) (index := idx) (mc := mc1) (ms := ms1) (rm := zRm d1 mc1 ms1) n1 C.2.2.2.2.2.2.1 (zGood hco) rfl rfl rfl (C.2.2.2.2.2.2.1 _ hini) (C.2.2.2.2.2.2.1 _ hml) hd3 hrm
  have hr := va_runS (p := p) (l := l) (e := e) (R := R) (s := s) (m := m) (args := args) (below := below) (meth := meth) (c := c) (H := H) (locs := locs) (cells := cells) (slots := slots) (g := F0 m pc ls ((As.reverse ++ st).map (zV b base))) (As := As.map (zV b base)) (rest := st.map (zV b base)) ⟨C.1, C.2.1, C.2.2.1, C.2.2.2.2.2.1, C.2.2.2.2.2.2.1⟩ (hM l D cA b base) ⟨cb, C.2.2.2.2.2.2.1 _ hss⟩ ⟨zPc_blind, fun U hU hW => ⟨rfl, by rw [hU]; exact hR, va_K.moved hW.alike C.2.2.2.2.2.2.2.2.2.1, zNest.warm hW C.2.2.2.2.2.2.2.2.2.2.1⟩⟩ rfl (by rw [List.length_map]; exact hn) hL.1 (by simp [List.map_reverse]) (lv_room (by rw [zsum]; exact hst)) hd ⟨Nat.le_trans hcl (C.2.2.2.2.2.2.2.2.1).2.2.1, Nat.le_trans hsl (C.2.2.2.2.2.2.2.2.1).2.2.2⟩
  refine zgo hr hS (fun v N2 g2 H1 locs1 hq hR1 hS1 => ?_)
  rw [zmapopt]
  exact kk v N2 g2 hq l p e R s m args below meth c D cA b base QM C H1 locs1 ls hR1 hS1 hL
theorem q_callI {M : zM} {d : Nat} {sc : zS} {mc ms : Nat} {Q : zQ} {cells slots N : Nat} {g : Nat → zE} {pc : Nat} {lv : List (Option Value)} {st : List Value} {st0 : List Value} {idx d1 mc1 ms1 n1 : Nat} {y : MethodName} {M1 : zM} {Q1 : zQ} {As : List Value} {kc : Nat} (hM : zC y M1 d1 mc1 ms1 (.ref kc :: As) N g Q1) (hl : zLI (zown M) idx y M1 n1) (hd : decode (zcc M) pc = .ok (.invokespecial idx, 3)) (hn : As.length = n1) (hdd : d1 + 1 ≤ d) (hst : (st.map fun v => v.category).sum ≤ 8) (hcl : cells + mc1 ≤ mc) (hsl : slots + ms1 ≤ ms) (hs0 : st0 = As.reverse ++ .ref kc :: st) (kk : ∀ (v : Option Value) (N2 : Nat) (g2 : Nat → zE), Q1 v N2 g2 → Wq M d sc mc ms Q (cells + mc1) (slots + ms1) N2 g2 (pc + 3) lv (v.toList ++ st)) : Wq M d sc mc ms Q cells slots N g pc lv st0 := by
  intro l p e R s m args below meth c D cA b base QM C H locs ls hR hS hL
  subst hs0
  obtain ⟨⟨hml, hini, hco, hd3, hnl⟩, him, hnm, hrn⟩ := hl
  have hrm : (zRm d1 mc1 ms1).frames + 1 ≤ R.frames ∧ 8 + (znl M1 + 11) + (zRm d1 mc1 ms1).locals ≤ R.locals := by
    have h36 := (C.2.2.2.2.2.2.2.2.1).1
    have h37 := (C.2.2.2.2.2.2.2.2.1).2.1
    show d1 + 1 ≤ R.frames ∧ 8 + (znl M1 + 11) + 36 * d1 ≤ R.locals
    omega
  have cb := callB_of (own := zown M) (index := idx) (mc := mc1) (ms := ms1) (rm := zRm d1 mc1 ms1) n1 C.2.2.2.2.2.2.1 (zGood hco) rfl rfl rfl (C.2.2.2.2.2.2.1 _ hini) (C.2.2.2.2.2.2.1 _ hml) hd3 hrm
  have hr := va_runI (p := p) (l := l) (e := e) (R := R) (s := s) (m := m) (args := args) (below := below) (meth := meth) (c := c) (H := H) (locs := locs) (cells := cells) (slots := slots) (g := F0 m pc ls ((As.reverse ++ .ref kc :: st).map (zV b base))) (b := zA b base kc) (As := As.map (zV b base)) (rest := st.map (zV b base)) ⟨C.1, C.2.1, C.2.2.1, C.2.2.2.2.2.1, C.2.2.2.2.2.2.1⟩ (hM l D cA b base) ⟨by rw [hrn] at cb ⊢; exact cb, hnm, C.2.2.2.2.2.2.1 _ him⟩ ⟨zPc_blind, fun U hU hW => ⟨rfl, by rw [hU]; exact hR, va_K.moved hW.alike C.2.2.2.2.2.2.2.2.2.1, zNest.warm hW C.2.2.2.2.2.2.2.2.2.2.1⟩⟩ rfl (by rw [List.length_map]; exact hn) hL.1 (by simp [List.map_reverse, zV, zA]) (lv_room (by rw [zsum]; exact hst)) hd ⟨Nat.le_trans hcl (C.2.2.2.2.2.2.2.2.1).2.2.1, Nat.le_trans hsl (C.2.2.2.2.2.2.2.2.1).2.2.2⟩
  refine zgo hr hS (fun v N2 g2 H1 locs1 hq hR1 hS1 => ?_)
  rw [zmapopt]
  exact kk v N2 g2 hq l p e R s m args below meth c D cA b base QM C H1 locs1 ls hR1 hS1 hL
theorem q_callN {M : zM} {d : Nat} {sc : zS} {mc ms : Nat} {Q : zQ} {cells slots N : Nat} {g : Nat → zE} {pc : Nat} {lv : List (Option Value)} {st : List Value} {st0 : List Value} {idx d1 mc1 ms1 n1 : Nat} {y : MethodName} {M1 : zM} {Q1 : zQ} {As : List Value} {kc : Nat} (hM : zC y M1 d1 mc1 ms1 (.ref kc :: As) N g Q1) (hl : zLN (zown M) idx y M1 n1) (hd : decode (zcc M) pc = .ok (.invokespecial idx, 3)) (hn : As.length = n1) (hdd : d1 + 1 ≤ d) (hst : (st.map fun v => v.category).sum ≤ 8) (hcl : cells + mc1 ≤ mc) (hsl : slots + ms1 ≤ ms) (hs0 : st0 = As.reverse ++ .ref kc :: st) (kk : ∀ (v : Option Value) (N2 : Nat) (g2 : Nat → zE), Q1 v N2 g2 → Wq M d sc mc ms Q (cells + mc1) (slots + ms1) N2 g2 (pc + 3) lv (v.toList ++ st)) : Wq M d sc mc ms Q cells slots N g pc lv st0 := by
  intro l p e R s m args below meth c D cA b base QM C H locs ls hR hS hL
  subst hs0
  obtain ⟨⟨hN1, hini, hco, hd3, hnl⟩, him, hnm, hrn⟩ := hl
  have hrm : (zRm d1 mc1 ms1).frames + 1 ≤ R.frames ∧ 8 + (znl M1 + 11) + (zRm d1 mc1 ms1).locals ≤ R.locals := by
    have h36 := (C.2.2.2.2.2.2.2.2.1).1
    have h37 := (C.2.2.2.2.2.2.2.2.1).2.1
    show d1 + 1 ≤ R.frames ∧ 8 + (znl M1 + 11) + 36 * d1 ≤ R.locals
    omega
  have cb := va_cnB (args := args) (host := "TextSolver") (index := idx) (own := zown M) (mc := mc1) (ms := ms1) (rm := zRm d1 mc1 ms1) n1 C.2.2.2.2.2.2.1 (zGood hco) rfl rfl rfl (C.2.2.2.2.2.2.2.2.2.2.1.1 _ hN1) (C.2.2.2.2.2.2.1 _ hini) hd3 hrm
  have hr := va_runIN (p := p) (l := l) (e := e) (R := R) (s := s) (m := m) (args := args) (below := below) (meth := meth) (c := c) (H := H) (locs := locs) (cells := cells) (slots := slots) (g := F0 m pc ls ((As.reverse ++ .ref kc :: st).map (zV b base))) (b := zA b base kc) (As := As.map (zV b base)) (rest := st.map (zV b base)) ⟨C.1, C.2.1, C.2.2.1, C.2.2.2.2.2.1, C.2.2.2.2.2.2.1⟩ (hM l D cA b base) ⟨by rw [hrn] at cb ⊢; exact cb, hnm, C.2.2.2.2.2.2.1 _ him⟩ ⟨zPc_blind, fun U hU hW => ⟨rfl, by rw [hU]; exact hR, va_K.moved hW.alike C.2.2.2.2.2.2.2.2.2.1, zNest.warm hW C.2.2.2.2.2.2.2.2.2.2.1⟩⟩ rfl (by rw [List.length_map]; exact hn) hL.1 (by simp [List.map_reverse, zV, zA]) (lv_room (by rw [zsum]; exact hst)) hd ⟨Nat.le_trans hcl (C.2.2.2.2.2.2.2.2.1).2.2.1, Nat.le_trans hsl (C.2.2.2.2.2.2.2.2.1).2.2.2⟩
  refine zgo hr hS (fun v N2 g2 H1 locs1 hq hR1 hS1 => ?_)
  rw [zmapopt]
  exact kk v N2 g2 hq l p e R s m args below meth c D cA b base QM C H1 locs1 ls hR1 hS1 hL
end
